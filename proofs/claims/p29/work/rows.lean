section
-- ===== PART A: goes FIRST, ahead of the names: the tables' words, and 'selects' of the private methods out of them =====
/-- a private method of a class that the tables say can be made, by its rows of tables_1 -/
def lw_okq (q : MethodName × Nat) : Prop := (q.1.cls ≠ "java/lang/invoke/MethodHandle" ∧ q.1.cls ≠ "java/lang/invoke/VarHandle") ∧ Cond.instantiable q.1.cls q.2 ∈ tables_1 ∧ Cond.privateMethod q.1 ∈ tables_1 ∧ Cond.instanceMethod q.1 ∈ tables_1
theorem lw_p0 : lw_okq (⟨"java/lang/Throwable", "fillInStackTrace", "(I)Ljava/lang/Throwable;"⟩, 6) := ⟨⟨by decide +kernel, by decide +kernel⟩, List.mem_of_getElem? (i := 301) (by decide +kernel), List.mem_of_getElem? (i := 299) (by decide +kernel), List.mem_of_getElem? (i := 300) (by decide +kernel)⟩
theorem lw_p1 : lw_okq (⟨"PlayPool$Rights", "claimsOf", "(I)I"⟩, 1) := ⟨⟨by decide +kernel, by decide +kernel⟩, List.mem_of_getElem? (i := 62) (by decide +kernel), List.mem_of_getElem? (i := 351) (by decide +kernel), List.mem_of_getElem? (i := 352) (by decide +kernel)⟩
theorem lw_p2 : lw_okq (⟨"PlayPool", "needListener", "(I)V"⟩, 11) := ⟨⟨by decide +kernel, by decide +kernel⟩, List.mem_of_getElem? (i := 18) (by decide +kernel), List.mem_of_getElem? (i := 362) (by decide +kernel), List.mem_of_getElem? (i := 363) (by decide +kernel)⟩
theorem lw_p3 : lw_okq (⟨"PlayPool", "judgePlays", "()V"⟩, 11) := ⟨⟨by decide +kernel, by decide +kernel⟩, List.mem_of_getElem? (i := 18) (by decide +kernel), List.mem_of_getElem? (i := 367) (by decide +kernel), List.mem_of_getElem? (i := 368) (by decide +kernel)⟩
theorem lw_p4 : lw_okq (⟨"PlayPool$Counts", "clear", "()V"⟩, 3) := ⟨⟨by decide +kernel, by decide +kernel⟩, List.mem_of_getElem? (i := 149) (by decide +kernel), List.mem_of_getElem? (i := 371) (by decide +kernel), List.mem_of_getElem? (i := 372) (by decide +kernel)⟩
theorem lw_p5 : lw_okq (⟨"PlayPool", "isClosed", "(I)Z"⟩, 11) := ⟨⟨by decide +kernel, by decide +kernel⟩, List.mem_of_getElem? (i := 18) (by decide +kernel), List.mem_of_getElem? (i := 381) (by decide +kernel), List.mem_of_getElem? (i := 382) (by decide +kernel)⟩
theorem lw_p6 : lw_okq (⟨"PlayPool$Counts", "startDay", "()V"⟩, 3) := ⟨⟨by decide +kernel, by decide +kernel⟩, List.mem_of_getElem? (i := 149) (by decide +kernel), List.mem_of_getElem? (i := 391) (by decide +kernel), List.mem_of_getElem? (i := 392) (by decide +kernel)⟩
theorem lw_p7 : lw_okq (⟨"PlayPool", "judged", "(I)I"⟩, 11) := ⟨⟨by decide +kernel, by decide +kernel⟩, List.mem_of_getElem? (i := 18) (by decide +kernel), List.mem_of_getElem? (i := 395) (by decide +kernel), List.mem_of_getElem? (i := 396) (by decide +kernel)⟩
theorem lw_p8 : lw_okq (⟨"PlayPool$Catalogue", "isAllowed", "(III)Z"⟩, 8) := ⟨⟨by decide +kernel, by decide +kernel⟩, List.mem_of_getElem? (i := 26) (by decide +kernel), List.mem_of_getElem? (i := 399) (by decide +kernel), List.mem_of_getElem? (i := 400) (by decide +kernel)⟩
theorem lw_p9 : lw_okq (⟨"PlayPool$Catalogue", "isDownIn", "(II)Z"⟩, 8) := ⟨⟨by decide +kernel, by decide +kernel⟩, List.mem_of_getElem? (i := 26) (by decide +kernel), List.mem_of_getElem? (i := 403) (by decide +kernel), List.mem_of_getElem? (i := 404) (by decide +kernel)⟩
theorem lw_p10 : lw_okq (⟨"PlayPool$Catalogue", "isDown", "(I)Z"⟩, 8) := ⟨⟨by decide +kernel, by decide +kernel⟩, List.mem_of_getElem? (i := 26) (by decide +kernel), List.mem_of_getElem? (i := 407) (by decide +kernel), List.mem_of_getElem? (i := 408) (by decide +kernel)⟩
theorem lw_p11 : lw_okq (⟨"PlayPool$Counts", "add", "(IIZ)V"⟩, 3) := ⟨⟨by decide +kernel, by decide +kernel⟩, List.mem_of_getElem? (i := 149) (by decide +kernel), List.mem_of_getElem? (i := 411) (by decide +kernel), List.mem_of_getElem? (i := 412) (by decide +kernel)⟩
theorem lw_p12 : lw_okq (⟨"PlayPool", "closeMonth", "()I"⟩, 11) := ⟨⟨by decide +kernel, by decide +kernel⟩, List.mem_of_getElem? (i := 18) (by decide +kernel), List.mem_of_getElem? (i := 437) (by decide +kernel), List.mem_of_getElem? (i := 438) (by decide +kernel)⟩
theorem lw_p13 : lw_okq (⟨"PlayPool$Books", "close", "(ILPlayPool$Audience;LPlayPool$Counts;LPlayPool$Rights;)V"⟩, 12) := ⟨⟨by decide +kernel, by decide +kernel⟩, List.mem_of_getElem? (i := 170) (by decide +kernel), List.mem_of_getElem? (i := 442) (by decide +kernel), List.mem_of_getElem? (i := 443) (by decide +kernel)⟩
theorem lw_p14 : lw_okq (⟨"PlayPool$Books", "takeHouseParts", "(LPlayPool$Audience;)V"⟩, 12) := ⟨⟨by decide +kernel, by decide +kernel⟩, List.mem_of_getElem? (i := 170) (by decide +kernel), List.mem_of_getElem? (i := 447) (by decide +kernel), List.mem_of_getElem? (i := 448) (by decide +kernel)⟩
theorem lw_p15 : lw_okq (⟨"PlayPool$Audience", "feeOf", "(I)I"⟩, 7) := ⟨⟨by decide +kernel, by decide +kernel⟩, List.mem_of_getElem? (i := 76) (by decide +kernel), List.mem_of_getElem? (i := 451) (by decide +kernel), List.mem_of_getElem? (i := 452) (by decide +kernel)⟩
def lw_privs_1 : List (MethodName × Nat) := [(⟨"java/lang/Throwable", "fillInStackTrace", "(I)Ljava/lang/Throwable;"⟩, 6), (⟨"PlayPool$Rights", "claimsOf", "(I)I"⟩, 1), (⟨"PlayPool", "needListener", "(I)V"⟩, 11), (⟨"PlayPool", "judgePlays", "()V"⟩, 11), (⟨"PlayPool$Counts", "clear", "()V"⟩, 3), (⟨"PlayPool", "isClosed", "(I)Z"⟩, 11), (⟨"PlayPool$Counts", "startDay", "()V"⟩, 3), (⟨"PlayPool", "judged", "(I)I"⟩, 11), (⟨"PlayPool$Catalogue", "isAllowed", "(III)Z"⟩, 8), (⟨"PlayPool$Catalogue", "isDownIn", "(II)Z"⟩, 8), (⟨"PlayPool$Catalogue", "isDown", "(I)Z"⟩, 8), (⟨"PlayPool$Counts", "add", "(IIZ)V"⟩, 3), (⟨"PlayPool", "closeMonth", "()I"⟩, 11), (⟨"PlayPool$Books", "close", "(ILPlayPool$Audience;LPlayPool$Counts;LPlayPool$Rights;)V"⟩, 12), (⟨"PlayPool$Books", "takeHouseParts", "(LPlayPool$Audience;)V"⟩, 12), (⟨"PlayPool$Audience", "feeOf", "(I)I"⟩, 7)]
theorem lw_r1 : ∀ q ∈ lw_privs_1, lw_okq q := List.forall_mem_cons.mpr ⟨lw_p0, List.forall_mem_cons.mpr ⟨lw_p1, List.forall_mem_cons.mpr ⟨lw_p2, List.forall_mem_cons.mpr ⟨lw_p3, List.forall_mem_cons.mpr ⟨lw_p4, List.forall_mem_cons.mpr ⟨lw_p5, List.forall_mem_cons.mpr ⟨lw_p6, List.forall_mem_cons.mpr ⟨lw_p7, List.forall_mem_cons.mpr ⟨lw_p8, List.forall_mem_cons.mpr ⟨lw_p9, List.forall_mem_cons.mpr ⟨lw_p10, List.forall_mem_cons.mpr ⟨lw_p11, List.forall_mem_cons.mpr ⟨lw_p12, List.forall_mem_cons.mpr ⟨lw_p13, List.forall_mem_cons.mpr ⟨lw_p14, List.forall_mem_cons.mpr ⟨lw_p15, fun _ h => absurd h List.not_mem_nil⟩⟩⟩⟩⟩⟩⟩⟩⟩⟩⟩⟩⟩⟩⟩⟩
theorem lw_p16 : lw_okq (⟨"PlayPool$Audience", "poolPartOf", "(I)I"⟩, 7) := ⟨⟨by decide +kernel, by decide +kernel⟩, List.mem_of_getElem? (i := 76) (by decide +kernel), List.mem_of_getElem? (i := 455) (by decide +kernel), List.mem_of_getElem? (i := 456) (by decide +kernel)⟩
theorem lw_p17 : lw_okq (⟨"PlayPool$Books", "weighLand", "(ILPlayPool$Audience;LPlayPool$Counts;)V"⟩, 12) := ⟨⟨by decide +kernel, by decide +kernel⟩, List.mem_of_getElem? (i := 170) (by decide +kernel), List.mem_of_getElem? (i := 460) (by decide +kernel), List.mem_of_getElem? (i := 461) (by decide +kernel)⟩
theorem lw_p18 : lw_okq (⟨"PlayPool$Books", "poolOf", "(ILPlayPool$Audience;)I"⟩, 12) := ⟨⟨by decide +kernel, by decide +kernel⟩, List.mem_of_getElem? (i := 170) (by decide +kernel), List.mem_of_getElem? (i := 467) (by decide +kernel), List.mem_of_getElem? (i := 468) (by decide +kernel)⟩
theorem lw_p19 : lw_okq (⟨"PlayPool$Books", "split", "(I[I)I"⟩, 12) := ⟨⟨by decide +kernel, by decide +kernel⟩, List.mem_of_getElem? (i := 170) (by decide +kernel), List.mem_of_getElem? (i := 471) (by decide +kernel), List.mem_of_getElem? (i := 472) (by decide +kernel)⟩
theorem lw_p20 : lw_okq (⟨"PlayPool$Books", "splitByListener", "(ILPlayPool$Audience;LPlayPool$Counts;)V"⟩, 12) := ⟨⟨by decide +kernel, by decide +kernel⟩, List.mem_of_getElem? (i := 170) (by decide +kernel), List.mem_of_getElem? (i := 479) (by decide +kernel), List.mem_of_getElem? (i := 480) (by decide +kernel)⟩
theorem lw_p21 : lw_okq (⟨"PlayPool$Books", "share", "(ILPlayPool$Rights;)V"⟩, 12) := ⟨⟨by decide +kernel, by decide +kernel⟩, List.mem_of_getElem? (i := 170) (by decide +kernel), List.mem_of_getElem? (i := 483) (by decide +kernel), List.mem_of_getElem? (i := 484) (by decide +kernel)⟩
theorem lw_p22 : lw_okq (⟨"PlayPool$Rights", "isInConflict", "(I)Z"⟩, 1) := ⟨⟨by decide +kernel, by decide +kernel⟩, List.mem_of_getElem? (i := 62) (by decide +kernel), List.mem_of_getElem? (i := 487) (by decide +kernel), List.mem_of_getElem? (i := 488) (by decide +kernel)⟩
theorem lw_p23 : lw_okq (⟨"PlayPool$Books", "recoup", "(I)V"⟩, 12) := ⟨⟨by decide +kernel, by decide +kernel⟩, List.mem_of_getElem? (i := 170) (by decide +kernel), List.mem_of_getElem? (i := 492) (by decide +kernel), List.mem_of_getElem? (i := 493) (by decide +kernel)⟩
theorem lw_p24 : lw_okq (⟨"PlayPool$Books", "payOut", "(I)V"⟩, 12) := ⟨⟨by decide +kernel, by decide +kernel⟩, List.mem_of_getElem? (i := 170) (by decide +kernel), List.mem_of_getElem? (i := 499) (by decide +kernel), List.mem_of_getElem? (i := 500) (by decide +kernel)⟩
theorem lw_p25 : lw_okq (⟨"PlayPool$Audience", "takeFees", "()V"⟩, 7) := ⟨⟨by decide +kernel, by decide +kernel⟩, List.mem_of_getElem? (i := 76) (by decide +kernel), List.mem_of_getElem? (i := 503) (by decide +kernel), List.mem_of_getElem? (i := 504) (by decide +kernel)⟩
theorem lw_p26 : lw_okq (⟨"PlayPool$PlayLog", "playsOfListener", "(I)I"⟩, 7) := ⟨⟨by decide +kernel, by decide +kernel⟩, List.mem_of_getElem? (i := 114) (by decide +kernel), List.mem_of_getElem? (i := 511) (by decide +kernel), List.mem_of_getElem? (i := 512) (by decide +kernel)⟩
theorem lw_p27 : lw_okq (⟨"PlayPool$PlayLog", "countWithReason", "(I)I"⟩, 7) := ⟨⟨by decide +kernel, by decide +kernel⟩, List.mem_of_getElem? (i := 114) (by decide +kernel), List.mem_of_getElem? (i := 520) (by decide +kernel), List.mem_of_getElem? (i := 521) (by decide +kernel)⟩
theorem lw_p28 : lw_okq (⟨"PlayPool", "tryClosing", "(I)V"⟩, 11) := ⟨⟨by decide +kernel, by decide +kernel⟩, List.mem_of_getElem? (i := 18) (by decide +kernel), List.mem_of_getElem? (i := 532) (by decide +kernel), List.mem_of_getElem? (i := 533) (by decide +kernel)⟩
theorem lw_p29 : lw_okq (⟨"PlayPool", "trialBy", "(I)LPlayPool$Books;"⟩, 11) := ⟨⟨by decide +kernel, by decide +kernel⟩, List.mem_of_getElem? (i := 18) (by decide +kernel), List.mem_of_getElem? (i := 536) (by decide +kernel), List.mem_of_getElem? (i := 537) (by decide +kernel)⟩
theorem lw_p30 : lw_okq (⟨"PlayPool$Books", "takeOver", "(LPlayPool$Books;)V"⟩, 12) := ⟨⟨by decide +kernel, by decide +kernel⟩, List.mem_of_getElem? (i := 170) (by decide +kernel), List.mem_of_getElem? (i := 540) (by decide +kernel), List.mem_of_getElem? (i := 541) (by decide +kernel)⟩
theorem lw_p31 : lw_okq (⟨"PlayPool", "gotInTrial", "(II)I"⟩, 11) := ⟨⟨by decide +kernel, by decide +kernel⟩, List.mem_of_getElem? (i := 18) (by decide +kernel), List.mem_of_getElem? (i := 551) (by decide +kernel), List.mem_of_getElem? (i := 552) (by decide +kernel)⟩
def lw_privs_2 : List (MethodName × Nat) := [(⟨"PlayPool$Audience", "poolPartOf", "(I)I"⟩, 7), (⟨"PlayPool$Books", "weighLand", "(ILPlayPool$Audience;LPlayPool$Counts;)V"⟩, 12), (⟨"PlayPool$Books", "poolOf", "(ILPlayPool$Audience;)I"⟩, 12), (⟨"PlayPool$Books", "split", "(I[I)I"⟩, 12), (⟨"PlayPool$Books", "splitByListener", "(ILPlayPool$Audience;LPlayPool$Counts;)V"⟩, 12), (⟨"PlayPool$Books", "share", "(ILPlayPool$Rights;)V"⟩, 12), (⟨"PlayPool$Rights", "isInConflict", "(I)Z"⟩, 1), (⟨"PlayPool$Books", "recoup", "(I)V"⟩, 12), (⟨"PlayPool$Books", "payOut", "(I)V"⟩, 12), (⟨"PlayPool$Audience", "takeFees", "()V"⟩, 7), (⟨"PlayPool$PlayLog", "playsOfListener", "(I)I"⟩, 7), (⟨"PlayPool$PlayLog", "countWithReason", "(I)I"⟩, 7), (⟨"PlayPool", "tryClosing", "(I)V"⟩, 11), (⟨"PlayPool", "trialBy", "(I)LPlayPool$Books;"⟩, 11), (⟨"PlayPool$Books", "takeOver", "(LPlayPool$Books;)V"⟩, 12), (⟨"PlayPool", "gotInTrial", "(II)I"⟩, 11)]
theorem lw_r2 : ∀ q ∈ lw_privs_2, lw_okq q := List.forall_mem_cons.mpr ⟨lw_p16, List.forall_mem_cons.mpr ⟨lw_p17, List.forall_mem_cons.mpr ⟨lw_p18, List.forall_mem_cons.mpr ⟨lw_p19, List.forall_mem_cons.mpr ⟨lw_p20, List.forall_mem_cons.mpr ⟨lw_p21, List.forall_mem_cons.mpr ⟨lw_p22, List.forall_mem_cons.mpr ⟨lw_p23, List.forall_mem_cons.mpr ⟨lw_p24, List.forall_mem_cons.mpr ⟨lw_p25, List.forall_mem_cons.mpr ⟨lw_p26, List.forall_mem_cons.mpr ⟨lw_p27, List.forall_mem_cons.mpr ⟨lw_p28, List.forall_mem_cons.mpr ⟨lw_p29, List.forall_mem_cons.mpr ⟨lw_p30, List.forall_mem_cons.mpr ⟨lw_p31, fun _ h => absurd h List.not_mem_nil⟩⟩⟩⟩⟩⟩⟩⟩⟩⟩⟩⟩⟩⟩⟩⟩
theorem lw_p32 : lw_okq (⟨"PlayPool", "paidInTrial", "(II)I"⟩, 11) := ⟨⟨by decide +kernel, by decide +kernel⟩, List.mem_of_getElem? (i := 18) (by decide +kernel), List.mem_of_getElem? (i := 559) (by decide +kernel), List.mem_of_getElem? (i := 560) (by decide +kernel)⟩
theorem lw_p33 : lw_okq (⟨"PlayPool", "digestOfTotals", "(J)J"⟩, 11) := ⟨⟨by decide +kernel, by decide +kernel⟩, List.mem_of_getElem? (i := 18) (by decide +kernel), List.mem_of_getElem? (i := 568) (by decide +kernel), List.mem_of_getElem? (i := 569) (by decide +kernel)⟩
theorem lw_p34 : lw_okq (⟨"PlayPool", "digestOfTracks", "(J)J"⟩, 11) := ⟨⟨by decide +kernel, by decide +kernel⟩, List.mem_of_getElem? (i := 18) (by decide +kernel), List.mem_of_getElem? (i := 577) (by decide +kernel), List.mem_of_getElem? (i := 578) (by decide +kernel)⟩
theorem lw_p35 : lw_okq (⟨"PlayPool", "needTrack", "(I)V"⟩, 11) := ⟨⟨by decide +kernel, by decide +kernel⟩, List.mem_of_getElem? (i := 18) (by decide +kernel), List.mem_of_getElem? (i := 585) (by decide +kernel), List.mem_of_getElem? (i := 586) (by decide +kernel)⟩
theorem lw_p36 : lw_okq (⟨"PlayPool$Catalogue", "landsAllowing", "(II)I"⟩, 8) := ⟨⟨by decide +kernel, by decide +kernel⟩, List.mem_of_getElem? (i := 26) (by decide +kernel), List.mem_of_getElem? (i := 590) (by decide +kernel), List.mem_of_getElem? (i := 591) (by decide +kernel)⟩
theorem lw_p37 : lw_okq (⟨"PlayPool$PlayLog", "countedOfTrack", "(I)I"⟩, 7) := ⟨⟨by decide +kernel, by decide +kernel⟩, List.mem_of_getElem? (i := 114) (by decide +kernel), List.mem_of_getElem? (i := 595) (by decide +kernel), List.mem_of_getElem? (i := 596) (by decide +kernel)⟩
theorem lw_p38 : lw_okq (⟨"PlayPool", "digestOfListeners", "(J)J"⟩, 11) := ⟨⟨by decide +kernel, by decide +kernel⟩, List.mem_of_getElem? (i := 18) (by decide +kernel), List.mem_of_getElem? (i := 599) (by decide +kernel), List.mem_of_getElem? (i := 600) (by decide +kernel)⟩
theorem lw_p39 : lw_okq (⟨"PlayPool", "suggestion", "(I)I"⟩, 11) := ⟨⟨by decide +kernel, by decide +kernel⟩, List.mem_of_getElem? (i := 18) (by decide +kernel), List.mem_of_getElem? (i := 604) (by decide +kernel), List.mem_of_getElem? (i := 605) (by decide +kernel)⟩
theorem lw_p40 : lw_okq (⟨"PlayPool", "isNewAndHearable", "(II)Z"⟩, 11) := ⟨⟨by decide +kernel, by decide +kernel⟩, List.mem_of_getElem? (i := 18) (by decide +kernel), List.mem_of_getElem? (i := 608) (by decide +kernel), List.mem_of_getElem? (i := 609) (by decide +kernel)⟩
theorem lw_p41 : lw_okq (⟨"PlayPool$Catalogue", "isHearable", "(III)Z"⟩, 8) := ⟨⟨by decide +kernel, by decide +kernel⟩, List.mem_of_getElem? (i := 26) (by decide +kernel), List.mem_of_getElem? (i := 612) (by decide +kernel), List.mem_of_getElem? (i := 613) (by decide +kernel)⟩
theorem lw_p42 : lw_okq (⟨"PlayPool", "alikeToHeard", "(II)I"⟩, 11) := ⟨⟨by decide +kernel, by decide +kernel⟩, List.mem_of_getElem? (i := 18) (by decide +kernel), List.mem_of_getElem? (i := 616) (by decide +kernel), List.mem_of_getElem? (i := 617) (by decide +kernel)⟩
theorem lw_p43 : lw_okq (⟨"PlayPool$Counts", "hearersOfBoth", "(II)I"⟩, 3) := ⟨⟨by decide +kernel, by decide +kernel⟩, List.mem_of_getElem? (i := 149) (by decide +kernel), List.mem_of_getElem? (i := 620) (by decide +kernel), List.mem_of_getElem? (i := 621) (by decide +kernel)⟩
theorem lw_p44 : lw_okq (⟨"PlayPool", "digestOfParties", "(J)J"⟩, 11) := ⟨⟨by decide +kernel, by decide +kernel⟩, List.mem_of_getElem? (i := 18) (by decide +kernel), List.mem_of_getElem? (i := 627) (by decide +kernel), List.mem_of_getElem? (i := 628) (by decide +kernel)⟩
theorem lw_p45 : lw_okq (⟨"PlayPool", "digestOfRecordings", "(J)J"⟩, 11) := ⟨⟨by decide +kernel, by decide +kernel⟩, List.mem_of_getElem? (i := 18) (by decide +kernel), List.mem_of_getElem? (i := 635) (by decide +kernel), List.mem_of_getElem? (i := 636) (by decide +kernel)⟩
theorem lw_p46 : lw_okq (⟨"PlayPool$Catalogue", "tracksOf", "(I)I"⟩, 8) := ⟨⟨by decide +kernel, by decide +kernel⟩, List.mem_of_getElem? (i := 26) (by decide +kernel), List.mem_of_getElem? (i := 644) (by decide +kernel), List.mem_of_getElem? (i := 645) (by decide +kernel)⟩
theorem lw_p47 : lw_okq (⟨"PlayPool", "digestOfCharts", "(J)J"⟩, 11) := ⟨⟨by decide +kernel, by decide +kernel⟩, List.mem_of_getElem? (i := 18) (by decide +kernel), List.mem_of_getElem? (i := 648) (by decide +kernel), List.mem_of_getElem? (i := 649) (by decide +kernel)⟩
def lw_privs_3 : List (MethodName × Nat) := [(⟨"PlayPool", "paidInTrial", "(II)I"⟩, 11), (⟨"PlayPool", "digestOfTotals", "(J)J"⟩, 11), (⟨"PlayPool", "digestOfTracks", "(J)J"⟩, 11), (⟨"PlayPool", "needTrack", "(I)V"⟩, 11), (⟨"PlayPool$Catalogue", "landsAllowing", "(II)I"⟩, 8), (⟨"PlayPool$PlayLog", "countedOfTrack", "(I)I"⟩, 7), (⟨"PlayPool", "digestOfListeners", "(J)J"⟩, 11), (⟨"PlayPool", "suggestion", "(I)I"⟩, 11), (⟨"PlayPool", "isNewAndHearable", "(II)Z"⟩, 11), (⟨"PlayPool$Catalogue", "isHearable", "(III)Z"⟩, 8), (⟨"PlayPool", "alikeToHeard", "(II)I"⟩, 11), (⟨"PlayPool$Counts", "hearersOfBoth", "(II)I"⟩, 3), (⟨"PlayPool", "digestOfParties", "(J)J"⟩, 11), (⟨"PlayPool", "digestOfRecordings", "(J)J"⟩, 11), (⟨"PlayPool$Catalogue", "tracksOf", "(I)I"⟩, 8), (⟨"PlayPool", "digestOfCharts", "(J)J"⟩, 11)]
theorem lw_r3 : ∀ q ∈ lw_privs_3, lw_okq q := List.forall_mem_cons.mpr ⟨lw_p32, List.forall_mem_cons.mpr ⟨lw_p33, List.forall_mem_cons.mpr ⟨lw_p34, List.forall_mem_cons.mpr ⟨lw_p35, List.forall_mem_cons.mpr ⟨lw_p36, List.forall_mem_cons.mpr ⟨lw_p37, List.forall_mem_cons.mpr ⟨lw_p38, List.forall_mem_cons.mpr ⟨lw_p39, List.forall_mem_cons.mpr ⟨lw_p40, List.forall_mem_cons.mpr ⟨lw_p41, List.forall_mem_cons.mpr ⟨lw_p42, List.forall_mem_cons.mpr ⟨lw_p43, List.forall_mem_cons.mpr ⟨lw_p44, List.forall_mem_cons.mpr ⟨lw_p45, List.forall_mem_cons.mpr ⟨lw_p46, List.forall_mem_cons.mpr ⟨lw_p47, fun _ h => absurd h List.not_mem_nil⟩⟩⟩⟩⟩⟩⟩⟩⟩⟩⟩⟩⟩⟩⟩⟩
theorem lw_p48 : lw_okq (⟨"PlayPool", "charted", "(II)I"⟩, 11) := ⟨⟨by decide +kernel, by decide +kernel⟩, List.mem_of_getElem? (i := 18) (by decide +kernel), List.mem_of_getElem? (i := 652) (by decide +kernel), List.mem_of_getElem? (i := 653) (by decide +kernel)⟩
theorem lw_p49 : lw_okq (⟨"PlayPool", "countPoints", "(I)V"⟩, 11) := ⟨⟨by decide +kernel, by decide +kernel⟩, List.mem_of_getElem? (i := 18) (by decide +kernel), List.mem_of_getElem? (i := 656) (by decide +kernel), List.mem_of_getElem? (i := 657) (by decide +kernel)⟩
theorem lw_p50 : lw_okq (⟨"PlayPool", "digestOfPlays", "(J)J"⟩, 11) := ⟨⟨by decide +kernel, by decide +kernel⟩, List.mem_of_getElem? (i := 18) (by decide +kernel), List.mem_of_getElem? (i := 662) (by decide +kernel), List.mem_of_getElem? (i := 663) (by decide +kernel)⟩
theorem lw_p51 : lw_okq (⟨"PlayPool$Catalogue", "addTrack", "(I)I"⟩, 8) := ⟨⟨by decide +kernel, by decide +kernel⟩, List.mem_of_getElem? (i := 26) (by decide +kernel), List.mem_of_getElem? (i := 682) (by decide +kernel), List.mem_of_getElem? (i := 683) (by decide +kernel)⟩
theorem lw_p52 : lw_okq (⟨"PlayPool$Catalogue", "addWindow", "(IIII)V"⟩, 8) := ⟨⟨by decide +kernel, by decide +kernel⟩, List.mem_of_getElem? (i := 26) (by decide +kernel), List.mem_of_getElem? (i := 698) (by decide +kernel), List.mem_of_getElem? (i := 699) (by decide +kernel)⟩
theorem lw_p53 : lw_okq (⟨"PlayPool$Audience", "add", "(II)I"⟩, 7) := ⟨⟨by decide +kernel, by decide +kernel⟩, List.mem_of_getElem? (i := 76) (by decide +kernel), List.mem_of_getElem? (i := 711) (by decide +kernel), List.mem_of_getElem? (i := 712) (by decide +kernel)⟩
theorem lw_p54 : lw_okq (⟨"PlayPool$Audience", "hasKept", "(II)Z"⟩, 7) := ⟨⟨by decide +kernel, by decide +kernel⟩, List.mem_of_getElem? (i := 76) (by decide +kernel), List.mem_of_getElem? (i := 726) (by decide +kernel), List.mem_of_getElem? (i := 727) (by decide +kernel)⟩
theorem lw_p55 : lw_okq (⟨"PlayPool$PlayLog", "add", "(IIII)I"⟩, 7) := ⟨⟨by decide +kernel, by decide +kernel⟩, List.mem_of_getElem? (i := 114) (by decide +kernel), List.mem_of_getElem? (i := 732) (by decide +kernel), List.mem_of_getElem? (i := 733) (by decide +kernel)⟩
theorem lw_p56 : lw_okq (⟨"PlayPool$PlayLog", "putInOrder", "(I)V"⟩, 7) := ⟨⟨by decide +kernel, by decide +kernel⟩, List.mem_of_getElem? (i := 114) (by decide +kernel), List.mem_of_getElem? (i := 736) (by decide +kernel), List.mem_of_getElem? (i := 737) (by decide +kernel)⟩
def lw_privs_4 : List (MethodName × Nat) := [(⟨"PlayPool", "charted", "(II)I"⟩, 11), (⟨"PlayPool", "countPoints", "(I)V"⟩, 11), (⟨"PlayPool", "digestOfPlays", "(J)J"⟩, 11), (⟨"PlayPool$Catalogue", "addTrack", "(I)I"⟩, 8), (⟨"PlayPool$Catalogue", "addWindow", "(IIII)V"⟩, 8), (⟨"PlayPool$Audience", "add", "(II)I"⟩, 7), (⟨"PlayPool$Audience", "hasKept", "(II)Z"⟩, 7), (⟨"PlayPool$PlayLog", "add", "(IIII)I"⟩, 7), (⟨"PlayPool$PlayLog", "putInOrder", "(I)V"⟩, 7)]
theorem lw_r4 : ∀ q ∈ lw_privs_4, lw_okq q := List.forall_mem_cons.mpr ⟨lw_p48, List.forall_mem_cons.mpr ⟨lw_p49, List.forall_mem_cons.mpr ⟨lw_p50, List.forall_mem_cons.mpr ⟨lw_p51, List.forall_mem_cons.mpr ⟨lw_p52, List.forall_mem_cons.mpr ⟨lw_p53, List.forall_mem_cons.mpr ⟨lw_p54, List.forall_mem_cons.mpr ⟨lw_p55, List.forall_mem_cons.mpr ⟨lw_p56, fun _ h => absurd h List.not_mem_nil⟩⟩⟩⟩⟩⟩⟩⟩⟩
def lw_privs : List (MethodName × Nat) := lw_privs_1 ++ (lw_privs_2 ++ (lw_privs_3 ++ (lw_privs_4)))
def lw_tbl : List Cond := k2_sels lw_privs ++ tables_1
theorem lw_privs_ok : ∀ q ∈ lw_privs, lw_okq q := by
  show ∀ q ∈ lw_privs_1 ++ (lw_privs_2 ++ (lw_privs_3 ++ (lw_privs_4))), lw_okq q
  exact List.forall_mem_append.mpr ⟨lw_r1, List.forall_mem_append.mpr ⟨lw_r2, List.forall_mem_append.mpr ⟨lw_r3, lw_r4⟩⟩⟩
def RX0 : String := "PlayPool$Audience"
def TX0 : u_T := fun k => match k with
  | 0 => ("PlayPool$Audience", "count", "I", false)
  | 1 => ("PlayPool$Audience", "landOf", "[I", true)
  | 2 => ("PlayPool$Audience", "planOf", "[I", true)
  | 3 => ("PlayPool$Audience", "flagged", "[Z", true)
  | 4 => ("PlayPool$Audience", "paidEver", "[I", true)
  | 5 => ("PlayPool$Audience", "keptCount", "[I", true)
  | _ => ("PlayPool$Audience", "kept", "[[I", true)
def tyX0 : Nat → FieldType := fun k => match k with
  | 0 => .int
  | 1 => .array .int
  | 2 => .array .int
  | 3 => .array .boolean
  | 4 => .array .int
  | 5 => .array .int
  | _ => .array (.array .int)
theorem nmX0 : ∀ a, a < 7 → ∀ b, b < 7 → a ≠ b → (TX0 a).2.1 ≠ (TX0 b).2.1 := by decide +kernel
theorem tyX0_ok : ∀ k, k < 7 → parseFieldDescriptor (TX0 k).2.2.1 = some (tyX0 k) := by decide +kernel
abbrev cX0_init : ByteArray := prog_2_method_1_code
def yX0_init : MethodName := ⟨RX0, "<init>", "()V"⟩
abbrev cX0_add : ByteArray := prog_2_method_2_code
def yX0_add : MethodName := ⟨RX0, "add", "(II)I"⟩
abbrev cX0_hasKept : ByteArray := prog_2_method_3_code
def yX0_hasKept : MethodName := ⟨RX0, "hasKept", "(II)Z"⟩
abbrev cX0_feeOf : ByteArray := prog_2_method_5_code
def yX0_feeOf : MethodName := ⟨RX0, "feeOf", "(I)I"⟩
abbrev cX0_poolPartOf : ByteArray := prog_2_method_6_code
def yX0_poolPartOf : MethodName := ⟨RX0, "poolPartOf", "(I)I"⟩
abbrev cX0_takeFees : ByteArray := prog_2_method_7_code
def yX0_takeFees : MethodName := ⟨RX0, "takeFees", "()V"⟩
def RX1 : String := "PlayPool$Books"
def TX1 : u_T := fun k => match k with
  | 0 => ("PlayPool$Books", "house", "I", false)
  | 1 => ("PlayPool$Books", "box", "I", false)
  | 2 => ("PlayPool$Books", "carry", "[I", true)
  | 3 => ("PlayPool$Books", "gotEver", "[I", true)
  | 4 => ("PlayPool$Books", "held", "[I", true)
  | 5 => ("PlayPool$Books", "due", "[I", true)
  | 6 => ("PlayPool$Books", "paid", "[I", true)
  | 7 => ("PlayPool$Books", "advances", "[I", true)
  | 8 => ("PlayPool$Books", "recouped", "[I", true)
  | 9 => ("PlayPool$Books", "got", "[I", true)
  | 10 => ("PlayPool$Books", "weights", "[I", true)
  | _ => ("PlayPool$Books", "rests", "[I", true)
def tyX1 : Nat → FieldType := fun k => match k with
  | 0 => .int
  | 1 => .int
  | 2 => .array .int
  | 3 => .array .int
  | 4 => .array .int
  | 5 => .array .int
  | 6 => .array .int
  | 7 => .array .int
  | 8 => .array .int
  | 9 => .array .int
  | 10 => .array .int
  | _ => .array .int
theorem nmX1 : ∀ a, a < 12 → ∀ b, b < 12 → a ≠ b → (TX1 a).2.1 ≠ (TX1 b).2.1 := by decide +kernel
theorem tyX1_ok : ∀ k, k < 12 → parseFieldDescriptor (TX1 k).2.2.1 = some (tyX1 k) := by decide +kernel
abbrev cX1_init : ByteArray := prog_3_method_1_code
def yX1_init : MethodName := ⟨RX1, "<init>", "()V"⟩
abbrev cX1_takeOver : ByteArray := prog_3_method_2_code
def yX1_takeOver : MethodName := ⟨RX1, "takeOver", "(LPlayPool$Books;)V"⟩
abbrev cX1_close : ByteArray := prog_3_method_3_code
def yX1_close : MethodName := ⟨RX1, "close", "(ILPlayPool$Audience;LPlayPool$Counts;LPlayPool$Rights;)V"⟩
abbrev cX1_takeHouseParts : ByteArray := prog_3_method_4_code
def yX1_takeHouseParts : MethodName := ⟨RX1, "takeHouseParts", "(LPlayPool$Audience;)V"⟩
abbrev cX1_weighLand : ByteArray := prog_3_method_5_code
def yX1_weighLand : MethodName := ⟨RX1, "weighLand", "(ILPlayPool$Audience;LPlayPool$Counts;)V"⟩
abbrev cX1_poolOf : ByteArray := prog_3_method_6_code
def yX1_poolOf : MethodName := ⟨RX1, "poolOf", "(ILPlayPool$Audience;)I"⟩
abbrev cX1_splitByListener : ByteArray := prog_3_method_7_code
def yX1_splitByListener : MethodName := ⟨RX1, "splitByListener", "(ILPlayPool$Audience;LPlayPool$Counts;)V"⟩
abbrev cX1_split : ByteArray := prog_3_method_8_code
def yX1_split : MethodName := ⟨RX1, "split", "(I[I)I"⟩
abbrev cX1_share : ByteArray := prog_3_method_9_code
def yX1_share : MethodName := ⟨RX1, "share", "(ILPlayPool$Rights;)V"⟩
abbrev cX1_recoup : ByteArray := prog_3_method_10_code
def yX1_recoup : MethodName := ⟨RX1, "recoup", "(I)V"⟩
abbrev cX1_payOut : ByteArray := prog_3_method_11_code
def yX1_payOut : MethodName := ⟨RX1, "payOut", "(I)V"⟩
def RX2 : String := "PlayPool$Catalogue"
def TX2 : u_T := fun k => match k with
  | 0 => ("PlayPool$Catalogue", "trackCount", "I", false)
  | 1 => ("PlayPool$Catalogue", "recordingOf", "[I", true)
  | 2 => ("PlayPool$Catalogue", "downFrom", "[I", true)
  | 3 => ("PlayPool$Catalogue", "windowCount", "I", false)
  | 4 => ("PlayPool$Catalogue", "windowTrack", "[I", true)
  | 5 => ("PlayPool$Catalogue", "windowLand", "[I", true)
  | 6 => ("PlayPool$Catalogue", "windowFrom", "[I", true)
  | _ => ("PlayPool$Catalogue", "windowTo", "[I", true)
def tyX2 : Nat → FieldType := fun k => match k with
  | 0 => .int
  | 1 => .array .int
  | 2 => .array .int
  | 3 => .int
  | 4 => .array .int
  | 5 => .array .int
  | 6 => .array .int
  | _ => .array .int
theorem nmX2 : ∀ a, a < 8 → ∀ b, b < 8 → a ≠ b → (TX2 a).2.1 ≠ (TX2 b).2.1 := by decide +kernel
theorem tyX2_ok : ∀ k, k < 8 → parseFieldDescriptor (TX2 k).2.2.1 = some (tyX2 k) := by decide +kernel
abbrev cX2_init : ByteArray := prog_4_method_1_code
def yX2_init : MethodName := ⟨RX2, "<init>", "()V"⟩
abbrev cX2_addTrack : ByteArray := prog_4_method_2_code
def yX2_addTrack : MethodName := ⟨RX2, "addTrack", "(I)I"⟩
abbrev cX2_addWindow : ByteArray := prog_4_method_3_code
def yX2_addWindow : MethodName := ⟨RX2, "addWindow", "(IIII)V"⟩
abbrev cX2_isDown : ByteArray := prog_4_method_4_code
def yX2_isDown : MethodName := ⟨RX2, "isDown", "(I)Z"⟩
abbrev cX2_isDownIn : ByteArray := prog_4_method_5_code
def yX2_isDownIn : MethodName := ⟨RX2, "isDownIn", "(II)Z"⟩
abbrev cX2_isAllowed : ByteArray := prog_4_method_6_code
def yX2_isAllowed : MethodName := ⟨RX2, "isAllowed", "(III)Z"⟩
abbrev cX2_landsAllowing : ByteArray := prog_4_method_7_code
def yX2_landsAllowing : MethodName := ⟨RX2, "landsAllowing", "(II)I"⟩
abbrev cX2_tracksOf : ByteArray := prog_4_method_8_code
def yX2_tracksOf : MethodName := ⟨RX2, "tracksOf", "(I)I"⟩
abbrev cX2_isHearable : ByteArray := prog_4_method_9_code
def yX2_isHearable : MethodName := ⟨RX2, "isHearable", "(III)Z"⟩
def RX3 : String := "PlayPool$Counts"
def TX3 : u_T := fun k => match k with
  | 0 => ("PlayPool$Counts", "ever", "[[I", true)
  | 1 => ("PlayPool$Counts", "inMonth", "[[I", true)
  | _ => ("PlayPool$Counts", "onDay", "[[I", true)
def tyX3 : Nat → FieldType := fun k => match k with
  | 0 => .array (.array .int)
  | 1 => .array (.array .int)
  | _ => .array (.array .int)
theorem nmX3 : ∀ a, a < 3 → ∀ b, b < 3 → a ≠ b → (TX3 a).2.1 ≠ (TX3 b).2.1 := by decide +kernel
theorem tyX3_ok : ∀ k, k < 3 → parseFieldDescriptor (TX3 k).2.2.1 = some (tyX3 k) := by decide +kernel
abbrev cX3_init : ByteArray := prog_5_method_1_code
def yX3_init : MethodName := ⟨RX3, "<init>", "()V"⟩
abbrev cX3_clear : ByteArray := prog_5_method_2_code
def yX3_clear : MethodName := ⟨RX3, "clear", "()V"⟩
abbrev cX3_startDay : ByteArray := prog_5_method_3_code
def yX3_startDay : MethodName := ⟨RX3, "startDay", "()V"⟩
abbrev cX3_add : ByteArray := prog_5_method_4_code
def yX3_add : MethodName := ⟨RX3, "add", "(IIZ)V"⟩
abbrev cX3_hearersOfBoth : ByteArray := prog_5_method_5_code
def yX3_hearersOfBoth : MethodName := ⟨RX3, "hearersOfBoth", "(II)I"⟩
def RX4 : String := "PlayPool$PlayLog"
def TX4 : u_T := fun k => match k with
  | 0 => ("PlayPool$PlayLog", "count", "I", false)
  | 1 => ("PlayPool$PlayLog", "listenerOf", "[I", true)
  | 2 => ("PlayPool$PlayLog", "trackOf", "[I", true)
  | 3 => ("PlayPool$PlayLog", "minuteOf", "[I", true)
  | 4 => ("PlayPool$PlayLog", "secondsOf", "[I", true)
  | 5 => ("PlayPool$PlayLog", "reasonOf", "[I", true)
  | _ => ("PlayPool$PlayLog", "byMinute", "[I", true)
def tyX4 : Nat → FieldType := fun k => match k with
  | 0 => .int
  | 1 => .array .int
  | 2 => .array .int
  | 3 => .array .int
  | 4 => .array .int
  | 5 => .array .int
  | _ => .array .int
theorem nmX4 : ∀ a, a < 7 → ∀ b, b < 7 → a ≠ b → (TX4 a).2.1 ≠ (TX4 b).2.1 := by decide +kernel
theorem tyX4_ok : ∀ k, k < 7 → parseFieldDescriptor (TX4 k).2.2.1 = some (tyX4 k) := by decide +kernel
abbrev cX4_init : ByteArray := prog_6_method_1_code
def yX4_init : MethodName := ⟨RX4, "<init>", "()V"⟩
abbrev cX4_add : ByteArray := prog_6_method_2_code
def yX4_add : MethodName := ⟨RX4, "add", "(IIII)I"⟩
abbrev cX4_putInOrder : ByteArray := prog_6_method_3_code
def yX4_putInOrder : MethodName := ⟨RX4, "putInOrder", "(I)V"⟩
abbrev cX4_countWithReason : ByteArray := prog_6_method_4_code
def yX4_countWithReason : MethodName := ⟨RX4, "countWithReason", "(I)I"⟩
abbrev cX4_countedOfTrack : ByteArray := prog_6_method_5_code
def yX4_countedOfTrack : MethodName := ⟨RX4, "countedOfTrack", "(I)I"⟩
abbrev cX4_playsOfListener : ByteArray := prog_6_method_6_code
def yX4_playsOfListener : MethodName := ⟨RX4, "playsOfListener", "(I)I"⟩
def RX5 : String := "PlayPool$Rights"
def TX5 : u_T := fun k => match k with
  | _ => ("PlayPool$Rights", "claims", "[[I", true)
def tyX5 : Nat → FieldType := fun k => match k with
  | _ => .array (.array .int)
theorem nmX5 : ∀ a, a < 1 → ∀ b, b < 1 → a ≠ b → (TX5 a).2.1 ≠ (TX5 b).2.1 := by decide +kernel
theorem tyX5_ok : ∀ k, k < 1 → parseFieldDescriptor (TX5 k).2.2.1 = some (tyX5 k) := by decide +kernel
abbrev cX5_init : ByteArray := prog_7_method_1_code
def yX5_init : MethodName := ⟨RX5, "<init>", "()V"⟩
abbrev cX5_claimsOf : ByteArray := prog_7_method_2_code
def yX5_claimsOf : MethodName := ⟨RX5, "claimsOf", "(I)I"⟩
abbrev cX5_isInConflict : ByteArray := prog_7_method_3_code
def yX5_isInConflict : MethodName := ⟨RX5, "isInConflict", "(I)Z"⟩
def RX6 : String := "PlayPool"
def TX6 : u_T := fun k => match k with
  | 0 => ("PlayPool", "catalogue", "LPlayPool$Catalogue;", true)
  | 1 => ("PlayPool", "rights", "LPlayPool$Rights;", true)
  | 2 => ("PlayPool", "audience", "LPlayPool$Audience;", true)
  | 3 => ("PlayPool", "log", "LPlayPool$PlayLog;", true)
  | 4 => ("PlayPool", "counts", "LPlayPool$Counts;", true)
  | 5 => ("PlayPool", "books", "LPlayPool$Books;", true)
  | 6 => ("PlayPool", "trialByLand", "LPlayPool$Books;", true)
  | 7 => ("PlayPool", "trialByListener", "LPlayPool$Books;", true)
  | 8 => ("PlayPool", "points", "[I", true)
  | 9 => ("PlayPool", "now", "I", false)
  | _ => ("PlayPool", "ruleNow", "I", false)
def tyX6 : Nat → FieldType := fun k => match k with
  | 0 => .object "PlayPool$Catalogue"
  | 1 => .object "PlayPool$Rights"
  | 2 => .object "PlayPool$Audience"
  | 3 => .object "PlayPool$PlayLog"
  | 4 => .object "PlayPool$Counts"
  | 5 => .object "PlayPool$Books"
  | 6 => .object "PlayPool$Books"
  | 7 => .object "PlayPool$Books"
  | 8 => .array .int
  | 9 => .int
  | _ => .int
theorem nmX6 : ∀ a, a < 11 → ∀ b, b < 11 → a ≠ b → (TX6 a).2.1 ≠ (TX6 b).2.1 := by decide +kernel
theorem tyX6_ok : ∀ k, k < 11 → parseFieldDescriptor (TX6 k).2.2.1 = some (tyX6 k) := by decide +kernel
abbrev cX6_init : ByteArray := prog_1_method_1_code
def yX6_init : MethodName := ⟨RX6, "<init>", "()V"⟩
abbrev cX6_track : ByteArray := prog_1_method_2_code
def yX6_track : MethodName := ⟨RX6, "track", "(I)I"⟩
abbrev cX6_window : ByteArray := prog_1_method_3_code
def yX6_window : MethodName := ⟨RX6, "window", "(IIII)I"⟩
abbrev cX6_claim : ByteArray := prog_1_method_5_code
def yX6_claim : MethodName := ⟨RX6, "claim", "(III)I"⟩
abbrev cX6_listener : ByteArray := prog_1_method_8_code
def yX6_listener : MethodName := ⟨RX6, "listener", "(II)I"⟩
abbrev cX6_flag : ByteArray := prog_1_method_10_code
def yX6_flag : MethodName := ⟨RX6, "flag", "(IZ)Z"⟩
abbrev cX6_play : ByteArray := prog_1_method_12_code
def yX6_play : MethodName := ⟨RX6, "play", "(IIII)I"⟩
abbrev cX6_pass : ByteArray := prog_1_method_13_code
def yX6_pass : MethodName := ⟨RX6, "pass", "(I)I"⟩
abbrev cX6_ofTrack : ByteArray := prog_1_method_14_code
def yX6_ofTrack : MethodName := ⟨RX6, "ofTrack", "(II)I"⟩
abbrev cX6_ofListener : ByteArray := prog_1_method_15_code
def yX6_ofListener : MethodName := ⟨RX6, "ofListener", "(II)I"⟩
abbrev cX6_ofPlay : ByteArray := prog_1_method_16_code
def yX6_ofPlay : MethodName := ⟨RX6, "ofPlay", "(II)I"⟩
abbrev cX6_ofParty : ByteArray := prog_1_method_17_code
def yX6_ofParty : MethodName := ⟨RX6, "ofParty", "(II)I"⟩
abbrev cX6_ofRecording : ByteArray := prog_1_method_18_code
def yX6_ofRecording : MethodName := ⟨RX6, "ofRecording", "(II)I"⟩
abbrev cX6_many : ByteArray := prog_1_method_19_code
def yX6_many : MethodName := ⟨RX6, "many", "(I)I"⟩
abbrev cX6_wouldGet : ByteArray := prog_1_method_25_code
def yX6_wouldGet : MethodName := ⟨RX6, "wouldGet", "(II)I"⟩
abbrev cX6_wouldPay : ByteArray := prog_1_method_26_code
def yX6_wouldPay : MethodName := ⟨RX6, "wouldPay", "(II)I"⟩
abbrev cX6_digest : ByteArray := prog_1_method_27_code
def yX6_digest : MethodName := ⟨RX6, "digest", "()J"⟩
abbrev cX6_needRecording : ByteArray := prog_1_method_28_code
def yX6_needRecording : MethodName := ⟨RX6, "needRecording", "(I)V"⟩
abbrev cX6_needParty : ByteArray := prog_1_method_29_code
def yX6_needParty : MethodName := ⟨RX6, "needParty", "(I)V"⟩
abbrev cX6_needLand : ByteArray := prog_1_method_30_code
def yX6_needLand : MethodName := ⟨RX6, "needLand", "(I)V"⟩
abbrev cX6_needPlan : ByteArray := prog_1_method_31_code
def yX6_needPlan : MethodName := ⟨RX6, "needPlan", "(I)V"⟩
abbrev cX6_needRule : ByteArray := prog_1_method_32_code
def yX6_needRule : MethodName := ⟨RX6, "needRule", "(I)V"⟩
abbrev cX6_needTrack : ByteArray := prog_1_method_33_code
def yX6_needTrack : MethodName := ⟨RX6, "needTrack", "(I)V"⟩
abbrev cX6_needListener : ByteArray := prog_1_method_34_code
def yX6_needListener : MethodName := ⟨RX6, "needListener", "(I)V"⟩
abbrev cX6_dayOf : ByteArray := prog_1_method_35_code
def yX6_dayOf : MethodName := ⟨RX6, "dayOf", "(I)I"⟩
abbrev cX6_monthOf : ByteArray := prog_1_method_36_code
def yX6_monthOf : MethodName := ⟨RX6, "monthOf", "(I)I"⟩
abbrev cX6_isClosed : ByteArray := prog_1_method_37_code
def yX6_isClosed : MethodName := ⟨RX6, "isClosed", "(I)Z"⟩
abbrev cX6_judgePlays : ByteArray := prog_1_method_38_code
def yX6_judgePlays : MethodName := ⟨RX6, "judgePlays", "()V"⟩
abbrev cX6_judged : ByteArray := prog_1_method_39_code
def yX6_judged : MethodName := ⟨RX6, "judged", "(I)I"⟩
abbrev cX6_closeMonth : ByteArray := prog_1_method_40_code
def yX6_closeMonth : MethodName := ⟨RX6, "closeMonth", "()I"⟩
abbrev cX6_trialBy : ByteArray := prog_1_method_41_code
def yX6_trialBy : MethodName := ⟨RX6, "trialBy", "(I)LPlayPool$Books;"⟩
abbrev cX6_tryClosing : ByteArray := prog_1_method_42_code
def yX6_tryClosing : MethodName := ⟨RX6, "tryClosing", "(I)V"⟩
abbrev cX6_gotInTrial : ByteArray := prog_1_method_43_code
def yX6_gotInTrial : MethodName := ⟨RX6, "gotInTrial", "(II)I"⟩
abbrev cX6_paidInTrial : ByteArray := prog_1_method_44_code
def yX6_paidInTrial : MethodName := ⟨RX6, "paidInTrial", "(II)I"⟩
abbrev cX6_charted : ByteArray := prog_1_method_45_code
def yX6_charted : MethodName := ⟨RX6, "charted", "(II)I"⟩
abbrev cX6_countPoints : ByteArray := prog_1_method_46_code
def yX6_countPoints : MethodName := ⟨RX6, "countPoints", "(I)V"⟩
abbrev cX6_suggestion : ByteArray := prog_1_method_47_code
def yX6_suggestion : MethodName := ⟨RX6, "suggestion", "(I)I"⟩
abbrev cX6_isNewAndHearable : ByteArray := prog_1_method_48_code
def yX6_isNewAndHearable : MethodName := ⟨RX6, "isNewAndHearable", "(II)Z"⟩
abbrev cX6_alikeToHeard : ByteArray := prog_1_method_49_code
def yX6_alikeToHeard : MethodName := ⟨RX6, "alikeToHeard", "(II)I"⟩
abbrev cX6_digestStep : ByteArray := prog_1_method_50_code
def yX6_digestStep : MethodName := ⟨RX6, "digestStep", "(JJ)J"⟩
abbrev cX6_digestOfTotals : ByteArray := prog_1_method_51_code
def yX6_digestOfTotals : MethodName := ⟨RX6, "digestOfTotals", "(J)J"⟩
abbrev cX6_digestOfTracks : ByteArray := prog_1_method_52_code
def yX6_digestOfTracks : MethodName := ⟨RX6, "digestOfTracks", "(J)J"⟩
abbrev cX6_digestOfListeners : ByteArray := prog_1_method_53_code
def yX6_digestOfListeners : MethodName := ⟨RX6, "digestOfListeners", "(J)J"⟩
abbrev cX6_digestOfParties : ByteArray := prog_1_method_54_code
def yX6_digestOfParties : MethodName := ⟨RX6, "digestOfParties", "(J)J"⟩
abbrev cX6_digestOfRecordings : ByteArray := prog_1_method_55_code
def yX6_digestOfRecordings : MethodName := ⟨RX6, "digestOfRecordings", "(J)J"⟩
abbrev cX6_digestOfCharts : ByteArray := prog_1_method_56_code
def yX6_digestOfCharts : MethodName := ⟨RX6, "digestOfCharts", "(J)J"⟩
abbrev cX6_digestOfPlays : ByteArray := prog_1_method_57_code
def yX6_digestOfPlays : MethodName := ⟨RX6, "digestOfPlays", "(J)J"⟩
abbrev cX6_sumOf : ByteArray := prog_1_method_58_code
def yX6_sumOf : MethodName := ⟨RX6, "sumOf", "([I)I"⟩
abbrev cX6_columnSum : ByteArray := prog_1_method_59_code
def yX6_columnSum : MethodName := ⟨RX6, "columnSum", "([[II)I"⟩
abbrev cX6_addTimes : ByteArray := prog_1_method_60_code
def yX6_addTimes : MethodName := ⟨RX6, "addTimes", "([I[II)V"⟩
abbrev cX6_copyAll : ByteArray := prog_1_method_61_code
def yX6_copyAll : MethodName := ⟨RX6, "copyAll", "([I[I)V"⟩
abbrev cX6_clearRows : ByteArray := prog_1_method_62_code
def yX6_clearRows : MethodName := ⟨RX6, "clearRows", "([[I)V"⟩
abbrev cX6_placeOf : ByteArray := prog_1_method_63_code
def yX6_placeOf : MethodName := ⟨RX6, "placeOf", "([II)I"⟩
def RX7 : String := "PlayPoolModel$Ledger"
def TX7 : u_T := fun k => match k with
  | _ => ("", "", "", false)
def tyX7 : Nat → FieldType := fun k => match k with
  | _ => .int
theorem nmX7 : ∀ a, a < 0 → ∀ b, b < 0 → a ≠ b → (TX7 a).2.1 ≠ (TX7 b).2.1 := by decide +kernel
theorem tyX7_ok : ∀ k, k < 0 → parseFieldDescriptor (TX7 k).2.2.1 = some (tyX7 k) := by decide +kernel
def RX8 : String := "PlayPoolModel"
def TX8 : u_T := fun k => match k with
  | _ => ("", "", "", false)
def tyX8 : Nat → FieldType := fun k => match k with
  | _ => .int
theorem nmX8 : ∀ a, a < 0 → ∀ b, b < 0 → a ≠ b → (TX8 a).2.1 ≠ (TX8 b).2.1 := by decide +kernel
theorem tyX8_ok : ∀ k, k < 0 → parseFieldDescriptor (TX8 k).2.2.1 = some (tyX8 k) := by decide +kernel
def RJx145de : String := "java/io/Serializable"
def RJ9 : String := "java/lang/Math"
abbrev cJ9_min_7cf53 : ByteArray := prog_15_method_69_code
def yJ9_min_7cf53 : MethodName := ⟨RJ9, "min", "(II)I"⟩
def RJ0 : String := "java/lang/String"
def RJ10 : String := "java/lang/System"
def RJ7 : String := "java/util/Arrays"
abbrev cJ7_fill_53178 : ByteArray := prog_20_method_103_code
def yJ7_fill_53178 : MethodName := ⟨RJ7, "fill", "([II)V"⟩
def RL : String := "PlayPoolLaw"
abbrev cL_below : ByteArray := method_2_code
def yL_below : MethodName := ⟨RL, "below", "(II)I"⟩
abbrev cL_cell : ByteArray := method_3_code
def yL_cell : MethodName := ⟨RL, "cell", "([II)I"⟩
abbrev cL_write : ByteArray := method_4_code
def yL_write : MethodName := ⟨RL, "write", "(LPlayPool;[II)V"⟩
abbrev cL_hear : ByteArray := method_5_code
def yL_hear : MethodName := ⟨RL, "hear", "(LPlayPool;IIII)I"⟩
abbrev cL_law : ByteArray := code
def yL_law : MethodName := ⟨RL, "law", "([I)Z"⟩
abbrev cL_isSound : ByteArray := method_7_code
def yL_isSound : MethodName := ⟨RL, "isSound", "(LPlayPool;[I)Z"⟩
theorem dX0_init_0 : decode cX0_init 0 = .ok (.aload_n 0, 1) := by decide +kernel
theorem dX0_init_1 : decode cX0_init 1 = .ok (.invokespecial 3, 3) := by decide +kernel
theorem dX0_init_4 : decode cX0_init 4 = .ok (.aload_n 0, 1) := by decide +kernel
theorem dX0_init_5 : decode cX0_init 5 = .ok (.iconst 0, 1) := by decide +kernel
theorem dX0_init_6 : decode cX0_init 6 = .ok (.putfield 9, 3) := by decide +kernel
theorem dX0_init_9 : decode cX0_init 9 = .ok (.aload_n 0, 1) := by decide +kernel
theorem dX0_init_10 : decode cX0_init 10 = .ok (.bipush 8, 2) := by decide +kernel
theorem dX0_init_12 : decode cX0_init 12 = .ok (.newarray .int, 2) := by decide +kernel
theorem dX0_init_14 : decode cX0_init 14 = .ok (.putfield 15, 3) := by decide +kernel
theorem dX0_init_17 : decode cX0_init 17 = .ok (.aload_n 0, 1) := by decide +kernel
theorem dX0_init_18 : decode cX0_init 18 = .ok (.bipush 8, 2) := by decide +kernel
theorem dX0_init_20 : decode cX0_init 20 = .ok (.newarray .int, 2) := by decide +kernel
theorem dX0_init_22 : decode cX0_init 22 = .ok (.putfield 19, 3) := by decide +kernel
theorem dX0_init_25 : decode cX0_init 25 = .ok (.aload_n 0, 1) := by decide +kernel
theorem dX0_init_26 : decode cX0_init 26 = .ok (.bipush 8, 2) := by decide +kernel
theorem dX0_init_28 : decode cX0_init 28 = .ok (.newarray .boolean, 2) := by decide +kernel
theorem dX0_init_30 : decode cX0_init 30 = .ok (.putfield 22, 3) := by decide +kernel
theorem dX0_init_33 : decode cX0_init 33 = .ok (.aload_n 0, 1) := by decide +kernel
theorem dX0_init_34 : decode cX0_init 34 = .ok (.bipush 8, 2) := by decide +kernel
theorem dX0_init_36 : decode cX0_init 36 = .ok (.newarray .int, 2) := by decide +kernel
theorem dX0_init_38 : decode cX0_init 38 = .ok (.putfield 26, 3) := by decide +kernel
theorem dX0_init_41 : decode cX0_init 41 = .ok (.aload_n 0, 1) := by decide +kernel
theorem dX0_init_42 : decode cX0_init 42 = .ok (.bipush 8, 2) := by decide +kernel
theorem dX0_init_44 : decode cX0_init 44 = .ok (.newarray .int, 2) := by decide +kernel
theorem dX0_init_46 : decode cX0_init 46 = .ok (.putfield 29, 3) := by decide +kernel
theorem dX0_init_49 : decode cX0_init 49 = .ok (.aload_n 0, 1) := by decide +kernel
theorem dX0_init_50 : decode cX0_init 50 = .ok (.bipush 8, 2) := by decide +kernel
theorem dX0_init_52 : decode cX0_init 52 = .ok (.iconst 3, 1) := by decide +kernel
theorem dX0_init_53 : decode cX0_init 53 = .ok (.multianewarray 32 2, 4) := by decide +kernel
theorem dX0_init_57 : decode cX0_init 57 = .ok (.putfield 34, 3) := by decide +kernel
theorem dX0_init_60 : decode cX0_init 60 = .ok (.return_, 1) := by decide +kernel
theorem dX0_add_0 : decode cX0_add 0 = .ok (.aload_n 0, 1) := by decide +kernel
theorem dX0_add_1 : decode cX0_add 1 = .ok (.getfield 9, 3) := by decide +kernel
theorem dX0_add_4 : decode cX0_add 4 = .ok (.istore_n 3, 1) := by decide +kernel
theorem dX0_add_5 : decode cX0_add 5 = .ok (.iload_n 3, 1) := by decide +kernel
theorem dX0_add_6 : decode cX0_add 6 = .ok (.bipush 8, 2) := by decide +kernel
theorem dX0_add_8 : decode cX0_add 8 = .ok (.if_icmp .ge 27, 3) := by decide +kernel
theorem dX0_add_11 : decode cX0_add 11 = .ok (.aload_n 0, 1) := by decide +kernel
theorem dX0_add_12 : decode cX0_add 12 = .ok (.getfield 15, 3) := by decide +kernel
theorem dX0_add_15 : decode cX0_add 15 = .ok (.iload_n 3, 1) := by decide +kernel
theorem dX0_add_16 : decode cX0_add 16 = .ok (.iload_n 1, 1) := by decide +kernel
theorem dX0_add_17 : decode cX0_add 17 = .ok (.iastore, 1) := by decide +kernel
theorem dX0_add_18 : decode cX0_add 18 = .ok (.aload_n 0, 1) := by decide +kernel
theorem dX0_add_19 : decode cX0_add 19 = .ok (.getfield 19, 3) := by decide +kernel
theorem dX0_add_22 : decode cX0_add 22 = .ok (.iload_n 3, 1) := by decide +kernel
theorem dX0_add_23 : decode cX0_add 23 = .ok (.iload_n 2, 1) := by decide +kernel
theorem dX0_add_24 : decode cX0_add 24 = .ok (.iastore, 1) := by decide +kernel
theorem dX0_add_25 : decode cX0_add 25 = .ok (.aload_n 0, 1) := by decide +kernel
theorem dX0_add_26 : decode cX0_add 26 = .ok (.dup, 1) := by decide +kernel
theorem dX0_add_27 : decode cX0_add 27 = .ok (.getfield 9, 3) := by decide +kernel
theorem dX0_add_30 : decode cX0_add 30 = .ok (.iconst 1, 1) := by decide +kernel
theorem dX0_add_31 : decode cX0_add 31 = .ok (.iadd, 1) := by decide +kernel
theorem dX0_add_32 : decode cX0_add 32 = .ok (.putfield 9, 3) := by decide +kernel
theorem dX0_add_35 : decode cX0_add 35 = .ok (.iload_n 3, 1) := by decide +kernel
theorem dX0_add_36 : decode cX0_add 36 = .ok (.ireturn, 1) := by decide +kernel
theorem dX0_hasKept_0 : decode cX0_hasKept 0 = .ok (.iconst 0, 1) := by decide +kernel
theorem dX0_hasKept_1 : decode cX0_hasKept 1 = .ok (.istore_n 3, 1) := by decide +kernel
theorem dX0_hasKept_2 : decode cX0_hasKept 2 = .ok (.iload_n 3, 1) := by decide +kernel
theorem dX0_hasKept_3 : decode cX0_hasKept 3 = .ok (.aload_n 0, 1) := by decide +kernel
theorem dX0_hasKept_4 : decode cX0_hasKept 4 = .ok (.getfield 29, 3) := by decide +kernel
theorem dX0_hasKept_7 : decode cX0_hasKept 7 = .ok (.iload_n 1, 1) := by decide +kernel
theorem dX0_hasKept_8 : decode cX0_hasKept 8 = .ok (.iaload, 1) := by decide +kernel
theorem dX0_hasKept_9 : decode cX0_hasKept 9 = .ok (.if_icmp .ge 23, 3) := by decide +kernel
theorem dX0_hasKept_12 : decode cX0_hasKept 12 = .ok (.aload_n 0, 1) := by decide +kernel
theorem dX0_hasKept_13 : decode cX0_hasKept 13 = .ok (.getfield 34, 3) := by decide +kernel
theorem dX0_hasKept_16 : decode cX0_hasKept 16 = .ok (.iload_n 1, 1) := by decide +kernel
theorem dX0_hasKept_17 : decode cX0_hasKept 17 = .ok (.aaload, 1) := by decide +kernel
theorem dX0_hasKept_18 : decode cX0_hasKept 18 = .ok (.iload_n 3, 1) := by decide +kernel
theorem dX0_hasKept_19 : decode cX0_hasKept 19 = .ok (.iaload, 1) := by decide +kernel
theorem dX0_hasKept_20 : decode cX0_hasKept 20 = .ok (.iload_n 2, 1) := by decide +kernel
theorem dX0_hasKept_21 : decode cX0_hasKept 21 = .ok (.if_icmp .ne 5, 3) := by decide +kernel
theorem dX0_hasKept_24 : decode cX0_hasKept 24 = .ok (.iconst 1, 1) := by decide +kernel
theorem dX0_hasKept_25 : decode cX0_hasKept 25 = .ok (.ireturn, 1) := by decide +kernel
theorem dX0_hasKept_26 : decode cX0_hasKept 26 = .ok (.iinc 3 1, 3) := by decide +kernel
theorem dX0_hasKept_29 : decode cX0_hasKept 29 = .ok (.goto (-27), 3) := by decide +kernel
theorem dX0_hasKept_32 : decode cX0_hasKept 32 = .ok (.iconst 0, 1) := by decide +kernel
theorem dX0_hasKept_33 : decode cX0_hasKept 33 = .ok (.ireturn, 1) := by decide +kernel
theorem dX0_feeOf_0 : decode cX0_feeOf 0 = .ok (.aload_n 0, 1) := by decide +kernel
theorem dX0_feeOf_1 : decode cX0_feeOf 1 = .ok (.getfield 19, 3) := by decide +kernel
theorem dX0_feeOf_4 : decode cX0_feeOf 4 = .ok (.iload_n 1, 1) := by decide +kernel
theorem dX0_feeOf_5 : decode cX0_feeOf 5 = .ok (.iaload, 1) := by decide +kernel
theorem dX0_feeOf_6 : decode cX0_feeOf 6 = .ok (.lookupswitch 34 #[(0, 26), (1, 30)], 26) := by decide +kernel
theorem dX0_feeOf_32 : decode cX0_feeOf 32 = .ok (.sipush 200, 3) := by decide +kernel
theorem dX0_feeOf_35 : decode cX0_feeOf 35 = .ok (.ireturn, 1) := by decide +kernel
theorem dX0_feeOf_36 : decode cX0_feeOf 36 = .ok (.sipush 1000, 3) := by decide +kernel
theorem dX0_feeOf_39 : decode cX0_feeOf 39 = .ok (.ireturn, 1) := by decide +kernel
theorem dX0_feeOf_40 : decode cX0_feeOf 40 = .ok (.sipush 500, 3) := by decide +kernel
theorem dX0_feeOf_43 : decode cX0_feeOf 43 = .ok (.ireturn, 1) := by decide +kernel
theorem dX0_poolPartOf_0 : decode cX0_poolPartOf 0 = .ok (.aload_n 0, 1) := by decide +kernel
theorem dX0_poolPartOf_1 : decode cX0_poolPartOf 1 = .ok (.iload_n 1, 1) := by decide +kernel
theorem dX0_poolPartOf_2 : decode cX0_poolPartOf 2 = .ok (.invokevirtual 43, 3) := by decide +kernel
theorem dX0_poolPartOf_5 : decode cX0_poolPartOf 5 = .ok (.bipush 7, 2) := by decide +kernel
theorem dX0_poolPartOf_7 : decode cX0_poolPartOf 7 = .ok (.imul, 1) := by decide +kernel
theorem dX0_poolPartOf_8 : decode cX0_poolPartOf 8 = .ok (.bipush 10, 2) := by decide +kernel
theorem dX0_poolPartOf_10 : decode cX0_poolPartOf 10 = .ok (.idiv, 1) := by decide +kernel
theorem dX0_poolPartOf_11 : decode cX0_poolPartOf 11 = .ok (.ireturn, 1) := by decide +kernel
theorem dX0_takeFees_0 : decode cX0_takeFees 0 = .ok (.iconst 0, 1) := by decide +kernel
theorem dX0_takeFees_1 : decode cX0_takeFees 1 = .ok (.istore_n 1, 1) := by decide +kernel
theorem dX0_takeFees_2 : decode cX0_takeFees 2 = .ok (.iload_n 1, 1) := by decide +kernel
theorem dX0_takeFees_3 : decode cX0_takeFees 3 = .ok (.aload_n 0, 1) := by decide +kernel
theorem dX0_takeFees_4 : decode cX0_takeFees 4 = .ok (.getfield 9, 3) := by decide +kernel
theorem dX0_takeFees_7 : decode cX0_takeFees 7 = .ok (.if_icmp .ge 23, 3) := by decide +kernel
theorem dX0_takeFees_10 : decode cX0_takeFees 10 = .ok (.aload_n 0, 1) := by decide +kernel
theorem dX0_takeFees_11 : decode cX0_takeFees 11 = .ok (.getfield 26, 3) := by decide +kernel
theorem dX0_takeFees_14 : decode cX0_takeFees 14 = .ok (.iload_n 1, 1) := by decide +kernel
theorem dX0_takeFees_15 : decode cX0_takeFees 15 = .ok (.dup2, 1) := by decide +kernel
theorem dX0_takeFees_16 : decode cX0_takeFees 16 = .ok (.iaload, 1) := by decide +kernel
theorem dX0_takeFees_17 : decode cX0_takeFees 17 = .ok (.aload_n 0, 1) := by decide +kernel
theorem dX0_takeFees_18 : decode cX0_takeFees 18 = .ok (.iload_n 1, 1) := by decide +kernel
theorem dX0_takeFees_19 : decode cX0_takeFees 19 = .ok (.invokevirtual 43, 3) := by decide +kernel
theorem dX0_takeFees_22 : decode cX0_takeFees 22 = .ok (.iadd, 1) := by decide +kernel
theorem dX0_takeFees_23 : decode cX0_takeFees 23 = .ok (.iastore, 1) := by decide +kernel
theorem dX0_takeFees_24 : decode cX0_takeFees 24 = .ok (.iinc 1 1, 3) := by decide +kernel
theorem dX0_takeFees_27 : decode cX0_takeFees 27 = .ok (.goto (-25), 3) := by decide +kernel
theorem dX0_takeFees_30 : decode cX0_takeFees 30 = .ok (.return_, 1) := by decide +kernel
theorem dX1_init_0 : decode cX1_init 0 = .ok (.aload_n 0, 1) := by decide +kernel
theorem dX1_init_1 : decode cX1_init 1 = .ok (.invokespecial 3, 3) := by decide +kernel
theorem dX1_init_4 : decode cX1_init 4 = .ok (.aload_n 0, 1) := by decide +kernel
theorem dX1_init_5 : decode cX1_init 5 = .ok (.iconst 0, 1) := by decide +kernel
theorem dX1_init_6 : decode cX1_init 6 = .ok (.putfield 9, 3) := by decide +kernel
theorem dX1_init_9 : decode cX1_init 9 = .ok (.aload_n 0, 1) := by decide +kernel
theorem dX1_init_10 : decode cX1_init 10 = .ok (.iconst 0, 1) := by decide +kernel
theorem dX1_init_11 : decode cX1_init 11 = .ok (.putfield 15, 3) := by decide +kernel
theorem dX1_init_14 : decode cX1_init 14 = .ok (.aload_n 0, 1) := by decide +kernel
theorem dX1_init_15 : decode cX1_init 15 = .ok (.iconst 4, 1) := by decide +kernel
theorem dX1_init_16 : decode cX1_init 16 = .ok (.newarray .int, 2) := by decide +kernel
theorem dX1_init_18 : decode cX1_init 18 = .ok (.putfield 18, 3) := by decide +kernel
theorem dX1_init_21 : decode cX1_init 21 = .ok (.aload_n 0, 1) := by decide +kernel
theorem dX1_init_22 : decode cX1_init 22 = .ok (.bipush 10, 2) := by decide +kernel
theorem dX1_init_24 : decode cX1_init 24 = .ok (.newarray .int, 2) := by decide +kernel
theorem dX1_init_26 : decode cX1_init 26 = .ok (.putfield 22, 3) := by decide +kernel
theorem dX1_init_29 : decode cX1_init 29 = .ok (.aload_n 0, 1) := by decide +kernel
theorem dX1_init_30 : decode cX1_init 30 = .ok (.bipush 10, 2) := by decide +kernel
theorem dX1_init_32 : decode cX1_init 32 = .ok (.newarray .int, 2) := by decide +kernel
theorem dX1_init_34 : decode cX1_init 34 = .ok (.putfield 25, 3) := by decide +kernel
theorem dX1_init_37 : decode cX1_init 37 = .ok (.aload_n 0, 1) := by decide +kernel
theorem dX1_init_38 : decode cX1_init 38 = .ok (.iconst 5, 1) := by decide +kernel
theorem dX1_init_39 : decode cX1_init 39 = .ok (.newarray .int, 2) := by decide +kernel
theorem dX1_init_41 : decode cX1_init 41 = .ok (.putfield 28, 3) := by decide +kernel
theorem dX1_init_44 : decode cX1_init 44 = .ok (.aload_n 0, 1) := by decide +kernel
theorem dX1_init_45 : decode cX1_init 45 = .ok (.iconst 5, 1) := by decide +kernel
theorem dX1_init_46 : decode cX1_init 46 = .ok (.newarray .int, 2) := by decide +kernel
theorem dX1_init_48 : decode cX1_init 48 = .ok (.putfield 31, 3) := by decide +kernel
theorem dX1_init_51 : decode cX1_init 51 = .ok (.aload_n 0, 1) := by decide +kernel
theorem dX1_init_52 : decode cX1_init 52 = .ok (.iconst 5, 1) := by decide +kernel
theorem dX1_init_53 : decode cX1_init 53 = .ok (.newarray .int, 2) := by decide +kernel
theorem dX1_init_55 : decode cX1_init 55 = .ok (.putfield 34, 3) := by decide +kernel
theorem dX1_init_58 : decode cX1_init 58 = .ok (.aload_n 0, 1) := by decide +kernel
theorem dX1_init_59 : decode cX1_init 59 = .ok (.iconst 5, 1) := by decide +kernel
theorem dX1_init_60 : decode cX1_init 60 = .ok (.newarray .int, 2) := by decide +kernel
theorem dX1_init_62 : decode cX1_init 62 = .ok (.putfield 37, 3) := by decide +kernel
theorem dX1_init_65 : decode cX1_init 65 = .ok (.aload_n 0, 1) := by decide +kernel
theorem dX1_init_66 : decode cX1_init 66 = .ok (.bipush 10, 2) := by decide +kernel
theorem dX1_init_68 : decode cX1_init 68 = .ok (.newarray .int, 2) := by decide +kernel
theorem dX1_init_70 : decode cX1_init 70 = .ok (.putfield 40, 3) := by decide +kernel
theorem dX1_init_73 : decode cX1_init 73 = .ok (.aload_n 0, 1) := by decide +kernel
theorem dX1_init_74 : decode cX1_init 74 = .ok (.bipush 10, 2) := by decide +kernel
theorem dX1_init_76 : decode cX1_init 76 = .ok (.newarray .int, 2) := by decide +kernel
theorem dX1_init_78 : decode cX1_init 78 = .ok (.putfield 43, 3) := by decide +kernel
theorem dX1_init_81 : decode cX1_init 81 = .ok (.aload_n 0, 1) := by decide +kernel
theorem dX1_init_82 : decode cX1_init 82 = .ok (.bipush 10, 2) := by decide +kernel
theorem dX1_init_84 : decode cX1_init 84 = .ok (.newarray .int, 2) := by decide +kernel
theorem dX1_init_86 : decode cX1_init 86 = .ok (.putfield 46, 3) := by decide +kernel
theorem dX1_init_89 : decode cX1_init 89 = .ok (.return_, 1) := by decide +kernel
theorem dX1_takeOver_0 : decode cX1_takeOver 0 = .ok (.aload_n 0, 1) := by decide +kernel
theorem dX1_takeOver_1 : decode cX1_takeOver 1 = .ok (.aload_n 1, 1) := by decide +kernel
theorem dX1_takeOver_2 : decode cX1_takeOver 2 = .ok (.getfield 9, 3) := by decide +kernel
theorem dX1_takeOver_5 : decode cX1_takeOver 5 = .ok (.putfield 9, 3) := by decide +kernel
theorem dX1_takeOver_8 : decode cX1_takeOver 8 = .ok (.aload_n 0, 1) := by decide +kernel
theorem dX1_takeOver_9 : decode cX1_takeOver 9 = .ok (.aload_n 1, 1) := by decide +kernel
theorem dX1_takeOver_10 : decode cX1_takeOver 10 = .ok (.getfield 15, 3) := by decide +kernel
theorem dX1_takeOver_13 : decode cX1_takeOver 13 = .ok (.putfield 15, 3) := by decide +kernel
theorem dX1_takeOver_16 : decode cX1_takeOver 16 = .ok (.aload_n 1, 1) := by decide +kernel
theorem dX1_takeOver_17 : decode cX1_takeOver 17 = .ok (.getfield 18, 3) := by decide +kernel
theorem dX1_takeOver_20 : decode cX1_takeOver 20 = .ok (.aload_n 0, 1) := by decide +kernel
theorem dX1_takeOver_21 : decode cX1_takeOver 21 = .ok (.getfield 18, 3) := by decide +kernel
theorem dX1_takeOver_24 : decode cX1_takeOver 24 = .ok (.invokestatic 49, 3) := by decide +kernel
theorem dX1_takeOver_27 : decode cX1_takeOver 27 = .ok (.aload_n 1, 1) := by decide +kernel
theorem dX1_takeOver_28 : decode cX1_takeOver 28 = .ok (.getfield 22, 3) := by decide +kernel
theorem dX1_takeOver_31 : decode cX1_takeOver 31 = .ok (.aload_n 0, 1) := by decide +kernel
theorem dX1_takeOver_32 : decode cX1_takeOver 32 = .ok (.getfield 22, 3) := by decide +kernel
theorem dX1_takeOver_35 : decode cX1_takeOver 35 = .ok (.invokestatic 49, 3) := by decide +kernel
theorem dX1_takeOver_38 : decode cX1_takeOver 38 = .ok (.aload_n 1, 1) := by decide +kernel
theorem dX1_takeOver_39 : decode cX1_takeOver 39 = .ok (.getfield 25, 3) := by decide +kernel
theorem dX1_takeOver_42 : decode cX1_takeOver 42 = .ok (.aload_n 0, 1) := by decide +kernel
theorem dX1_takeOver_43 : decode cX1_takeOver 43 = .ok (.getfield 25, 3) := by decide +kernel
theorem dX1_takeOver_46 : decode cX1_takeOver 46 = .ok (.invokestatic 49, 3) := by decide +kernel
theorem dX1_takeOver_49 : decode cX1_takeOver 49 = .ok (.aload_n 1, 1) := by decide +kernel
theorem dX1_takeOver_50 : decode cX1_takeOver 50 = .ok (.getfield 28, 3) := by decide +kernel
theorem dX1_takeOver_53 : decode cX1_takeOver 53 = .ok (.aload_n 0, 1) := by decide +kernel
theorem dX1_takeOver_54 : decode cX1_takeOver 54 = .ok (.getfield 28, 3) := by decide +kernel
theorem dX1_takeOver_57 : decode cX1_takeOver 57 = .ok (.invokestatic 49, 3) := by decide +kernel
theorem dX1_takeOver_60 : decode cX1_takeOver 60 = .ok (.aload_n 1, 1) := by decide +kernel
theorem dX1_takeOver_61 : decode cX1_takeOver 61 = .ok (.getfield 31, 3) := by decide +kernel
theorem dX1_takeOver_64 : decode cX1_takeOver 64 = .ok (.aload_n 0, 1) := by decide +kernel
theorem dX1_takeOver_65 : decode cX1_takeOver 65 = .ok (.getfield 31, 3) := by decide +kernel
theorem dX1_takeOver_68 : decode cX1_takeOver 68 = .ok (.invokestatic 49, 3) := by decide +kernel
theorem dX1_takeOver_71 : decode cX1_takeOver 71 = .ok (.aload_n 1, 1) := by decide +kernel
theorem dX1_takeOver_72 : decode cX1_takeOver 72 = .ok (.getfield 34, 3) := by decide +kernel
theorem dX1_takeOver_75 : decode cX1_takeOver 75 = .ok (.aload_n 0, 1) := by decide +kernel
theorem dX1_takeOver_76 : decode cX1_takeOver 76 = .ok (.getfield 34, 3) := by decide +kernel
theorem dX1_takeOver_79 : decode cX1_takeOver 79 = .ok (.invokestatic 49, 3) := by decide +kernel
theorem dX1_takeOver_82 : decode cX1_takeOver 82 = .ok (.aload_n 1, 1) := by decide +kernel
theorem dX1_takeOver_83 : decode cX1_takeOver 83 = .ok (.getfield 37, 3) := by decide +kernel
theorem dX1_takeOver_86 : decode cX1_takeOver 86 = .ok (.aload_n 0, 1) := by decide +kernel
theorem dX1_takeOver_87 : decode cX1_takeOver 87 = .ok (.getfield 37, 3) := by decide +kernel
theorem dX1_takeOver_90 : decode cX1_takeOver 90 = .ok (.invokestatic 49, 3) := by decide +kernel
theorem dX1_takeOver_93 : decode cX1_takeOver 93 = .ok (.return_, 1) := by decide +kernel
theorem dX1_close_0 : decode cX1_close 0 = .ok (.aload_n 0, 1) := by decide +kernel
theorem dX1_close_1 : decode cX1_close 1 = .ok (.getfield 40, 3) := by decide +kernel
theorem dX1_close_4 : decode cX1_close 4 = .ok (.iconst 0, 1) := by decide +kernel
theorem dX1_close_5 : decode cX1_close 5 = .ok (.invokestatic 53, 3) := by decide +kernel
theorem dX1_close_8 : decode cX1_close 8 = .ok (.aload_n 0, 1) := by decide +kernel
theorem dX1_close_9 : decode cX1_close 9 = .ok (.aload_n 2, 1) := by decide +kernel
theorem dX1_close_10 : decode cX1_close 10 = .ok (.invokevirtual 59, 3) := by decide +kernel
theorem dX1_close_13 : decode cX1_close 13 = .ok (.iconst 0, 1) := by decide +kernel
theorem dX1_close_14 : decode cX1_close 14 = .ok (.istore 5, 2) := by decide +kernel
theorem dX1_close_16 : decode cX1_close 16 = .ok (.iload 5, 2) := by decide +kernel
theorem dX1_close_18 : decode cX1_close 18 = .ok (.iconst 4, 1) := by decide +kernel
theorem dX1_close_19 : decode cX1_close 19 = .ok (.if_icmp .ge 84, 3) := by decide +kernel
theorem dX1_close_22 : decode cX1_close 22 = .ok (.aload_n 0, 1) := by decide +kernel
theorem dX1_close_23 : decode cX1_close 23 = .ok (.iload 5, 2) := by decide +kernel
theorem dX1_close_25 : decode cX1_close 25 = .ok (.aload_n 2, 1) := by decide +kernel
theorem dX1_close_26 : decode cX1_close 26 = .ok (.aload_n 3, 1) := by decide +kernel
theorem dX1_close_27 : decode cX1_close 27 = .ok (.invokevirtual 63, 3) := by decide +kernel
theorem dX1_close_30 : decode cX1_close 30 = .ok (.iload_n 1, 1) := by decide +kernel
theorem dX1_close_31 : decode cX1_close 31 = .ok (.ifCond .ne 36, 3) := by decide +kernel
theorem dX1_close_34 : decode cX1_close 34 = .ok (.aload_n 0, 1) := by decide +kernel
theorem dX1_close_35 : decode cX1_close 35 = .ok (.getfield 18, 3) := by decide +kernel
theorem dX1_close_38 : decode cX1_close 38 = .ok (.iload 5, 2) := by decide +kernel
theorem dX1_close_40 : decode cX1_close 40 = .ok (.aload_n 0, 1) := by decide +kernel
theorem dX1_close_41 : decode cX1_close 41 = .ok (.aload_n 0, 1) := by decide +kernel
theorem dX1_close_42 : decode cX1_close 42 = .ok (.getfield 18, 3) := by decide +kernel
theorem dX1_close_45 : decode cX1_close 45 = .ok (.iload 5, 2) := by decide +kernel
theorem dX1_close_47 : decode cX1_close 47 = .ok (.iaload, 1) := by decide +kernel
theorem dX1_close_48 : decode cX1_close 48 = .ok (.aload_n 0, 1) := by decide +kernel
theorem dX1_close_49 : decode cX1_close 49 = .ok (.iload 5, 2) := by decide +kernel
theorem dX1_close_51 : decode cX1_close 51 = .ok (.aload_n 2, 1) := by decide +kernel
theorem dX1_close_52 : decode cX1_close 52 = .ok (.invokevirtual 67, 3) := by decide +kernel
theorem dX1_close_55 : decode cX1_close 55 = .ok (.iadd, 1) := by decide +kernel
theorem dX1_close_56 : decode cX1_close 56 = .ok (.aload_n 0, 1) := by decide +kernel
theorem dX1_close_57 : decode cX1_close 57 = .ok (.getfield 43, 3) := by decide +kernel
theorem dX1_close_60 : decode cX1_close 60 = .ok (.invokevirtual 71, 3) := by decide +kernel
theorem dX1_close_63 : decode cX1_close 63 = .ok (.iastore, 1) := by decide +kernel
theorem dX1_close_64 : decode cX1_close 64 = .ok (.goto 33, 3) := by decide +kernel
theorem dX1_close_67 : decode cX1_close 67 = .ok (.aload_n 0, 1) := by decide +kernel
theorem dX1_close_68 : decode cX1_close 68 = .ok (.getfield 18, 3) := by decide +kernel
theorem dX1_close_71 : decode cX1_close 71 = .ok (.iload 5, 2) := by decide +kernel
theorem dX1_close_73 : decode cX1_close 73 = .ok (.aload_n 0, 1) := by decide +kernel
theorem dX1_close_74 : decode cX1_close 74 = .ok (.aload_n 0, 1) := by decide +kernel
theorem dX1_close_75 : decode cX1_close 75 = .ok (.getfield 18, 3) := by decide +kernel
theorem dX1_close_78 : decode cX1_close 78 = .ok (.iload 5, 2) := by decide +kernel
theorem dX1_close_80 : decode cX1_close 80 = .ok (.iaload, 1) := by decide +kernel
theorem dX1_close_81 : decode cX1_close 81 = .ok (.aload_n 0, 1) := by decide +kernel
theorem dX1_close_82 : decode cX1_close 82 = .ok (.getfield 43, 3) := by decide +kernel
theorem dX1_close_85 : decode cX1_close 85 = .ok (.invokevirtual 71, 3) := by decide +kernel
theorem dX1_close_88 : decode cX1_close 88 = .ok (.iastore, 1) := by decide +kernel
theorem dX1_close_89 : decode cX1_close 89 = .ok (.aload_n 0, 1) := by decide +kernel
theorem dX1_close_90 : decode cX1_close 90 = .ok (.iload 5, 2) := by decide +kernel
theorem dX1_close_92 : decode cX1_close 92 = .ok (.aload_n 2, 1) := by decide +kernel
theorem dX1_close_93 : decode cX1_close 93 = .ok (.aload_n 3, 1) := by decide +kernel
theorem dX1_close_94 : decode cX1_close 94 = .ok (.invokevirtual 75, 3) := by decide +kernel
theorem dX1_close_97 : decode cX1_close 97 = .ok (.iinc 5 1, 3) := by decide +kernel
theorem dX1_close_100 : decode cX1_close 100 = .ok (.goto (-84), 3) := by decide +kernel
theorem dX1_close_103 : decode cX1_close 103 = .ok (.iconst 0, 1) := by decide +kernel
theorem dX1_close_104 : decode cX1_close 104 = .ok (.istore 5, 2) := by decide +kernel
theorem dX1_close_106 : decode cX1_close 106 = .ok (.iload 5, 2) := by decide +kernel
theorem dX1_close_108 : decode cX1_close 108 = .ok (.bipush 10, 2) := by decide +kernel
theorem dX1_close_110 : decode cX1_close 110 = .ok (.if_icmp .ge 34, 3) := by decide +kernel
theorem dX1_close_113 : decode cX1_close 113 = .ok (.aload_n 0, 1) := by decide +kernel
theorem dX1_close_114 : decode cX1_close 114 = .ok (.getfield 22, 3) := by decide +kernel
theorem dX1_close_117 : decode cX1_close 117 = .ok (.iload 5, 2) := by decide +kernel
theorem dX1_close_119 : decode cX1_close 119 = .ok (.dup2, 1) := by decide +kernel
theorem dX1_close_120 : decode cX1_close 120 = .ok (.iaload, 1) := by decide +kernel
theorem dX1_close_121 : decode cX1_close 121 = .ok (.aload_n 0, 1) := by decide +kernel
theorem dX1_close_122 : decode cX1_close 122 = .ok (.getfield 40, 3) := by decide +kernel
theorem dX1_close_125 : decode cX1_close 125 = .ok (.iload 5, 2) := by decide +kernel
theorem dX1_close_127 : decode cX1_close 127 = .ok (.iaload, 1) := by decide +kernel
theorem dX1_close_128 : decode cX1_close 128 = .ok (.iadd, 1) := by decide +kernel
theorem dX1_close_129 : decode cX1_close 129 = .ok (.iastore, 1) := by decide +kernel
theorem dX1_close_130 : decode cX1_close 130 = .ok (.aload_n 0, 1) := by decide +kernel
theorem dX1_close_131 : decode cX1_close 131 = .ok (.iload 5, 2) := by decide +kernel
theorem dX1_close_133 : decode cX1_close 133 = .ok (.aload 4, 2) := by decide +kernel
theorem dX1_close_135 : decode cX1_close 135 = .ok (.invokevirtual 78, 3) := by decide +kernel
theorem dX1_close_138 : decode cX1_close 138 = .ok (.iinc 5 1, 3) := by decide +kernel
theorem dX1_close_141 : decode cX1_close 141 = .ok (.goto (-35), 3) := by decide +kernel
theorem dX1_close_144 : decode cX1_close 144 = .ok (.iconst 0, 1) := by decide +kernel
theorem dX1_close_145 : decode cX1_close 145 = .ok (.istore 5, 2) := by decide +kernel
theorem dX1_close_147 : decode cX1_close 147 = .ok (.iload 5, 2) := by decide +kernel
theorem dX1_close_149 : decode cX1_close 149 = .ok (.iconst 5, 1) := by decide +kernel
theorem dX1_close_150 : decode cX1_close 150 = .ok (.if_icmp .ge 21, 3) := by decide +kernel
theorem dX1_close_153 : decode cX1_close 153 = .ok (.aload_n 0, 1) := by decide +kernel
theorem dX1_close_154 : decode cX1_close 154 = .ok (.iload 5, 2) := by decide +kernel
theorem dX1_close_156 : decode cX1_close 156 = .ok (.invokevirtual 82, 3) := by decide +kernel
theorem dX1_close_159 : decode cX1_close 159 = .ok (.aload_n 0, 1) := by decide +kernel
theorem dX1_close_160 : decode cX1_close 160 = .ok (.iload 5, 2) := by decide +kernel
theorem dX1_close_162 : decode cX1_close 162 = .ok (.invokevirtual 86, 3) := by decide +kernel
theorem dX1_close_165 : decode cX1_close 165 = .ok (.iinc 5 1, 3) := by decide +kernel
theorem dX1_close_168 : decode cX1_close 168 = .ok (.goto (-21), 3) := by decide +kernel
theorem dX1_close_171 : decode cX1_close 171 = .ok (.return_, 1) := by decide +kernel
theorem dX1_takeHouseParts_0 : decode cX1_takeHouseParts 0 = .ok (.iconst 0, 1) := by decide +kernel
theorem dX1_takeHouseParts_1 : decode cX1_takeHouseParts 1 = .ok (.istore_n 2, 1) := by decide +kernel
theorem dX1_takeHouseParts_2 : decode cX1_takeHouseParts 2 = .ok (.iload_n 2, 1) := by decide +kernel
theorem dX1_takeHouseParts_3 : decode cX1_takeHouseParts 3 = .ok (.aload_n 1, 1) := by decide +kernel
theorem dX1_takeHouseParts_4 : decode cX1_takeHouseParts 4 = .ok (.getfield 89, 3) := by decide +kernel
theorem dX1_takeHouseParts_7 : decode cX1_takeHouseParts 7 = .ok (.if_icmp .ge 29, 3) := by decide +kernel
theorem dX1_takeHouseParts_10 : decode cX1_takeHouseParts 10 = .ok (.aload_n 0, 1) := by decide +kernel
theorem dX1_takeHouseParts_11 : decode cX1_takeHouseParts 11 = .ok (.dup, 1) := by decide +kernel
theorem dX1_takeHouseParts_12 : decode cX1_takeHouseParts 12 = .ok (.getfield 9, 3) := by decide +kernel
theorem dX1_takeHouseParts_15 : decode cX1_takeHouseParts 15 = .ok (.aload_n 1, 1) := by decide +kernel
theorem dX1_takeHouseParts_16 : decode cX1_takeHouseParts 16 = .ok (.iload_n 2, 1) := by decide +kernel
theorem dX1_takeHouseParts_17 : decode cX1_takeHouseParts 17 = .ok (.invokevirtual 94, 3) := by decide +kernel
theorem dX1_takeHouseParts_20 : decode cX1_takeHouseParts 20 = .ok (.aload_n 1, 1) := by decide +kernel
theorem dX1_takeHouseParts_21 : decode cX1_takeHouseParts 21 = .ok (.iload_n 2, 1) := by decide +kernel
theorem dX1_takeHouseParts_22 : decode cX1_takeHouseParts 22 = .ok (.invokevirtual 98, 3) := by decide +kernel
theorem dX1_takeHouseParts_25 : decode cX1_takeHouseParts 25 = .ok (.isub, 1) := by decide +kernel
theorem dX1_takeHouseParts_26 : decode cX1_takeHouseParts 26 = .ok (.iadd, 1) := by decide +kernel
theorem dX1_takeHouseParts_27 : decode cX1_takeHouseParts 27 = .ok (.putfield 9, 3) := by decide +kernel
theorem dX1_takeHouseParts_30 : decode cX1_takeHouseParts 30 = .ok (.iinc 2 1, 3) := by decide +kernel
theorem dX1_takeHouseParts_33 : decode cX1_takeHouseParts 33 = .ok (.goto (-31), 3) := by decide +kernel
theorem dX1_takeHouseParts_36 : decode cX1_takeHouseParts 36 = .ok (.return_, 1) := by decide +kernel
theorem dX1_weighLand_0 : decode cX1_weighLand 0 = .ok (.aload_n 0, 1) := by decide +kernel
theorem dX1_weighLand_1 : decode cX1_weighLand 1 = .ok (.getfield 43, 3) := by decide +kernel
theorem dX1_weighLand_4 : decode cX1_weighLand 4 = .ok (.iconst 0, 1) := by decide +kernel
theorem dX1_weighLand_5 : decode cX1_weighLand 5 = .ok (.invokestatic 53, 3) := by decide +kernel
theorem dX1_weighLand_8 : decode cX1_weighLand 8 = .ok (.iconst 0, 1) := by decide +kernel
theorem dX1_weighLand_9 : decode cX1_weighLand 9 = .ok (.istore 4, 2) := by decide +kernel
theorem dX1_weighLand_11 : decode cX1_weighLand 11 = .ok (.iload 4, 2) := by decide +kernel
theorem dX1_weighLand_13 : decode cX1_weighLand 13 = .ok (.aload_n 2, 1) := by decide +kernel
theorem dX1_weighLand_14 : decode cX1_weighLand 14 = .ok (.getfield 89, 3) := by decide +kernel
theorem dX1_weighLand_17 : decode cX1_weighLand 17 = .ok (.if_icmp .ge 35, 3) := by decide +kernel
theorem dX1_weighLand_20 : decode cX1_weighLand 20 = .ok (.aload_n 2, 1) := by decide +kernel
theorem dX1_weighLand_21 : decode cX1_weighLand 21 = .ok (.getfield 101, 3) := by decide +kernel
theorem dX1_weighLand_24 : decode cX1_weighLand 24 = .ok (.iload 4, 2) := by decide +kernel
theorem dX1_weighLand_26 : decode cX1_weighLand 26 = .ok (.iaload, 1) := by decide +kernel
theorem dX1_weighLand_27 : decode cX1_weighLand 27 = .ok (.iload_n 1, 1) := by decide +kernel
theorem dX1_weighLand_28 : decode cX1_weighLand 28 = .ok (.if_icmp .ne 18, 3) := by decide +kernel
theorem dX1_weighLand_31 : decode cX1_weighLand 31 = .ok (.aload_n 0, 1) := by decide +kernel
theorem dX1_weighLand_32 : decode cX1_weighLand 32 = .ok (.getfield 43, 3) := by decide +kernel
theorem dX1_weighLand_35 : decode cX1_weighLand 35 = .ok (.aload_n 3, 1) := by decide +kernel
theorem dX1_weighLand_36 : decode cX1_weighLand 36 = .ok (.getfield 104, 3) := by decide +kernel
theorem dX1_weighLand_39 : decode cX1_weighLand 39 = .ok (.iload 4, 2) := by decide +kernel
theorem dX1_weighLand_41 : decode cX1_weighLand 41 = .ok (.aaload, 1) := by decide +kernel
theorem dX1_weighLand_42 : decode cX1_weighLand 42 = .ok (.iconst 1, 1) := by decide +kernel
theorem dX1_weighLand_43 : decode cX1_weighLand 43 = .ok (.invokestatic 110, 3) := by decide +kernel
theorem dX1_weighLand_46 : decode cX1_weighLand 46 = .ok (.iinc 4 1, 3) := by decide +kernel
theorem dX1_weighLand_49 : decode cX1_weighLand 49 = .ok (.goto (-38), 3) := by decide +kernel
theorem dX1_weighLand_52 : decode cX1_weighLand 52 = .ok (.return_, 1) := by decide +kernel
theorem dX1_poolOf_0 : decode cX1_poolOf 0 = .ok (.iconst 0, 1) := by decide +kernel
theorem dX1_poolOf_1 : decode cX1_poolOf 1 = .ok (.istore_n 3, 1) := by decide +kernel
theorem dX1_poolOf_2 : decode cX1_poolOf 2 = .ok (.iconst 0, 1) := by decide +kernel
theorem dX1_poolOf_3 : decode cX1_poolOf 3 = .ok (.istore 4, 2) := by decide +kernel
theorem dX1_poolOf_5 : decode cX1_poolOf 5 = .ok (.iload 4, 2) := by decide +kernel
theorem dX1_poolOf_7 : decode cX1_poolOf 7 = .ok (.aload_n 2, 1) := by decide +kernel
theorem dX1_poolOf_8 : decode cX1_poolOf 8 = .ok (.getfield 89, 3) := by decide +kernel
theorem dX1_poolOf_11 : decode cX1_poolOf 11 = .ok (.if_icmp .ge 29, 3) := by decide +kernel
theorem dX1_poolOf_14 : decode cX1_poolOf 14 = .ok (.aload_n 2, 1) := by decide +kernel
theorem dX1_poolOf_15 : decode cX1_poolOf 15 = .ok (.getfield 101, 3) := by decide +kernel
theorem dX1_poolOf_18 : decode cX1_poolOf 18 = .ok (.iload 4, 2) := by decide +kernel
theorem dX1_poolOf_20 : decode cX1_poolOf 20 = .ok (.iaload, 1) := by decide +kernel
theorem dX1_poolOf_21 : decode cX1_poolOf 21 = .ok (.iload_n 1, 1) := by decide +kernel
theorem dX1_poolOf_22 : decode cX1_poolOf 22 = .ok (.if_icmp .ne 12, 3) := by decide +kernel
theorem dX1_poolOf_25 : decode cX1_poolOf 25 = .ok (.iload_n 3, 1) := by decide +kernel
theorem dX1_poolOf_26 : decode cX1_poolOf 26 = .ok (.aload_n 2, 1) := by decide +kernel
theorem dX1_poolOf_27 : decode cX1_poolOf 27 = .ok (.iload 4, 2) := by decide +kernel
theorem dX1_poolOf_29 : decode cX1_poolOf 29 = .ok (.invokevirtual 98, 3) := by decide +kernel
theorem dX1_poolOf_32 : decode cX1_poolOf 32 = .ok (.iadd, 1) := by decide +kernel
theorem dX1_poolOf_33 : decode cX1_poolOf 33 = .ok (.istore_n 3, 1) := by decide +kernel
theorem dX1_poolOf_34 : decode cX1_poolOf 34 = .ok (.iinc 4 1, 3) := by decide +kernel
theorem dX1_poolOf_37 : decode cX1_poolOf 37 = .ok (.goto (-32), 3) := by decide +kernel
theorem dX1_poolOf_40 : decode cX1_poolOf 40 = .ok (.iload_n 3, 1) := by decide +kernel
theorem dX1_poolOf_41 : decode cX1_poolOf 41 = .ok (.ireturn, 1) := by decide +kernel
theorem dX1_splitByListener_0 : decode cX1_splitByListener 0 = .ok (.iconst 0, 1) := by decide +kernel
theorem dX1_splitByListener_1 : decode cX1_splitByListener 1 = .ok (.istore 4, 2) := by decide +kernel
theorem dX1_splitByListener_3 : decode cX1_splitByListener 3 = .ok (.iload 4, 2) := by decide +kernel
theorem dX1_splitByListener_5 : decode cX1_splitByListener 5 = .ok (.aload_n 2, 1) := by decide +kernel
theorem dX1_splitByListener_6 : decode cX1_splitByListener 6 = .ok (.getfield 89, 3) := by decide +kernel
theorem dX1_splitByListener_9 : decode cX1_splitByListener 9 = .ok (.if_icmp .ge 46, 3) := by decide +kernel
theorem dX1_splitByListener_12 : decode cX1_splitByListener 12 = .ok (.aload_n 2, 1) := by decide +kernel
theorem dX1_splitByListener_13 : decode cX1_splitByListener 13 = .ok (.getfield 101, 3) := by decide +kernel
theorem dX1_splitByListener_16 : decode cX1_splitByListener 16 = .ok (.iload 4, 2) := by decide +kernel
theorem dX1_splitByListener_18 : decode cX1_splitByListener 18 = .ok (.iaload, 1) := by decide +kernel
theorem dX1_splitByListener_19 : decode cX1_splitByListener 19 = .ok (.iload_n 1, 1) := by decide +kernel
theorem dX1_splitByListener_20 : decode cX1_splitByListener 20 = .ok (.if_icmp .ne 29, 3) := by decide +kernel
theorem dX1_splitByListener_23 : decode cX1_splitByListener 23 = .ok (.aload_n 0, 1) := by decide +kernel
theorem dX1_splitByListener_24 : decode cX1_splitByListener 24 = .ok (.getfield 18, 3) := by decide +kernel
theorem dX1_splitByListener_27 : decode cX1_splitByListener 27 = .ok (.iload_n 1, 1) := by decide +kernel
theorem dX1_splitByListener_28 : decode cX1_splitByListener 28 = .ok (.dup2, 1) := by decide +kernel
theorem dX1_splitByListener_29 : decode cX1_splitByListener 29 = .ok (.iaload, 1) := by decide +kernel
theorem dX1_splitByListener_30 : decode cX1_splitByListener 30 = .ok (.aload_n 0, 1) := by decide +kernel
theorem dX1_splitByListener_31 : decode cX1_splitByListener 31 = .ok (.aload_n 2, 1) := by decide +kernel
theorem dX1_splitByListener_32 : decode cX1_splitByListener 32 = .ok (.iload 4, 2) := by decide +kernel
theorem dX1_splitByListener_34 : decode cX1_splitByListener 34 = .ok (.invokevirtual 98, 3) := by decide +kernel
theorem dX1_splitByListener_37 : decode cX1_splitByListener 37 = .ok (.aload_n 3, 1) := by decide +kernel
theorem dX1_splitByListener_38 : decode cX1_splitByListener 38 = .ok (.getfield 104, 3) := by decide +kernel
theorem dX1_splitByListener_41 : decode cX1_splitByListener 41 = .ok (.iload 4, 2) := by decide +kernel
theorem dX1_splitByListener_43 : decode cX1_splitByListener 43 = .ok (.aaload, 1) := by decide +kernel
theorem dX1_splitByListener_44 : decode cX1_splitByListener 44 = .ok (.invokevirtual 71, 3) := by decide +kernel
theorem dX1_splitByListener_47 : decode cX1_splitByListener 47 = .ok (.iadd, 1) := by decide +kernel
theorem dX1_splitByListener_48 : decode cX1_splitByListener 48 = .ok (.iastore, 1) := by decide +kernel
theorem dX1_splitByListener_49 : decode cX1_splitByListener 49 = .ok (.iinc 4 1, 3) := by decide +kernel
theorem dX1_splitByListener_52 : decode cX1_splitByListener 52 = .ok (.goto (-49), 3) := by decide +kernel
theorem dX1_splitByListener_55 : decode cX1_splitByListener 55 = .ok (.return_, 1) := by decide +kernel
theorem dX1_split_0 : decode cX1_split 0 = .ok (.aload_n 2, 1) := by decide +kernel
theorem dX1_split_1 : decode cX1_split 1 = .ok (.invokestatic 114, 3) := by decide +kernel
theorem dX1_split_4 : decode cX1_split 4 = .ok (.istore_n 3, 1) := by decide +kernel
theorem dX1_split_5 : decode cX1_split 5 = .ok (.iload_n 3, 1) := by decide +kernel
theorem dX1_split_6 : decode cX1_split 6 = .ok (.ifCond .gt 5, 3) := by decide +kernel
theorem dX1_split_9 : decode cX1_split 9 = .ok (.iload_n 1, 1) := by decide +kernel
theorem dX1_split_10 : decode cX1_split 10 = .ok (.ireturn, 1) := by decide +kernel
theorem dX1_split_11 : decode cX1_split 11 = .ok (.iload_n 1, 1) := by decide +kernel
theorem dX1_split_12 : decode cX1_split 12 = .ok (.istore 4, 2) := by decide +kernel
theorem dX1_split_14 : decode cX1_split 14 = .ok (.iconst 0, 1) := by decide +kernel
theorem dX1_split_15 : decode cX1_split 15 = .ok (.istore 5, 2) := by decide +kernel
theorem dX1_split_17 : decode cX1_split 17 = .ok (.iload 5, 2) := by decide +kernel
theorem dX1_split_19 : decode cX1_split 19 = .ok (.bipush 10, 2) := by decide +kernel
theorem dX1_split_21 : decode cX1_split 21 = .ok (.if_icmp .ge 51, 3) := by decide +kernel
theorem dX1_split_24 : decode cX1_split 24 = .ok (.iload_n 1, 1) := by decide +kernel
theorem dX1_split_25 : decode cX1_split 25 = .ok (.aload_n 2, 1) := by decide +kernel
theorem dX1_split_26 : decode cX1_split 26 = .ok (.iload 5, 2) := by decide +kernel
theorem dX1_split_28 : decode cX1_split 28 = .ok (.iaload, 1) := by decide +kernel
theorem dX1_split_29 : decode cX1_split 29 = .ok (.imul, 1) := by decide +kernel
theorem dX1_split_30 : decode cX1_split 30 = .ok (.istore 6, 2) := by decide +kernel
theorem dX1_split_32 : decode cX1_split 32 = .ok (.aload_n 0, 1) := by decide +kernel
theorem dX1_split_33 : decode cX1_split 33 = .ok (.getfield 40, 3) := by decide +kernel
theorem dX1_split_36 : decode cX1_split 36 = .ok (.iload 5, 2) := by decide +kernel
theorem dX1_split_38 : decode cX1_split 38 = .ok (.dup2, 1) := by decide +kernel
theorem dX1_split_39 : decode cX1_split 39 = .ok (.iaload, 1) := by decide +kernel
theorem dX1_split_40 : decode cX1_split 40 = .ok (.iload 6, 2) := by decide +kernel
theorem dX1_split_42 : decode cX1_split 42 = .ok (.iload_n 3, 1) := by decide +kernel
theorem dX1_split_43 : decode cX1_split 43 = .ok (.idiv, 1) := by decide +kernel
theorem dX1_split_44 : decode cX1_split 44 = .ok (.iadd, 1) := by decide +kernel
theorem dX1_split_45 : decode cX1_split 45 = .ok (.iastore, 1) := by decide +kernel
theorem dX1_split_46 : decode cX1_split 46 = .ok (.aload_n 0, 1) := by decide +kernel
theorem dX1_split_47 : decode cX1_split 47 = .ok (.getfield 46, 3) := by decide +kernel
theorem dX1_split_50 : decode cX1_split 50 = .ok (.iload 5, 2) := by decide +kernel
theorem dX1_split_52 : decode cX1_split 52 = .ok (.iload 6, 2) := by decide +kernel
theorem dX1_split_54 : decode cX1_split 54 = .ok (.iload_n 3, 1) := by decide +kernel
theorem dX1_split_55 : decode cX1_split 55 = .ok (.irem, 1) := by decide +kernel
theorem dX1_split_56 : decode cX1_split 56 = .ok (.iastore, 1) := by decide +kernel
theorem dX1_split_57 : decode cX1_split 57 = .ok (.iload 4, 2) := by decide +kernel
theorem dX1_split_59 : decode cX1_split 59 = .ok (.iload 6, 2) := by decide +kernel
theorem dX1_split_61 : decode cX1_split 61 = .ok (.iload_n 3, 1) := by decide +kernel
theorem dX1_split_62 : decode cX1_split 62 = .ok (.idiv, 1) := by decide +kernel
theorem dX1_split_63 : decode cX1_split 63 = .ok (.isub, 1) := by decide +kernel
theorem dX1_split_64 : decode cX1_split 64 = .ok (.istore 4, 2) := by decide +kernel
theorem dX1_split_66 : decode cX1_split 66 = .ok (.iinc 5 1, 3) := by decide +kernel
theorem dX1_split_69 : decode cX1_split 69 = .ok (.goto (-52), 3) := by decide +kernel
theorem dX1_split_72 : decode cX1_split 72 = .ok (.iconst 0, 1) := by decide +kernel
theorem dX1_split_73 : decode cX1_split 73 = .ok (.istore 5, 2) := by decide +kernel
theorem dX1_split_75 : decode cX1_split 75 = .ok (.iload 5, 2) := by decide +kernel
theorem dX1_split_77 : decode cX1_split 77 = .ok (.bipush 10, 2) := by decide +kernel
theorem dX1_split_79 : decode cX1_split 79 = .ok (.if_icmp .ge 34, 3) := by decide +kernel
theorem dX1_split_82 : decode cX1_split 82 = .ok (.aload_n 0, 1) := by decide +kernel
theorem dX1_split_83 : decode cX1_split 83 = .ok (.getfield 46, 3) := by decide +kernel
theorem dX1_split_86 : decode cX1_split 86 = .ok (.iload 5, 2) := by decide +kernel
theorem dX1_split_88 : decode cX1_split 88 = .ok (.invokestatic 118, 3) := by decide +kernel
theorem dX1_split_91 : decode cX1_split 91 = .ok (.iload 4, 2) := by decide +kernel
theorem dX1_split_93 : decode cX1_split 93 = .ok (.if_icmp .ge 14, 3) := by decide +kernel
theorem dX1_split_96 : decode cX1_split 96 = .ok (.aload_n 0, 1) := by decide +kernel
theorem dX1_split_97 : decode cX1_split 97 = .ok (.getfield 40, 3) := by decide +kernel
theorem dX1_split_100 : decode cX1_split 100 = .ok (.iload 5, 2) := by decide +kernel
theorem dX1_split_102 : decode cX1_split 102 = .ok (.dup2, 1) := by decide +kernel
theorem dX1_split_103 : decode cX1_split 103 = .ok (.iaload, 1) := by decide +kernel
theorem dX1_split_104 : decode cX1_split 104 = .ok (.iconst 1, 1) := by decide +kernel
theorem dX1_split_105 : decode cX1_split 105 = .ok (.iadd, 1) := by decide +kernel
theorem dX1_split_106 : decode cX1_split 106 = .ok (.iastore, 1) := by decide +kernel
theorem dX1_split_107 : decode cX1_split 107 = .ok (.iinc 5 1, 3) := by decide +kernel
theorem dX1_split_110 : decode cX1_split 110 = .ok (.goto (-35), 3) := by decide +kernel
theorem dX1_split_113 : decode cX1_split 113 = .ok (.iconst 0, 1) := by decide +kernel
theorem dX1_split_114 : decode cX1_split 114 = .ok (.ireturn, 1) := by decide +kernel
theorem dX1_share_0 : decode cX1_share 0 = .ok (.aload_n 0, 1) := by decide +kernel
theorem dX1_share_1 : decode cX1_share 1 = .ok (.getfield 40, 3) := by decide +kernel
theorem dX1_share_4 : decode cX1_share 4 = .ok (.iload_n 1, 1) := by decide +kernel
theorem dX1_share_5 : decode cX1_share 5 = .ok (.iaload, 1) := by decide +kernel
theorem dX1_share_6 : decode cX1_share 6 = .ok (.aload_n 0, 1) := by decide +kernel
theorem dX1_share_7 : decode cX1_share 7 = .ok (.getfield 25, 3) := by decide +kernel
theorem dX1_share_10 : decode cX1_share 10 = .ok (.iload_n 1, 1) := by decide +kernel
theorem dX1_share_11 : decode cX1_share 11 = .ok (.iaload, 1) := by decide +kernel
theorem dX1_share_12 : decode cX1_share 12 = .ok (.iadd, 1) := by decide +kernel
theorem dX1_share_13 : decode cX1_share 13 = .ok (.istore_n 3, 1) := by decide +kernel
theorem dX1_share_14 : decode cX1_share 14 = .ok (.aload_n 2, 1) := by decide +kernel
theorem dX1_share_15 : decode cX1_share 15 = .ok (.iload_n 1, 1) := by decide +kernel
theorem dX1_share_16 : decode cX1_share 16 = .ok (.invokevirtual 122, 3) := by decide +kernel
theorem dX1_share_19 : decode cX1_share 19 = .ok (.ifCond .eq 11, 3) := by decide +kernel
theorem dX1_share_22 : decode cX1_share 22 = .ok (.aload_n 0, 1) := by decide +kernel
theorem dX1_share_23 : decode cX1_share 23 = .ok (.getfield 25, 3) := by decide +kernel
theorem dX1_share_26 : decode cX1_share 26 = .ok (.iload_n 1, 1) := by decide +kernel
theorem dX1_share_27 : decode cX1_share 27 = .ok (.iload_n 3, 1) := by decide +kernel
theorem dX1_share_28 : decode cX1_share 28 = .ok (.iastore, 1) := by decide +kernel
theorem dX1_share_29 : decode cX1_share 29 = .ok (.return_, 1) := by decide +kernel
theorem dX1_share_30 : decode cX1_share 30 = .ok (.aload_n 0, 1) := by decide +kernel
theorem dX1_share_31 : decode cX1_share 31 = .ok (.getfield 25, 3) := by decide +kernel
theorem dX1_share_34 : decode cX1_share 34 = .ok (.iload_n 1, 1) := by decide +kernel
theorem dX1_share_35 : decode cX1_share 35 = .ok (.iconst 0, 1) := by decide +kernel
theorem dX1_share_36 : decode cX1_share 36 = .ok (.iastore, 1) := by decide +kernel
theorem dX1_share_37 : decode cX1_share 37 = .ok (.iload_n 3, 1) := by decide +kernel
theorem dX1_share_38 : decode cX1_share 38 = .ok (.istore 4, 2) := by decide +kernel
theorem dX1_share_40 : decode cX1_share 40 = .ok (.iconst 0, 1) := by decide +kernel
theorem dX1_share_41 : decode cX1_share 41 = .ok (.istore 5, 2) := by decide +kernel
theorem dX1_share_43 : decode cX1_share 43 = .ok (.iload 5, 2) := by decide +kernel
theorem dX1_share_45 : decode cX1_share 45 = .ok (.iconst 5, 1) := by decide +kernel
theorem dX1_share_46 : decode cX1_share 46 = .ok (.if_icmp .ge 44, 3) := by decide +kernel
theorem dX1_share_49 : decode cX1_share 49 = .ok (.iload_n 3, 1) := by decide +kernel
theorem dX1_share_50 : decode cX1_share 50 = .ok (.aload_n 2, 1) := by decide +kernel
theorem dX1_share_51 : decode cX1_share 51 = .ok (.getfield 128, 3) := by decide +kernel
theorem dX1_share_54 : decode cX1_share 54 = .ok (.iload_n 1, 1) := by decide +kernel
theorem dX1_share_55 : decode cX1_share 55 = .ok (.aaload, 1) := by decide +kernel
theorem dX1_share_56 : decode cX1_share 56 = .ok (.iload 5, 2) := by decide +kernel
theorem dX1_share_58 : decode cX1_share 58 = .ok (.iaload, 1) := by decide +kernel
theorem dX1_share_59 : decode cX1_share 59 = .ok (.imul, 1) := by decide +kernel
theorem dX1_share_60 : decode cX1_share 60 = .ok (.bipush 100, 2) := by decide +kernel
theorem dX1_share_62 : decode cX1_share 62 = .ok (.idiv, 1) := by decide +kernel
theorem dX1_share_63 : decode cX1_share 63 = .ok (.istore 6, 2) := by decide +kernel
theorem dX1_share_65 : decode cX1_share 65 = .ok (.aload_n 0, 1) := by decide +kernel
theorem dX1_share_66 : decode cX1_share 66 = .ok (.getfield 28, 3) := by decide +kernel
theorem dX1_share_69 : decode cX1_share 69 = .ok (.iload 5, 2) := by decide +kernel
theorem dX1_share_71 : decode cX1_share 71 = .ok (.dup2, 1) := by decide +kernel
theorem dX1_share_72 : decode cX1_share 72 = .ok (.iaload, 1) := by decide +kernel
theorem dX1_share_73 : decode cX1_share 73 = .ok (.iload 6, 2) := by decide +kernel
theorem dX1_share_75 : decode cX1_share 75 = .ok (.iadd, 1) := by decide +kernel
theorem dX1_share_76 : decode cX1_share 76 = .ok (.iastore, 1) := by decide +kernel
theorem dX1_share_77 : decode cX1_share 77 = .ok (.iload 4, 2) := by decide +kernel
theorem dX1_share_79 : decode cX1_share 79 = .ok (.iload 6, 2) := by decide +kernel
theorem dX1_share_81 : decode cX1_share 81 = .ok (.isub, 1) := by decide +kernel
theorem dX1_share_82 : decode cX1_share 82 = .ok (.istore 4, 2) := by decide +kernel
theorem dX1_share_84 : decode cX1_share 84 = .ok (.iinc 5 1, 3) := by decide +kernel
theorem dX1_share_87 : decode cX1_share 87 = .ok (.goto (-44), 3) := by decide +kernel
theorem dX1_share_90 : decode cX1_share 90 = .ok (.aload_n 0, 1) := by decide +kernel
theorem dX1_share_91 : decode cX1_share 91 = .ok (.dup, 1) := by decide +kernel
theorem dX1_share_92 : decode cX1_share 92 = .ok (.getfield 15, 3) := by decide +kernel
theorem dX1_share_95 : decode cX1_share 95 = .ok (.iload 4, 2) := by decide +kernel
theorem dX1_share_97 : decode cX1_share 97 = .ok (.iadd, 1) := by decide +kernel
theorem dX1_share_98 : decode cX1_share 98 = .ok (.putfield 15, 3) := by decide +kernel
theorem dX1_share_101 : decode cX1_share 101 = .ok (.return_, 1) := by decide +kernel
theorem dX1_recoup_0 : decode cX1_recoup 0 = .ok (.aload_n 0, 1) := by decide +kernel
theorem dX1_recoup_1 : decode cX1_recoup 1 = .ok (.getfield 28, 3) := by decide +kernel
theorem dX1_recoup_4 : decode cX1_recoup 4 = .ok (.iload_n 1, 1) := by decide +kernel
theorem dX1_recoup_5 : decode cX1_recoup 5 = .ok (.iaload, 1) := by decide +kernel
theorem dX1_recoup_6 : decode cX1_recoup 6 = .ok (.aload_n 0, 1) := by decide +kernel
theorem dX1_recoup_7 : decode cX1_recoup 7 = .ok (.getfield 34, 3) := by decide +kernel
theorem dX1_recoup_10 : decode cX1_recoup 10 = .ok (.iload_n 1, 1) := by decide +kernel
theorem dX1_recoup_11 : decode cX1_recoup 11 = .ok (.iaload, 1) := by decide +kernel
theorem dX1_recoup_12 : decode cX1_recoup 12 = .ok (.invokestatic 131, 3) := by decide +kernel
theorem dX1_recoup_15 : decode cX1_recoup 15 = .ok (.istore_n 2, 1) := by decide +kernel
theorem dX1_recoup_16 : decode cX1_recoup 16 = .ok (.aload_n 0, 1) := by decide +kernel
theorem dX1_recoup_17 : decode cX1_recoup 17 = .ok (.getfield 28, 3) := by decide +kernel
theorem dX1_recoup_20 : decode cX1_recoup 20 = .ok (.iload_n 1, 1) := by decide +kernel
theorem dX1_recoup_21 : decode cX1_recoup 21 = .ok (.dup2, 1) := by decide +kernel
theorem dX1_recoup_22 : decode cX1_recoup 22 = .ok (.iaload, 1) := by decide +kernel
theorem dX1_recoup_23 : decode cX1_recoup 23 = .ok (.iload_n 2, 1) := by decide +kernel
theorem dX1_recoup_24 : decode cX1_recoup 24 = .ok (.isub, 1) := by decide +kernel
theorem dX1_recoup_25 : decode cX1_recoup 25 = .ok (.iastore, 1) := by decide +kernel
theorem dX1_recoup_26 : decode cX1_recoup 26 = .ok (.aload_n 0, 1) := by decide +kernel
theorem dX1_recoup_27 : decode cX1_recoup 27 = .ok (.getfield 34, 3) := by decide +kernel
theorem dX1_recoup_30 : decode cX1_recoup 30 = .ok (.iload_n 1, 1) := by decide +kernel
theorem dX1_recoup_31 : decode cX1_recoup 31 = .ok (.dup2, 1) := by decide +kernel
theorem dX1_recoup_32 : decode cX1_recoup 32 = .ok (.iaload, 1) := by decide +kernel
theorem dX1_recoup_33 : decode cX1_recoup 33 = .ok (.iload_n 2, 1) := by decide +kernel
theorem dX1_recoup_34 : decode cX1_recoup 34 = .ok (.isub, 1) := by decide +kernel
theorem dX1_recoup_35 : decode cX1_recoup 35 = .ok (.iastore, 1) := by decide +kernel
theorem dX1_recoup_36 : decode cX1_recoup 36 = .ok (.aload_n 0, 1) := by decide +kernel
theorem dX1_recoup_37 : decode cX1_recoup 37 = .ok (.getfield 37, 3) := by decide +kernel
theorem dX1_recoup_40 : decode cX1_recoup 40 = .ok (.iload_n 1, 1) := by decide +kernel
theorem dX1_recoup_41 : decode cX1_recoup 41 = .ok (.dup2, 1) := by decide +kernel
theorem dX1_recoup_42 : decode cX1_recoup 42 = .ok (.iaload, 1) := by decide +kernel
theorem dX1_recoup_43 : decode cX1_recoup 43 = .ok (.iload_n 2, 1) := by decide +kernel
theorem dX1_recoup_44 : decode cX1_recoup 44 = .ok (.iadd, 1) := by decide +kernel
theorem dX1_recoup_45 : decode cX1_recoup 45 = .ok (.iastore, 1) := by decide +kernel
theorem dX1_recoup_46 : decode cX1_recoup 46 = .ok (.return_, 1) := by decide +kernel
theorem dX1_payOut_0 : decode cX1_payOut 0 = .ok (.aload_n 0, 1) := by decide +kernel
theorem dX1_payOut_1 : decode cX1_payOut 1 = .ok (.getfield 28, 3) := by decide +kernel
theorem dX1_payOut_4 : decode cX1_payOut 4 = .ok (.iload_n 1, 1) := by decide +kernel
theorem dX1_payOut_5 : decode cX1_payOut 5 = .ok (.iaload, 1) := by decide +kernel
theorem dX1_payOut_6 : decode cX1_payOut 6 = .ok (.sipush 500, 3) := by decide +kernel
theorem dX1_payOut_9 : decode cX1_payOut 9 = .ok (.if_icmp .lt 25, 3) := by decide +kernel
theorem dX1_payOut_12 : decode cX1_payOut 12 = .ok (.aload_n 0, 1) := by decide +kernel
theorem dX1_payOut_13 : decode cX1_payOut 13 = .ok (.getfield 31, 3) := by decide +kernel
theorem dX1_payOut_16 : decode cX1_payOut 16 = .ok (.iload_n 1, 1) := by decide +kernel
theorem dX1_payOut_17 : decode cX1_payOut 17 = .ok (.dup2, 1) := by decide +kernel
theorem dX1_payOut_18 : decode cX1_payOut 18 = .ok (.iaload, 1) := by decide +kernel
theorem dX1_payOut_19 : decode cX1_payOut 19 = .ok (.aload_n 0, 1) := by decide +kernel
theorem dX1_payOut_20 : decode cX1_payOut 20 = .ok (.getfield 28, 3) := by decide +kernel
theorem dX1_payOut_23 : decode cX1_payOut 23 = .ok (.iload_n 1, 1) := by decide +kernel
theorem dX1_payOut_24 : decode cX1_payOut 24 = .ok (.iaload, 1) := by decide +kernel
theorem dX1_payOut_25 : decode cX1_payOut 25 = .ok (.iadd, 1) := by decide +kernel
theorem dX1_payOut_26 : decode cX1_payOut 26 = .ok (.iastore, 1) := by decide +kernel
theorem dX1_payOut_27 : decode cX1_payOut 27 = .ok (.aload_n 0, 1) := by decide +kernel
theorem dX1_payOut_28 : decode cX1_payOut 28 = .ok (.getfield 28, 3) := by decide +kernel
theorem dX1_payOut_31 : decode cX1_payOut 31 = .ok (.iload_n 1, 1) := by decide +kernel
theorem dX1_payOut_32 : decode cX1_payOut 32 = .ok (.iconst 0, 1) := by decide +kernel
theorem dX1_payOut_33 : decode cX1_payOut 33 = .ok (.iastore, 1) := by decide +kernel
theorem dX1_payOut_34 : decode cX1_payOut 34 = .ok (.return_, 1) := by decide +kernel
theorem dX2_init_0 : decode cX2_init 0 = .ok (.aload_n 0, 1) := by decide +kernel
theorem dX2_init_1 : decode cX2_init 1 = .ok (.invokespecial 3, 3) := by decide +kernel
theorem dX2_init_4 : decode cX2_init 4 = .ok (.aload_n 0, 1) := by decide +kernel
theorem dX2_init_5 : decode cX2_init 5 = .ok (.iconst 0, 1) := by decide +kernel
theorem dX2_init_6 : decode cX2_init 6 = .ok (.putfield 9, 3) := by decide +kernel
theorem dX2_init_9 : decode cX2_init 9 = .ok (.aload_n 0, 1) := by decide +kernel
theorem dX2_init_10 : decode cX2_init 10 = .ok (.bipush 14, 2) := by decide +kernel
theorem dX2_init_12 : decode cX2_init 12 = .ok (.newarray .int, 2) := by decide +kernel
theorem dX2_init_14 : decode cX2_init 14 = .ok (.putfield 15, 3) := by decide +kernel
theorem dX2_init_17 : decode cX2_init 17 = .ok (.aload_n 0, 1) := by decide +kernel
theorem dX2_init_18 : decode cX2_init 18 = .ok (.bipush 14, 2) := by decide +kernel
theorem dX2_init_20 : decode cX2_init 20 = .ok (.newarray .int, 2) := by decide +kernel
theorem dX2_init_22 : decode cX2_init 22 = .ok (.putfield 19, 3) := by decide +kernel
theorem dX2_init_25 : decode cX2_init 25 = .ok (.aload_n 0, 1) := by decide +kernel
theorem dX2_init_26 : decode cX2_init 26 = .ok (.iconst 0, 1) := by decide +kernel
theorem dX2_init_27 : decode cX2_init 27 = .ok (.putfield 22, 3) := by decide +kernel
theorem dX2_init_30 : decode cX2_init 30 = .ok (.aload_n 0, 1) := by decide +kernel
theorem dX2_init_31 : decode cX2_init 31 = .ok (.bipush 30, 2) := by decide +kernel
theorem dX2_init_33 : decode cX2_init 33 = .ok (.newarray .int, 2) := by decide +kernel
theorem dX2_init_35 : decode cX2_init 35 = .ok (.putfield 25, 3) := by decide +kernel
theorem dX2_init_38 : decode cX2_init 38 = .ok (.aload_n 0, 1) := by decide +kernel
theorem dX2_init_39 : decode cX2_init 39 = .ok (.bipush 30, 2) := by decide +kernel
theorem dX2_init_41 : decode cX2_init 41 = .ok (.newarray .int, 2) := by decide +kernel
theorem dX2_init_43 : decode cX2_init 43 = .ok (.putfield 28, 3) := by decide +kernel
theorem dX2_init_46 : decode cX2_init 46 = .ok (.aload_n 0, 1) := by decide +kernel
theorem dX2_init_47 : decode cX2_init 47 = .ok (.bipush 30, 2) := by decide +kernel
theorem dX2_init_49 : decode cX2_init 49 = .ok (.newarray .int, 2) := by decide +kernel
theorem dX2_init_51 : decode cX2_init 51 = .ok (.putfield 31, 3) := by decide +kernel
theorem dX2_init_54 : decode cX2_init 54 = .ok (.aload_n 0, 1) := by decide +kernel
theorem dX2_init_55 : decode cX2_init 55 = .ok (.bipush 30, 2) := by decide +kernel
theorem dX2_init_57 : decode cX2_init 57 = .ok (.newarray .int, 2) := by decide +kernel
theorem dX2_init_59 : decode cX2_init 59 = .ok (.putfield 34, 3) := by decide +kernel
theorem dX2_init_62 : decode cX2_init 62 = .ok (.return_, 1) := by decide +kernel
theorem dX2_addTrack_0 : decode cX2_addTrack 0 = .ok (.aload_n 0, 1) := by decide +kernel
theorem dX2_addTrack_1 : decode cX2_addTrack 1 = .ok (.getfield 9, 3) := by decide +kernel
theorem dX2_addTrack_4 : decode cX2_addTrack 4 = .ok (.istore_n 2, 1) := by decide +kernel
theorem dX2_addTrack_5 : decode cX2_addTrack 5 = .ok (.iload_n 2, 1) := by decide +kernel
theorem dX2_addTrack_6 : decode cX2_addTrack 6 = .ok (.bipush 14, 2) := by decide +kernel
theorem dX2_addTrack_8 : decode cX2_addTrack 8 = .ok (.if_icmp .ge 27, 3) := by decide +kernel
theorem dX2_addTrack_11 : decode cX2_addTrack 11 = .ok (.aload_n 0, 1) := by decide +kernel
theorem dX2_addTrack_12 : decode cX2_addTrack 12 = .ok (.getfield 15, 3) := by decide +kernel
theorem dX2_addTrack_15 : decode cX2_addTrack 15 = .ok (.iload_n 2, 1) := by decide +kernel
theorem dX2_addTrack_16 : decode cX2_addTrack 16 = .ok (.iload_n 1, 1) := by decide +kernel
theorem dX2_addTrack_17 : decode cX2_addTrack 17 = .ok (.iastore, 1) := by decide +kernel
theorem dX2_addTrack_18 : decode cX2_addTrack 18 = .ok (.aload_n 0, 1) := by decide +kernel
theorem dX2_addTrack_19 : decode cX2_addTrack 19 = .ok (.getfield 19, 3) := by decide +kernel
theorem dX2_addTrack_22 : decode cX2_addTrack 22 = .ok (.iload_n 2, 1) := by decide +kernel
theorem dX2_addTrack_23 : decode cX2_addTrack 23 = .ok (.iconst (-1), 1) := by decide +kernel
theorem dX2_addTrack_24 : decode cX2_addTrack 24 = .ok (.iastore, 1) := by decide +kernel
theorem dX2_addTrack_25 : decode cX2_addTrack 25 = .ok (.aload_n 0, 1) := by decide +kernel
theorem dX2_addTrack_26 : decode cX2_addTrack 26 = .ok (.dup, 1) := by decide +kernel
theorem dX2_addTrack_27 : decode cX2_addTrack 27 = .ok (.getfield 9, 3) := by decide +kernel
theorem dX2_addTrack_30 : decode cX2_addTrack 30 = .ok (.iconst 1, 1) := by decide +kernel
theorem dX2_addTrack_31 : decode cX2_addTrack 31 = .ok (.iadd, 1) := by decide +kernel
theorem dX2_addTrack_32 : decode cX2_addTrack 32 = .ok (.putfield 9, 3) := by decide +kernel
theorem dX2_addTrack_35 : decode cX2_addTrack 35 = .ok (.iload_n 2, 1) := by decide +kernel
theorem dX2_addTrack_36 : decode cX2_addTrack 36 = .ok (.ireturn, 1) := by decide +kernel
theorem dX2_addWindow_0 : decode cX2_addWindow 0 = .ok (.aload_n 0, 1) := by decide +kernel
theorem dX2_addWindow_1 : decode cX2_addWindow 1 = .ok (.getfield 22, 3) := by decide +kernel
theorem dX2_addWindow_4 : decode cX2_addWindow 4 = .ok (.bipush 30, 2) := by decide +kernel
theorem dX2_addWindow_6 : decode cX2_addWindow 6 = .ok (.if_icmp .ge 54, 3) := by decide +kernel
theorem dX2_addWindow_9 : decode cX2_addWindow 9 = .ok (.aload_n 0, 1) := by decide +kernel
theorem dX2_addWindow_10 : decode cX2_addWindow 10 = .ok (.getfield 25, 3) := by decide +kernel
theorem dX2_addWindow_13 : decode cX2_addWindow 13 = .ok (.aload_n 0, 1) := by decide +kernel
theorem dX2_addWindow_14 : decode cX2_addWindow 14 = .ok (.getfield 22, 3) := by decide +kernel
theorem dX2_addWindow_17 : decode cX2_addWindow 17 = .ok (.iload_n 1, 1) := by decide +kernel
theorem dX2_addWindow_18 : decode cX2_addWindow 18 = .ok (.iastore, 1) := by decide +kernel
theorem dX2_addWindow_19 : decode cX2_addWindow 19 = .ok (.aload_n 0, 1) := by decide +kernel
theorem dX2_addWindow_20 : decode cX2_addWindow 20 = .ok (.getfield 28, 3) := by decide +kernel
theorem dX2_addWindow_23 : decode cX2_addWindow 23 = .ok (.aload_n 0, 1) := by decide +kernel
theorem dX2_addWindow_24 : decode cX2_addWindow 24 = .ok (.getfield 22, 3) := by decide +kernel
theorem dX2_addWindow_27 : decode cX2_addWindow 27 = .ok (.iload_n 2, 1) := by decide +kernel
theorem dX2_addWindow_28 : decode cX2_addWindow 28 = .ok (.iastore, 1) := by decide +kernel
theorem dX2_addWindow_29 : decode cX2_addWindow 29 = .ok (.aload_n 0, 1) := by decide +kernel
theorem dX2_addWindow_30 : decode cX2_addWindow 30 = .ok (.getfield 31, 3) := by decide +kernel
theorem dX2_addWindow_33 : decode cX2_addWindow 33 = .ok (.aload_n 0, 1) := by decide +kernel
theorem dX2_addWindow_34 : decode cX2_addWindow 34 = .ok (.getfield 22, 3) := by decide +kernel
theorem dX2_addWindow_37 : decode cX2_addWindow 37 = .ok (.iload_n 3, 1) := by decide +kernel
theorem dX2_addWindow_38 : decode cX2_addWindow 38 = .ok (.iastore, 1) := by decide +kernel
theorem dX2_addWindow_39 : decode cX2_addWindow 39 = .ok (.aload_n 0, 1) := by decide +kernel
theorem dX2_addWindow_40 : decode cX2_addWindow 40 = .ok (.getfield 34, 3) := by decide +kernel
theorem dX2_addWindow_43 : decode cX2_addWindow 43 = .ok (.aload_n 0, 1) := by decide +kernel
theorem dX2_addWindow_44 : decode cX2_addWindow 44 = .ok (.getfield 22, 3) := by decide +kernel
theorem dX2_addWindow_47 : decode cX2_addWindow 47 = .ok (.iload 4, 2) := by decide +kernel
theorem dX2_addWindow_49 : decode cX2_addWindow 49 = .ok (.iastore, 1) := by decide +kernel
theorem dX2_addWindow_50 : decode cX2_addWindow 50 = .ok (.aload_n 0, 1) := by decide +kernel
theorem dX2_addWindow_51 : decode cX2_addWindow 51 = .ok (.dup, 1) := by decide +kernel
theorem dX2_addWindow_52 : decode cX2_addWindow 52 = .ok (.getfield 22, 3) := by decide +kernel
theorem dX2_addWindow_55 : decode cX2_addWindow 55 = .ok (.iconst 1, 1) := by decide +kernel
theorem dX2_addWindow_56 : decode cX2_addWindow 56 = .ok (.iadd, 1) := by decide +kernel
theorem dX2_addWindow_57 : decode cX2_addWindow 57 = .ok (.putfield 22, 3) := by decide +kernel
theorem dX2_addWindow_60 : decode cX2_addWindow 60 = .ok (.return_, 1) := by decide +kernel
theorem dX2_isDown_0 : decode cX2_isDown 0 = .ok (.aload_n 0, 1) := by decide +kernel
theorem dX2_isDown_1 : decode cX2_isDown 1 = .ok (.getfield 19, 3) := by decide +kernel
theorem dX2_isDown_4 : decode cX2_isDown 4 = .ok (.iload_n 1, 1) := by decide +kernel
theorem dX2_isDown_5 : decode cX2_isDown 5 = .ok (.iaload, 1) := by decide +kernel
theorem dX2_isDown_6 : decode cX2_isDown 6 = .ok (.iconst (-1), 1) := by decide +kernel
theorem dX2_isDown_7 : decode cX2_isDown 7 = .ok (.if_icmp .eq 7, 3) := by decide +kernel
theorem dX2_isDown_10 : decode cX2_isDown 10 = .ok (.iconst 1, 1) := by decide +kernel
theorem dX2_isDown_11 : decode cX2_isDown 11 = .ok (.goto 4, 3) := by decide +kernel
theorem dX2_isDown_14 : decode cX2_isDown 14 = .ok (.iconst 0, 1) := by decide +kernel
theorem dX2_isDown_15 : decode cX2_isDown 15 = .ok (.ireturn, 1) := by decide +kernel
theorem dX2_isDownIn_0 : decode cX2_isDownIn 0 = .ok (.aload_n 0, 1) := by decide +kernel
theorem dX2_isDownIn_1 : decode cX2_isDownIn 1 = .ok (.iload_n 1, 1) := by decide +kernel
theorem dX2_isDownIn_2 : decode cX2_isDownIn 2 = .ok (.invokevirtual 37, 3) := by decide +kernel
theorem dX2_isDownIn_5 : decode cX2_isDownIn 5 = .ok (.ifCond .eq 17, 3) := by decide +kernel
theorem dX2_isDownIn_8 : decode cX2_isDownIn 8 = .ok (.aload_n 0, 1) := by decide +kernel
theorem dX2_isDownIn_9 : decode cX2_isDownIn 9 = .ok (.getfield 19, 3) := by decide +kernel
theorem dX2_isDownIn_12 : decode cX2_isDownIn 12 = .ok (.iload_n 1, 1) := by decide +kernel
theorem dX2_isDownIn_13 : decode cX2_isDownIn 13 = .ok (.iaload, 1) := by decide +kernel
theorem dX2_isDownIn_14 : decode cX2_isDownIn 14 = .ok (.iload_n 2, 1) := by decide +kernel
theorem dX2_isDownIn_15 : decode cX2_isDownIn 15 = .ok (.if_icmp .gt 7, 3) := by decide +kernel
theorem dX2_isDownIn_18 : decode cX2_isDownIn 18 = .ok (.iconst 1, 1) := by decide +kernel
theorem dX2_isDownIn_19 : decode cX2_isDownIn 19 = .ok (.goto 4, 3) := by decide +kernel
theorem dX2_isDownIn_22 : decode cX2_isDownIn 22 = .ok (.iconst 0, 1) := by decide +kernel
theorem dX2_isDownIn_23 : decode cX2_isDownIn 23 = .ok (.ireturn, 1) := by decide +kernel
theorem dX2_isAllowed_0 : decode cX2_isAllowed 0 = .ok (.iconst 0, 1) := by decide +kernel
theorem dX2_isAllowed_1 : decode cX2_isAllowed 1 = .ok (.istore 4, 2) := by decide +kernel
theorem dX2_isAllowed_3 : decode cX2_isAllowed 3 = .ok (.iload 4, 2) := by decide +kernel
theorem dX2_isAllowed_5 : decode cX2_isAllowed 5 = .ok (.aload_n 0, 1) := by decide +kernel
theorem dX2_isAllowed_6 : decode cX2_isAllowed 6 = .ok (.getfield 22, 3) := by decide +kernel
theorem dX2_isAllowed_9 : decode cX2_isAllowed 9 = .ok (.if_icmp .ge 55, 3) := by decide +kernel
theorem dX2_isAllowed_12 : decode cX2_isAllowed 12 = .ok (.aload_n 0, 1) := by decide +kernel
theorem dX2_isAllowed_13 : decode cX2_isAllowed 13 = .ok (.getfield 25, 3) := by decide +kernel
theorem dX2_isAllowed_16 : decode cX2_isAllowed 16 = .ok (.iload 4, 2) := by decide +kernel
theorem dX2_isAllowed_18 : decode cX2_isAllowed 18 = .ok (.iaload, 1) := by decide +kernel
theorem dX2_isAllowed_19 : decode cX2_isAllowed 19 = .ok (.iload_n 1, 1) := by decide +kernel
theorem dX2_isAllowed_20 : decode cX2_isAllowed 20 = .ok (.if_icmp .ne 38, 3) := by decide +kernel
theorem dX2_isAllowed_23 : decode cX2_isAllowed 23 = .ok (.aload_n 0, 1) := by decide +kernel
theorem dX2_isAllowed_24 : decode cX2_isAllowed 24 = .ok (.getfield 28, 3) := by decide +kernel
theorem dX2_isAllowed_27 : decode cX2_isAllowed 27 = .ok (.iload 4, 2) := by decide +kernel
theorem dX2_isAllowed_29 : decode cX2_isAllowed 29 = .ok (.iaload, 1) := by decide +kernel
theorem dX2_isAllowed_30 : decode cX2_isAllowed 30 = .ok (.iload_n 2, 1) := by decide +kernel
theorem dX2_isAllowed_31 : decode cX2_isAllowed 31 = .ok (.if_icmp .ne 27, 3) := by decide +kernel
theorem dX2_isAllowed_34 : decode cX2_isAllowed 34 = .ok (.aload_n 0, 1) := by decide +kernel
theorem dX2_isAllowed_35 : decode cX2_isAllowed 35 = .ok (.getfield 31, 3) := by decide +kernel
theorem dX2_isAllowed_38 : decode cX2_isAllowed 38 = .ok (.iload 4, 2) := by decide +kernel
theorem dX2_isAllowed_40 : decode cX2_isAllowed 40 = .ok (.iaload, 1) := by decide +kernel
theorem dX2_isAllowed_41 : decode cX2_isAllowed 41 = .ok (.iload_n 3, 1) := by decide +kernel
theorem dX2_isAllowed_42 : decode cX2_isAllowed 42 = .ok (.if_icmp .gt 16, 3) := by decide +kernel
theorem dX2_isAllowed_45 : decode cX2_isAllowed 45 = .ok (.iload_n 3, 1) := by decide +kernel
theorem dX2_isAllowed_46 : decode cX2_isAllowed 46 = .ok (.aload_n 0, 1) := by decide +kernel
theorem dX2_isAllowed_47 : decode cX2_isAllowed 47 = .ok (.getfield 34, 3) := by decide +kernel
theorem dX2_isAllowed_50 : decode cX2_isAllowed 50 = .ok (.iload 4, 2) := by decide +kernel
theorem dX2_isAllowed_52 : decode cX2_isAllowed 52 = .ok (.iaload, 1) := by decide +kernel
theorem dX2_isAllowed_53 : decode cX2_isAllowed 53 = .ok (.if_icmp .gt 5, 3) := by decide +kernel
theorem dX2_isAllowed_56 : decode cX2_isAllowed 56 = .ok (.iconst 1, 1) := by decide +kernel
theorem dX2_isAllowed_57 : decode cX2_isAllowed 57 = .ok (.ireturn, 1) := by decide +kernel
theorem dX2_isAllowed_58 : decode cX2_isAllowed 58 = .ok (.iinc 4 1, 3) := by decide +kernel
theorem dX2_isAllowed_61 : decode cX2_isAllowed 61 = .ok (.goto (-58), 3) := by decide +kernel
theorem dX2_isAllowed_64 : decode cX2_isAllowed 64 = .ok (.iconst 0, 1) := by decide +kernel
theorem dX2_isAllowed_65 : decode cX2_isAllowed 65 = .ok (.ireturn, 1) := by decide +kernel
theorem dX2_landsAllowing_0 : decode cX2_landsAllowing 0 = .ok (.iconst 0, 1) := by decide +kernel
theorem dX2_landsAllowing_1 : decode cX2_landsAllowing 1 = .ok (.istore_n 3, 1) := by decide +kernel
theorem dX2_landsAllowing_2 : decode cX2_landsAllowing 2 = .ok (.iconst 0, 1) := by decide +kernel
theorem dX2_landsAllowing_3 : decode cX2_landsAllowing 3 = .ok (.istore 4, 2) := by decide +kernel
theorem dX2_landsAllowing_5 : decode cX2_landsAllowing 5 = .ok (.iload 4, 2) := by decide +kernel
theorem dX2_landsAllowing_7 : decode cX2_landsAllowing 7 = .ok (.iconst 4, 1) := by decide +kernel
theorem dX2_landsAllowing_8 : decode cX2_landsAllowing 8 = .ok (.if_icmp .ge 27, 3) := by decide +kernel
theorem dX2_landsAllowing_11 : decode cX2_landsAllowing 11 = .ok (.aload_n 0, 1) := by decide +kernel
theorem dX2_landsAllowing_12 : decode cX2_landsAllowing 12 = .ok (.iload_n 1, 1) := by decide +kernel
theorem dX2_landsAllowing_13 : decode cX2_landsAllowing 13 = .ok (.iload 4, 2) := by decide +kernel
theorem dX2_landsAllowing_15 : decode cX2_landsAllowing 15 = .ok (.iload_n 2, 1) := by decide +kernel
theorem dX2_landsAllowing_16 : decode cX2_landsAllowing 16 = .ok (.invokevirtual 41, 3) := by decide +kernel
theorem dX2_landsAllowing_19 : decode cX2_landsAllowing 19 = .ok (.ifCond .eq 10, 3) := by decide +kernel
theorem dX2_landsAllowing_22 : decode cX2_landsAllowing 22 = .ok (.iload_n 3, 1) := by decide +kernel
theorem dX2_landsAllowing_23 : decode cX2_landsAllowing 23 = .ok (.iconst 1, 1) := by decide +kernel
theorem dX2_landsAllowing_24 : decode cX2_landsAllowing 24 = .ok (.iload 4, 2) := by decide +kernel
theorem dX2_landsAllowing_26 : decode cX2_landsAllowing 26 = .ok (.ishl, 1) := by decide +kernel
theorem dX2_landsAllowing_27 : decode cX2_landsAllowing 27 = .ok (.ior, 1) := by decide +kernel
theorem dX2_landsAllowing_28 : decode cX2_landsAllowing 28 = .ok (.istore_n 3, 1) := by decide +kernel
theorem dX2_landsAllowing_29 : decode cX2_landsAllowing 29 = .ok (.iinc 4 1, 3) := by decide +kernel
theorem dX2_landsAllowing_32 : decode cX2_landsAllowing 32 = .ok (.goto (-27), 3) := by decide +kernel
theorem dX2_landsAllowing_35 : decode cX2_landsAllowing 35 = .ok (.iload_n 3, 1) := by decide +kernel
theorem dX2_landsAllowing_36 : decode cX2_landsAllowing 36 = .ok (.ireturn, 1) := by decide +kernel
theorem dX2_tracksOf_0 : decode cX2_tracksOf 0 = .ok (.iconst 0, 1) := by decide +kernel
theorem dX2_tracksOf_1 : decode cX2_tracksOf 1 = .ok (.istore_n 2, 1) := by decide +kernel
theorem dX2_tracksOf_2 : decode cX2_tracksOf 2 = .ok (.iconst 0, 1) := by decide +kernel
theorem dX2_tracksOf_3 : decode cX2_tracksOf 3 = .ok (.istore_n 3, 1) := by decide +kernel
theorem dX2_tracksOf_4 : decode cX2_tracksOf 4 = .ok (.iload_n 3, 1) := by decide +kernel
theorem dX2_tracksOf_5 : decode cX2_tracksOf 5 = .ok (.aload_n 0, 1) := by decide +kernel
theorem dX2_tracksOf_6 : decode cX2_tracksOf 6 = .ok (.getfield 9, 3) := by decide +kernel
theorem dX2_tracksOf_9 : decode cX2_tracksOf 9 = .ok (.if_icmp .ge 22, 3) := by decide +kernel
theorem dX2_tracksOf_12 : decode cX2_tracksOf 12 = .ok (.aload_n 0, 1) := by decide +kernel
theorem dX2_tracksOf_13 : decode cX2_tracksOf 13 = .ok (.getfield 15, 3) := by decide +kernel
theorem dX2_tracksOf_16 : decode cX2_tracksOf 16 = .ok (.iload_n 3, 1) := by decide +kernel
theorem dX2_tracksOf_17 : decode cX2_tracksOf 17 = .ok (.iaload, 1) := by decide +kernel
theorem dX2_tracksOf_18 : decode cX2_tracksOf 18 = .ok (.iload_n 1, 1) := by decide +kernel
theorem dX2_tracksOf_19 : decode cX2_tracksOf 19 = .ok (.if_icmp .ne 6, 3) := by decide +kernel
theorem dX2_tracksOf_22 : decode cX2_tracksOf 22 = .ok (.iinc 2 1, 3) := by decide +kernel
theorem dX2_tracksOf_25 : decode cX2_tracksOf 25 = .ok (.iinc 3 1, 3) := by decide +kernel
theorem dX2_tracksOf_28 : decode cX2_tracksOf 28 = .ok (.goto (-24), 3) := by decide +kernel
theorem dX2_tracksOf_31 : decode cX2_tracksOf 31 = .ok (.iload_n 2, 1) := by decide +kernel
theorem dX2_tracksOf_32 : decode cX2_tracksOf 32 = .ok (.ireturn, 1) := by decide +kernel
theorem dX2_isHearable_0 : decode cX2_isHearable 0 = .ok (.iconst 0, 1) := by decide +kernel
theorem dX2_isHearable_1 : decode cX2_isHearable 1 = .ok (.istore 4, 2) := by decide +kernel
theorem dX2_isHearable_3 : decode cX2_isHearable 3 = .ok (.iload 4, 2) := by decide +kernel
theorem dX2_isHearable_5 : decode cX2_isHearable 5 = .ok (.aload_n 0, 1) := by decide +kernel
theorem dX2_isHearable_6 : decode cX2_isHearable 6 = .ok (.getfield 9, 3) := by decide +kernel
theorem dX2_isHearable_9 : decode cX2_isHearable 9 = .ok (.if_icmp .ge 42, 3) := by decide +kernel
theorem dX2_isHearable_12 : decode cX2_isHearable 12 = .ok (.aload_n 0, 1) := by decide +kernel
theorem dX2_isHearable_13 : decode cX2_isHearable 13 = .ok (.getfield 15, 3) := by decide +kernel
theorem dX2_isHearable_16 : decode cX2_isHearable 16 = .ok (.iload 4, 2) := by decide +kernel
theorem dX2_isHearable_18 : decode cX2_isHearable 18 = .ok (.iaload, 1) := by decide +kernel
theorem dX2_isHearable_19 : decode cX2_isHearable 19 = .ok (.iload_n 1, 1) := by decide +kernel
theorem dX2_isHearable_20 : decode cX2_isHearable 20 = .ok (.if_icmp .ne 25, 3) := by decide +kernel
theorem dX2_isHearable_23 : decode cX2_isHearable 23 = .ok (.aload_n 0, 1) := by decide +kernel
theorem dX2_isHearable_24 : decode cX2_isHearable 24 = .ok (.iload 4, 2) := by decide +kernel
theorem dX2_isHearable_26 : decode cX2_isHearable 26 = .ok (.invokevirtual 37, 3) := by decide +kernel
theorem dX2_isHearable_29 : decode cX2_isHearable 29 = .ok (.ifCond .ne 16, 3) := by decide +kernel
theorem dX2_isHearable_32 : decode cX2_isHearable 32 = .ok (.aload_n 0, 1) := by decide +kernel
theorem dX2_isHearable_33 : decode cX2_isHearable 33 = .ok (.iload 4, 2) := by decide +kernel
theorem dX2_isHearable_35 : decode cX2_isHearable 35 = .ok (.iload_n 2, 1) := by decide +kernel
theorem dX2_isHearable_36 : decode cX2_isHearable 36 = .ok (.iload_n 3, 1) := by decide +kernel
theorem dX2_isHearable_37 : decode cX2_isHearable 37 = .ok (.invokevirtual 41, 3) := by decide +kernel
theorem dX2_isHearable_40 : decode cX2_isHearable 40 = .ok (.ifCond .eq 5, 3) := by decide +kernel
theorem dX2_isHearable_43 : decode cX2_isHearable 43 = .ok (.iconst 1, 1) := by decide +kernel
theorem dX2_isHearable_44 : decode cX2_isHearable 44 = .ok (.ireturn, 1) := by decide +kernel
theorem dX2_isHearable_45 : decode cX2_isHearable 45 = .ok (.iinc 4 1, 3) := by decide +kernel
theorem dX2_isHearable_48 : decode cX2_isHearable 48 = .ok (.goto (-45), 3) := by decide +kernel
theorem dX2_isHearable_51 : decode cX2_isHearable 51 = .ok (.iconst 0, 1) := by decide +kernel
theorem dX2_isHearable_52 : decode cX2_isHearable 52 = .ok (.ireturn, 1) := by decide +kernel
theorem dX3_init_0 : decode cX3_init 0 = .ok (.aload_n 0, 1) := by decide +kernel
theorem dX3_init_1 : decode cX3_init 1 = .ok (.invokespecial 3, 3) := by decide +kernel
theorem dX3_init_4 : decode cX3_init 4 = .ok (.aload_n 0, 1) := by decide +kernel
theorem dX3_init_5 : decode cX3_init 5 = .ok (.bipush 8, 2) := by decide +kernel
theorem dX3_init_7 : decode cX3_init 7 = .ok (.bipush 10, 2) := by decide +kernel
theorem dX3_init_9 : decode cX3_init 9 = .ok (.multianewarray 9 2, 4) := by decide +kernel
theorem dX3_init_13 : decode cX3_init 13 = .ok (.putfield 11, 3) := by decide +kernel
theorem dX3_init_16 : decode cX3_init 16 = .ok (.aload_n 0, 1) := by decide +kernel
theorem dX3_init_17 : decode cX3_init 17 = .ok (.bipush 8, 2) := by decide +kernel
theorem dX3_init_19 : decode cX3_init 19 = .ok (.bipush 10, 2) := by decide +kernel
theorem dX3_init_21 : decode cX3_init 21 = .ok (.multianewarray 9 2, 4) := by decide +kernel
theorem dX3_init_25 : decode cX3_init 25 = .ok (.putfield 16, 3) := by decide +kernel
theorem dX3_init_28 : decode cX3_init 28 = .ok (.aload_n 0, 1) := by decide +kernel
theorem dX3_init_29 : decode cX3_init 29 = .ok (.bipush 8, 2) := by decide +kernel
theorem dX3_init_31 : decode cX3_init 31 = .ok (.bipush 10, 2) := by decide +kernel
theorem dX3_init_33 : decode cX3_init 33 = .ok (.multianewarray 9 2, 4) := by decide +kernel
theorem dX3_init_37 : decode cX3_init 37 = .ok (.putfield 19, 3) := by decide +kernel
theorem dX3_init_40 : decode cX3_init 40 = .ok (.return_, 1) := by decide +kernel
theorem dX3_clear_0 : decode cX3_clear 0 = .ok (.aload_n 0, 1) := by decide +kernel
theorem dX3_clear_1 : decode cX3_clear 1 = .ok (.getfield 11, 3) := by decide +kernel
theorem dX3_clear_4 : decode cX3_clear 4 = .ok (.invokestatic 22, 3) := by decide +kernel
theorem dX3_clear_7 : decode cX3_clear 7 = .ok (.aload_n 0, 1) := by decide +kernel
theorem dX3_clear_8 : decode cX3_clear 8 = .ok (.getfield 16, 3) := by decide +kernel
theorem dX3_clear_11 : decode cX3_clear 11 = .ok (.invokestatic 22, 3) := by decide +kernel
theorem dX3_clear_14 : decode cX3_clear 14 = .ok (.return_, 1) := by decide +kernel
theorem dX3_startDay_0 : decode cX3_startDay 0 = .ok (.aload_n 0, 1) := by decide +kernel
theorem dX3_startDay_1 : decode cX3_startDay 1 = .ok (.getfield 19, 3) := by decide +kernel
theorem dX3_startDay_4 : decode cX3_startDay 4 = .ok (.invokestatic 22, 3) := by decide +kernel
theorem dX3_startDay_7 : decode cX3_startDay 7 = .ok (.return_, 1) := by decide +kernel
theorem dX3_add_0 : decode cX3_add 0 = .ok (.aload_n 0, 1) := by decide +kernel
theorem dX3_add_1 : decode cX3_add 1 = .ok (.getfield 11, 3) := by decide +kernel
theorem dX3_add_4 : decode cX3_add 4 = .ok (.iload_n 1, 1) := by decide +kernel
theorem dX3_add_5 : decode cX3_add 5 = .ok (.aaload, 1) := by decide +kernel
theorem dX3_add_6 : decode cX3_add 6 = .ok (.iload_n 2, 1) := by decide +kernel
theorem dX3_add_7 : decode cX3_add 7 = .ok (.dup2, 1) := by decide +kernel
theorem dX3_add_8 : decode cX3_add 8 = .ok (.iaload, 1) := by decide +kernel
theorem dX3_add_9 : decode cX3_add 9 = .ok (.iconst 1, 1) := by decide +kernel
theorem dX3_add_10 : decode cX3_add 10 = .ok (.iadd, 1) := by decide +kernel
theorem dX3_add_11 : decode cX3_add 11 = .ok (.iastore, 1) := by decide +kernel
theorem dX3_add_12 : decode cX3_add 12 = .ok (.aload_n 0, 1) := by decide +kernel
theorem dX3_add_13 : decode cX3_add 13 = .ok (.getfield 19, 3) := by decide +kernel
theorem dX3_add_16 : decode cX3_add 16 = .ok (.iload_n 1, 1) := by decide +kernel
theorem dX3_add_17 : decode cX3_add 17 = .ok (.aaload, 1) := by decide +kernel
theorem dX3_add_18 : decode cX3_add 18 = .ok (.iload_n 2, 1) := by decide +kernel
theorem dX3_add_19 : decode cX3_add 19 = .ok (.dup2, 1) := by decide +kernel
theorem dX3_add_20 : decode cX3_add 20 = .ok (.iaload, 1) := by decide +kernel
theorem dX3_add_21 : decode cX3_add 21 = .ok (.iconst 1, 1) := by decide +kernel
theorem dX3_add_22 : decode cX3_add 22 = .ok (.iadd, 1) := by decide +kernel
theorem dX3_add_23 : decode cX3_add 23 = .ok (.iastore, 1) := by decide +kernel
theorem dX3_add_24 : decode cX3_add 24 = .ok (.iload_n 3, 1) := by decide +kernel
theorem dX3_add_25 : decode cX3_add 25 = .ok (.ifCond .eq 15, 3) := by decide +kernel
theorem dX3_add_28 : decode cX3_add 28 = .ok (.aload_n 0, 1) := by decide +kernel
theorem dX3_add_29 : decode cX3_add 29 = .ok (.getfield 16, 3) := by decide +kernel
theorem dX3_add_32 : decode cX3_add 32 = .ok (.iload_n 1, 1) := by decide +kernel
theorem dX3_add_33 : decode cX3_add 33 = .ok (.aaload, 1) := by decide +kernel
theorem dX3_add_34 : decode cX3_add 34 = .ok (.iload_n 2, 1) := by decide +kernel
theorem dX3_add_35 : decode cX3_add 35 = .ok (.dup2, 1) := by decide +kernel
theorem dX3_add_36 : decode cX3_add 36 = .ok (.iaload, 1) := by decide +kernel
theorem dX3_add_37 : decode cX3_add 37 = .ok (.iconst 1, 1) := by decide +kernel
theorem dX3_add_38 : decode cX3_add 38 = .ok (.iadd, 1) := by decide +kernel
theorem dX3_add_39 : decode cX3_add 39 = .ok (.iastore, 1) := by decide +kernel
theorem dX3_add_40 : decode cX3_add 40 = .ok (.return_, 1) := by decide +kernel
theorem dX3_hearersOfBoth_0 : decode cX3_hearersOfBoth 0 = .ok (.iconst 0, 1) := by decide +kernel
theorem dX3_hearersOfBoth_1 : decode cX3_hearersOfBoth 1 = .ok (.istore_n 3, 1) := by decide +kernel
theorem dX3_hearersOfBoth_2 : decode cX3_hearersOfBoth 2 = .ok (.iconst 0, 1) := by decide +kernel
theorem dX3_hearersOfBoth_3 : decode cX3_hearersOfBoth 3 = .ok (.istore 4, 2) := by decide +kernel
theorem dX3_hearersOfBoth_5 : decode cX3_hearersOfBoth 5 = .ok (.iload 4, 2) := by decide +kernel
theorem dX3_hearersOfBoth_7 : decode cX3_hearersOfBoth 7 = .ok (.bipush 8, 2) := by decide +kernel
theorem dX3_hearersOfBoth_9 : decode cX3_hearersOfBoth 9 = .ok (.if_icmp .ge 36, 3) := by decide +kernel
theorem dX3_hearersOfBoth_12 : decode cX3_hearersOfBoth 12 = .ok (.aload_n 0, 1) := by decide +kernel
theorem dX3_hearersOfBoth_13 : decode cX3_hearersOfBoth 13 = .ok (.getfield 11, 3) := by decide +kernel
theorem dX3_hearersOfBoth_16 : decode cX3_hearersOfBoth 16 = .ok (.iload 4, 2) := by decide +kernel
theorem dX3_hearersOfBoth_18 : decode cX3_hearersOfBoth 18 = .ok (.aaload, 1) := by decide +kernel
theorem dX3_hearersOfBoth_19 : decode cX3_hearersOfBoth 19 = .ok (.iload_n 1, 1) := by decide +kernel
theorem dX3_hearersOfBoth_20 : decode cX3_hearersOfBoth 20 = .ok (.iaload, 1) := by decide +kernel
theorem dX3_hearersOfBoth_21 : decode cX3_hearersOfBoth 21 = .ok (.ifCond .le 18, 3) := by decide +kernel
theorem dX3_hearersOfBoth_24 : decode cX3_hearersOfBoth 24 = .ok (.aload_n 0, 1) := by decide +kernel
theorem dX3_hearersOfBoth_25 : decode cX3_hearersOfBoth 25 = .ok (.getfield 11, 3) := by decide +kernel
theorem dX3_hearersOfBoth_28 : decode cX3_hearersOfBoth 28 = .ok (.iload 4, 2) := by decide +kernel
theorem dX3_hearersOfBoth_30 : decode cX3_hearersOfBoth 30 = .ok (.aaload, 1) := by decide +kernel
theorem dX3_hearersOfBoth_31 : decode cX3_hearersOfBoth 31 = .ok (.iload_n 2, 1) := by decide +kernel
theorem dX3_hearersOfBoth_32 : decode cX3_hearersOfBoth 32 = .ok (.iaload, 1) := by decide +kernel
theorem dX3_hearersOfBoth_33 : decode cX3_hearersOfBoth 33 = .ok (.ifCond .le 6, 3) := by decide +kernel
theorem dX3_hearersOfBoth_36 : decode cX3_hearersOfBoth 36 = .ok (.iinc 3 1, 3) := by decide +kernel
theorem dX3_hearersOfBoth_39 : decode cX3_hearersOfBoth 39 = .ok (.iinc 4 1, 3) := by decide +kernel
theorem dX3_hearersOfBoth_42 : decode cX3_hearersOfBoth 42 = .ok (.goto (-37), 3) := by decide +kernel
theorem dX3_hearersOfBoth_45 : decode cX3_hearersOfBoth 45 = .ok (.iload_n 3, 1) := by decide +kernel
theorem dX3_hearersOfBoth_46 : decode cX3_hearersOfBoth 46 = .ok (.ireturn, 1) := by decide +kernel
theorem dX4_init_0 : decode cX4_init 0 = .ok (.aload_n 0, 1) := by decide +kernel
theorem dX4_init_1 : decode cX4_init 1 = .ok (.invokespecial 3, 3) := by decide +kernel
theorem dX4_init_4 : decode cX4_init 4 = .ok (.aload_n 0, 1) := by decide +kernel
theorem dX4_init_5 : decode cX4_init 5 = .ok (.iconst 0, 1) := by decide +kernel
theorem dX4_init_6 : decode cX4_init 6 = .ok (.putfield 9, 3) := by decide +kernel
theorem dX4_init_9 : decode cX4_init 9 = .ok (.aload_n 0, 1) := by decide +kernel
theorem dX4_init_10 : decode cX4_init 10 = .ok (.sipush 130, 3) := by decide +kernel
theorem dX4_init_13 : decode cX4_init 13 = .ok (.newarray .int, 2) := by decide +kernel
theorem dX4_init_15 : decode cX4_init 15 = .ok (.putfield 15, 3) := by decide +kernel
theorem dX4_init_18 : decode cX4_init 18 = .ok (.aload_n 0, 1) := by decide +kernel
theorem dX4_init_19 : decode cX4_init 19 = .ok (.sipush 130, 3) := by decide +kernel
theorem dX4_init_22 : decode cX4_init 22 = .ok (.newarray .int, 2) := by decide +kernel
theorem dX4_init_24 : decode cX4_init 24 = .ok (.putfield 19, 3) := by decide +kernel
theorem dX4_init_27 : decode cX4_init 27 = .ok (.aload_n 0, 1) := by decide +kernel
theorem dX4_init_28 : decode cX4_init 28 = .ok (.sipush 130, 3) := by decide +kernel
theorem dX4_init_31 : decode cX4_init 31 = .ok (.newarray .int, 2) := by decide +kernel
theorem dX4_init_33 : decode cX4_init 33 = .ok (.putfield 22, 3) := by decide +kernel
theorem dX4_init_36 : decode cX4_init 36 = .ok (.aload_n 0, 1) := by decide +kernel
theorem dX4_init_37 : decode cX4_init 37 = .ok (.sipush 130, 3) := by decide +kernel
theorem dX4_init_40 : decode cX4_init 40 = .ok (.newarray .int, 2) := by decide +kernel
theorem dX4_init_42 : decode cX4_init 42 = .ok (.putfield 25, 3) := by decide +kernel
theorem dX4_init_45 : decode cX4_init 45 = .ok (.aload_n 0, 1) := by decide +kernel
theorem dX4_init_46 : decode cX4_init 46 = .ok (.sipush 130, 3) := by decide +kernel
theorem dX4_init_49 : decode cX4_init 49 = .ok (.newarray .int, 2) := by decide +kernel
theorem dX4_init_51 : decode cX4_init 51 = .ok (.putfield 28, 3) := by decide +kernel
theorem dX4_init_54 : decode cX4_init 54 = .ok (.aload_n 0, 1) := by decide +kernel
theorem dX4_init_55 : decode cX4_init 55 = .ok (.sipush 130, 3) := by decide +kernel
theorem dX4_init_58 : decode cX4_init 58 = .ok (.newarray .int, 2) := by decide +kernel
theorem dX4_init_60 : decode cX4_init 60 = .ok (.putfield 31, 3) := by decide +kernel
theorem dX4_init_63 : decode cX4_init 63 = .ok (.return_, 1) := by decide +kernel
theorem dX4_add_0 : decode cX4_add 0 = .ok (.aload_n 0, 1) := by decide +kernel
theorem dX4_add_1 : decode cX4_add 1 = .ok (.getfield 9, 3) := by decide +kernel
theorem dX4_add_4 : decode cX4_add 4 = .ok (.istore 5, 2) := by decide +kernel
theorem dX4_add_6 : decode cX4_add 6 = .ok (.iload 5, 2) := by decide +kernel
theorem dX4_add_8 : decode cX4_add 8 = .ok (.sipush 130, 3) := by decide +kernel
theorem dX4_add_11 : decode cX4_add 11 = .ok (.if_icmp .ge 52, 3) := by decide +kernel
theorem dX4_add_14 : decode cX4_add 14 = .ok (.aload_n 0, 1) := by decide +kernel
theorem dX4_add_15 : decode cX4_add 15 = .ok (.getfield 15, 3) := by decide +kernel
theorem dX4_add_18 : decode cX4_add 18 = .ok (.iload 5, 2) := by decide +kernel
theorem dX4_add_20 : decode cX4_add 20 = .ok (.iload_n 1, 1) := by decide +kernel
theorem dX4_add_21 : decode cX4_add 21 = .ok (.iastore, 1) := by decide +kernel
theorem dX4_add_22 : decode cX4_add 22 = .ok (.aload_n 0, 1) := by decide +kernel
theorem dX4_add_23 : decode cX4_add 23 = .ok (.getfield 19, 3) := by decide +kernel
theorem dX4_add_26 : decode cX4_add 26 = .ok (.iload 5, 2) := by decide +kernel
theorem dX4_add_28 : decode cX4_add 28 = .ok (.iload_n 2, 1) := by decide +kernel
theorem dX4_add_29 : decode cX4_add 29 = .ok (.iastore, 1) := by decide +kernel
theorem dX4_add_30 : decode cX4_add 30 = .ok (.aload_n 0, 1) := by decide +kernel
theorem dX4_add_31 : decode cX4_add 31 = .ok (.getfield 22, 3) := by decide +kernel
theorem dX4_add_34 : decode cX4_add 34 = .ok (.iload 5, 2) := by decide +kernel
theorem dX4_add_36 : decode cX4_add 36 = .ok (.iload_n 3, 1) := by decide +kernel
theorem dX4_add_37 : decode cX4_add 37 = .ok (.iastore, 1) := by decide +kernel
theorem dX4_add_38 : decode cX4_add 38 = .ok (.aload_n 0, 1) := by decide +kernel
theorem dX4_add_39 : decode cX4_add 39 = .ok (.getfield 25, 3) := by decide +kernel
theorem dX4_add_42 : decode cX4_add 42 = .ok (.iload 5, 2) := by decide +kernel
theorem dX4_add_44 : decode cX4_add 44 = .ok (.iload 4, 2) := by decide +kernel
theorem dX4_add_46 : decode cX4_add 46 = .ok (.iastore, 1) := by decide +kernel
theorem dX4_add_47 : decode cX4_add 47 = .ok (.aload_n 0, 1) := by decide +kernel
theorem dX4_add_48 : decode cX4_add 48 = .ok (.iload 5, 2) := by decide +kernel
theorem dX4_add_50 : decode cX4_add 50 = .ok (.invokevirtual 34, 3) := by decide +kernel
theorem dX4_add_53 : decode cX4_add 53 = .ok (.aload_n 0, 1) := by decide +kernel
theorem dX4_add_54 : decode cX4_add 54 = .ok (.dup, 1) := by decide +kernel
theorem dX4_add_55 : decode cX4_add 55 = .ok (.getfield 9, 3) := by decide +kernel
theorem dX4_add_58 : decode cX4_add 58 = .ok (.iconst 1, 1) := by decide +kernel
theorem dX4_add_59 : decode cX4_add 59 = .ok (.iadd, 1) := by decide +kernel
theorem dX4_add_60 : decode cX4_add 60 = .ok (.putfield 9, 3) := by decide +kernel
theorem dX4_add_63 : decode cX4_add 63 = .ok (.iload 5, 2) := by decide +kernel
theorem dX4_add_65 : decode cX4_add 65 = .ok (.ireturn, 1) := by decide +kernel
theorem dX4_putInOrder_0 : decode cX4_putInOrder 0 = .ok (.iload_n 1, 1) := by decide +kernel
theorem dX4_putInOrder_1 : decode cX4_putInOrder 1 = .ok (.istore_n 2, 1) := by decide +kernel
theorem dX4_putInOrder_2 : decode cX4_putInOrder 2 = .ok (.iload_n 2, 1) := by decide +kernel
theorem dX4_putInOrder_3 : decode cX4_putInOrder 3 = .ok (.ifCond .le 45, 3) := by decide +kernel
theorem dX4_putInOrder_6 : decode cX4_putInOrder 6 = .ok (.aload_n 0, 1) := by decide +kernel
theorem dX4_putInOrder_7 : decode cX4_putInOrder 7 = .ok (.getfield 22, 3) := by decide +kernel
theorem dX4_putInOrder_10 : decode cX4_putInOrder 10 = .ok (.aload_n 0, 1) := by decide +kernel
theorem dX4_putInOrder_11 : decode cX4_putInOrder 11 = .ok (.getfield 31, 3) := by decide +kernel
theorem dX4_putInOrder_14 : decode cX4_putInOrder 14 = .ok (.iload_n 2, 1) := by decide +kernel
theorem dX4_putInOrder_15 : decode cX4_putInOrder 15 = .ok (.iconst 1, 1) := by decide +kernel
theorem dX4_putInOrder_16 : decode cX4_putInOrder 16 = .ok (.isub, 1) := by decide +kernel
theorem dX4_putInOrder_17 : decode cX4_putInOrder 17 = .ok (.iaload, 1) := by decide +kernel
theorem dX4_putInOrder_18 : decode cX4_putInOrder 18 = .ok (.iaload, 1) := by decide +kernel
theorem dX4_putInOrder_19 : decode cX4_putInOrder 19 = .ok (.aload_n 0, 1) := by decide +kernel
theorem dX4_putInOrder_20 : decode cX4_putInOrder 20 = .ok (.getfield 22, 3) := by decide +kernel
theorem dX4_putInOrder_23 : decode cX4_putInOrder 23 = .ok (.iload_n 1, 1) := by decide +kernel
theorem dX4_putInOrder_24 : decode cX4_putInOrder 24 = .ok (.iaload, 1) := by decide +kernel
theorem dX4_putInOrder_25 : decode cX4_putInOrder 25 = .ok (.if_icmp .le 23, 3) := by decide +kernel
theorem dX4_putInOrder_28 : decode cX4_putInOrder 28 = .ok (.aload_n 0, 1) := by decide +kernel
theorem dX4_putInOrder_29 : decode cX4_putInOrder 29 = .ok (.getfield 31, 3) := by decide +kernel
theorem dX4_putInOrder_32 : decode cX4_putInOrder 32 = .ok (.iload_n 2, 1) := by decide +kernel
theorem dX4_putInOrder_33 : decode cX4_putInOrder 33 = .ok (.aload_n 0, 1) := by decide +kernel
theorem dX4_putInOrder_34 : decode cX4_putInOrder 34 = .ok (.getfield 31, 3) := by decide +kernel
theorem dX4_putInOrder_37 : decode cX4_putInOrder 37 = .ok (.iload_n 2, 1) := by decide +kernel
theorem dX4_putInOrder_38 : decode cX4_putInOrder 38 = .ok (.iconst 1, 1) := by decide +kernel
theorem dX4_putInOrder_39 : decode cX4_putInOrder 39 = .ok (.isub, 1) := by decide +kernel
theorem dX4_putInOrder_40 : decode cX4_putInOrder 40 = .ok (.iaload, 1) := by decide +kernel
theorem dX4_putInOrder_41 : decode cX4_putInOrder 41 = .ok (.iastore, 1) := by decide +kernel
theorem dX4_putInOrder_42 : decode cX4_putInOrder 42 = .ok (.iinc 2 (-1), 3) := by decide +kernel
theorem dX4_putInOrder_45 : decode cX4_putInOrder 45 = .ok (.goto (-43), 3) := by decide +kernel
theorem dX4_putInOrder_48 : decode cX4_putInOrder 48 = .ok (.aload_n 0, 1) := by decide +kernel
theorem dX4_putInOrder_49 : decode cX4_putInOrder 49 = .ok (.getfield 31, 3) := by decide +kernel
theorem dX4_putInOrder_52 : decode cX4_putInOrder 52 = .ok (.iload_n 2, 1) := by decide +kernel
theorem dX4_putInOrder_53 : decode cX4_putInOrder 53 = .ok (.iload_n 1, 1) := by decide +kernel
theorem dX4_putInOrder_54 : decode cX4_putInOrder 54 = .ok (.iastore, 1) := by decide +kernel
theorem dX4_putInOrder_55 : decode cX4_putInOrder 55 = .ok (.return_, 1) := by decide +kernel
theorem dX4_countWithReason_0 : decode cX4_countWithReason 0 = .ok (.iconst 0, 1) := by decide +kernel
theorem dX4_countWithReason_1 : decode cX4_countWithReason 1 = .ok (.istore_n 2, 1) := by decide +kernel
theorem dX4_countWithReason_2 : decode cX4_countWithReason 2 = .ok (.iconst 0, 1) := by decide +kernel
theorem dX4_countWithReason_3 : decode cX4_countWithReason 3 = .ok (.istore_n 3, 1) := by decide +kernel
theorem dX4_countWithReason_4 : decode cX4_countWithReason 4 = .ok (.iload_n 3, 1) := by decide +kernel
theorem dX4_countWithReason_5 : decode cX4_countWithReason 5 = .ok (.aload_n 0, 1) := by decide +kernel
theorem dX4_countWithReason_6 : decode cX4_countWithReason 6 = .ok (.getfield 9, 3) := by decide +kernel
theorem dX4_countWithReason_9 : decode cX4_countWithReason 9 = .ok (.if_icmp .ge 22, 3) := by decide +kernel
theorem dX4_countWithReason_12 : decode cX4_countWithReason 12 = .ok (.aload_n 0, 1) := by decide +kernel
theorem dX4_countWithReason_13 : decode cX4_countWithReason 13 = .ok (.getfield 28, 3) := by decide +kernel
theorem dX4_countWithReason_16 : decode cX4_countWithReason 16 = .ok (.iload_n 3, 1) := by decide +kernel
theorem dX4_countWithReason_17 : decode cX4_countWithReason 17 = .ok (.iaload, 1) := by decide +kernel
theorem dX4_countWithReason_18 : decode cX4_countWithReason 18 = .ok (.iload_n 1, 1) := by decide +kernel
theorem dX4_countWithReason_19 : decode cX4_countWithReason 19 = .ok (.if_icmp .ne 6, 3) := by decide +kernel
theorem dX4_countWithReason_22 : decode cX4_countWithReason 22 = .ok (.iinc 2 1, 3) := by decide +kernel
theorem dX4_countWithReason_25 : decode cX4_countWithReason 25 = .ok (.iinc 3 1, 3) := by decide +kernel
theorem dX4_countWithReason_28 : decode cX4_countWithReason 28 = .ok (.goto (-24), 3) := by decide +kernel
theorem dX4_countWithReason_31 : decode cX4_countWithReason 31 = .ok (.iload_n 2, 1) := by decide +kernel
theorem dX4_countWithReason_32 : decode cX4_countWithReason 32 = .ok (.ireturn, 1) := by decide +kernel
theorem dX4_countedOfTrack_0 : decode cX4_countedOfTrack 0 = .ok (.iconst 0, 1) := by decide +kernel
theorem dX4_countedOfTrack_1 : decode cX4_countedOfTrack 1 = .ok (.istore_n 2, 1) := by decide +kernel
theorem dX4_countedOfTrack_2 : decode cX4_countedOfTrack 2 = .ok (.iconst 0, 1) := by decide +kernel
theorem dX4_countedOfTrack_3 : decode cX4_countedOfTrack 3 = .ok (.istore_n 3, 1) := by decide +kernel
theorem dX4_countedOfTrack_4 : decode cX4_countedOfTrack 4 = .ok (.iload_n 3, 1) := by decide +kernel
theorem dX4_countedOfTrack_5 : decode cX4_countedOfTrack 5 = .ok (.aload_n 0, 1) := by decide +kernel
theorem dX4_countedOfTrack_6 : decode cX4_countedOfTrack 6 = .ok (.getfield 9, 3) := by decide +kernel
theorem dX4_countedOfTrack_9 : decode cX4_countedOfTrack 9 = .ok (.if_icmp .ge 31, 3) := by decide +kernel
theorem dX4_countedOfTrack_12 : decode cX4_countedOfTrack 12 = .ok (.aload_n 0, 1) := by decide +kernel
theorem dX4_countedOfTrack_13 : decode cX4_countedOfTrack 13 = .ok (.getfield 19, 3) := by decide +kernel
theorem dX4_countedOfTrack_16 : decode cX4_countedOfTrack 16 = .ok (.iload_n 3, 1) := by decide +kernel
theorem dX4_countedOfTrack_17 : decode cX4_countedOfTrack 17 = .ok (.iaload, 1) := by decide +kernel
theorem dX4_countedOfTrack_18 : decode cX4_countedOfTrack 18 = .ok (.iload_n 1, 1) := by decide +kernel
theorem dX4_countedOfTrack_19 : decode cX4_countedOfTrack 19 = .ok (.if_icmp .ne 15, 3) := by decide +kernel
theorem dX4_countedOfTrack_22 : decode cX4_countedOfTrack 22 = .ok (.aload_n 0, 1) := by decide +kernel
theorem dX4_countedOfTrack_23 : decode cX4_countedOfTrack 23 = .ok (.getfield 28, 3) := by decide +kernel
theorem dX4_countedOfTrack_26 : decode cX4_countedOfTrack 26 = .ok (.iload_n 3, 1) := by decide +kernel
theorem dX4_countedOfTrack_27 : decode cX4_countedOfTrack 27 = .ok (.iaload, 1) := by decide +kernel
theorem dX4_countedOfTrack_28 : decode cX4_countedOfTrack 28 = .ok (.ifCond .ne 6, 3) := by decide +kernel
theorem dX4_countedOfTrack_31 : decode cX4_countedOfTrack 31 = .ok (.iinc 2 1, 3) := by decide +kernel
theorem dX4_countedOfTrack_34 : decode cX4_countedOfTrack 34 = .ok (.iinc 3 1, 3) := by decide +kernel
theorem dX4_countedOfTrack_37 : decode cX4_countedOfTrack 37 = .ok (.goto (-33), 3) := by decide +kernel
theorem dX4_countedOfTrack_40 : decode cX4_countedOfTrack 40 = .ok (.iload_n 2, 1) := by decide +kernel
theorem dX4_countedOfTrack_41 : decode cX4_countedOfTrack 41 = .ok (.ireturn, 1) := by decide +kernel
theorem dX4_playsOfListener_0 : decode cX4_playsOfListener 0 = .ok (.iconst 0, 1) := by decide +kernel
theorem dX4_playsOfListener_1 : decode cX4_playsOfListener 1 = .ok (.istore_n 2, 1) := by decide +kernel
theorem dX4_playsOfListener_2 : decode cX4_playsOfListener 2 = .ok (.iconst 0, 1) := by decide +kernel
theorem dX4_playsOfListener_3 : decode cX4_playsOfListener 3 = .ok (.istore_n 3, 1) := by decide +kernel
theorem dX4_playsOfListener_4 : decode cX4_playsOfListener 4 = .ok (.iload_n 3, 1) := by decide +kernel
theorem dX4_playsOfListener_5 : decode cX4_playsOfListener 5 = .ok (.aload_n 0, 1) := by decide +kernel
theorem dX4_playsOfListener_6 : decode cX4_playsOfListener 6 = .ok (.getfield 9, 3) := by decide +kernel
theorem dX4_playsOfListener_9 : decode cX4_playsOfListener 9 = .ok (.if_icmp .ge 22, 3) := by decide +kernel
theorem dX4_playsOfListener_12 : decode cX4_playsOfListener 12 = .ok (.aload_n 0, 1) := by decide +kernel
theorem dX4_playsOfListener_13 : decode cX4_playsOfListener 13 = .ok (.getfield 15, 3) := by decide +kernel
theorem dX4_playsOfListener_16 : decode cX4_playsOfListener 16 = .ok (.iload_n 3, 1) := by decide +kernel
theorem dX4_playsOfListener_17 : decode cX4_playsOfListener 17 = .ok (.iaload, 1) := by decide +kernel
theorem dX4_playsOfListener_18 : decode cX4_playsOfListener 18 = .ok (.iload_n 1, 1) := by decide +kernel
theorem dX4_playsOfListener_19 : decode cX4_playsOfListener 19 = .ok (.if_icmp .ne 6, 3) := by decide +kernel
theorem dX4_playsOfListener_22 : decode cX4_playsOfListener 22 = .ok (.iinc 2 1, 3) := by decide +kernel
theorem dX4_playsOfListener_25 : decode cX4_playsOfListener 25 = .ok (.iinc 3 1, 3) := by decide +kernel
theorem dX4_playsOfListener_28 : decode cX4_playsOfListener 28 = .ok (.goto (-24), 3) := by decide +kernel
theorem dX4_playsOfListener_31 : decode cX4_playsOfListener 31 = .ok (.iload_n 2, 1) := by decide +kernel
theorem dX4_playsOfListener_32 : decode cX4_playsOfListener 32 = .ok (.ireturn, 1) := by decide +kernel
theorem dX5_init_0 : decode cX5_init 0 = .ok (.aload_n 0, 1) := by decide +kernel
theorem dX5_init_1 : decode cX5_init 1 = .ok (.invokespecial 3, 3) := by decide +kernel
theorem dX5_init_4 : decode cX5_init 4 = .ok (.aload_n 0, 1) := by decide +kernel
theorem dX5_init_5 : decode cX5_init 5 = .ok (.bipush 10, 2) := by decide +kernel
theorem dX5_init_7 : decode cX5_init 7 = .ok (.iconst 5, 1) := by decide +kernel
theorem dX5_init_8 : decode cX5_init 8 = .ok (.multianewarray 9 2, 4) := by decide +kernel
theorem dX5_init_12 : decode cX5_init 12 = .ok (.putfield 11, 3) := by decide +kernel
theorem dX5_init_15 : decode cX5_init 15 = .ok (.return_, 1) := by decide +kernel
theorem dX5_claimsOf_0 : decode cX5_claimsOf 0 = .ok (.aload_n 0, 1) := by decide +kernel
theorem dX5_claimsOf_1 : decode cX5_claimsOf 1 = .ok (.getfield 11, 3) := by decide +kernel
theorem dX5_claimsOf_4 : decode cX5_claimsOf 4 = .ok (.iload_n 1, 1) := by decide +kernel
theorem dX5_claimsOf_5 : decode cX5_claimsOf 5 = .ok (.aaload, 1) := by decide +kernel
theorem dX5_claimsOf_6 : decode cX5_claimsOf 6 = .ok (.invokestatic 16, 3) := by decide +kernel
theorem dX5_claimsOf_9 : decode cX5_claimsOf 9 = .ok (.ireturn, 1) := by decide +kernel
theorem dX5_isInConflict_0 : decode cX5_isInConflict 0 = .ok (.aload_n 0, 1) := by decide +kernel
theorem dX5_isInConflict_1 : decode cX5_isInConflict 1 = .ok (.iload_n 1, 1) := by decide +kernel
theorem dX5_isInConflict_2 : decode cX5_isInConflict 2 = .ok (.invokevirtual 20, 3) := by decide +kernel
theorem dX5_isInConflict_5 : decode cX5_isInConflict 5 = .ok (.bipush 100, 2) := by decide +kernel
theorem dX5_isInConflict_7 : decode cX5_isInConflict 7 = .ok (.if_icmp .le 7, 3) := by decide +kernel
theorem dX5_isInConflict_10 : decode cX5_isInConflict 10 = .ok (.iconst 1, 1) := by decide +kernel
theorem dX5_isInConflict_11 : decode cX5_isInConflict 11 = .ok (.goto 4, 3) := by decide +kernel
theorem dX5_isInConflict_14 : decode cX5_isInConflict 14 = .ok (.iconst 0, 1) := by decide +kernel
theorem dX5_isInConflict_15 : decode cX5_isInConflict 15 = .ok (.ireturn, 1) := by decide +kernel
theorem dX6_init_0 : decode cX6_init 0 = .ok (.aload_n 0, 1) := by decide +kernel
theorem dX6_init_1 : decode cX6_init 1 = .ok (.invokespecial 3, 3) := by decide +kernel
theorem dX6_init_4 : decode cX6_init 4 = .ok (.aload_n 0, 1) := by decide +kernel
theorem dX6_init_5 : decode cX6_init 5 = .ok (.new 9, 3) := by decide +kernel
theorem dX6_init_8 : decode cX6_init 8 = .ok (.dup, 1) := by decide +kernel
theorem dX6_init_9 : decode cX6_init 9 = .ok (.invokespecial 11, 3) := by decide +kernel
theorem dX6_init_12 : decode cX6_init 12 = .ok (.putfield 12, 3) := by decide +kernel
theorem dX6_init_15 : decode cX6_init 15 = .ok (.aload_n 0, 1) := by decide +kernel
theorem dX6_init_16 : decode cX6_init 16 = .ok (.new 16, 3) := by decide +kernel
theorem dX6_init_19 : decode cX6_init 19 = .ok (.dup, 1) := by decide +kernel
theorem dX6_init_20 : decode cX6_init 20 = .ok (.invokespecial 18, 3) := by decide +kernel
theorem dX6_init_23 : decode cX6_init 23 = .ok (.putfield 19, 3) := by decide +kernel
theorem dX6_init_26 : decode cX6_init 26 = .ok (.aload_n 0, 1) := by decide +kernel
theorem dX6_init_27 : decode cX6_init 27 = .ok (.new 23, 3) := by decide +kernel
theorem dX6_init_30 : decode cX6_init 30 = .ok (.dup, 1) := by decide +kernel
theorem dX6_init_31 : decode cX6_init 31 = .ok (.invokespecial 25, 3) := by decide +kernel
theorem dX6_init_34 : decode cX6_init 34 = .ok (.putfield 26, 3) := by decide +kernel
theorem dX6_init_37 : decode cX6_init 37 = .ok (.aload_n 0, 1) := by decide +kernel
theorem dX6_init_38 : decode cX6_init 38 = .ok (.new 30, 3) := by decide +kernel
theorem dX6_init_41 : decode cX6_init 41 = .ok (.dup, 1) := by decide +kernel
theorem dX6_init_42 : decode cX6_init 42 = .ok (.invokespecial 32, 3) := by decide +kernel
theorem dX6_init_45 : decode cX6_init 45 = .ok (.putfield 33, 3) := by decide +kernel
theorem dX6_init_48 : decode cX6_init 48 = .ok (.aload_n 0, 1) := by decide +kernel
theorem dX6_init_49 : decode cX6_init 49 = .ok (.new 37, 3) := by decide +kernel
theorem dX6_init_52 : decode cX6_init 52 = .ok (.dup, 1) := by decide +kernel
theorem dX6_init_53 : decode cX6_init 53 = .ok (.invokespecial 39, 3) := by decide +kernel
theorem dX6_init_56 : decode cX6_init 56 = .ok (.putfield 40, 3) := by decide +kernel
theorem dX6_init_59 : decode cX6_init 59 = .ok (.aload_n 0, 1) := by decide +kernel
theorem dX6_init_60 : decode cX6_init 60 = .ok (.new 44, 3) := by decide +kernel
theorem dX6_init_63 : decode cX6_init 63 = .ok (.dup, 1) := by decide +kernel
theorem dX6_init_64 : decode cX6_init 64 = .ok (.invokespecial 46, 3) := by decide +kernel
theorem dX6_init_67 : decode cX6_init 67 = .ok (.putfield 47, 3) := by decide +kernel
theorem dX6_init_70 : decode cX6_init 70 = .ok (.aload_n 0, 1) := by decide +kernel
theorem dX6_init_71 : decode cX6_init 71 = .ok (.new 44, 3) := by decide +kernel
theorem dX6_init_74 : decode cX6_init 74 = .ok (.dup, 1) := by decide +kernel
theorem dX6_init_75 : decode cX6_init 75 = .ok (.invokespecial 46, 3) := by decide +kernel
theorem dX6_init_78 : decode cX6_init 78 = .ok (.putfield 51, 3) := by decide +kernel
theorem dX6_init_81 : decode cX6_init 81 = .ok (.aload_n 0, 1) := by decide +kernel
theorem dX6_init_82 : decode cX6_init 82 = .ok (.new 44, 3) := by decide +kernel
theorem dX6_init_85 : decode cX6_init 85 = .ok (.dup, 1) := by decide +kernel
theorem dX6_init_86 : decode cX6_init 86 = .ok (.invokespecial 46, 3) := by decide +kernel
theorem dX6_init_89 : decode cX6_init 89 = .ok (.putfield 54, 3) := by decide +kernel
theorem dX6_init_92 : decode cX6_init 92 = .ok (.aload_n 0, 1) := by decide +kernel
theorem dX6_init_93 : decode cX6_init 93 = .ok (.bipush 10, 2) := by decide +kernel
theorem dX6_init_95 : decode cX6_init 95 = .ok (.newarray .int, 2) := by decide +kernel
theorem dX6_init_97 : decode cX6_init 97 = .ok (.putfield 57, 3) := by decide +kernel
theorem dX6_init_100 : decode cX6_init 100 = .ok (.aload_n 0, 1) := by decide +kernel
theorem dX6_init_101 : decode cX6_init 101 = .ok (.iconst 0, 1) := by decide +kernel
theorem dX6_init_102 : decode cX6_init 102 = .ok (.putfield 61, 3) := by decide +kernel
theorem dX6_init_105 : decode cX6_init 105 = .ok (.aload_n 0, 1) := by decide +kernel
theorem dX6_init_106 : decode cX6_init 106 = .ok (.iconst 0, 1) := by decide +kernel
theorem dX6_init_107 : decode cX6_init 107 = .ok (.putfield 65, 3) := by decide +kernel
theorem dX6_init_110 : decode cX6_init 110 = .ok (.return_, 1) := by decide +kernel
theorem dX6_track_0 : decode cX6_track 0 = .ok (.iload_n 1, 1) := by decide +kernel
theorem dX6_track_1 : decode cX6_track 1 = .ok (.invokestatic 68, 3) := by decide +kernel
theorem dX6_track_4 : decode cX6_track 4 = .ok (.aload_n 0, 1) := by decide +kernel
theorem dX6_track_5 : decode cX6_track 5 = .ok (.getfield 12, 3) := by decide +kernel
theorem dX6_track_8 : decode cX6_track 8 = .ok (.getfield 72, 3) := by decide +kernel
theorem dX6_track_11 : decode cX6_track 11 = .ok (.bipush 14, 2) := by decide +kernel
theorem dX6_track_13 : decode cX6_track 13 = .ok (.if_icmp .lt 13, 3) := by decide +kernel
theorem dX6_track_16 : decode cX6_track 16 = .ok (.new 75, 3) := by decide +kernel
theorem dX6_track_19 : decode cX6_track 19 = .ok (.dup, 1) := by decide +kernel
theorem dX6_track_20 : decode cX6_track 20 = .ok (.ldc 77, 2) := by decide +kernel
theorem dX6_track_22 : decode cX6_track 22 = .ok (.invokespecial 79, 3) := by decide +kernel
theorem dX6_track_25 : decode cX6_track 25 = .ok (.athrow, 1) := by decide +kernel
theorem dX6_track_26 : decode cX6_track 26 = .ok (.aload_n 0, 1) := by decide +kernel
theorem dX6_track_27 : decode cX6_track 27 = .ok (.getfield 12, 3) := by decide +kernel
theorem dX6_track_30 : decode cX6_track 30 = .ok (.iload_n 1, 1) := by decide +kernel
theorem dX6_track_31 : decode cX6_track 31 = .ok (.invokevirtual 82, 3) := by decide +kernel
theorem dX6_track_34 : decode cX6_track 34 = .ok (.ireturn, 1) := by decide +kernel
theorem dX6_window_0 : decode cX6_window 0 = .ok (.aload_n 0, 1) := by decide +kernel
theorem dX6_window_1 : decode cX6_window 1 = .ok (.iload_n 1, 1) := by decide +kernel
theorem dX6_window_2 : decode cX6_window 2 = .ok (.invokevirtual 86, 3) := by decide +kernel
theorem dX6_window_5 : decode cX6_window 5 = .ok (.iload_n 2, 1) := by decide +kernel
theorem dX6_window_6 : decode cX6_window 6 = .ok (.invokestatic 89, 3) := by decide +kernel
theorem dX6_window_9 : decode cX6_window 9 = .ok (.iload_n 3, 1) := by decide +kernel
theorem dX6_window_10 : decode cX6_window 10 = .ok (.ifCond .lt 9, 3) := by decide +kernel
theorem dX6_window_13 : decode cX6_window 13 = .ok (.iload_n 3, 1) := by decide +kernel
theorem dX6_window_14 : decode cX6_window 14 = .ok (.ldc 92, 2) := by decide +kernel
theorem dX6_window_16 : decode cX6_window 16 = .ok (.if_icmp .le 13, 3) := by decide +kernel
theorem dX6_window_19 : decode cX6_window 19 = .ok (.new 93, 3) := by decide +kernel
theorem dX6_window_22 : decode cX6_window 22 = .ok (.dup, 1) := by decide +kernel
theorem dX6_window_23 : decode cX6_window 23 = .ok (.ldc 95, 2) := by decide +kernel
theorem dX6_window_25 : decode cX6_window 25 = .ok (.invokespecial 97, 3) := by decide +kernel
theorem dX6_window_28 : decode cX6_window 28 = .ok (.athrow, 1) := by decide +kernel
theorem dX6_window_29 : decode cX6_window 29 = .ok (.iload 4, 2) := by decide +kernel
theorem dX6_window_31 : decode cX6_window 31 = .ok (.iload_n 3, 1) := by decide +kernel
theorem dX6_window_32 : decode cX6_window 32 = .ok (.if_icmp .lt 10, 3) := by decide +kernel
theorem dX6_window_35 : decode cX6_window 35 = .ok (.iload 4, 2) := by decide +kernel
theorem dX6_window_37 : decode cX6_window 37 = .ok (.ldc 92, 2) := by decide +kernel
theorem dX6_window_39 : decode cX6_window 39 = .ok (.if_icmp .le 13, 3) := by decide +kernel
theorem dX6_window_42 : decode cX6_window 42 = .ok (.new 93, 3) := by decide +kernel
theorem dX6_window_45 : decode cX6_window 45 = .ok (.dup, 1) := by decide +kernel
theorem dX6_window_46 : decode cX6_window 46 = .ok (.ldc 98, 2) := by decide +kernel
theorem dX6_window_48 : decode cX6_window 48 = .ok (.invokespecial 97, 3) := by decide +kernel
theorem dX6_window_51 : decode cX6_window 51 = .ok (.athrow, 1) := by decide +kernel
theorem dX6_window_52 : decode cX6_window 52 = .ok (.aload_n 0, 1) := by decide +kernel
theorem dX6_window_53 : decode cX6_window 53 = .ok (.getfield 12, 3) := by decide +kernel
theorem dX6_window_56 : decode cX6_window 56 = .ok (.getfield 100, 3) := by decide +kernel
theorem dX6_window_59 : decode cX6_window 59 = .ok (.bipush 30, 2) := by decide +kernel
theorem dX6_window_61 : decode cX6_window 61 = .ok (.if_icmp .lt 13, 3) := by decide +kernel
theorem dX6_window_64 : decode cX6_window 64 = .ok (.new 75, 3) := by decide +kernel
theorem dX6_window_67 : decode cX6_window 67 = .ok (.dup, 1) := by decide +kernel
theorem dX6_window_68 : decode cX6_window 68 = .ok (.ldc 103, 2) := by decide +kernel
theorem dX6_window_70 : decode cX6_window 70 = .ok (.invokespecial 79, 3) := by decide +kernel
theorem dX6_window_73 : decode cX6_window 73 = .ok (.athrow, 1) := by decide +kernel
theorem dX6_window_74 : decode cX6_window 74 = .ok (.aload_n 0, 1) := by decide +kernel
theorem dX6_window_75 : decode cX6_window 75 = .ok (.getfield 12, 3) := by decide +kernel
theorem dX6_window_78 : decode cX6_window 78 = .ok (.iload_n 1, 1) := by decide +kernel
theorem dX6_window_79 : decode cX6_window 79 = .ok (.iload_n 2, 1) := by decide +kernel
theorem dX6_window_80 : decode cX6_window 80 = .ok (.iload_n 3, 1) := by decide +kernel
theorem dX6_window_81 : decode cX6_window 81 = .ok (.iload 4, 2) := by decide +kernel
theorem dX6_window_83 : decode cX6_window 83 = .ok (.invokevirtual 105, 3) := by decide +kernel
theorem dX6_window_86 : decode cX6_window 86 = .ok (.aload_n 0, 1) := by decide +kernel
theorem dX6_window_87 : decode cX6_window 87 = .ok (.invokevirtual 109, 3) := by decide +kernel
theorem dX6_window_90 : decode cX6_window 90 = .ok (.aload_n 0, 1) := by decide +kernel
theorem dX6_window_91 : decode cX6_window 91 = .ok (.getfield 12, 3) := by decide +kernel
theorem dX6_window_94 : decode cX6_window 94 = .ok (.getfield 100, 3) := by decide +kernel
theorem dX6_window_97 : decode cX6_window 97 = .ok (.ireturn, 1) := by decide +kernel
theorem dX6_claim_0 : decode cX6_claim 0 = .ok (.iload_n 1, 1) := by decide +kernel
theorem dX6_claim_1 : decode cX6_claim 1 = .ok (.invokestatic 68, 3) := by decide +kernel
theorem dX6_claim_4 : decode cX6_claim 4 = .ok (.iload_n 2, 1) := by decide +kernel
theorem dX6_claim_5 : decode cX6_claim 5 = .ok (.invokestatic 121, 3) := by decide +kernel
theorem dX6_claim_8 : decode cX6_claim 8 = .ok (.iload_n 3, 1) := by decide +kernel
theorem dX6_claim_9 : decode cX6_claim 9 = .ok (.ifCond .lt 9, 3) := by decide +kernel
theorem dX6_claim_12 : decode cX6_claim 12 = .ok (.iload_n 3, 1) := by decide +kernel
theorem dX6_claim_13 : decode cX6_claim 13 = .ok (.bipush 100, 2) := by decide +kernel
theorem dX6_claim_15 : decode cX6_claim 15 = .ok (.if_icmp .le 13, 3) := by decide +kernel
theorem dX6_claim_18 : decode cX6_claim 18 = .ok (.new 93, 3) := by decide +kernel
theorem dX6_claim_21 : decode cX6_claim 21 = .ok (.dup, 1) := by decide +kernel
theorem dX6_claim_22 : decode cX6_claim 22 = .ok (.ldc 124, 2) := by decide +kernel
theorem dX6_claim_24 : decode cX6_claim 24 = .ok (.invokespecial 97, 3) := by decide +kernel
theorem dX6_claim_27 : decode cX6_claim 27 = .ok (.athrow, 1) := by decide +kernel
theorem dX6_claim_28 : decode cX6_claim 28 = .ok (.aload_n 0, 1) := by decide +kernel
theorem dX6_claim_29 : decode cX6_claim 29 = .ok (.getfield 19, 3) := by decide +kernel
theorem dX6_claim_32 : decode cX6_claim 32 = .ok (.getfield 126, 3) := by decide +kernel
theorem dX6_claim_35 : decode cX6_claim 35 = .ok (.iload_n 1, 1) := by decide +kernel
theorem dX6_claim_36 : decode cX6_claim 36 = .ok (.aaload, 1) := by decide +kernel
theorem dX6_claim_37 : decode cX6_claim 37 = .ok (.iload_n 2, 1) := by decide +kernel
theorem dX6_claim_38 : decode cX6_claim 38 = .ok (.iload_n 3, 1) := by decide +kernel
theorem dX6_claim_39 : decode cX6_claim 39 = .ok (.iastore, 1) := by decide +kernel
theorem dX6_claim_40 : decode cX6_claim 40 = .ok (.aload_n 0, 1) := by decide +kernel
theorem dX6_claim_41 : decode cX6_claim 41 = .ok (.getfield 19, 3) := by decide +kernel
theorem dX6_claim_44 : decode cX6_claim 44 = .ok (.iload_n 1, 1) := by decide +kernel
theorem dX6_claim_45 : decode cX6_claim 45 = .ok (.invokevirtual 130, 3) := by decide +kernel
theorem dX6_claim_48 : decode cX6_claim 48 = .ok (.ireturn, 1) := by decide +kernel
theorem dX6_listener_0 : decode cX6_listener 0 = .ok (.iload_n 1, 1) := by decide +kernel
theorem dX6_listener_1 : decode cX6_listener 1 = .ok (.invokestatic 89, 3) := by decide +kernel
theorem dX6_listener_4 : decode cX6_listener 4 = .ok (.iload_n 2, 1) := by decide +kernel
theorem dX6_listener_5 : decode cX6_listener 5 = .ok (.invokestatic 141, 3) := by decide +kernel
theorem dX6_listener_8 : decode cX6_listener 8 = .ok (.aload_n 0, 1) := by decide +kernel
theorem dX6_listener_9 : decode cX6_listener 9 = .ok (.getfield 26, 3) := by decide +kernel
theorem dX6_listener_12 : decode cX6_listener 12 = .ok (.getfield 144, 3) := by decide +kernel
theorem dX6_listener_15 : decode cX6_listener 15 = .ok (.bipush 8, 2) := by decide +kernel
theorem dX6_listener_17 : decode cX6_listener 17 = .ok (.if_icmp .lt 13, 3) := by decide +kernel
theorem dX6_listener_20 : decode cX6_listener 20 = .ok (.new 75, 3) := by decide +kernel
theorem dX6_listener_23 : decode cX6_listener 23 = .ok (.dup, 1) := by decide +kernel
theorem dX6_listener_24 : decode cX6_listener 24 = .ok (.ldc 147, 2) := by decide +kernel
theorem dX6_listener_26 : decode cX6_listener 26 = .ok (.invokespecial 79, 3) := by decide +kernel
theorem dX6_listener_29 : decode cX6_listener 29 = .ok (.athrow, 1) := by decide +kernel
theorem dX6_listener_30 : decode cX6_listener 30 = .ok (.aload_n 0, 1) := by decide +kernel
theorem dX6_listener_31 : decode cX6_listener 31 = .ok (.getfield 26, 3) := by decide +kernel
theorem dX6_listener_34 : decode cX6_listener 34 = .ok (.iload_n 1, 1) := by decide +kernel
theorem dX6_listener_35 : decode cX6_listener 35 = .ok (.iload_n 2, 1) := by decide +kernel
theorem dX6_listener_36 : decode cX6_listener 36 = .ok (.invokevirtual 149, 3) := by decide +kernel
theorem dX6_listener_39 : decode cX6_listener 39 = .ok (.ireturn, 1) := by decide +kernel
theorem dX6_flag_0 : decode cX6_flag 0 = .ok (.aload_n 0, 1) := by decide +kernel
theorem dX6_flag_1 : decode cX6_flag 1 = .ok (.iload_n 1, 1) := by decide +kernel
theorem dX6_flag_2 : decode cX6_flag 2 = .ok (.invokevirtual 153, 3) := by decide +kernel
theorem dX6_flag_5 : decode cX6_flag 5 = .ok (.aload_n 0, 1) := by decide +kernel
theorem dX6_flag_6 : decode cX6_flag 6 = .ok (.getfield 26, 3) := by decide +kernel
theorem dX6_flag_9 : decode cX6_flag 9 = .ok (.getfield 159, 3) := by decide +kernel
theorem dX6_flag_12 : decode cX6_flag 12 = .ok (.iload_n 1, 1) := by decide +kernel
theorem dX6_flag_13 : decode cX6_flag 13 = .ok (.baload, 1) := by decide +kernel
theorem dX6_flag_14 : decode cX6_flag 14 = .ok (.istore_n 3, 1) := by decide +kernel
theorem dX6_flag_15 : decode cX6_flag 15 = .ok (.aload_n 0, 1) := by decide +kernel
theorem dX6_flag_16 : decode cX6_flag 16 = .ok (.getfield 26, 3) := by decide +kernel
theorem dX6_flag_19 : decode cX6_flag 19 = .ok (.getfield 159, 3) := by decide +kernel
theorem dX6_flag_22 : decode cX6_flag 22 = .ok (.iload_n 1, 1) := by decide +kernel
theorem dX6_flag_23 : decode cX6_flag 23 = .ok (.iload_n 2, 1) := by decide +kernel
theorem dX6_flag_24 : decode cX6_flag 24 = .ok (.bastore, 1) := by decide +kernel
theorem dX6_flag_25 : decode cX6_flag 25 = .ok (.aload_n 0, 1) := by decide +kernel
theorem dX6_flag_26 : decode cX6_flag 26 = .ok (.invokevirtual 109, 3) := by decide +kernel
theorem dX6_flag_29 : decode cX6_flag 29 = .ok (.iload_n 3, 1) := by decide +kernel
theorem dX6_flag_30 : decode cX6_flag 30 = .ok (.ireturn, 1) := by decide +kernel
theorem dX6_play_0 : decode cX6_play 0 = .ok (.aload_n 0, 1) := by decide +kernel
theorem dX6_play_1 : decode cX6_play 1 = .ok (.iload_n 1, 1) := by decide +kernel
theorem dX6_play_2 : decode cX6_play 2 = .ok (.invokevirtual 153, 3) := by decide +kernel
theorem dX6_play_5 : decode cX6_play 5 = .ok (.aload_n 0, 1) := by decide +kernel
theorem dX6_play_6 : decode cX6_play 6 = .ok (.iload_n 2, 1) := by decide +kernel
theorem dX6_play_7 : decode cX6_play 7 = .ok (.invokevirtual 86, 3) := by decide +kernel
theorem dX6_play_10 : decode cX6_play 10 = .ok (.iload_n 3, 1) := by decide +kernel
theorem dX6_play_11 : decode cX6_play 11 = .ok (.ifCond .lt 11, 3) := by decide +kernel
theorem dX6_play_14 : decode cX6_play 14 = .ok (.iload_n 3, 1) := by decide +kernel
theorem dX6_play_15 : decode cX6_play 15 = .ok (.aload_n 0, 1) := by decide +kernel
theorem dX6_play_16 : decode cX6_play 16 = .ok (.getfield 61, 3) := by decide +kernel
theorem dX6_play_19 : decode cX6_play 19 = .ok (.if_icmp .le 13, 3) := by decide +kernel
theorem dX6_play_22 : decode cX6_play 22 = .ok (.new 93, 3) := by decide +kernel
theorem dX6_play_25 : decode cX6_play 25 = .ok (.dup, 1) := by decide +kernel
theorem dX6_play_26 : decode cX6_play 26 = .ok (.ldc 183, 2) := by decide +kernel
theorem dX6_play_28 : decode cX6_play 28 = .ok (.invokespecial 97, 3) := by decide +kernel
theorem dX6_play_31 : decode cX6_play 31 = .ok (.athrow, 1) := by decide +kernel
theorem dX6_play_32 : decode cX6_play 32 = .ok (.iload 4, 2) := by decide +kernel
theorem dX6_play_34 : decode cX6_play 34 = .ok (.ifCond .lt 11, 3) := by decide +kernel
theorem dX6_play_37 : decode cX6_play 37 = .ok (.iload 4, 2) := by decide +kernel
theorem dX6_play_39 : decode cX6_play 39 = .ok (.sipush 600, 3) := by decide +kernel
theorem dX6_play_42 : decode cX6_play 42 = .ok (.if_icmp .le 13, 3) := by decide +kernel
theorem dX6_play_45 : decode cX6_play 45 = .ok (.new 93, 3) := by decide +kernel
theorem dX6_play_48 : decode cX6_play 48 = .ok (.dup, 1) := by decide +kernel
theorem dX6_play_49 : decode cX6_play 49 = .ok (.ldc 185, 2) := by decide +kernel
theorem dX6_play_51 : decode cX6_play 51 = .ok (.invokespecial 97, 3) := by decide +kernel
theorem dX6_play_54 : decode cX6_play 54 = .ok (.athrow, 1) := by decide +kernel
theorem dX6_play_55 : decode cX6_play 55 = .ok (.aload_n 0, 1) := by decide +kernel
theorem dX6_play_56 : decode cX6_play 56 = .ok (.iload_n 3, 1) := by decide +kernel
theorem dX6_play_57 : decode cX6_play 57 = .ok (.invokevirtual 187, 3) := by decide +kernel
theorem dX6_play_60 : decode cX6_play 60 = .ok (.ifCond .eq 13, 3) := by decide +kernel
theorem dX6_play_63 : decode cX6_play 63 = .ok (.new 75, 3) := by decide +kernel
theorem dX6_play_66 : decode cX6_play 66 = .ok (.dup, 1) := by decide +kernel
theorem dX6_play_67 : decode cX6_play 67 = .ok (.ldc 190, 2) := by decide +kernel
theorem dX6_play_69 : decode cX6_play 69 = .ok (.invokespecial 79, 3) := by decide +kernel
theorem dX6_play_72 : decode cX6_play 72 = .ok (.athrow, 1) := by decide +kernel
theorem dX6_play_73 : decode cX6_play 73 = .ok (.iload_n 3, 1) := by decide +kernel
theorem dX6_play_74 : decode cX6_play 74 = .ok (.aload_n 0, 1) := by decide +kernel
theorem dX6_play_75 : decode cX6_play 75 = .ok (.getfield 61, 3) := by decide +kernel
theorem dX6_play_78 : decode cX6_play 78 = .ok (.if_icmp .ge 25, 3) := by decide +kernel
theorem dX6_play_81 : decode cX6_play 81 = .ok (.aload_n 0, 1) := by decide +kernel
theorem dX6_play_82 : decode cX6_play 82 = .ok (.getfield 26, 3) := by decide +kernel
theorem dX6_play_85 : decode cX6_play 85 = .ok (.iload_n 1, 1) := by decide +kernel
theorem dX6_play_86 : decode cX6_play 86 = .ok (.iload_n 2, 1) := by decide +kernel
theorem dX6_play_87 : decode cX6_play 87 = .ok (.invokevirtual 163, 3) := by decide +kernel
theorem dX6_play_90 : decode cX6_play 90 = .ok (.ifCond .ne 13, 3) := by decide +kernel
theorem dX6_play_93 : decode cX6_play 93 = .ok (.new 75, 3) := by decide +kernel
theorem dX6_play_96 : decode cX6_play 96 = .ok (.dup, 1) := by decide +kernel
theorem dX6_play_97 : decode cX6_play 97 = .ok (.ldc 192, 2) := by decide +kernel
theorem dX6_play_99 : decode cX6_play 99 = .ok (.invokespecial 79, 3) := by decide +kernel
theorem dX6_play_102 : decode cX6_play 102 = .ok (.athrow, 1) := by decide +kernel
theorem dX6_play_103 : decode cX6_play 103 = .ok (.aload_n 0, 1) := by decide +kernel
theorem dX6_play_104 : decode cX6_play 104 = .ok (.getfield 33, 3) := by decide +kernel
theorem dX6_play_107 : decode cX6_play 107 = .ok (.getfield 194, 3) := by decide +kernel
theorem dX6_play_110 : decode cX6_play 110 = .ok (.sipush 130, 3) := by decide +kernel
theorem dX6_play_113 : decode cX6_play 113 = .ok (.if_icmp .lt 13, 3) := by decide +kernel
theorem dX6_play_116 : decode cX6_play 116 = .ok (.new 75, 3) := by decide +kernel
theorem dX6_play_119 : decode cX6_play 119 = .ok (.dup, 1) := by decide +kernel
theorem dX6_play_120 : decode cX6_play 120 = .ok (.ldc 195, 2) := by decide +kernel
theorem dX6_play_122 : decode cX6_play 122 = .ok (.invokespecial 79, 3) := by decide +kernel
theorem dX6_play_125 : decode cX6_play 125 = .ok (.athrow, 1) := by decide +kernel
theorem dX6_play_126 : decode cX6_play 126 = .ok (.aload_n 0, 1) := by decide +kernel
theorem dX6_play_127 : decode cX6_play 127 = .ok (.getfield 33, 3) := by decide +kernel
theorem dX6_play_130 : decode cX6_play 130 = .ok (.iload_n 1, 1) := by decide +kernel
theorem dX6_play_131 : decode cX6_play 131 = .ok (.iload_n 2, 1) := by decide +kernel
theorem dX6_play_132 : decode cX6_play 132 = .ok (.iload_n 3, 1) := by decide +kernel
theorem dX6_play_133 : decode cX6_play 133 = .ok (.iload 4, 2) := by decide +kernel
theorem dX6_play_135 : decode cX6_play 135 = .ok (.invokevirtual 197, 3) := by decide +kernel
theorem dX6_play_138 : decode cX6_play 138 = .ok (.istore 5, 2) := by decide +kernel
theorem dX6_play_140 : decode cX6_play 140 = .ok (.aload_n 0, 1) := by decide +kernel
theorem dX6_play_141 : decode cX6_play 141 = .ok (.invokevirtual 109, 3) := by decide +kernel
theorem dX6_play_144 : decode cX6_play 144 = .ok (.aload_n 0, 1) := by decide +kernel
theorem dX6_play_145 : decode cX6_play 145 = .ok (.getfield 33, 3) := by decide +kernel
theorem dX6_play_148 : decode cX6_play 148 = .ok (.getfield 200, 3) := by decide +kernel
theorem dX6_play_151 : decode cX6_play 151 = .ok (.iload 5, 2) := by decide +kernel
theorem dX6_play_153 : decode cX6_play 153 = .ok (.iaload, 1) := by decide +kernel
theorem dX6_play_154 : decode cX6_play 154 = .ok (.ireturn, 1) := by decide +kernel
theorem dX6_pass_0 : decode cX6_pass 0 = .ok (.iload_n 1, 1) := by decide +kernel
theorem dX6_pass_1 : decode cX6_pass 1 = .ok (.iconst 1, 1) := by decide +kernel
theorem dX6_pass_2 : decode cX6_pass 2 = .ok (.if_icmp .lt 10, 3) := by decide +kernel
theorem dX6_pass_5 : decode cX6_pass 5 = .ok (.iload_n 1, 1) := by decide +kernel
theorem dX6_pass_6 : decode cX6_pass 6 = .ok (.sipush 20000, 3) := by decide +kernel
theorem dX6_pass_9 : decode cX6_pass 9 = .ok (.if_icmp .le 13, 3) := by decide +kernel
theorem dX6_pass_12 : decode cX6_pass 12 = .ok (.new 93, 3) := by decide +kernel
theorem dX6_pass_15 : decode cX6_pass 15 = .ok (.dup, 1) := by decide +kernel
theorem dX6_pass_16 : decode cX6_pass 16 = .ok (.ldc 203, 2) := by decide +kernel
theorem dX6_pass_18 : decode cX6_pass 18 = .ok (.invokespecial 97, 3) := by decide +kernel
theorem dX6_pass_21 : decode cX6_pass 21 = .ok (.athrow, 1) := by decide +kernel
theorem dX6_pass_22 : decode cX6_pass 22 = .ok (.aload_n 0, 1) := by decide +kernel
theorem dX6_pass_23 : decode cX6_pass 23 = .ok (.getfield 61, 3) := by decide +kernel
theorem dX6_pass_26 : decode cX6_pass 26 = .ok (.iload_n 1, 1) := by decide +kernel
theorem dX6_pass_27 : decode cX6_pass 27 = .ok (.iadd, 1) := by decide +kernel
theorem dX6_pass_28 : decode cX6_pass 28 = .ok (.ldc 92, 2) := by decide +kernel
theorem dX6_pass_30 : decode cX6_pass 30 = .ok (.if_icmp .le 13, 3) := by decide +kernel
theorem dX6_pass_33 : decode cX6_pass 33 = .ok (.new 75, 3) := by decide +kernel
theorem dX6_pass_36 : decode cX6_pass 36 = .ok (.dup, 1) := by decide +kernel
theorem dX6_pass_37 : decode cX6_pass 37 = .ok (.ldc 205, 2) := by decide +kernel
theorem dX6_pass_39 : decode cX6_pass 39 = .ok (.invokespecial 79, 3) := by decide +kernel
theorem dX6_pass_42 : decode cX6_pass 42 = .ok (.athrow, 1) := by decide +kernel
theorem dX6_pass_43 : decode cX6_pass 43 = .ok (.aload_n 0, 1) := by decide +kernel
theorem dX6_pass_44 : decode cX6_pass 44 = .ok (.getfield 61, 3) := by decide +kernel
theorem dX6_pass_47 : decode cX6_pass 47 = .ok (.iload_n 1, 1) := by decide +kernel
theorem dX6_pass_48 : decode cX6_pass 48 = .ok (.iadd, 1) := by decide +kernel
theorem dX6_pass_49 : decode cX6_pass 49 = .ok (.istore_n 2, 1) := by decide +kernel
theorem dX6_pass_50 : decode cX6_pass 50 = .ok (.iconst 0, 1) := by decide +kernel
theorem dX6_pass_51 : decode cX6_pass 51 = .ok (.istore_n 3, 1) := by decide +kernel
theorem dX6_pass_52 : decode cX6_pass 52 = .ok (.aload_n 0, 1) := by decide +kernel
theorem dX6_pass_53 : decode cX6_pass 53 = .ok (.getfield 61, 3) := by decide +kernel
theorem dX6_pass_56 : decode cX6_pass 56 = .ok (.invokestatic 207, 3) := by decide +kernel
theorem dX6_pass_59 : decode cX6_pass 59 = .ok (.istore 4, 2) := by decide +kernel
theorem dX6_pass_61 : decode cX6_pass 61 = .ok (.iload 4, 2) := by decide +kernel
theorem dX6_pass_63 : decode cX6_pass 63 = .ok (.iload_n 2, 1) := by decide +kernel
theorem dX6_pass_64 : decode cX6_pass 64 = .ok (.invokestatic 207, 3) := by decide +kernel
theorem dX6_pass_67 : decode cX6_pass 67 = .ok (.if_icmp .ge 32, 3) := by decide +kernel
theorem dX6_pass_70 : decode cX6_pass 70 = .ok (.iload_n 3, 1) := by decide +kernel
theorem dX6_pass_71 : decode cX6_pass 71 = .ok (.aload_n 0, 1) := by decide +kernel
theorem dX6_pass_72 : decode cX6_pass 72 = .ok (.invokevirtual 210, 3) := by decide +kernel
theorem dX6_pass_75 : decode cX6_pass 75 = .ok (.iadd, 1) := by decide +kernel
theorem dX6_pass_76 : decode cX6_pass 76 = .ok (.istore_n 3, 1) := by decide +kernel
theorem dX6_pass_77 : decode cX6_pass 77 = .ok (.aload_n 0, 1) := by decide +kernel
theorem dX6_pass_78 : decode cX6_pass 78 = .ok (.iload 4, 2) := by decide +kernel
theorem dX6_pass_80 : decode cX6_pass 80 = .ok (.iconst 1, 1) := by decide +kernel
theorem dX6_pass_81 : decode cX6_pass 81 = .ok (.iadd, 1) := by decide +kernel
theorem dX6_pass_82 : decode cX6_pass 82 = .ok (.sipush 14400, 3) := by decide +kernel
theorem dX6_pass_85 : decode cX6_pass 85 = .ok (.imul, 1) := by decide +kernel
theorem dX6_pass_86 : decode cX6_pass 86 = .ok (.putfield 61, 3) := by decide +kernel
theorem dX6_pass_89 : decode cX6_pass 89 = .ok (.aload_n 0, 1) := by decide +kernel
theorem dX6_pass_90 : decode cX6_pass 90 = .ok (.invokevirtual 109, 3) := by decide +kernel
theorem dX6_pass_93 : decode cX6_pass 93 = .ok (.iinc 4 1, 3) := by decide +kernel
theorem dX6_pass_96 : decode cX6_pass 96 = .ok (.goto (-35), 3) := by decide +kernel
theorem dX6_pass_99 : decode cX6_pass 99 = .ok (.aload_n 0, 1) := by decide +kernel
theorem dX6_pass_100 : decode cX6_pass 100 = .ok (.iload_n 2, 1) := by decide +kernel
theorem dX6_pass_101 : decode cX6_pass 101 = .ok (.putfield 61, 3) := by decide +kernel
theorem dX6_pass_104 : decode cX6_pass 104 = .ok (.iload_n 3, 1) := by decide +kernel
theorem dX6_pass_105 : decode cX6_pass 105 = .ok (.ireturn, 1) := by decide +kernel
theorem dX6_ofTrack_0 : decode cX6_ofTrack 0 = .ok (.aload_n 0, 1) := by decide +kernel
theorem dX6_ofTrack_1 : decode cX6_ofTrack 1 = .ok (.iload_n 1, 1) := by decide +kernel
theorem dX6_ofTrack_2 : decode cX6_ofTrack 2 = .ok (.invokevirtual 86, 3) := by decide +kernel
theorem dX6_ofTrack_5 : decode cX6_ofTrack 5 = .ok (.iload_n 2, 1) := by decide +kernel
theorem dX6_ofTrack_6 : decode cX6_ofTrack 6 = .ok (.tableswitch 72 0 3 #[30, 40, 50, 63], 30) := by decide +kernel
theorem dX6_ofTrack_36 : decode cX6_ofTrack 36 = .ok (.aload_n 0, 1) := by decide +kernel
theorem dX6_ofTrack_37 : decode cX6_ofTrack 37 = .ok (.getfield 12, 3) := by decide +kernel
theorem dX6_ofTrack_40 : decode cX6_ofTrack 40 = .ok (.getfield 214, 3) := by decide +kernel
theorem dX6_ofTrack_43 : decode cX6_ofTrack 43 = .ok (.iload_n 1, 1) := by decide +kernel
theorem dX6_ofTrack_44 : decode cX6_ofTrack 44 = .ok (.iaload, 1) := by decide +kernel
theorem dX6_ofTrack_45 : decode cX6_ofTrack 45 = .ok (.ireturn, 1) := by decide +kernel
theorem dX6_ofTrack_46 : decode cX6_ofTrack 46 = .ok (.aload_n 0, 1) := by decide +kernel
theorem dX6_ofTrack_47 : decode cX6_ofTrack 47 = .ok (.getfield 12, 3) := by decide +kernel
theorem dX6_ofTrack_50 : decode cX6_ofTrack 50 = .ok (.getfield 118, 3) := by decide +kernel
theorem dX6_ofTrack_53 : decode cX6_ofTrack 53 = .ok (.iload_n 1, 1) := by decide +kernel
theorem dX6_ofTrack_54 : decode cX6_ofTrack 54 = .ok (.iaload, 1) := by decide +kernel
theorem dX6_ofTrack_55 : decode cX6_ofTrack 55 = .ok (.ireturn, 1) := by decide +kernel
theorem dX6_ofTrack_56 : decode cX6_ofTrack 56 = .ok (.aload_n 0, 1) := by decide +kernel
theorem dX6_ofTrack_57 : decode cX6_ofTrack 57 = .ok (.getfield 12, 3) := by decide +kernel
theorem dX6_ofTrack_60 : decode cX6_ofTrack 60 = .ok (.iload_n 1, 1) := by decide +kernel
theorem dX6_ofTrack_61 : decode cX6_ofTrack 61 = .ok (.aload_n 0, 1) := by decide +kernel
theorem dX6_ofTrack_62 : decode cX6_ofTrack 62 = .ok (.getfield 61, 3) := by decide +kernel
theorem dX6_ofTrack_65 : decode cX6_ofTrack 65 = .ok (.invokevirtual 217, 3) := by decide +kernel
theorem dX6_ofTrack_68 : decode cX6_ofTrack 68 = .ok (.ireturn, 1) := by decide +kernel
theorem dX6_ofTrack_69 : decode cX6_ofTrack 69 = .ok (.aload_n 0, 1) := by decide +kernel
theorem dX6_ofTrack_70 : decode cX6_ofTrack 70 = .ok (.getfield 33, 3) := by decide +kernel
theorem dX6_ofTrack_73 : decode cX6_ofTrack 73 = .ok (.iload_n 1, 1) := by decide +kernel
theorem dX6_ofTrack_74 : decode cX6_ofTrack 74 = .ok (.invokevirtual 220, 3) := by decide +kernel
theorem dX6_ofTrack_77 : decode cX6_ofTrack 77 = .ok (.ireturn, 1) := by decide +kernel
theorem dX6_ofTrack_78 : decode cX6_ofTrack 78 = .ok (.new 93, 3) := by decide +kernel
theorem dX6_ofTrack_81 : decode cX6_ofTrack 81 = .ok (.dup, 1) := by decide +kernel
theorem dX6_ofTrack_82 : decode cX6_ofTrack 82 = .ok (.ldc 223, 2) := by decide +kernel
theorem dX6_ofTrack_84 : decode cX6_ofTrack 84 = .ok (.invokespecial 97, 3) := by decide +kernel
theorem dX6_ofTrack_87 : decode cX6_ofTrack 87 = .ok (.athrow, 1) := by decide +kernel
theorem dX6_ofListener_0 : decode cX6_ofListener 0 = .ok (.aload_n 0, 1) := by decide +kernel
theorem dX6_ofListener_1 : decode cX6_ofListener 1 = .ok (.iload_n 1, 1) := by decide +kernel
theorem dX6_ofListener_2 : decode cX6_ofListener 2 = .ok (.invokevirtual 153, 3) := by decide +kernel
theorem dX6_ofListener_5 : decode cX6_ofListener 5 = .ok (.iload_n 2, 1) := by decide +kernel
theorem dX6_ofListener_6 : decode cX6_ofListener 6 = .ok (.tableswitch 139 0 7 #[46, 56, 66, 84, 94, 103, 116, 129], 46) := by decide +kernel
theorem dX6_ofListener_52 : decode cX6_ofListener 52 = .ok (.aload_n 0, 1) := by decide +kernel
theorem dX6_ofListener_53 : decode cX6_ofListener 53 = .ok (.getfield 26, 3) := by decide +kernel
theorem dX6_ofListener_56 : decode cX6_ofListener 56 = .ok (.getfield 169, 3) := by decide +kernel
theorem dX6_ofListener_59 : decode cX6_ofListener 59 = .ok (.iload_n 1, 1) := by decide +kernel
theorem dX6_ofListener_60 : decode cX6_ofListener 60 = .ok (.iaload, 1) := by decide +kernel
theorem dX6_ofListener_61 : decode cX6_ofListener 61 = .ok (.ireturn, 1) := by decide +kernel
theorem dX6_ofListener_62 : decode cX6_ofListener 62 = .ok (.aload_n 0, 1) := by decide +kernel
theorem dX6_ofListener_63 : decode cX6_ofListener 63 = .ok (.getfield 26, 3) := by decide +kernel
theorem dX6_ofListener_66 : decode cX6_ofListener 66 = .ok (.getfield 156, 3) := by decide +kernel
theorem dX6_ofListener_69 : decode cX6_ofListener 69 = .ok (.iload_n 1, 1) := by decide +kernel
theorem dX6_ofListener_70 : decode cX6_ofListener 70 = .ok (.iaload, 1) := by decide +kernel
theorem dX6_ofListener_71 : decode cX6_ofListener 71 = .ok (.ireturn, 1) := by decide +kernel
theorem dX6_ofListener_72 : decode cX6_ofListener 72 = .ok (.aload_n 0, 1) := by decide +kernel
theorem dX6_ofListener_73 : decode cX6_ofListener 73 = .ok (.getfield 26, 3) := by decide +kernel
theorem dX6_ofListener_76 : decode cX6_ofListener 76 = .ok (.getfield 159, 3) := by decide +kernel
theorem dX6_ofListener_79 : decode cX6_ofListener 79 = .ok (.iload_n 1, 1) := by decide +kernel
theorem dX6_ofListener_80 : decode cX6_ofListener 80 = .ok (.baload, 1) := by decide +kernel
theorem dX6_ofListener_81 : decode cX6_ofListener 81 = .ok (.ifCond .eq 7, 3) := by decide +kernel
theorem dX6_ofListener_84 : decode cX6_ofListener 84 = .ok (.iconst 1, 1) := by decide +kernel
theorem dX6_ofListener_85 : decode cX6_ofListener 85 = .ok (.goto 4, 3) := by decide +kernel
theorem dX6_ofListener_88 : decode cX6_ofListener 88 = .ok (.iconst 0, 1) := by decide +kernel
theorem dX6_ofListener_89 : decode cX6_ofListener 89 = .ok (.ireturn, 1) := by decide +kernel
theorem dX6_ofListener_90 : decode cX6_ofListener 90 = .ok (.aload_n 0, 1) := by decide +kernel
theorem dX6_ofListener_91 : decode cX6_ofListener 91 = .ok (.getfield 26, 3) := by decide +kernel
theorem dX6_ofListener_94 : decode cX6_ofListener 94 = .ok (.getfield 225, 3) := by decide +kernel
theorem dX6_ofListener_97 : decode cX6_ofListener 97 = .ok (.iload_n 1, 1) := by decide +kernel
theorem dX6_ofListener_98 : decode cX6_ofListener 98 = .ok (.iaload, 1) := by decide +kernel
theorem dX6_ofListener_99 : decode cX6_ofListener 99 = .ok (.ireturn, 1) := by decide +kernel
theorem dX6_ofListener_100 : decode cX6_ofListener 100 = .ok (.aload_n 0, 1) := by decide +kernel
theorem dX6_ofListener_101 : decode cX6_ofListener 101 = .ok (.getfield 33, 3) := by decide +kernel
theorem dX6_ofListener_104 : decode cX6_ofListener 104 = .ok (.iload_n 1, 1) := by decide +kernel
theorem dX6_ofListener_105 : decode cX6_ofListener 105 = .ok (.invokevirtual 228, 3) := by decide +kernel
theorem dX6_ofListener_108 : decode cX6_ofListener 108 = .ok (.ireturn, 1) := by decide +kernel
theorem dX6_ofListener_109 : decode cX6_ofListener 109 = .ok (.aload_n 0, 1) := by decide +kernel
theorem dX6_ofListener_110 : decode cX6_ofListener 110 = .ok (.getfield 40, 3) := by decide +kernel
theorem dX6_ofListener_113 : decode cX6_ofListener 113 = .ok (.getfield 231, 3) := by decide +kernel
theorem dX6_ofListener_116 : decode cX6_ofListener 116 = .ok (.iload_n 1, 1) := by decide +kernel
theorem dX6_ofListener_117 : decode cX6_ofListener 117 = .ok (.aaload, 1) := by decide +kernel
theorem dX6_ofListener_118 : decode cX6_ofListener 118 = .ok (.invokestatic 234, 3) := by decide +kernel
theorem dX6_ofListener_121 : decode cX6_ofListener 121 = .ok (.ireturn, 1) := by decide +kernel
theorem dX6_ofListener_122 : decode cX6_ofListener 122 = .ok (.aload_n 0, 1) := by decide +kernel
theorem dX6_ofListener_123 : decode cX6_ofListener 123 = .ok (.getfield 40, 3) := by decide +kernel
theorem dX6_ofListener_126 : decode cX6_ofListener 126 = .ok (.getfield 238, 3) := by decide +kernel
theorem dX6_ofListener_129 : decode cX6_ofListener 129 = .ok (.iload_n 1, 1) := by decide +kernel
theorem dX6_ofListener_130 : decode cX6_ofListener 130 = .ok (.aaload, 1) := by decide +kernel
theorem dX6_ofListener_131 : decode cX6_ofListener 131 = .ok (.invokestatic 234, 3) := by decide +kernel
theorem dX6_ofListener_134 : decode cX6_ofListener 134 = .ok (.ireturn, 1) := by decide +kernel
theorem dX6_ofListener_135 : decode cX6_ofListener 135 = .ok (.aload_n 0, 1) := by decide +kernel
theorem dX6_ofListener_136 : decode cX6_ofListener 136 = .ok (.getfield 26, 3) := by decide +kernel
theorem dX6_ofListener_139 : decode cX6_ofListener 139 = .ok (.getfield 241, 3) := by decide +kernel
theorem dX6_ofListener_142 : decode cX6_ofListener 142 = .ok (.iload_n 1, 1) := by decide +kernel
theorem dX6_ofListener_143 : decode cX6_ofListener 143 = .ok (.iaload, 1) := by decide +kernel
theorem dX6_ofListener_144 : decode cX6_ofListener 144 = .ok (.ireturn, 1) := by decide +kernel
theorem dX6_ofListener_145 : decode cX6_ofListener 145 = .ok (.new 93, 3) := by decide +kernel
theorem dX6_ofListener_148 : decode cX6_ofListener 148 = .ok (.dup, 1) := by decide +kernel
theorem dX6_ofListener_149 : decode cX6_ofListener 149 = .ok (.ldc 223, 2) := by decide +kernel
theorem dX6_ofListener_151 : decode cX6_ofListener 151 = .ok (.invokespecial 97, 3) := by decide +kernel
theorem dX6_ofListener_154 : decode cX6_ofListener 154 = .ok (.athrow, 1) := by decide +kernel
theorem dX6_ofPlay_0 : decode cX6_ofPlay 0 = .ok (.iload_n 1, 1) := by decide +kernel
theorem dX6_ofPlay_1 : decode cX6_ofPlay 1 = .ok (.ifCond .lt 14, 3) := by decide +kernel
theorem dX6_ofPlay_4 : decode cX6_ofPlay 4 = .ok (.iload_n 1, 1) := by decide +kernel
theorem dX6_ofPlay_5 : decode cX6_ofPlay 5 = .ok (.aload_n 0, 1) := by decide +kernel
theorem dX6_ofPlay_6 : decode cX6_ofPlay 6 = .ok (.getfield 33, 3) := by decide +kernel
theorem dX6_ofPlay_9 : decode cX6_ofPlay 9 = .ok (.getfield 194, 3) := by decide +kernel
theorem dX6_ofPlay_12 : decode cX6_ofPlay 12 = .ok (.if_icmp .lt 13, 3) := by decide +kernel
theorem dX6_ofPlay_15 : decode cX6_ofPlay 15 = .ok (.new 244, 3) := by decide +kernel
theorem dX6_ofPlay_18 : decode cX6_ofPlay 18 = .ok (.dup, 1) := by decide +kernel
theorem dX6_ofPlay_19 : decode cX6_ofPlay 19 = .ok (.ldc 246, 2) := by decide +kernel
theorem dX6_ofPlay_21 : decode cX6_ofPlay 21 = .ok (.invokespecial 248, 3) := by decide +kernel
theorem dX6_ofPlay_24 : decode cX6_ofPlay 24 = .ok (.athrow, 1) := by decide +kernel
theorem dX6_ofPlay_25 : decode cX6_ofPlay 25 = .ok (.iload_n 2, 1) := by decide +kernel
theorem dX6_ofPlay_26 : decode cX6_ofPlay 26 = .ok (.tableswitch 110 0 5 #[38, 48, 58, 68, 78, 88], 38) := by decide +kernel
theorem dX6_ofPlay_64 : decode cX6_ofPlay 64 = .ok (.aload_n 0, 1) := by decide +kernel
theorem dX6_ofPlay_65 : decode cX6_ofPlay 65 = .ok (.getfield 33, 3) := by decide +kernel
theorem dX6_ofPlay_68 : decode cX6_ofPlay 68 = .ok (.getfield 249, 3) := by decide +kernel
theorem dX6_ofPlay_71 : decode cX6_ofPlay 71 = .ok (.iload_n 1, 1) := by decide +kernel
theorem dX6_ofPlay_72 : decode cX6_ofPlay 72 = .ok (.iaload, 1) := by decide +kernel
theorem dX6_ofPlay_73 : decode cX6_ofPlay 73 = .ok (.ireturn, 1) := by decide +kernel
theorem dX6_ofPlay_74 : decode cX6_ofPlay 74 = .ok (.aload_n 0, 1) := by decide +kernel
theorem dX6_ofPlay_75 : decode cX6_ofPlay 75 = .ok (.getfield 33, 3) := by decide +kernel
theorem dX6_ofPlay_78 : decode cX6_ofPlay 78 = .ok (.getfield 252, 3) := by decide +kernel
theorem dX6_ofPlay_81 : decode cX6_ofPlay 81 = .ok (.iload_n 1, 1) := by decide +kernel
theorem dX6_ofPlay_82 : decode cX6_ofPlay 82 = .ok (.iaload, 1) := by decide +kernel
theorem dX6_ofPlay_83 : decode cX6_ofPlay 83 = .ok (.ireturn, 1) := by decide +kernel
theorem dX6_ofPlay_84 : decode cX6_ofPlay 84 = .ok (.aload_n 0, 1) := by decide +kernel
theorem dX6_ofPlay_85 : decode cX6_ofPlay 85 = .ok (.getfield 33, 3) := by decide +kernel
theorem dX6_ofPlay_88 : decode cX6_ofPlay 88 = .ok (.getfield 255, 3) := by decide +kernel
theorem dX6_ofPlay_91 : decode cX6_ofPlay 91 = .ok (.iload_n 1, 1) := by decide +kernel
theorem dX6_ofPlay_92 : decode cX6_ofPlay 92 = .ok (.iaload, 1) := by decide +kernel
theorem dX6_ofPlay_93 : decode cX6_ofPlay 93 = .ok (.ireturn, 1) := by decide +kernel
theorem dX6_ofPlay_94 : decode cX6_ofPlay 94 = .ok (.aload_n 0, 1) := by decide +kernel
theorem dX6_ofPlay_95 : decode cX6_ofPlay 95 = .ok (.getfield 33, 3) := by decide +kernel
theorem dX6_ofPlay_98 : decode cX6_ofPlay 98 = .ok (.getfield 258, 3) := by decide +kernel
theorem dX6_ofPlay_101 : decode cX6_ofPlay 101 = .ok (.iload_n 1, 1) := by decide +kernel
theorem dX6_ofPlay_102 : decode cX6_ofPlay 102 = .ok (.iaload, 1) := by decide +kernel
theorem dX6_ofPlay_103 : decode cX6_ofPlay 103 = .ok (.ireturn, 1) := by decide +kernel
theorem dX6_ofPlay_104 : decode cX6_ofPlay 104 = .ok (.aload_n 0, 1) := by decide +kernel
theorem dX6_ofPlay_105 : decode cX6_ofPlay 105 = .ok (.getfield 33, 3) := by decide +kernel
theorem dX6_ofPlay_108 : decode cX6_ofPlay 108 = .ok (.getfield 200, 3) := by decide +kernel
theorem dX6_ofPlay_111 : decode cX6_ofPlay 111 = .ok (.iload_n 1, 1) := by decide +kernel
theorem dX6_ofPlay_112 : decode cX6_ofPlay 112 = .ok (.iaload, 1) := by decide +kernel
theorem dX6_ofPlay_113 : decode cX6_ofPlay 113 = .ok (.ireturn, 1) := by decide +kernel
theorem dX6_ofPlay_114 : decode cX6_ofPlay 114 = .ok (.aload_n 0, 1) := by decide +kernel
theorem dX6_ofPlay_115 : decode cX6_ofPlay 115 = .ok (.aload_n 0, 1) := by decide +kernel
theorem dX6_ofPlay_116 : decode cX6_ofPlay 116 = .ok (.getfield 33, 3) := by decide +kernel
theorem dX6_ofPlay_119 : decode cX6_ofPlay 119 = .ok (.getfield 255, 3) := by decide +kernel
theorem dX6_ofPlay_122 : decode cX6_ofPlay 122 = .ok (.iload_n 1, 1) := by decide +kernel
theorem dX6_ofPlay_123 : decode cX6_ofPlay 123 = .ok (.iaload, 1) := by decide +kernel
theorem dX6_ofPlay_124 : decode cX6_ofPlay 124 = .ok (.invokevirtual 187, 3) := by decide +kernel
theorem dX6_ofPlay_127 : decode cX6_ofPlay 127 = .ok (.ifCond .eq 7, 3) := by decide +kernel
theorem dX6_ofPlay_130 : decode cX6_ofPlay 130 = .ok (.iconst 1, 1) := by decide +kernel
theorem dX6_ofPlay_131 : decode cX6_ofPlay 131 = .ok (.goto 4, 3) := by decide +kernel
theorem dX6_ofPlay_134 : decode cX6_ofPlay 134 = .ok (.iconst 0, 1) := by decide +kernel
theorem dX6_ofPlay_135 : decode cX6_ofPlay 135 = .ok (.ireturn, 1) := by decide +kernel
theorem dX6_ofPlay_136 : decode cX6_ofPlay 136 = .ok (.new 93, 3) := by decide +kernel
theorem dX6_ofPlay_139 : decode cX6_ofPlay 139 = .ok (.dup, 1) := by decide +kernel
theorem dX6_ofPlay_140 : decode cX6_ofPlay 140 = .ok (.ldc 223, 2) := by decide +kernel
theorem dX6_ofPlay_142 : decode cX6_ofPlay 142 = .ok (.invokespecial 97, 3) := by decide +kernel
theorem dX6_ofPlay_145 : decode cX6_ofPlay 145 = .ok (.athrow, 1) := by decide +kernel
theorem dX6_ofParty_0 : decode cX6_ofParty 0 = .ok (.iload_n 1, 1) := by decide +kernel
theorem dX6_ofParty_1 : decode cX6_ofParty 1 = .ok (.invokestatic 121, 3) := by decide +kernel
theorem dX6_ofParty_4 : decode cX6_ofParty 4 = .ok (.iload_n 2, 1) := by decide +kernel
theorem dX6_ofParty_5 : decode cX6_ofParty 5 = .ok (.tableswitch 71 0 3 #[31, 41, 51, 61], 31) := by decide +kernel
theorem dX6_ofParty_36 : decode cX6_ofParty 36 = .ok (.aload_n 0, 1) := by decide +kernel
theorem dX6_ofParty_37 : decode cX6_ofParty 37 = .ok (.getfield 47, 3) := by decide +kernel
theorem dX6_ofParty_40 : decode cX6_ofParty 40 = .ok (.getfield 261, 3) := by decide +kernel
theorem dX6_ofParty_43 : decode cX6_ofParty 43 = .ok (.iload_n 1, 1) := by decide +kernel
theorem dX6_ofParty_44 : decode cX6_ofParty 44 = .ok (.iaload, 1) := by decide +kernel
theorem dX6_ofParty_45 : decode cX6_ofParty 45 = .ok (.ireturn, 1) := by decide +kernel
theorem dX6_ofParty_46 : decode cX6_ofParty 46 = .ok (.aload_n 0, 1) := by decide +kernel
theorem dX6_ofParty_47 : decode cX6_ofParty 47 = .ok (.getfield 47, 3) := by decide +kernel
theorem dX6_ofParty_50 : decode cX6_ofParty 50 = .ok (.getfield 264, 3) := by decide +kernel
theorem dX6_ofParty_53 : decode cX6_ofParty 53 = .ok (.iload_n 1, 1) := by decide +kernel
theorem dX6_ofParty_54 : decode cX6_ofParty 54 = .ok (.iaload, 1) := by decide +kernel
theorem dX6_ofParty_55 : decode cX6_ofParty 55 = .ok (.ireturn, 1) := by decide +kernel
theorem dX6_ofParty_56 : decode cX6_ofParty 56 = .ok (.aload_n 0, 1) := by decide +kernel
theorem dX6_ofParty_57 : decode cX6_ofParty 57 = .ok (.getfield 47, 3) := by decide +kernel
theorem dX6_ofParty_60 : decode cX6_ofParty 60 = .ok (.getfield 135, 3) := by decide +kernel
theorem dX6_ofParty_63 : decode cX6_ofParty 63 = .ok (.iload_n 1, 1) := by decide +kernel
theorem dX6_ofParty_64 : decode cX6_ofParty 64 = .ok (.iaload, 1) := by decide +kernel
theorem dX6_ofParty_65 : decode cX6_ofParty 65 = .ok (.ireturn, 1) := by decide +kernel
theorem dX6_ofParty_66 : decode cX6_ofParty 66 = .ok (.aload_n 0, 1) := by decide +kernel
theorem dX6_ofParty_67 : decode cX6_ofParty 67 = .ok (.getfield 47, 3) := by decide +kernel
theorem dX6_ofParty_70 : decode cX6_ofParty 70 = .ok (.getfield 267, 3) := by decide +kernel
theorem dX6_ofParty_73 : decode cX6_ofParty 73 = .ok (.iload_n 1, 1) := by decide +kernel
theorem dX6_ofParty_74 : decode cX6_ofParty 74 = .ok (.iaload, 1) := by decide +kernel
theorem dX6_ofParty_75 : decode cX6_ofParty 75 = .ok (.ireturn, 1) := by decide +kernel
theorem dX6_ofParty_76 : decode cX6_ofParty 76 = .ok (.new 93, 3) := by decide +kernel
theorem dX6_ofParty_79 : decode cX6_ofParty 79 = .ok (.dup, 1) := by decide +kernel
theorem dX6_ofParty_80 : decode cX6_ofParty 80 = .ok (.ldc 223, 2) := by decide +kernel
theorem dX6_ofParty_82 : decode cX6_ofParty 82 = .ok (.invokespecial 97, 3) := by decide +kernel
theorem dX6_ofParty_85 : decode cX6_ofParty 85 = .ok (.athrow, 1) := by decide +kernel
theorem dX6_ofRecording_0 : decode cX6_ofRecording 0 = .ok (.iload_n 1, 1) := by decide +kernel
theorem dX6_ofRecording_1 : decode cX6_ofRecording 1 = .ok (.invokestatic 68, 3) := by decide +kernel
theorem dX6_ofRecording_4 : decode cX6_ofRecording 4 = .ok (.iload_n 2, 1) := by decide +kernel
theorem dX6_ofRecording_5 : decode cX6_ofRecording 5 = .ok (.tableswitch 122 0 6 #[43, 52, 69, 79, 89, 98, 110], 43) := by decide +kernel
theorem dX6_ofRecording_48 : decode cX6_ofRecording 48 = .ok (.aload_n 0, 1) := by decide +kernel
theorem dX6_ofRecording_49 : decode cX6_ofRecording 49 = .ok (.getfield 19, 3) := by decide +kernel
theorem dX6_ofRecording_52 : decode cX6_ofRecording 52 = .ok (.iload_n 1, 1) := by decide +kernel
theorem dX6_ofRecording_53 : decode cX6_ofRecording 53 = .ok (.invokevirtual 130, 3) := by decide +kernel
theorem dX6_ofRecording_56 : decode cX6_ofRecording 56 = .ok (.ireturn, 1) := by decide +kernel
theorem dX6_ofRecording_57 : decode cX6_ofRecording 57 = .ok (.aload_n 0, 1) := by decide +kernel
theorem dX6_ofRecording_58 : decode cX6_ofRecording 58 = .ok (.getfield 19, 3) := by decide +kernel
theorem dX6_ofRecording_61 : decode cX6_ofRecording 61 = .ok (.iload_n 1, 1) := by decide +kernel
theorem dX6_ofRecording_62 : decode cX6_ofRecording 62 = .ok (.invokevirtual 270, 3) := by decide +kernel
theorem dX6_ofRecording_65 : decode cX6_ofRecording 65 = .ok (.ifCond .eq 7, 3) := by decide +kernel
theorem dX6_ofRecording_68 : decode cX6_ofRecording 68 = .ok (.iconst 1, 1) := by decide +kernel
theorem dX6_ofRecording_69 : decode cX6_ofRecording 69 = .ok (.goto 4, 3) := by decide +kernel
theorem dX6_ofRecording_72 : decode cX6_ofRecording 72 = .ok (.iconst 0, 1) := by decide +kernel
theorem dX6_ofRecording_73 : decode cX6_ofRecording 73 = .ok (.ireturn, 1) := by decide +kernel
theorem dX6_ofRecording_74 : decode cX6_ofRecording 74 = .ok (.aload_n 0, 1) := by decide +kernel
theorem dX6_ofRecording_75 : decode cX6_ofRecording 75 = .ok (.getfield 47, 3) := by decide +kernel
theorem dX6_ofRecording_78 : decode cX6_ofRecording 78 = .ok (.getfield 273, 3) := by decide +kernel
theorem dX6_ofRecording_81 : decode cX6_ofRecording 81 = .ok (.iload_n 1, 1) := by decide +kernel
theorem dX6_ofRecording_82 : decode cX6_ofRecording 82 = .ok (.iaload, 1) := by decide +kernel
theorem dX6_ofRecording_83 : decode cX6_ofRecording 83 = .ok (.ireturn, 1) := by decide +kernel
theorem dX6_ofRecording_84 : decode cX6_ofRecording 84 = .ok (.aload_n 0, 1) := by decide +kernel
theorem dX6_ofRecording_85 : decode cX6_ofRecording 85 = .ok (.getfield 47, 3) := by decide +kernel
theorem dX6_ofRecording_88 : decode cX6_ofRecording 88 = .ok (.getfield 276, 3) := by decide +kernel
theorem dX6_ofRecording_91 : decode cX6_ofRecording 91 = .ok (.iload_n 1, 1) := by decide +kernel
theorem dX6_ofRecording_92 : decode cX6_ofRecording 92 = .ok (.iaload, 1) := by decide +kernel
theorem dX6_ofRecording_93 : decode cX6_ofRecording 93 = .ok (.ireturn, 1) := by decide +kernel
theorem dX6_ofRecording_94 : decode cX6_ofRecording 94 = .ok (.aload_n 0, 1) := by decide +kernel
theorem dX6_ofRecording_95 : decode cX6_ofRecording 95 = .ok (.getfield 12, 3) := by decide +kernel
theorem dX6_ofRecording_98 : decode cX6_ofRecording 98 = .ok (.iload_n 1, 1) := by decide +kernel
theorem dX6_ofRecording_99 : decode cX6_ofRecording 99 = .ok (.invokevirtual 279, 3) := by decide +kernel
theorem dX6_ofRecording_102 : decode cX6_ofRecording 102 = .ok (.ireturn, 1) := by decide +kernel
theorem dX6_ofRecording_103 : decode cX6_ofRecording 103 = .ok (.aload_n 0, 1) := by decide +kernel
theorem dX6_ofRecording_104 : decode cX6_ofRecording 104 = .ok (.getfield 40, 3) := by decide +kernel
theorem dX6_ofRecording_107 : decode cX6_ofRecording 107 = .ok (.getfield 231, 3) := by decide +kernel
theorem dX6_ofRecording_110 : decode cX6_ofRecording 110 = .ok (.iload_n 1, 1) := by decide +kernel
theorem dX6_ofRecording_111 : decode cX6_ofRecording 111 = .ok (.invokestatic 282, 3) := by decide +kernel
theorem dX6_ofRecording_114 : decode cX6_ofRecording 114 = .ok (.ireturn, 1) := by decide +kernel
theorem dX6_ofRecording_115 : decode cX6_ofRecording 115 = .ok (.aload_n 0, 1) := by decide +kernel
theorem dX6_ofRecording_116 : decode cX6_ofRecording 116 = .ok (.getfield 40, 3) := by decide +kernel
theorem dX6_ofRecording_119 : decode cX6_ofRecording 119 = .ok (.getfield 238, 3) := by decide +kernel
theorem dX6_ofRecording_122 : decode cX6_ofRecording 122 = .ok (.iload_n 1, 1) := by decide +kernel
theorem dX6_ofRecording_123 : decode cX6_ofRecording 123 = .ok (.invokestatic 282, 3) := by decide +kernel
theorem dX6_ofRecording_126 : decode cX6_ofRecording 126 = .ok (.ireturn, 1) := by decide +kernel
theorem dX6_ofRecording_127 : decode cX6_ofRecording 127 = .ok (.new 93, 3) := by decide +kernel
theorem dX6_ofRecording_130 : decode cX6_ofRecording 130 = .ok (.dup, 1) := by decide +kernel
theorem dX6_ofRecording_131 : decode cX6_ofRecording 131 = .ok (.ldc 223, 2) := by decide +kernel
theorem dX6_ofRecording_133 : decode cX6_ofRecording 133 = .ok (.invokespecial 97, 3) := by decide +kernel
theorem dX6_ofRecording_136 : decode cX6_ofRecording 136 = .ok (.athrow, 1) := by decide +kernel
theorem dX6_many_0 : decode cX6_many 0 = .ok (.iload_n 1, 1) := by decide +kernel
theorem dX6_many_1 : decode cX6_many 1 = .ok (.ifCond .lt 9, 3) := by decide +kernel
theorem dX6_many_4 : decode cX6_many 4 = .ok (.iload_n 1, 1) := by decide +kernel
theorem dX6_many_5 : decode cX6_many 5 = .ok (.bipush 17, 2) := by decide +kernel
theorem dX6_many_7 : decode cX6_many 7 = .ok (.if_icmp .le 13, 3) := by decide +kernel
theorem dX6_many_10 : decode cX6_many 10 = .ok (.new 93, 3) := by decide +kernel
theorem dX6_many_13 : decode cX6_many 13 = .ok (.dup, 1) := by decide +kernel
theorem dX6_many_14 : decode cX6_many 14 = .ok (.ldc 223, 2) := by decide +kernel
theorem dX6_many_16 : decode cX6_many 16 = .ok (.invokespecial 97, 3) := by decide +kernel
theorem dX6_many_19 : decode cX6_many 19 = .ok (.athrow, 1) := by decide +kernel
theorem dX6_many_20 : decode cX6_many 20 = .ok (.iload_n 1, 1) := by decide +kernel
theorem dX6_many_21 : decode cX6_many 21 = .ok (.bipush 14, 2) := by decide +kernel
theorem dX6_many_23 : decode cX6_many 23 = .ok (.if_icmp .lt 16, 3) := by decide +kernel
theorem dX6_many_26 : decode cX6_many 26 = .ok (.aload_n 0, 1) := by decide +kernel
theorem dX6_many_27 : decode cX6_many 27 = .ok (.getfield 47, 3) := by decide +kernel
theorem dX6_many_30 : decode cX6_many 30 = .ok (.getfield 286, 3) := by decide +kernel
theorem dX6_many_33 : decode cX6_many 33 = .ok (.iload_n 1, 1) := by decide +kernel
theorem dX6_many_34 : decode cX6_many 34 = .ok (.bipush 14, 2) := by decide +kernel
theorem dX6_many_36 : decode cX6_many 36 = .ok (.isub, 1) := by decide +kernel
theorem dX6_many_37 : decode cX6_many 37 = .ok (.iaload, 1) := by decide +kernel
theorem dX6_many_38 : decode cX6_many 38 = .ok (.ireturn, 1) := by decide +kernel
theorem dX6_many_39 : decode cX6_many 39 = .ok (.iload_n 1, 1) := by decide +kernel
theorem dX6_many_40 : decode cX6_many 40 = .ok (.tableswitch 176 0 12 #[68, 73, 81, 89, 97, 105, 113, 122, 127, 135, 143, 154, 165], 68) := by decide +kernel
theorem dX6_many_108 : decode cX6_many 108 = .ok (.aload_n 0, 1) := by decide +kernel
theorem dX6_many_109 : decode cX6_many 109 = .ok (.getfield 61, 3) := by decide +kernel
theorem dX6_many_112 : decode cX6_many 112 = .ok (.ireturn, 1) := by decide +kernel
theorem dX6_many_113 : decode cX6_many 113 = .ok (.aload_n 0, 1) := by decide +kernel
theorem dX6_many_114 : decode cX6_many 114 = .ok (.getfield 61, 3) := by decide +kernel
theorem dX6_many_117 : decode cX6_many 117 = .ok (.invokestatic 207, 3) := by decide +kernel
theorem dX6_many_120 : decode cX6_many 120 = .ok (.ireturn, 1) := by decide +kernel
theorem dX6_many_121 : decode cX6_many 121 = .ok (.aload_n 0, 1) := by decide +kernel
theorem dX6_many_122 : decode cX6_many 122 = .ok (.getfield 12, 3) := by decide +kernel
theorem dX6_many_125 : decode cX6_many 125 = .ok (.getfield 72, 3) := by decide +kernel
theorem dX6_many_128 : decode cX6_many 128 = .ok (.ireturn, 1) := by decide +kernel
theorem dX6_many_129 : decode cX6_many 129 = .ok (.aload_n 0, 1) := by decide +kernel
theorem dX6_many_130 : decode cX6_many 130 = .ok (.getfield 12, 3) := by decide +kernel
theorem dX6_many_133 : decode cX6_many 133 = .ok (.getfield 100, 3) := by decide +kernel
theorem dX6_many_136 : decode cX6_many 136 = .ok (.ireturn, 1) := by decide +kernel
theorem dX6_many_137 : decode cX6_many 137 = .ok (.aload_n 0, 1) := by decide +kernel
theorem dX6_many_138 : decode cX6_many 138 = .ok (.getfield 26, 3) := by decide +kernel
theorem dX6_many_141 : decode cX6_many 141 = .ok (.getfield 144, 3) := by decide +kernel
theorem dX6_many_144 : decode cX6_many 144 = .ok (.ireturn, 1) := by decide +kernel
theorem dX6_many_145 : decode cX6_many 145 = .ok (.aload_n 0, 1) := by decide +kernel
theorem dX6_many_146 : decode cX6_many 146 = .ok (.getfield 33, 3) := by decide +kernel
theorem dX6_many_149 : decode cX6_many 149 = .ok (.getfield 194, 3) := by decide +kernel
theorem dX6_many_152 : decode cX6_many 152 = .ok (.ireturn, 1) := by decide +kernel
theorem dX6_many_153 : decode cX6_many 153 = .ok (.aload_n 0, 1) := by decide +kernel
theorem dX6_many_154 : decode cX6_many 154 = .ok (.getfield 33, 3) := by decide +kernel
theorem dX6_many_157 : decode cX6_many 157 = .ok (.iconst 0, 1) := by decide +kernel
theorem dX6_many_158 : decode cX6_many 158 = .ok (.invokevirtual 289, 3) := by decide +kernel
theorem dX6_many_161 : decode cX6_many 161 = .ok (.ireturn, 1) := by decide +kernel
theorem dX6_many_162 : decode cX6_many 162 = .ok (.aload_n 0, 1) := by decide +kernel
theorem dX6_many_163 : decode cX6_many 163 = .ok (.getfield 65, 3) := by decide +kernel
theorem dX6_many_166 : decode cX6_many 166 = .ok (.ireturn, 1) := by decide +kernel
theorem dX6_many_167 : decode cX6_many 167 = .ok (.aload_n 0, 1) := by decide +kernel
theorem dX6_many_168 : decode cX6_many 168 = .ok (.getfield 47, 3) := by decide +kernel
theorem dX6_many_171 : decode cX6_many 171 = .ok (.getfield 292, 3) := by decide +kernel
theorem dX6_many_174 : decode cX6_many 174 = .ok (.ireturn, 1) := by decide +kernel
theorem dX6_many_175 : decode cX6_many 175 = .ok (.aload_n 0, 1) := by decide +kernel
theorem dX6_many_176 : decode cX6_many 176 = .ok (.getfield 47, 3) := by decide +kernel
theorem dX6_many_179 : decode cX6_many 179 = .ok (.getfield 295, 3) := by decide +kernel
theorem dX6_many_182 : decode cX6_many 182 = .ok (.ireturn, 1) := by decide +kernel
theorem dX6_many_183 : decode cX6_many 183 = .ok (.aload_n 0, 1) := by decide +kernel
theorem dX6_many_184 : decode cX6_many 184 = .ok (.getfield 47, 3) := by decide +kernel
theorem dX6_many_187 : decode cX6_many 187 = .ok (.getfield 273, 3) := by decide +kernel
theorem dX6_many_190 : decode cX6_many 190 = .ok (.invokestatic 234, 3) := by decide +kernel
theorem dX6_many_193 : decode cX6_many 193 = .ok (.ireturn, 1) := by decide +kernel
theorem dX6_many_194 : decode cX6_many 194 = .ok (.aload_n 0, 1) := by decide +kernel
theorem dX6_many_195 : decode cX6_many 195 = .ok (.getfield 47, 3) := by decide +kernel
theorem dX6_many_198 : decode cX6_many 198 = .ok (.getfield 261, 3) := by decide +kernel
theorem dX6_many_201 : decode cX6_many 201 = .ok (.invokestatic 234, 3) := by decide +kernel
theorem dX6_many_204 : decode cX6_many 204 = .ok (.ireturn, 1) := by decide +kernel
theorem dX6_many_205 : decode cX6_many 205 = .ok (.aload_n 0, 1) := by decide +kernel
theorem dX6_many_206 : decode cX6_many 206 = .ok (.getfield 47, 3) := by decide +kernel
theorem dX6_many_209 : decode cX6_many 209 = .ok (.getfield 264, 3) := by decide +kernel
theorem dX6_many_212 : decode cX6_many 212 = .ok (.invokestatic 234, 3) := by decide +kernel
theorem dX6_many_215 : decode cX6_many 215 = .ok (.ireturn, 1) := by decide +kernel
theorem dX6_many_216 : decode cX6_many 216 = .ok (.aload_n 0, 1) := by decide +kernel
theorem dX6_many_217 : decode cX6_many 217 = .ok (.getfield 47, 3) := by decide +kernel
theorem dX6_many_220 : decode cX6_many 220 = .ok (.getfield 267, 3) := by decide +kernel
theorem dX6_many_223 : decode cX6_many 223 = .ok (.invokestatic 234, 3) := by decide +kernel
theorem dX6_many_226 : decode cX6_many 226 = .ok (.ireturn, 1) := by decide +kernel
theorem dX6_wouldGet_0 : decode cX6_wouldGet 0 = .ok (.iload_n 1, 1) := by decide +kernel
theorem dX6_wouldGet_1 : decode cX6_wouldGet 1 = .ok (.invokestatic 68, 3) := by decide +kernel
theorem dX6_wouldGet_4 : decode cX6_wouldGet 4 = .ok (.iload_n 2, 1) := by decide +kernel
theorem dX6_wouldGet_5 : decode cX6_wouldGet 5 = .ok (.invokestatic 138, 3) := by decide +kernel
theorem dX6_wouldGet_8 : decode cX6_wouldGet 8 = .ok (.aload_n 0, 1) := by decide +kernel
theorem dX6_wouldGet_9 : decode cX6_wouldGet 9 = .ok (.iload_n 2, 1) := by decide +kernel
theorem dX6_wouldGet_10 : decode cX6_wouldGet 10 = .ok (.invokevirtual 316, 3) := by decide +kernel
theorem dX6_wouldGet_13 : decode cX6_wouldGet 13 = .ok (.aload_n 0, 1) := by decide +kernel
theorem dX6_wouldGet_14 : decode cX6_wouldGet 14 = .ok (.iload_n 1, 1) := by decide +kernel
theorem dX6_wouldGet_15 : decode cX6_wouldGet 15 = .ok (.iload_n 2, 1) := by decide +kernel
theorem dX6_wouldGet_16 : decode cX6_wouldGet 16 = .ok (.invokevirtual 319, 3) := by decide +kernel
theorem dX6_wouldGet_19 : decode cX6_wouldGet 19 = .ok (.ireturn, 1) := by decide +kernel
theorem dX6_wouldPay_0 : decode cX6_wouldPay 0 = .ok (.iload_n 1, 1) := by decide +kernel
theorem dX6_wouldPay_1 : decode cX6_wouldPay 1 = .ok (.invokestatic 121, 3) := by decide +kernel
theorem dX6_wouldPay_4 : decode cX6_wouldPay 4 = .ok (.iload_n 2, 1) := by decide +kernel
theorem dX6_wouldPay_5 : decode cX6_wouldPay 5 = .ok (.invokestatic 138, 3) := by decide +kernel
theorem dX6_wouldPay_8 : decode cX6_wouldPay 8 = .ok (.aload_n 0, 1) := by decide +kernel
theorem dX6_wouldPay_9 : decode cX6_wouldPay 9 = .ok (.iload_n 2, 1) := by decide +kernel
theorem dX6_wouldPay_10 : decode cX6_wouldPay 10 = .ok (.invokevirtual 316, 3) := by decide +kernel
theorem dX6_wouldPay_13 : decode cX6_wouldPay 13 = .ok (.aload_n 0, 1) := by decide +kernel
theorem dX6_wouldPay_14 : decode cX6_wouldPay 14 = .ok (.iload_n 1, 1) := by decide +kernel
theorem dX6_wouldPay_15 : decode cX6_wouldPay 15 = .ok (.iload_n 2, 1) := by decide +kernel
theorem dX6_wouldPay_16 : decode cX6_wouldPay 16 = .ok (.invokevirtual 322, 3) := by decide +kernel
theorem dX6_wouldPay_19 : decode cX6_wouldPay 19 = .ok (.ireturn, 1) := by decide +kernel
theorem dX6_digest_0 : decode cX6_digest 0 = .ok (.iconst 0, 1) := by decide +kernel
theorem dX6_digest_1 : decode cX6_digest 1 = .ok (.istore_n 1, 1) := by decide +kernel
theorem dX6_digest_2 : decode cX6_digest 2 = .ok (.iload_n 1, 1) := by decide +kernel
theorem dX6_digest_3 : decode cX6_digest 3 = .ok (.iconst 2, 1) := by decide +kernel
theorem dX6_digest_4 : decode cX6_digest 4 = .ok (.if_icmp .ge 14, 3) := by decide +kernel
theorem dX6_digest_7 : decode cX6_digest 7 = .ok (.aload_n 0, 1) := by decide +kernel
theorem dX6_digest_8 : decode cX6_digest 8 = .ok (.iload_n 1, 1) := by decide +kernel
theorem dX6_digest_9 : decode cX6_digest 9 = .ok (.invokevirtual 316, 3) := by decide +kernel
theorem dX6_digest_12 : decode cX6_digest 12 = .ok (.iinc 1 1, 3) := by decide +kernel
theorem dX6_digest_15 : decode cX6_digest 15 = .ok (.goto (-13), 3) := by decide +kernel
theorem dX6_digest_18 : decode cX6_digest 18 = .ok (.aload_n 0, 1) := by decide +kernel
theorem dX6_digest_19 : decode cX6_digest 19 = .ok (.ldc2_w 325, 3) := by decide +kernel
theorem dX6_digest_22 : decode cX6_digest 22 = .ok (.invokevirtual 327, 3) := by decide +kernel
theorem dX6_digest_25 : decode cX6_digest 25 = .ok (.lstore_n 1, 1) := by decide +kernel
theorem dX6_digest_26 : decode cX6_digest 26 = .ok (.aload_n 0, 1) := by decide +kernel
theorem dX6_digest_27 : decode cX6_digest 27 = .ok (.lload_n 1, 1) := by decide +kernel
theorem dX6_digest_28 : decode cX6_digest 28 = .ok (.invokevirtual 331, 3) := by decide +kernel
theorem dX6_digest_31 : decode cX6_digest 31 = .ok (.lstore_n 1, 1) := by decide +kernel
theorem dX6_digest_32 : decode cX6_digest 32 = .ok (.aload_n 0, 1) := by decide +kernel
theorem dX6_digest_33 : decode cX6_digest 33 = .ok (.lload_n 1, 1) := by decide +kernel
theorem dX6_digest_34 : decode cX6_digest 34 = .ok (.invokevirtual 334, 3) := by decide +kernel
theorem dX6_digest_37 : decode cX6_digest 37 = .ok (.lstore_n 1, 1) := by decide +kernel
theorem dX6_digest_38 : decode cX6_digest 38 = .ok (.aload_n 0, 1) := by decide +kernel
theorem dX6_digest_39 : decode cX6_digest 39 = .ok (.lload_n 1, 1) := by decide +kernel
theorem dX6_digest_40 : decode cX6_digest 40 = .ok (.invokevirtual 337, 3) := by decide +kernel
theorem dX6_digest_43 : decode cX6_digest 43 = .ok (.lstore_n 1, 1) := by decide +kernel
theorem dX6_digest_44 : decode cX6_digest 44 = .ok (.aload_n 0, 1) := by decide +kernel
theorem dX6_digest_45 : decode cX6_digest 45 = .ok (.lload_n 1, 1) := by decide +kernel
theorem dX6_digest_46 : decode cX6_digest 46 = .ok (.invokevirtual 340, 3) := by decide +kernel
theorem dX6_digest_49 : decode cX6_digest 49 = .ok (.lstore_n 1, 1) := by decide +kernel
theorem dX6_digest_50 : decode cX6_digest 50 = .ok (.aload_n 0, 1) := by decide +kernel
theorem dX6_digest_51 : decode cX6_digest 51 = .ok (.lload_n 1, 1) := by decide +kernel
theorem dX6_digest_52 : decode cX6_digest 52 = .ok (.invokevirtual 343, 3) := by decide +kernel
theorem dX6_digest_55 : decode cX6_digest 55 = .ok (.lstore_n 1, 1) := by decide +kernel
theorem dX6_digest_56 : decode cX6_digest 56 = .ok (.lload_n 1, 1) := by decide +kernel
theorem dX6_digest_57 : decode cX6_digest 57 = .ok (.aload_n 0, 1) := by decide +kernel
theorem dX6_digest_58 : decode cX6_digest 58 = .ok (.getfield 40, 3) := by decide +kernel
theorem dX6_digest_61 : decode cX6_digest 61 = .ok (.iconst 0, 1) := by decide +kernel
theorem dX6_digest_62 : decode cX6_digest 62 = .ok (.iconst 1, 1) := by decide +kernel
theorem dX6_digest_63 : decode cX6_digest 63 = .ok (.invokevirtual 310, 3) := by decide +kernel
theorem dX6_digest_66 : decode cX6_digest 66 = .ok (.i2l, 1) := by decide +kernel
theorem dX6_digest_67 : decode cX6_digest 67 = .ok (.invokestatic 346, 3) := by decide +kernel
theorem dX6_digest_70 : decode cX6_digest 70 = .ok (.lstore_n 1, 1) := by decide +kernel
theorem dX6_digest_71 : decode cX6_digest 71 = .ok (.aload_n 0, 1) := by decide +kernel
theorem dX6_digest_72 : decode cX6_digest 72 = .ok (.lload_n 1, 1) := by decide +kernel
theorem dX6_digest_73 : decode cX6_digest 73 = .ok (.invokevirtual 350, 3) := by decide +kernel
theorem dX6_digest_76 : decode cX6_digest 76 = .ok (.lreturn, 1) := by decide +kernel
theorem dX6_needRecording_0 : decode cX6_needRecording 0 = .ok (.iload_n 0, 1) := by decide +kernel
theorem dX6_needRecording_1 : decode cX6_needRecording 1 = .ok (.ifCond .lt 9, 3) := by decide +kernel
theorem dX6_needRecording_4 : decode cX6_needRecording 4 = .ok (.iload_n 0, 1) := by decide +kernel
theorem dX6_needRecording_5 : decode cX6_needRecording 5 = .ok (.bipush 10, 2) := by decide +kernel
theorem dX6_needRecording_7 : decode cX6_needRecording 7 = .ok (.if_icmp .lt 14, 3) := by decide +kernel
theorem dX6_needRecording_10 : decode cX6_needRecording 10 = .ok (.new 244, 3) := by decide +kernel
theorem dX6_needRecording_13 : decode cX6_needRecording 13 = .ok (.dup, 1) := by decide +kernel
theorem dX6_needRecording_14 : decode cX6_needRecording 14 = .ok (.ldc_w 353, 3) := by decide +kernel
theorem dX6_needRecording_17 : decode cX6_needRecording 17 = .ok (.invokespecial 248, 3) := by decide +kernel
theorem dX6_needRecording_20 : decode cX6_needRecording 20 = .ok (.athrow, 1) := by decide +kernel
theorem dX6_needRecording_21 : decode cX6_needRecording 21 = .ok (.return_, 1) := by decide +kernel
theorem dX6_needParty_0 : decode cX6_needParty 0 = .ok (.iload_n 0, 1) := by decide +kernel
theorem dX6_needParty_1 : decode cX6_needParty 1 = .ok (.ifCond .lt 8, 3) := by decide +kernel
theorem dX6_needParty_4 : decode cX6_needParty 4 = .ok (.iload_n 0, 1) := by decide +kernel
theorem dX6_needParty_5 : decode cX6_needParty 5 = .ok (.iconst 5, 1) := by decide +kernel
theorem dX6_needParty_6 : decode cX6_needParty 6 = .ok (.if_icmp .lt 14, 3) := by decide +kernel
theorem dX6_needParty_9 : decode cX6_needParty 9 = .ok (.new 244, 3) := by decide +kernel
theorem dX6_needParty_12 : decode cX6_needParty 12 = .ok (.dup, 1) := by decide +kernel
theorem dX6_needParty_13 : decode cX6_needParty 13 = .ok (.ldc_w 355, 3) := by decide +kernel
theorem dX6_needParty_16 : decode cX6_needParty 16 = .ok (.invokespecial 248, 3) := by decide +kernel
theorem dX6_needParty_19 : decode cX6_needParty 19 = .ok (.athrow, 1) := by decide +kernel
theorem dX6_needParty_20 : decode cX6_needParty 20 = .ok (.return_, 1) := by decide +kernel
theorem dX6_needLand_0 : decode cX6_needLand 0 = .ok (.iload_n 0, 1) := by decide +kernel
theorem dX6_needLand_1 : decode cX6_needLand 1 = .ok (.ifCond .lt 8, 3) := by decide +kernel
theorem dX6_needLand_4 : decode cX6_needLand 4 = .ok (.iload_n 0, 1) := by decide +kernel
theorem dX6_needLand_5 : decode cX6_needLand 5 = .ok (.iconst 4, 1) := by decide +kernel
theorem dX6_needLand_6 : decode cX6_needLand 6 = .ok (.if_icmp .lt 14, 3) := by decide +kernel
theorem dX6_needLand_9 : decode cX6_needLand 9 = .ok (.new 244, 3) := by decide +kernel
theorem dX6_needLand_12 : decode cX6_needLand 12 = .ok (.dup, 1) := by decide +kernel
theorem dX6_needLand_13 : decode cX6_needLand 13 = .ok (.ldc_w 357, 3) := by decide +kernel
theorem dX6_needLand_16 : decode cX6_needLand 16 = .ok (.invokespecial 248, 3) := by decide +kernel
theorem dX6_needLand_19 : decode cX6_needLand 19 = .ok (.athrow, 1) := by decide +kernel
theorem dX6_needLand_20 : decode cX6_needLand 20 = .ok (.return_, 1) := by decide +kernel
theorem dX6_needPlan_0 : decode cX6_needPlan 0 = .ok (.iload_n 0, 1) := by decide +kernel
theorem dX6_needPlan_1 : decode cX6_needPlan 1 = .ok (.ifCond .lt 8, 3) := by decide +kernel
theorem dX6_needPlan_4 : decode cX6_needPlan 4 = .ok (.iload_n 0, 1) := by decide +kernel
theorem dX6_needPlan_5 : decode cX6_needPlan 5 = .ok (.iconst 3, 1) := by decide +kernel
theorem dX6_needPlan_6 : decode cX6_needPlan 6 = .ok (.if_icmp .lt 14, 3) := by decide +kernel
theorem dX6_needPlan_9 : decode cX6_needPlan 9 = .ok (.new 93, 3) := by decide +kernel
theorem dX6_needPlan_12 : decode cX6_needPlan 12 = .ok (.dup, 1) := by decide +kernel
theorem dX6_needPlan_13 : decode cX6_needPlan 13 = .ok (.ldc_w 359, 3) := by decide +kernel
theorem dX6_needPlan_16 : decode cX6_needPlan 16 = .ok (.invokespecial 97, 3) := by decide +kernel
theorem dX6_needPlan_19 : decode cX6_needPlan 19 = .ok (.athrow, 1) := by decide +kernel
theorem dX6_needPlan_20 : decode cX6_needPlan 20 = .ok (.return_, 1) := by decide +kernel
theorem dX6_needRule_0 : decode cX6_needRule 0 = .ok (.iload_n 0, 1) := by decide +kernel
theorem dX6_needRule_1 : decode cX6_needRule 1 = .ok (.ifCond .lt 8, 3) := by decide +kernel
theorem dX6_needRule_4 : decode cX6_needRule 4 = .ok (.iload_n 0, 1) := by decide +kernel
theorem dX6_needRule_5 : decode cX6_needRule 5 = .ok (.iconst 2, 1) := by decide +kernel
theorem dX6_needRule_6 : decode cX6_needRule 6 = .ok (.if_icmp .lt 14, 3) := by decide +kernel
theorem dX6_needRule_9 : decode cX6_needRule 9 = .ok (.new 93, 3) := by decide +kernel
theorem dX6_needRule_12 : decode cX6_needRule 12 = .ok (.dup, 1) := by decide +kernel
theorem dX6_needRule_13 : decode cX6_needRule 13 = .ok (.ldc_w 361, 3) := by decide +kernel
theorem dX6_needRule_16 : decode cX6_needRule 16 = .ok (.invokespecial 97, 3) := by decide +kernel
theorem dX6_needRule_19 : decode cX6_needRule 19 = .ok (.athrow, 1) := by decide +kernel
theorem dX6_needRule_20 : decode cX6_needRule 20 = .ok (.return_, 1) := by decide +kernel
theorem dX6_needTrack_0 : decode cX6_needTrack 0 = .ok (.iload_n 1, 1) := by decide +kernel
theorem dX6_needTrack_1 : decode cX6_needTrack 1 = .ok (.ifCond .lt 14, 3) := by decide +kernel
theorem dX6_needTrack_4 : decode cX6_needTrack 4 = .ok (.iload_n 1, 1) := by decide +kernel
theorem dX6_needTrack_5 : decode cX6_needTrack 5 = .ok (.aload_n 0, 1) := by decide +kernel
theorem dX6_needTrack_6 : decode cX6_needTrack 6 = .ok (.getfield 12, 3) := by decide +kernel
theorem dX6_needTrack_9 : decode cX6_needTrack 9 = .ok (.getfield 72, 3) := by decide +kernel
theorem dX6_needTrack_12 : decode cX6_needTrack 12 = .ok (.if_icmp .lt 14, 3) := by decide +kernel
theorem dX6_needTrack_15 : decode cX6_needTrack 15 = .ok (.new 244, 3) := by decide +kernel
theorem dX6_needTrack_18 : decode cX6_needTrack 18 = .ok (.dup, 1) := by decide +kernel
theorem dX6_needTrack_19 : decode cX6_needTrack 19 = .ok (.ldc_w 363, 3) := by decide +kernel
theorem dX6_needTrack_22 : decode cX6_needTrack 22 = .ok (.invokespecial 248, 3) := by decide +kernel
theorem dX6_needTrack_25 : decode cX6_needTrack 25 = .ok (.athrow, 1) := by decide +kernel
theorem dX6_needTrack_26 : decode cX6_needTrack 26 = .ok (.return_, 1) := by decide +kernel
theorem dX6_needListener_0 : decode cX6_needListener 0 = .ok (.iload_n 1, 1) := by decide +kernel
theorem dX6_needListener_1 : decode cX6_needListener 1 = .ok (.ifCond .lt 14, 3) := by decide +kernel
theorem dX6_needListener_4 : decode cX6_needListener 4 = .ok (.iload_n 1, 1) := by decide +kernel
theorem dX6_needListener_5 : decode cX6_needListener 5 = .ok (.aload_n 0, 1) := by decide +kernel
theorem dX6_needListener_6 : decode cX6_needListener 6 = .ok (.getfield 26, 3) := by decide +kernel
theorem dX6_needListener_9 : decode cX6_needListener 9 = .ok (.getfield 144, 3) := by decide +kernel
theorem dX6_needListener_12 : decode cX6_needListener 12 = .ok (.if_icmp .lt 14, 3) := by decide +kernel
theorem dX6_needListener_15 : decode cX6_needListener 15 = .ok (.new 244, 3) := by decide +kernel
theorem dX6_needListener_18 : decode cX6_needListener 18 = .ok (.dup, 1) := by decide +kernel
theorem dX6_needListener_19 : decode cX6_needListener 19 = .ok (.ldc_w 365, 3) := by decide +kernel
theorem dX6_needListener_22 : decode cX6_needListener 22 = .ok (.invokespecial 248, 3) := by decide +kernel
theorem dX6_needListener_25 : decode cX6_needListener 25 = .ok (.athrow, 1) := by decide +kernel
theorem dX6_needListener_26 : decode cX6_needListener 26 = .ok (.return_, 1) := by decide +kernel
theorem dX6_dayOf_0 : decode cX6_dayOf 0 = .ok (.iload_n 0, 1) := by decide +kernel
theorem dX6_dayOf_1 : decode cX6_dayOf 1 = .ok (.sipush 1440, 3) := by decide +kernel
theorem dX6_dayOf_4 : decode cX6_dayOf 4 = .ok (.idiv, 1) := by decide +kernel
theorem dX6_dayOf_5 : decode cX6_dayOf 5 = .ok (.ireturn, 1) := by decide +kernel
theorem dX6_monthOf_0 : decode cX6_monthOf 0 = .ok (.iload_n 0, 1) := by decide +kernel
theorem dX6_monthOf_1 : decode cX6_monthOf 1 = .ok (.sipush 14400, 3) := by decide +kernel
theorem dX6_monthOf_4 : decode cX6_monthOf 4 = .ok (.idiv, 1) := by decide +kernel
theorem dX6_monthOf_5 : decode cX6_monthOf 5 = .ok (.ireturn, 1) := by decide +kernel
theorem dX6_isClosed_0 : decode cX6_isClosed 0 = .ok (.iload_n 1, 1) := by decide +kernel
theorem dX6_isClosed_1 : decode cX6_isClosed 1 = .ok (.invokestatic 207, 3) := by decide +kernel
theorem dX6_isClosed_4 : decode cX6_isClosed 4 = .ok (.aload_n 0, 1) := by decide +kernel
theorem dX6_isClosed_5 : decode cX6_isClosed 5 = .ok (.getfield 61, 3) := by decide +kernel
theorem dX6_isClosed_8 : decode cX6_isClosed 8 = .ok (.invokestatic 207, 3) := by decide +kernel
theorem dX6_isClosed_11 : decode cX6_isClosed 11 = .ok (.if_icmp .ge 7, 3) := by decide +kernel
theorem dX6_isClosed_14 : decode cX6_isClosed 14 = .ok (.iconst 1, 1) := by decide +kernel
theorem dX6_isClosed_15 : decode cX6_isClosed 15 = .ok (.goto 4, 3) := by decide +kernel
theorem dX6_isClosed_18 : decode cX6_isClosed 18 = .ok (.iconst 0, 1) := by decide +kernel
theorem dX6_isClosed_19 : decode cX6_isClosed 19 = .ok (.ireturn, 1) := by decide +kernel
theorem dX6_judgePlays_0 : decode cX6_judgePlays 0 = .ok (.aload_n 0, 1) := by decide +kernel
theorem dX6_judgePlays_1 : decode cX6_judgePlays 1 = .ok (.getfield 40, 3) := by decide +kernel
theorem dX6_judgePlays_4 : decode cX6_judgePlays 4 = .ok (.invokevirtual 367, 3) := by decide +kernel
theorem dX6_judgePlays_7 : decode cX6_judgePlays 7 = .ok (.iconst (-1), 1) := by decide +kernel
theorem dX6_judgePlays_8 : decode cX6_judgePlays 8 = .ok (.istore_n 1, 1) := by decide +kernel
theorem dX6_judgePlays_9 : decode cX6_judgePlays 9 = .ok (.iconst 0, 1) := by decide +kernel
theorem dX6_judgePlays_10 : decode cX6_judgePlays 10 = .ok (.istore_n 2, 1) := by decide +kernel
theorem dX6_judgePlays_11 : decode cX6_judgePlays 11 = .ok (.iload_n 2, 1) := by decide +kernel
theorem dX6_judgePlays_12 : decode cX6_judgePlays 12 = .ok (.aload_n 0, 1) := by decide +kernel
theorem dX6_judgePlays_13 : decode cX6_judgePlays 13 = .ok (.getfield 33, 3) := by decide +kernel
theorem dX6_judgePlays_16 : decode cX6_judgePlays 16 = .ok (.getfield 194, 3) := by decide +kernel
theorem dX6_judgePlays_19 : decode cX6_judgePlays 19 = .ok (.if_icmp .ge 134, 3) := by decide +kernel
theorem dX6_judgePlays_22 : decode cX6_judgePlays 22 = .ok (.aload_n 0, 1) := by decide +kernel
theorem dX6_judgePlays_23 : decode cX6_judgePlays 23 = .ok (.getfield 33, 3) := by decide +kernel
theorem dX6_judgePlays_26 : decode cX6_judgePlays 26 = .ok (.getfield 370, 3) := by decide +kernel
theorem dX6_judgePlays_29 : decode cX6_judgePlays 29 = .ok (.iload_n 2, 1) := by decide +kernel
theorem dX6_judgePlays_30 : decode cX6_judgePlays 30 = .ok (.iaload, 1) := by decide +kernel
theorem dX6_judgePlays_31 : decode cX6_judgePlays 31 = .ok (.istore_n 3, 1) := by decide +kernel
theorem dX6_judgePlays_32 : decode cX6_judgePlays 32 = .ok (.aload_n 0, 1) := by decide +kernel
theorem dX6_judgePlays_33 : decode cX6_judgePlays 33 = .ok (.getfield 33, 3) := by decide +kernel
theorem dX6_judgePlays_36 : decode cX6_judgePlays 36 = .ok (.getfield 255, 3) := by decide +kernel
theorem dX6_judgePlays_39 : decode cX6_judgePlays 39 = .ok (.iload_n 3, 1) := by decide +kernel
theorem dX6_judgePlays_40 : decode cX6_judgePlays 40 = .ok (.iaload, 1) := by decide +kernel
theorem dX6_judgePlays_41 : decode cX6_judgePlays 41 = .ok (.istore 4, 2) := by decide +kernel
theorem dX6_judgePlays_43 : decode cX6_judgePlays 43 = .ok (.aload_n 0, 1) := by decide +kernel
theorem dX6_judgePlays_44 : decode cX6_judgePlays 44 = .ok (.iload 4, 2) := by decide +kernel
theorem dX6_judgePlays_46 : decode cX6_judgePlays 46 = .ok (.invokevirtual 187, 3) := by decide +kernel
theorem dX6_judgePlays_49 : decode cX6_judgePlays 49 = .ok (.ifCond .ne 7, 3) := by decide +kernel
theorem dX6_judgePlays_52 : decode cX6_judgePlays 52 = .ok (.iconst 1, 1) := by decide +kernel
theorem dX6_judgePlays_53 : decode cX6_judgePlays 53 = .ok (.goto 4, 3) := by decide +kernel
theorem dX6_judgePlays_56 : decode cX6_judgePlays 56 = .ok (.iconst 0, 1) := by decide +kernel
theorem dX6_judgePlays_57 : decode cX6_judgePlays 57 = .ok (.istore 5, 2) := by decide +kernel
theorem dX6_judgePlays_59 : decode cX6_judgePlays 59 = .ok (.iload_n 1, 1) := by decide +kernel
theorem dX6_judgePlays_60 : decode cX6_judgePlays 60 = .ok (.iload 4, 2) := by decide +kernel
theorem dX6_judgePlays_62 : decode cX6_judgePlays 62 = .ok (.invokestatic 373, 3) := by decide +kernel
theorem dX6_judgePlays_65 : decode cX6_judgePlays 65 = .ok (.if_icmp .eq 16, 3) := by decide +kernel
theorem dX6_judgePlays_68 : decode cX6_judgePlays 68 = .ok (.iload 4, 2) := by decide +kernel
theorem dX6_judgePlays_70 : decode cX6_judgePlays 70 = .ok (.invokestatic 373, 3) := by decide +kernel
theorem dX6_judgePlays_73 : decode cX6_judgePlays 73 = .ok (.istore_n 1, 1) := by decide +kernel
theorem dX6_judgePlays_74 : decode cX6_judgePlays 74 = .ok (.aload_n 0, 1) := by decide +kernel
theorem dX6_judgePlays_75 : decode cX6_judgePlays 75 = .ok (.getfield 40, 3) := by decide +kernel
theorem dX6_judgePlays_78 : decode cX6_judgePlays 78 = .ok (.invokevirtual 376, 3) := by decide +kernel
theorem dX6_judgePlays_81 : decode cX6_judgePlays 81 = .ok (.iload 5, 2) := by decide +kernel
theorem dX6_judgePlays_83 : decode cX6_judgePlays 83 = .ok (.ifCond .eq 17, 3) := by decide +kernel
theorem dX6_judgePlays_86 : decode cX6_judgePlays 86 = .ok (.aload_n 0, 1) := by decide +kernel
theorem dX6_judgePlays_87 : decode cX6_judgePlays 87 = .ok (.getfield 33, 3) := by decide +kernel
theorem dX6_judgePlays_90 : decode cX6_judgePlays 90 = .ok (.getfield 200, 3) := by decide +kernel
theorem dX6_judgePlays_93 : decode cX6_judgePlays 93 = .ok (.iload_n 3, 1) := by decide +kernel
theorem dX6_judgePlays_94 : decode cX6_judgePlays 94 = .ok (.aload_n 0, 1) := by decide +kernel
theorem dX6_judgePlays_95 : decode cX6_judgePlays 95 = .ok (.iload_n 3, 1) := by decide +kernel
theorem dX6_judgePlays_96 : decode cX6_judgePlays 96 = .ok (.invokevirtual 379, 3) := by decide +kernel
theorem dX6_judgePlays_99 : decode cX6_judgePlays 99 = .ok (.iastore, 1) := by decide +kernel
theorem dX6_judgePlays_100 : decode cX6_judgePlays 100 = .ok (.aload_n 0, 1) := by decide +kernel
theorem dX6_judgePlays_101 : decode cX6_judgePlays 101 = .ok (.getfield 33, 3) := by decide +kernel
theorem dX6_judgePlays_104 : decode cX6_judgePlays 104 = .ok (.getfield 200, 3) := by decide +kernel
theorem dX6_judgePlays_107 : decode cX6_judgePlays 107 = .ok (.iload_n 3, 1) := by decide +kernel
theorem dX6_judgePlays_108 : decode cX6_judgePlays 108 = .ok (.iaload, 1) := by decide +kernel
theorem dX6_judgePlays_109 : decode cX6_judgePlays 109 = .ok (.ifCond .ne 38, 3) := by decide +kernel
theorem dX6_judgePlays_112 : decode cX6_judgePlays 112 = .ok (.aload_n 0, 1) := by decide +kernel
theorem dX6_judgePlays_113 : decode cX6_judgePlays 113 = .ok (.getfield 40, 3) := by decide +kernel
theorem dX6_judgePlays_116 : decode cX6_judgePlays 116 = .ok (.aload_n 0, 1) := by decide +kernel
theorem dX6_judgePlays_117 : decode cX6_judgePlays 117 = .ok (.getfield 33, 3) := by decide +kernel
theorem dX6_judgePlays_120 : decode cX6_judgePlays 120 = .ok (.getfield 249, 3) := by decide +kernel
theorem dX6_judgePlays_123 : decode cX6_judgePlays 123 = .ok (.iload_n 3, 1) := by decide +kernel
theorem dX6_judgePlays_124 : decode cX6_judgePlays 124 = .ok (.iaload, 1) := by decide +kernel
theorem dX6_judgePlays_125 : decode cX6_judgePlays 125 = .ok (.aload_n 0, 1) := by decide +kernel
theorem dX6_judgePlays_126 : decode cX6_judgePlays 126 = .ok (.getfield 12, 3) := by decide +kernel
theorem dX6_judgePlays_129 : decode cX6_judgePlays 129 = .ok (.getfield 214, 3) := by decide +kernel
theorem dX6_judgePlays_132 : decode cX6_judgePlays 132 = .ok (.aload_n 0, 1) := by decide +kernel
theorem dX6_judgePlays_133 : decode cX6_judgePlays 133 = .ok (.getfield 33, 3) := by decide +kernel
theorem dX6_judgePlays_136 : decode cX6_judgePlays 136 = .ok (.getfield 252, 3) := by decide +kernel
theorem dX6_judgePlays_139 : decode cX6_judgePlays 139 = .ok (.iload_n 3, 1) := by decide +kernel
theorem dX6_judgePlays_140 : decode cX6_judgePlays 140 = .ok (.iaload, 1) := by decide +kernel
theorem dX6_judgePlays_141 : decode cX6_judgePlays 141 = .ok (.iaload, 1) := by decide +kernel
theorem dX6_judgePlays_142 : decode cX6_judgePlays 142 = .ok (.iload 5, 2) := by decide +kernel
theorem dX6_judgePlays_144 : decode cX6_judgePlays 144 = .ok (.invokevirtual 382, 3) := by decide +kernel
theorem dX6_judgePlays_147 : decode cX6_judgePlays 147 = .ok (.iinc 2 1, 3) := by decide +kernel
theorem dX6_judgePlays_150 : decode cX6_judgePlays 150 = .ok (.goto (-139), 3) := by decide +kernel
theorem dX6_judgePlays_153 : decode cX6_judgePlays 153 = .ok (.return_, 1) := by decide +kernel
theorem dX6_judged_0 : decode cX6_judged 0 = .ok (.aload_n 0, 1) := by decide +kernel
theorem dX6_judged_1 : decode cX6_judged 1 = .ok (.getfield 33, 3) := by decide +kernel
theorem dX6_judged_4 : decode cX6_judged 4 = .ok (.getfield 249, 3) := by decide +kernel
theorem dX6_judged_7 : decode cX6_judged 7 = .ok (.iload_n 1, 1) := by decide +kernel
theorem dX6_judged_8 : decode cX6_judged 8 = .ok (.iaload, 1) := by decide +kernel
theorem dX6_judged_9 : decode cX6_judged 9 = .ok (.istore_n 2, 1) := by decide +kernel
theorem dX6_judged_10 : decode cX6_judged 10 = .ok (.aload_n 0, 1) := by decide +kernel
theorem dX6_judged_11 : decode cX6_judged 11 = .ok (.getfield 33, 3) := by decide +kernel
theorem dX6_judged_14 : decode cX6_judged 14 = .ok (.getfield 252, 3) := by decide +kernel
theorem dX6_judged_17 : decode cX6_judged 17 = .ok (.iload_n 1, 1) := by decide +kernel
theorem dX6_judged_18 : decode cX6_judged 18 = .ok (.iaload, 1) := by decide +kernel
theorem dX6_judged_19 : decode cX6_judged 19 = .ok (.istore_n 3, 1) := by decide +kernel
theorem dX6_judged_20 : decode cX6_judged 20 = .ok (.aload_n 0, 1) := by decide +kernel
theorem dX6_judged_21 : decode cX6_judged 21 = .ok (.getfield 33, 3) := by decide +kernel
theorem dX6_judged_24 : decode cX6_judged 24 = .ok (.getfield 255, 3) := by decide +kernel
theorem dX6_judged_27 : decode cX6_judged 27 = .ok (.iload_n 1, 1) := by decide +kernel
theorem dX6_judged_28 : decode cX6_judged 28 = .ok (.iaload, 1) := by decide +kernel
theorem dX6_judged_29 : decode cX6_judged 29 = .ok (.istore 4, 2) := by decide +kernel
theorem dX6_judged_31 : decode cX6_judged 31 = .ok (.aload_n 0, 1) := by decide +kernel
theorem dX6_judged_32 : decode cX6_judged 32 = .ok (.getfield 33, 3) := by decide +kernel
theorem dX6_judged_35 : decode cX6_judged 35 = .ok (.getfield 258, 3) := by decide +kernel
theorem dX6_judged_38 : decode cX6_judged 38 = .ok (.iload_n 1, 1) := by decide +kernel
theorem dX6_judged_39 : decode cX6_judged 39 = .ok (.iaload, 1) := by decide +kernel
theorem dX6_judged_40 : decode cX6_judged 40 = .ok (.bipush 30, 2) := by decide +kernel
theorem dX6_judged_42 : decode cX6_judged 42 = .ok (.if_icmp .ge 5, 3) := by decide +kernel
theorem dX6_judged_45 : decode cX6_judged 45 = .ok (.iconst 1, 1) := by decide +kernel
theorem dX6_judged_46 : decode cX6_judged 46 = .ok (.ireturn, 1) := by decide +kernel
theorem dX6_judged_47 : decode cX6_judged 47 = .ok (.aload_n 0, 1) := by decide +kernel
theorem dX6_judged_48 : decode cX6_judged 48 = .ok (.getfield 12, 3) := by decide +kernel
theorem dX6_judged_51 : decode cX6_judged 51 = .ok (.iload_n 3, 1) := by decide +kernel
theorem dX6_judged_52 : decode cX6_judged 52 = .ok (.aload_n 0, 1) := by decide +kernel
theorem dX6_judged_53 : decode cX6_judged 53 = .ok (.getfield 26, 3) := by decide +kernel
theorem dX6_judged_56 : decode cX6_judged 56 = .ok (.getfield 169, 3) := by decide +kernel
theorem dX6_judged_59 : decode cX6_judged 59 = .ok (.iload_n 2, 1) := by decide +kernel
theorem dX6_judged_60 : decode cX6_judged 60 = .ok (.iaload, 1) := by decide +kernel
theorem dX6_judged_61 : decode cX6_judged 61 = .ok (.iload 4, 2) := by decide +kernel
theorem dX6_judged_63 : decode cX6_judged 63 = .ok (.invokevirtual 172, 3) := by decide +kernel
theorem dX6_judged_66 : decode cX6_judged 66 = .ok (.ifCond .ne 5, 3) := by decide +kernel
theorem dX6_judged_69 : decode cX6_judged 69 = .ok (.iconst 2, 1) := by decide +kernel
theorem dX6_judged_70 : decode cX6_judged 70 = .ok (.ireturn, 1) := by decide +kernel
theorem dX6_judged_71 : decode cX6_judged 71 = .ok (.aload_n 0, 1) := by decide +kernel
theorem dX6_judged_72 : decode cX6_judged 72 = .ok (.getfield 12, 3) := by decide +kernel
theorem dX6_judged_75 : decode cX6_judged 75 = .ok (.iload_n 3, 1) := by decide +kernel
theorem dX6_judged_76 : decode cX6_judged 76 = .ok (.iload 4, 2) := by decide +kernel
theorem dX6_judged_78 : decode cX6_judged 78 = .ok (.invokevirtual 385, 3) := by decide +kernel
theorem dX6_judged_81 : decode cX6_judged 81 = .ok (.ifCond .eq 5, 3) := by decide +kernel
theorem dX6_judged_84 : decode cX6_judged 84 = .ok (.iconst 3, 1) := by decide +kernel
theorem dX6_judged_85 : decode cX6_judged 85 = .ok (.ireturn, 1) := by decide +kernel
theorem dX6_judged_86 : decode cX6_judged 86 = .ok (.aload_n 0, 1) := by decide +kernel
theorem dX6_judged_87 : decode cX6_judged 87 = .ok (.getfield 26, 3) := by decide +kernel
theorem dX6_judged_90 : decode cX6_judged 90 = .ok (.getfield 159, 3) := by decide +kernel
theorem dX6_judged_93 : decode cX6_judged 93 = .ok (.iload_n 2, 1) := by decide +kernel
theorem dX6_judged_94 : decode cX6_judged 94 = .ok (.baload, 1) := by decide +kernel
theorem dX6_judged_95 : decode cX6_judged 95 = .ok (.ifCond .eq 5, 3) := by decide +kernel
theorem dX6_judged_98 : decode cX6_judged 98 = .ok (.iconst 4, 1) := by decide +kernel
theorem dX6_judged_99 : decode cX6_judged 99 = .ok (.ireturn, 1) := by decide +kernel
theorem dX6_judged_100 : decode cX6_judged 100 = .ok (.aload_n 0, 1) := by decide +kernel
theorem dX6_judged_101 : decode cX6_judged 101 = .ok (.getfield 40, 3) := by decide +kernel
theorem dX6_judged_104 : decode cX6_judged 104 = .ok (.getfield 388, 3) := by decide +kernel
theorem dX6_judged_107 : decode cX6_judged 107 = .ok (.iload_n 2, 1) := by decide +kernel
theorem dX6_judged_108 : decode cX6_judged 108 = .ok (.aaload, 1) := by decide +kernel
theorem dX6_judged_109 : decode cX6_judged 109 = .ok (.aload_n 0, 1) := by decide +kernel
theorem dX6_judged_110 : decode cX6_judged 110 = .ok (.getfield 12, 3) := by decide +kernel
theorem dX6_judged_113 : decode cX6_judged 113 = .ok (.getfield 214, 3) := by decide +kernel
theorem dX6_judged_116 : decode cX6_judged 116 = .ok (.iload_n 3, 1) := by decide +kernel
theorem dX6_judged_117 : decode cX6_judged 117 = .ok (.iaload, 1) := by decide +kernel
theorem dX6_judged_118 : decode cX6_judged 118 = .ok (.iaload, 1) := by decide +kernel
theorem dX6_judged_119 : decode cX6_judged 119 = .ok (.istore 5, 2) := by decide +kernel
theorem dX6_judged_121 : decode cX6_judged 121 = .ok (.iload 5, 2) := by decide +kernel
theorem dX6_judged_123 : decode cX6_judged 123 = .ok (.iconst 5, 1) := by decide +kernel
theorem dX6_judged_124 : decode cX6_judged 124 = .ok (.if_icmp .lt 7, 3) := by decide +kernel
theorem dX6_judged_127 : decode cX6_judged 127 = .ok (.iconst 5, 1) := by decide +kernel
theorem dX6_judged_128 : decode cX6_judged 128 = .ok (.goto 4, 3) := by decide +kernel
theorem dX6_judged_131 : decode cX6_judged 131 = .ok (.iconst 0, 1) := by decide +kernel
theorem dX6_judged_132 : decode cX6_judged 132 = .ok (.ireturn, 1) := by decide +kernel
theorem dX6_closeMonth_0 : decode cX6_closeMonth 0 = .ok (.aload_n 0, 1) := by decide +kernel
theorem dX6_closeMonth_1 : decode cX6_closeMonth 1 = .ok (.getfield 47, 3) := by decide +kernel
theorem dX6_closeMonth_4 : decode cX6_closeMonth 4 = .ok (.getfield 264, 3) := by decide +kernel
theorem dX6_closeMonth_7 : decode cX6_closeMonth 7 = .ok (.invokestatic 234, 3) := by decide +kernel
theorem dX6_closeMonth_10 : decode cX6_closeMonth 10 = .ok (.istore_n 1, 1) := by decide +kernel
theorem dX6_closeMonth_11 : decode cX6_closeMonth 11 = .ok (.aload_n 0, 1) := by decide +kernel
theorem dX6_closeMonth_12 : decode cX6_closeMonth 12 = .ok (.getfield 47, 3) := by decide +kernel
theorem dX6_closeMonth_15 : decode cX6_closeMonth 15 = .ok (.aload_n 0, 1) := by decide +kernel
theorem dX6_closeMonth_16 : decode cX6_closeMonth 16 = .ok (.getfield 65, 3) := by decide +kernel
theorem dX6_closeMonth_19 : decode cX6_closeMonth 19 = .ok (.aload_n 0, 1) := by decide +kernel
theorem dX6_closeMonth_20 : decode cX6_closeMonth 20 = .ok (.getfield 26, 3) := by decide +kernel
theorem dX6_closeMonth_23 : decode cX6_closeMonth 23 = .ok (.aload_n 0, 1) := by decide +kernel
theorem dX6_closeMonth_24 : decode cX6_closeMonth 24 = .ok (.getfield 40, 3) := by decide +kernel
theorem dX6_closeMonth_27 : decode cX6_closeMonth 27 = .ok (.aload_n 0, 1) := by decide +kernel
theorem dX6_closeMonth_28 : decode cX6_closeMonth 28 = .ok (.getfield 19, 3) := by decide +kernel
theorem dX6_closeMonth_31 : decode cX6_closeMonth 31 = .ok (.invokevirtual 391, 3) := by decide +kernel
theorem dX6_closeMonth_34 : decode cX6_closeMonth 34 = .ok (.aload_n 0, 1) := by decide +kernel
theorem dX6_closeMonth_35 : decode cX6_closeMonth 35 = .ok (.getfield 26, 3) := by decide +kernel
theorem dX6_closeMonth_38 : decode cX6_closeMonth 38 = .ok (.invokevirtual 395, 3) := by decide +kernel
theorem dX6_closeMonth_41 : decode cX6_closeMonth 41 = .ok (.aload_n 0, 1) := by decide +kernel
theorem dX6_closeMonth_42 : decode cX6_closeMonth 42 = .ok (.getfield 47, 3) := by decide +kernel
theorem dX6_closeMonth_45 : decode cX6_closeMonth 45 = .ok (.getfield 264, 3) := by decide +kernel
theorem dX6_closeMonth_48 : decode cX6_closeMonth 48 = .ok (.invokestatic 234, 3) := by decide +kernel
theorem dX6_closeMonth_51 : decode cX6_closeMonth 51 = .ok (.iload_n 1, 1) := by decide +kernel
theorem dX6_closeMonth_52 : decode cX6_closeMonth 52 = .ok (.isub, 1) := by decide +kernel
theorem dX6_closeMonth_53 : decode cX6_closeMonth 53 = .ok (.ireturn, 1) := by decide +kernel
theorem dX6_trialBy_0 : decode cX6_trialBy 0 = .ok (.iload_n 1, 1) := by decide +kernel
theorem dX6_trialBy_1 : decode cX6_trialBy 1 = .ok (.ifCond .ne 10, 3) := by decide +kernel
theorem dX6_trialBy_4 : decode cX6_trialBy 4 = .ok (.aload_n 0, 1) := by decide +kernel
theorem dX6_trialBy_5 : decode cX6_trialBy 5 = .ok (.getfield 51, 3) := by decide +kernel
theorem dX6_trialBy_8 : decode cX6_trialBy 8 = .ok (.goto 7, 3) := by decide +kernel
theorem dX6_trialBy_11 : decode cX6_trialBy 11 = .ok (.aload_n 0, 1) := by decide +kernel
theorem dX6_trialBy_12 : decode cX6_trialBy 12 = .ok (.getfield 54, 3) := by decide +kernel
theorem dX6_trialBy_15 : decode cX6_trialBy 15 = .ok (.areturn, 1) := by decide +kernel
theorem dX6_tryClosing_0 : decode cX6_tryClosing 0 = .ok (.aload_n 0, 1) := by decide +kernel
theorem dX6_tryClosing_1 : decode cX6_tryClosing 1 = .ok (.iload_n 1, 1) := by decide +kernel
theorem dX6_tryClosing_2 : decode cX6_tryClosing 2 = .ok (.invokevirtual 398, 3) := by decide +kernel
theorem dX6_tryClosing_5 : decode cX6_tryClosing 5 = .ok (.astore_n 2, 1) := by decide +kernel
theorem dX6_tryClosing_6 : decode cX6_tryClosing 6 = .ok (.aload_n 2, 1) := by decide +kernel
theorem dX6_tryClosing_7 : decode cX6_tryClosing 7 = .ok (.aload_n 0, 1) := by decide +kernel
theorem dX6_tryClosing_8 : decode cX6_tryClosing 8 = .ok (.getfield 47, 3) := by decide +kernel
theorem dX6_tryClosing_11 : decode cX6_tryClosing 11 = .ok (.invokevirtual 402, 3) := by decide +kernel
theorem dX6_tryClosing_14 : decode cX6_tryClosing 14 = .ok (.aload_n 2, 1) := by decide +kernel
theorem dX6_tryClosing_15 : decode cX6_tryClosing 15 = .ok (.iload_n 1, 1) := by decide +kernel
theorem dX6_tryClosing_16 : decode cX6_tryClosing 16 = .ok (.aload_n 0, 1) := by decide +kernel
theorem dX6_tryClosing_17 : decode cX6_tryClosing 17 = .ok (.getfield 26, 3) := by decide +kernel
theorem dX6_tryClosing_20 : decode cX6_tryClosing 20 = .ok (.aload_n 0, 1) := by decide +kernel
theorem dX6_tryClosing_21 : decode cX6_tryClosing 21 = .ok (.getfield 40, 3) := by decide +kernel
theorem dX6_tryClosing_24 : decode cX6_tryClosing 24 = .ok (.aload_n 0, 1) := by decide +kernel
theorem dX6_tryClosing_25 : decode cX6_tryClosing 25 = .ok (.getfield 19, 3) := by decide +kernel
theorem dX6_tryClosing_28 : decode cX6_tryClosing 28 = .ok (.invokevirtual 391, 3) := by decide +kernel
theorem dX6_tryClosing_31 : decode cX6_tryClosing 31 = .ok (.return_, 1) := by decide +kernel
theorem dX6_gotInTrial_0 : decode cX6_gotInTrial 0 = .ok (.aload_n 0, 1) := by decide +kernel
theorem dX6_gotInTrial_1 : decode cX6_gotInTrial 1 = .ok (.iload_n 2, 1) := by decide +kernel
theorem dX6_gotInTrial_2 : decode cX6_gotInTrial 2 = .ok (.invokevirtual 398, 3) := by decide +kernel
theorem dX6_gotInTrial_5 : decode cX6_gotInTrial 5 = .ok (.getfield 276, 3) := by decide +kernel
theorem dX6_gotInTrial_8 : decode cX6_gotInTrial 8 = .ok (.iload_n 1, 1) := by decide +kernel
theorem dX6_gotInTrial_9 : decode cX6_gotInTrial 9 = .ok (.iaload, 1) := by decide +kernel
theorem dX6_gotInTrial_10 : decode cX6_gotInTrial 10 = .ok (.aload_n 0, 1) := by decide +kernel
theorem dX6_gotInTrial_11 : decode cX6_gotInTrial 11 = .ok (.getfield 47, 3) := by decide +kernel
theorem dX6_gotInTrial_14 : decode cX6_gotInTrial 14 = .ok (.getfield 276, 3) := by decide +kernel
theorem dX6_gotInTrial_17 : decode cX6_gotInTrial 17 = .ok (.iload_n 1, 1) := by decide +kernel
theorem dX6_gotInTrial_18 : decode cX6_gotInTrial 18 = .ok (.iaload, 1) := by decide +kernel
theorem dX6_gotInTrial_19 : decode cX6_gotInTrial 19 = .ok (.isub, 1) := by decide +kernel
theorem dX6_gotInTrial_20 : decode cX6_gotInTrial 20 = .ok (.ireturn, 1) := by decide +kernel
theorem dX6_paidInTrial_0 : decode cX6_paidInTrial 0 = .ok (.aload_n 0, 1) := by decide +kernel
theorem dX6_paidInTrial_1 : decode cX6_paidInTrial 1 = .ok (.iload_n 2, 1) := by decide +kernel
theorem dX6_paidInTrial_2 : decode cX6_paidInTrial 2 = .ok (.invokevirtual 398, 3) := by decide +kernel
theorem dX6_paidInTrial_5 : decode cX6_paidInTrial 5 = .ok (.getfield 264, 3) := by decide +kernel
theorem dX6_paidInTrial_8 : decode cX6_paidInTrial 8 = .ok (.iload_n 1, 1) := by decide +kernel
theorem dX6_paidInTrial_9 : decode cX6_paidInTrial 9 = .ok (.iaload, 1) := by decide +kernel
theorem dX6_paidInTrial_10 : decode cX6_paidInTrial 10 = .ok (.aload_n 0, 1) := by decide +kernel
theorem dX6_paidInTrial_11 : decode cX6_paidInTrial 11 = .ok (.getfield 47, 3) := by decide +kernel
theorem dX6_paidInTrial_14 : decode cX6_paidInTrial 14 = .ok (.getfield 264, 3) := by decide +kernel
theorem dX6_paidInTrial_17 : decode cX6_paidInTrial 17 = .ok (.iload_n 1, 1) := by decide +kernel
theorem dX6_paidInTrial_18 : decode cX6_paidInTrial 18 = .ok (.iaload, 1) := by decide +kernel
theorem dX6_paidInTrial_19 : decode cX6_paidInTrial 19 = .ok (.isub, 1) := by decide +kernel
theorem dX6_paidInTrial_20 : decode cX6_paidInTrial 20 = .ok (.ireturn, 1) := by decide +kernel
theorem dX6_charted_0 : decode cX6_charted 0 = .ok (.aload_n 0, 1) := by decide +kernel
theorem dX6_charted_1 : decode cX6_charted 1 = .ok (.iload_n 1, 1) := by decide +kernel
theorem dX6_charted_2 : decode cX6_charted 2 = .ok (.invokevirtual 406, 3) := by decide +kernel
theorem dX6_charted_5 : decode cX6_charted 5 = .ok (.iconst 0, 1) := by decide +kernel
theorem dX6_charted_6 : decode cX6_charted 6 = .ok (.istore_n 3, 1) := by decide +kernel
theorem dX6_charted_7 : decode cX6_charted 7 = .ok (.iload_n 3, 1) := by decide +kernel
theorem dX6_charted_8 : decode cX6_charted 8 = .ok (.bipush 10, 2) := by decide +kernel
theorem dX6_charted_10 : decode cX6_charted 10 = .ok (.if_icmp .ge 32, 3) := by decide +kernel
theorem dX6_charted_13 : decode cX6_charted 13 = .ok (.aload_n 0, 1) := by decide +kernel
theorem dX6_charted_14 : decode cX6_charted 14 = .ok (.getfield 57, 3) := by decide +kernel
theorem dX6_charted_17 : decode cX6_charted 17 = .ok (.iload_n 3, 1) := by decide +kernel
theorem dX6_charted_18 : decode cX6_charted 18 = .ok (.iaload, 1) := by decide +kernel
theorem dX6_charted_19 : decode cX6_charted 19 = .ok (.ifCond .le 17, 3) := by decide +kernel
theorem dX6_charted_22 : decode cX6_charted 22 = .ok (.aload_n 0, 1) := by decide +kernel
theorem dX6_charted_23 : decode cX6_charted 23 = .ok (.getfield 57, 3) := by decide +kernel
theorem dX6_charted_26 : decode cX6_charted 26 = .ok (.iload_n 3, 1) := by decide +kernel
theorem dX6_charted_27 : decode cX6_charted 27 = .ok (.invokestatic 409, 3) := by decide +kernel
theorem dX6_charted_30 : decode cX6_charted 30 = .ok (.iload_n 2, 1) := by decide +kernel
theorem dX6_charted_31 : decode cX6_charted 31 = .ok (.if_icmp .ne 5, 3) := by decide +kernel
theorem dX6_charted_34 : decode cX6_charted 34 = .ok (.iload_n 3, 1) := by decide +kernel
theorem dX6_charted_35 : decode cX6_charted 35 = .ok (.ireturn, 1) := by decide +kernel
theorem dX6_charted_36 : decode cX6_charted 36 = .ok (.iinc 3 1, 3) := by decide +kernel
theorem dX6_charted_39 : decode cX6_charted 39 = .ok (.goto (-32), 3) := by decide +kernel
theorem dX6_charted_42 : decode cX6_charted 42 = .ok (.iconst (-1), 1) := by decide +kernel
theorem dX6_charted_43 : decode cX6_charted 43 = .ok (.ireturn, 1) := by decide +kernel
theorem dX6_countPoints_0 : decode cX6_countPoints 0 = .ok (.aload_n 0, 1) := by decide +kernel
theorem dX6_countPoints_1 : decode cX6_countPoints 1 = .ok (.getfield 57, 3) := by decide +kernel
theorem dX6_countPoints_4 : decode cX6_countPoints 4 = .ok (.iconst 0, 1) := by decide +kernel
theorem dX6_countPoints_5 : decode cX6_countPoints 5 = .ok (.invokestatic 413, 3) := by decide +kernel
theorem dX6_countPoints_8 : decode cX6_countPoints 8 = .ok (.iconst 0, 1) := by decide +kernel
theorem dX6_countPoints_9 : decode cX6_countPoints 9 = .ok (.istore_n 2, 1) := by decide +kernel
theorem dX6_countPoints_10 : decode cX6_countPoints 10 = .ok (.iload_n 2, 1) := by decide +kernel
theorem dX6_countPoints_11 : decode cX6_countPoints 11 = .ok (.aload_n 0, 1) := by decide +kernel
theorem dX6_countPoints_12 : decode cX6_countPoints 12 = .ok (.getfield 26, 3) := by decide +kernel
theorem dX6_countPoints_15 : decode cX6_countPoints 15 = .ok (.getfield 144, 3) := by decide +kernel
theorem dX6_countPoints_18 : decode cX6_countPoints 18 = .ok (.if_icmp .ge 57, 3) := by decide +kernel
theorem dX6_countPoints_21 : decode cX6_countPoints 21 = .ok (.aload_n 0, 1) := by decide +kernel
theorem dX6_countPoints_22 : decode cX6_countPoints 22 = .ok (.getfield 26, 3) := by decide +kernel
theorem dX6_countPoints_25 : decode cX6_countPoints 25 = .ok (.getfield 169, 3) := by decide +kernel
theorem dX6_countPoints_28 : decode cX6_countPoints 28 = .ok (.iload_n 2, 1) := by decide +kernel
theorem dX6_countPoints_29 : decode cX6_countPoints 29 = .ok (.iaload, 1) := by decide +kernel
theorem dX6_countPoints_30 : decode cX6_countPoints 30 = .ok (.iload_n 1, 1) := by decide +kernel
theorem dX6_countPoints_31 : decode cX6_countPoints 31 = .ok (.if_icmp .ne 38, 3) := by decide +kernel
theorem dX6_countPoints_34 : decode cX6_countPoints 34 = .ok (.aload_n 0, 1) := by decide +kernel
theorem dX6_countPoints_35 : decode cX6_countPoints 35 = .ok (.getfield 26, 3) := by decide +kernel
theorem dX6_countPoints_38 : decode cX6_countPoints 38 = .ok (.getfield 156, 3) := by decide +kernel
theorem dX6_countPoints_41 : decode cX6_countPoints 41 = .ok (.iload_n 2, 1) := by decide +kernel
theorem dX6_countPoints_42 : decode cX6_countPoints 42 = .ok (.iaload, 1) := by decide +kernel
theorem dX6_countPoints_43 : decode cX6_countPoints 43 = .ok (.ifCond .ne 7, 3) := by decide +kernel
theorem dX6_countPoints_46 : decode cX6_countPoints 46 = .ok (.iconst 1, 1) := by decide +kernel
theorem dX6_countPoints_47 : decode cX6_countPoints 47 = .ok (.goto 4, 3) := by decide +kernel
theorem dX6_countPoints_50 : decode cX6_countPoints 50 = .ok (.iconst 2, 1) := by decide +kernel
theorem dX6_countPoints_51 : decode cX6_countPoints 51 = .ok (.istore_n 3, 1) := by decide +kernel
theorem dX6_countPoints_52 : decode cX6_countPoints 52 = .ok (.aload_n 0, 1) := by decide +kernel
theorem dX6_countPoints_53 : decode cX6_countPoints 53 = .ok (.getfield 57, 3) := by decide +kernel
theorem dX6_countPoints_56 : decode cX6_countPoints 56 = .ok (.aload_n 0, 1) := by decide +kernel
theorem dX6_countPoints_57 : decode cX6_countPoints 57 = .ok (.getfield 40, 3) := by decide +kernel
theorem dX6_countPoints_60 : decode cX6_countPoints 60 = .ok (.getfield 238, 3) := by decide +kernel
theorem dX6_countPoints_63 : decode cX6_countPoints 63 = .ok (.iload_n 2, 1) := by decide +kernel
theorem dX6_countPoints_64 : decode cX6_countPoints 64 = .ok (.aaload, 1) := by decide +kernel
theorem dX6_countPoints_65 : decode cX6_countPoints 65 = .ok (.iload_n 3, 1) := by decide +kernel
theorem dX6_countPoints_66 : decode cX6_countPoints 66 = .ok (.invokestatic 419, 3) := by decide +kernel
theorem dX6_countPoints_69 : decode cX6_countPoints 69 = .ok (.iinc 2 1, 3) := by decide +kernel
theorem dX6_countPoints_72 : decode cX6_countPoints 72 = .ok (.goto (-62), 3) := by decide +kernel
theorem dX6_countPoints_75 : decode cX6_countPoints 75 = .ok (.return_, 1) := by decide +kernel
theorem dX6_suggestion_0 : decode cX6_suggestion 0 = .ok (.iconst (-1), 1) := by decide +kernel
theorem dX6_suggestion_1 : decode cX6_suggestion 1 = .ok (.istore_n 2, 1) := by decide +kernel
theorem dX6_suggestion_2 : decode cX6_suggestion 2 = .ok (.iconst 0, 1) := by decide +kernel
theorem dX6_suggestion_3 : decode cX6_suggestion 3 = .ok (.istore_n 3, 1) := by decide +kernel
theorem dX6_suggestion_4 : decode cX6_suggestion 4 = .ok (.iconst 0, 1) := by decide +kernel
theorem dX6_suggestion_5 : decode cX6_suggestion 5 = .ok (.istore 4, 2) := by decide +kernel
theorem dX6_suggestion_7 : decode cX6_suggestion 7 = .ok (.iconst 0, 1) := by decide +kernel
theorem dX6_suggestion_8 : decode cX6_suggestion 8 = .ok (.istore 5, 2) := by decide +kernel
theorem dX6_suggestion_10 : decode cX6_suggestion 10 = .ok (.iload 5, 2) := by decide +kernel
theorem dX6_suggestion_12 : decode cX6_suggestion 12 = .ok (.bipush 10, 2) := by decide +kernel
theorem dX6_suggestion_14 : decode cX6_suggestion 14 = .ok (.if_icmp .ge 76, 3) := by decide +kernel
theorem dX6_suggestion_17 : decode cX6_suggestion 17 = .ok (.aload_n 0, 1) := by decide +kernel
theorem dX6_suggestion_18 : decode cX6_suggestion 18 = .ok (.iload 5, 2) := by decide +kernel
theorem dX6_suggestion_20 : decode cX6_suggestion 20 = .ok (.iload_n 1, 1) := by decide +kernel
theorem dX6_suggestion_21 : decode cX6_suggestion 21 = .ok (.invokevirtual 423, 3) := by decide +kernel
theorem dX6_suggestion_24 : decode cX6_suggestion 24 = .ok (.ifCond .eq 60, 3) := by decide +kernel
theorem dX6_suggestion_27 : decode cX6_suggestion 27 = .ok (.aload_n 0, 1) := by decide +kernel
theorem dX6_suggestion_28 : decode cX6_suggestion 28 = .ok (.iload 5, 2) := by decide +kernel
theorem dX6_suggestion_30 : decode cX6_suggestion 30 = .ok (.iload_n 1, 1) := by decide +kernel
theorem dX6_suggestion_31 : decode cX6_suggestion 31 = .ok (.invokevirtual 426, 3) := by decide +kernel
theorem dX6_suggestion_34 : decode cX6_suggestion 34 = .ok (.istore 6, 2) := by decide +kernel
theorem dX6_suggestion_36 : decode cX6_suggestion 36 = .ok (.aload_n 0, 1) := by decide +kernel
theorem dX6_suggestion_37 : decode cX6_suggestion 37 = .ok (.getfield 40, 3) := by decide +kernel
theorem dX6_suggestion_40 : decode cX6_suggestion 40 = .ok (.getfield 231, 3) := by decide +kernel
theorem dX6_suggestion_43 : decode cX6_suggestion 43 = .ok (.iload 5, 2) := by decide +kernel
theorem dX6_suggestion_45 : decode cX6_suggestion 45 = .ok (.invokestatic 282, 3) := by decide +kernel
theorem dX6_suggestion_48 : decode cX6_suggestion 48 = .ok (.istore 7, 2) := by decide +kernel
theorem dX6_suggestion_50 : decode cX6_suggestion 50 = .ok (.iload_n 2, 1) := by decide +kernel
theorem dX6_suggestion_51 : decode cX6_suggestion 51 = .ok (.iconst (-1), 1) := by decide +kernel
theorem dX6_suggestion_52 : decode cX6_suggestion 52 = .ok (.if_icmp .eq 22, 3) := by decide +kernel
theorem dX6_suggestion_55 : decode cX6_suggestion 55 = .ok (.iload 6, 2) := by decide +kernel
theorem dX6_suggestion_57 : decode cX6_suggestion 57 = .ok (.iload_n 3, 1) := by decide +kernel
theorem dX6_suggestion_58 : decode cX6_suggestion 58 = .ok (.if_icmp .gt 16, 3) := by decide +kernel
theorem dX6_suggestion_61 : decode cX6_suggestion 61 = .ok (.iload 6, 2) := by decide +kernel
theorem dX6_suggestion_63 : decode cX6_suggestion 63 = .ok (.iload_n 3, 1) := by decide +kernel
theorem dX6_suggestion_64 : decode cX6_suggestion 64 = .ok (.if_icmp .ne 20, 3) := by decide +kernel
theorem dX6_suggestion_67 : decode cX6_suggestion 67 = .ok (.iload 7, 2) := by decide +kernel
theorem dX6_suggestion_69 : decode cX6_suggestion 69 = .ok (.iload 4, 2) := by decide +kernel
theorem dX6_suggestion_71 : decode cX6_suggestion 71 = .ok (.if_icmp .le 13, 3) := by decide +kernel
theorem dX6_suggestion_74 : decode cX6_suggestion 74 = .ok (.iload 5, 2) := by decide +kernel
theorem dX6_suggestion_76 : decode cX6_suggestion 76 = .ok (.istore_n 2, 1) := by decide +kernel
theorem dX6_suggestion_77 : decode cX6_suggestion 77 = .ok (.iload 6, 2) := by decide +kernel
theorem dX6_suggestion_79 : decode cX6_suggestion 79 = .ok (.istore_n 3, 1) := by decide +kernel
theorem dX6_suggestion_80 : decode cX6_suggestion 80 = .ok (.iload 7, 2) := by decide +kernel
theorem dX6_suggestion_82 : decode cX6_suggestion 82 = .ok (.istore 4, 2) := by decide +kernel
theorem dX6_suggestion_84 : decode cX6_suggestion 84 = .ok (.iinc 5 1, 3) := by decide +kernel
theorem dX6_suggestion_87 : decode cX6_suggestion 87 = .ok (.goto (-77), 3) := by decide +kernel
theorem dX6_suggestion_90 : decode cX6_suggestion 90 = .ok (.iload_n 2, 1) := by decide +kernel
theorem dX6_suggestion_91 : decode cX6_suggestion 91 = .ok (.ireturn, 1) := by decide +kernel
theorem dX6_isNewAndHearable_0 : decode cX6_isNewAndHearable 0 = .ok (.aload_n 0, 1) := by decide +kernel
theorem dX6_isNewAndHearable_1 : decode cX6_isNewAndHearable 1 = .ok (.getfield 40, 3) := by decide +kernel
theorem dX6_isNewAndHearable_4 : decode cX6_isNewAndHearable 4 = .ok (.getfield 231, 3) := by decide +kernel
theorem dX6_isNewAndHearable_7 : decode cX6_isNewAndHearable 7 = .ok (.iload_n 2, 1) := by decide +kernel
theorem dX6_isNewAndHearable_8 : decode cX6_isNewAndHearable 8 = .ok (.aaload, 1) := by decide +kernel
theorem dX6_isNewAndHearable_9 : decode cX6_isNewAndHearable 9 = .ok (.iload_n 1, 1) := by decide +kernel
theorem dX6_isNewAndHearable_10 : decode cX6_isNewAndHearable 10 = .ok (.iaload, 1) := by decide +kernel
theorem dX6_isNewAndHearable_11 : decode cX6_isNewAndHearable 11 = .ok (.ifCond .ne 31, 3) := by decide +kernel
theorem dX6_isNewAndHearable_14 : decode cX6_isNewAndHearable 14 = .ok (.aload_n 0, 1) := by decide +kernel
theorem dX6_isNewAndHearable_15 : decode cX6_isNewAndHearable 15 = .ok (.getfield 12, 3) := by decide +kernel
theorem dX6_isNewAndHearable_18 : decode cX6_isNewAndHearable 18 = .ok (.iload_n 1, 1) := by decide +kernel
theorem dX6_isNewAndHearable_19 : decode cX6_isNewAndHearable 19 = .ok (.aload_n 0, 1) := by decide +kernel
theorem dX6_isNewAndHearable_20 : decode cX6_isNewAndHearable 20 = .ok (.getfield 26, 3) := by decide +kernel
theorem dX6_isNewAndHearable_23 : decode cX6_isNewAndHearable 23 = .ok (.getfield 169, 3) := by decide +kernel
theorem dX6_isNewAndHearable_26 : decode cX6_isNewAndHearable 26 = .ok (.iload_n 2, 1) := by decide +kernel
theorem dX6_isNewAndHearable_27 : decode cX6_isNewAndHearable 27 = .ok (.iaload, 1) := by decide +kernel
theorem dX6_isNewAndHearable_28 : decode cX6_isNewAndHearable 28 = .ok (.aload_n 0, 1) := by decide +kernel
theorem dX6_isNewAndHearable_29 : decode cX6_isNewAndHearable 29 = .ok (.getfield 61, 3) := by decide +kernel
theorem dX6_isNewAndHearable_32 : decode cX6_isNewAndHearable 32 = .ok (.invokevirtual 429, 3) := by decide +kernel
theorem dX6_isNewAndHearable_35 : decode cX6_isNewAndHearable 35 = .ok (.ifCond .eq 7, 3) := by decide +kernel
theorem dX6_isNewAndHearable_38 : decode cX6_isNewAndHearable 38 = .ok (.iconst 1, 1) := by decide +kernel
theorem dX6_isNewAndHearable_39 : decode cX6_isNewAndHearable 39 = .ok (.goto 4, 3) := by decide +kernel
theorem dX6_isNewAndHearable_42 : decode cX6_isNewAndHearable 42 = .ok (.iconst 0, 1) := by decide +kernel
theorem dX6_isNewAndHearable_43 : decode cX6_isNewAndHearable 43 = .ok (.ireturn, 1) := by decide +kernel
theorem dX6_alikeToHeard_0 : decode cX6_alikeToHeard 0 = .ok (.iconst 0, 1) := by decide +kernel
theorem dX6_alikeToHeard_1 : decode cX6_alikeToHeard 1 = .ok (.istore_n 3, 1) := by decide +kernel
theorem dX6_alikeToHeard_2 : decode cX6_alikeToHeard 2 = .ok (.iconst 0, 1) := by decide +kernel
theorem dX6_alikeToHeard_3 : decode cX6_alikeToHeard 3 = .ok (.istore 4, 2) := by decide +kernel
theorem dX6_alikeToHeard_5 : decode cX6_alikeToHeard 5 = .ok (.iload 4, 2) := by decide +kernel
theorem dX6_alikeToHeard_7 : decode cX6_alikeToHeard 7 = .ok (.bipush 10, 2) := by decide +kernel
theorem dX6_alikeToHeard_9 : decode cX6_alikeToHeard 9 = .ok (.if_icmp .ge 37, 3) := by decide +kernel
theorem dX6_alikeToHeard_12 : decode cX6_alikeToHeard 12 = .ok (.aload_n 0, 1) := by decide +kernel
theorem dX6_alikeToHeard_13 : decode cX6_alikeToHeard 13 = .ok (.getfield 40, 3) := by decide +kernel
theorem dX6_alikeToHeard_16 : decode cX6_alikeToHeard 16 = .ok (.getfield 231, 3) := by decide +kernel
theorem dX6_alikeToHeard_19 : decode cX6_alikeToHeard 19 = .ok (.iload_n 2, 1) := by decide +kernel
theorem dX6_alikeToHeard_20 : decode cX6_alikeToHeard 20 = .ok (.aaload, 1) := by decide +kernel
theorem dX6_alikeToHeard_21 : decode cX6_alikeToHeard 21 = .ok (.iload 4, 2) := by decide +kernel
theorem dX6_alikeToHeard_23 : decode cX6_alikeToHeard 23 = .ok (.iaload, 1) := by decide +kernel
theorem dX6_alikeToHeard_24 : decode cX6_alikeToHeard 24 = .ok (.ifCond .le 16, 3) := by decide +kernel
theorem dX6_alikeToHeard_27 : decode cX6_alikeToHeard 27 = .ok (.iload_n 3, 1) := by decide +kernel
theorem dX6_alikeToHeard_28 : decode cX6_alikeToHeard 28 = .ok (.aload_n 0, 1) := by decide +kernel
theorem dX6_alikeToHeard_29 : decode cX6_alikeToHeard 29 = .ok (.getfield 40, 3) := by decide +kernel
theorem dX6_alikeToHeard_32 : decode cX6_alikeToHeard 32 = .ok (.iload_n 1, 1) := by decide +kernel
theorem dX6_alikeToHeard_33 : decode cX6_alikeToHeard 33 = .ok (.iload 4, 2) := by decide +kernel
theorem dX6_alikeToHeard_35 : decode cX6_alikeToHeard 35 = .ok (.invokevirtual 310, 3) := by decide +kernel
theorem dX6_alikeToHeard_38 : decode cX6_alikeToHeard 38 = .ok (.iadd, 1) := by decide +kernel
theorem dX6_alikeToHeard_39 : decode cX6_alikeToHeard 39 = .ok (.istore_n 3, 1) := by decide +kernel
theorem dX6_alikeToHeard_40 : decode cX6_alikeToHeard 40 = .ok (.iinc 4 1, 3) := by decide +kernel
theorem dX6_alikeToHeard_43 : decode cX6_alikeToHeard 43 = .ok (.goto (-38), 3) := by decide +kernel
theorem dX6_alikeToHeard_46 : decode cX6_alikeToHeard 46 = .ok (.iload_n 3, 1) := by decide +kernel
theorem dX6_alikeToHeard_47 : decode cX6_alikeToHeard 47 = .ok (.ireturn, 1) := by decide +kernel
theorem dX6_digestStep_0 : decode cX6_digestStep 0 = .ok (.lload_n 0, 1) := by decide +kernel
theorem dX6_digestStep_1 : decode cX6_digestStep 1 = .ok (.ldc2_w 432, 3) := by decide +kernel
theorem dX6_digestStep_4 : decode cX6_digestStep 4 = .ok (.lmul, 1) := by decide +kernel
theorem dX6_digestStep_5 : decode cX6_digestStep 5 = .ok (.lload_n 2, 1) := by decide +kernel
theorem dX6_digestStep_6 : decode cX6_digestStep 6 = .ok (.ladd, 1) := by decide +kernel
theorem dX6_digestStep_7 : decode cX6_digestStep 7 = .ok (.lreturn, 1) := by decide +kernel
theorem dX6_digestOfTotals_0 : decode cX6_digestOfTotals 0 = .ok (.lload_n 1, 1) := by decide +kernel
theorem dX6_digestOfTotals_1 : decode cX6_digestOfTotals 1 = .ok (.lstore_n 3, 1) := by decide +kernel
theorem dX6_digestOfTotals_2 : decode cX6_digestOfTotals 2 = .ok (.iconst 0, 1) := by decide +kernel
theorem dX6_digestOfTotals_3 : decode cX6_digestOfTotals 3 = .ok (.istore 5, 2) := by decide +kernel
theorem dX6_digestOfTotals_5 : decode cX6_digestOfTotals 5 = .ok (.iload 5, 2) := by decide +kernel
theorem dX6_digestOfTotals_7 : decode cX6_digestOfTotals 7 = .ok (.bipush 17, 2) := by decide +kernel
theorem dX6_digestOfTotals_9 : decode cX6_digestOfTotals 9 = .ok (.if_icmp .gt 21, 3) := by decide +kernel
theorem dX6_digestOfTotals_12 : decode cX6_digestOfTotals 12 = .ok (.lload_n 3, 1) := by decide +kernel
theorem dX6_digestOfTotals_13 : decode cX6_digestOfTotals 13 = .ok (.aload_n 0, 1) := by decide +kernel
theorem dX6_digestOfTotals_14 : decode cX6_digestOfTotals 14 = .ok (.iload 5, 2) := by decide +kernel
theorem dX6_digestOfTotals_16 : decode cX6_digestOfTotals 16 = .ok (.invokevirtual 434, 3) := by decide +kernel
theorem dX6_digestOfTotals_19 : decode cX6_digestOfTotals 19 = .ok (.i2l, 1) := by decide +kernel
theorem dX6_digestOfTotals_20 : decode cX6_digestOfTotals 20 = .ok (.invokestatic 346, 3) := by decide +kernel
theorem dX6_digestOfTotals_23 : decode cX6_digestOfTotals 23 = .ok (.lstore_n 3, 1) := by decide +kernel
theorem dX6_digestOfTotals_24 : decode cX6_digestOfTotals 24 = .ok (.iinc 5 1, 3) := by decide +kernel
theorem dX6_digestOfTotals_27 : decode cX6_digestOfTotals 27 = .ok (.goto (-22), 3) := by decide +kernel
theorem dX6_digestOfTotals_30 : decode cX6_digestOfTotals 30 = .ok (.iconst 0, 1) := by decide +kernel
theorem dX6_digestOfTotals_31 : decode cX6_digestOfTotals 31 = .ok (.istore 5, 2) := by decide +kernel
theorem dX6_digestOfTotals_33 : decode cX6_digestOfTotals 33 = .ok (.iload 5, 2) := by decide +kernel
theorem dX6_digestOfTotals_35 : decode cX6_digestOfTotals 35 = .ok (.bipush 6, 2) := by decide +kernel
theorem dX6_digestOfTotals_37 : decode cX6_digestOfTotals 37 = .ok (.if_icmp .ge 24, 3) := by decide +kernel
theorem dX6_digestOfTotals_40 : decode cX6_digestOfTotals 40 = .ok (.lload_n 3, 1) := by decide +kernel
theorem dX6_digestOfTotals_41 : decode cX6_digestOfTotals 41 = .ok (.aload_n 0, 1) := by decide +kernel
theorem dX6_digestOfTotals_42 : decode cX6_digestOfTotals 42 = .ok (.getfield 33, 3) := by decide +kernel
theorem dX6_digestOfTotals_45 : decode cX6_digestOfTotals 45 = .ok (.iload 5, 2) := by decide +kernel
theorem dX6_digestOfTotals_47 : decode cX6_digestOfTotals 47 = .ok (.invokevirtual 289, 3) := by decide +kernel
theorem dX6_digestOfTotals_50 : decode cX6_digestOfTotals 50 = .ok (.i2l, 1) := by decide +kernel
theorem dX6_digestOfTotals_51 : decode cX6_digestOfTotals 51 = .ok (.invokestatic 346, 3) := by decide +kernel
theorem dX6_digestOfTotals_54 : decode cX6_digestOfTotals 54 = .ok (.lstore_n 3, 1) := by decide +kernel
theorem dX6_digestOfTotals_55 : decode cX6_digestOfTotals 55 = .ok (.iinc 5 1, 3) := by decide +kernel
theorem dX6_digestOfTotals_58 : decode cX6_digestOfTotals 58 = .ok (.goto (-25), 3) := by decide +kernel
theorem dX6_digestOfTotals_61 : decode cX6_digestOfTotals 61 = .ok (.lload_n 3, 1) := by decide +kernel
theorem dX6_digestOfTotals_62 : decode cX6_digestOfTotals 62 = .ok (.lreturn, 1) := by decide +kernel
theorem dX6_digestOfTracks_0 : decode cX6_digestOfTracks 0 = .ok (.lload_n 1, 1) := by decide +kernel
theorem dX6_digestOfTracks_1 : decode cX6_digestOfTracks 1 = .ok (.lstore_n 3, 1) := by decide +kernel
theorem dX6_digestOfTracks_2 : decode cX6_digestOfTracks 2 = .ok (.iconst 0, 1) := by decide +kernel
theorem dX6_digestOfTracks_3 : decode cX6_digestOfTracks 3 = .ok (.istore 5, 2) := by decide +kernel
theorem dX6_digestOfTracks_5 : decode cX6_digestOfTracks 5 = .ok (.iload 5, 2) := by decide +kernel
theorem dX6_digestOfTracks_7 : decode cX6_digestOfTracks 7 = .ok (.aload_n 0, 1) := by decide +kernel
theorem dX6_digestOfTracks_8 : decode cX6_digestOfTracks 8 = .ok (.getfield 12, 3) := by decide +kernel
theorem dX6_digestOfTracks_11 : decode cX6_digestOfTracks 11 = .ok (.getfield 72, 3) := by decide +kernel
theorem dX6_digestOfTracks_14 : decode cX6_digestOfTracks 14 = .ok (.if_icmp .ge 38, 3) := by decide +kernel
theorem dX6_digestOfTracks_17 : decode cX6_digestOfTracks 17 = .ok (.iconst 0, 1) := by decide +kernel
theorem dX6_digestOfTracks_18 : decode cX6_digestOfTracks 18 = .ok (.istore 6, 2) := by decide +kernel
theorem dX6_digestOfTracks_20 : decode cX6_digestOfTracks 20 = .ok (.iload 6, 2) := by decide +kernel
theorem dX6_digestOfTracks_22 : decode cX6_digestOfTracks 22 = .ok (.iconst 3, 1) := by decide +kernel
theorem dX6_digestOfTracks_23 : decode cX6_digestOfTracks 23 = .ok (.if_icmp .gt 23, 3) := by decide +kernel
theorem dX6_digestOfTracks_26 : decode cX6_digestOfTracks 26 = .ok (.lload_n 3, 1) := by decide +kernel
theorem dX6_digestOfTracks_27 : decode cX6_digestOfTracks 27 = .ok (.aload_n 0, 1) := by decide +kernel
theorem dX6_digestOfTracks_28 : decode cX6_digestOfTracks 28 = .ok (.iload 5, 2) := by decide +kernel
theorem dX6_digestOfTracks_30 : decode cX6_digestOfTracks 30 = .ok (.iload 6, 2) := by decide +kernel
theorem dX6_digestOfTracks_32 : decode cX6_digestOfTracks 32 = .ok (.invokevirtual 437, 3) := by decide +kernel
theorem dX6_digestOfTracks_35 : decode cX6_digestOfTracks 35 = .ok (.i2l, 1) := by decide +kernel
theorem dX6_digestOfTracks_36 : decode cX6_digestOfTracks 36 = .ok (.invokestatic 346, 3) := by decide +kernel
theorem dX6_digestOfTracks_39 : decode cX6_digestOfTracks 39 = .ok (.lstore_n 3, 1) := by decide +kernel
theorem dX6_digestOfTracks_40 : decode cX6_digestOfTracks 40 = .ok (.iinc 6 1, 3) := by decide +kernel
theorem dX6_digestOfTracks_43 : decode cX6_digestOfTracks 43 = .ok (.goto (-23), 3) := by decide +kernel
theorem dX6_digestOfTracks_46 : decode cX6_digestOfTracks 46 = .ok (.iinc 5 1, 3) := by decide +kernel
theorem dX6_digestOfTracks_49 : decode cX6_digestOfTracks 49 = .ok (.goto (-44), 3) := by decide +kernel
theorem dX6_digestOfTracks_52 : decode cX6_digestOfTracks 52 = .ok (.lload_n 3, 1) := by decide +kernel
theorem dX6_digestOfTracks_53 : decode cX6_digestOfTracks 53 = .ok (.lreturn, 1) := by decide +kernel
theorem dX6_digestOfListeners_0 : decode cX6_digestOfListeners 0 = .ok (.lload_n 1, 1) := by decide +kernel
theorem dX6_digestOfListeners_1 : decode cX6_digestOfListeners 1 = .ok (.lstore_n 3, 1) := by decide +kernel
theorem dX6_digestOfListeners_2 : decode cX6_digestOfListeners 2 = .ok (.iconst 0, 1) := by decide +kernel
theorem dX6_digestOfListeners_3 : decode cX6_digestOfListeners 3 = .ok (.istore 5, 2) := by decide +kernel
theorem dX6_digestOfListeners_5 : decode cX6_digestOfListeners 5 = .ok (.iload 5, 2) := by decide +kernel
theorem dX6_digestOfListeners_7 : decode cX6_digestOfListeners 7 = .ok (.aload_n 0, 1) := by decide +kernel
theorem dX6_digestOfListeners_8 : decode cX6_digestOfListeners 8 = .ok (.getfield 26, 3) := by decide +kernel
theorem dX6_digestOfListeners_11 : decode cX6_digestOfListeners 11 = .ok (.getfield 144, 3) := by decide +kernel
theorem dX6_digestOfListeners_14 : decode cX6_digestOfListeners 14 = .ok (.if_icmp .ge 51, 3) := by decide +kernel
theorem dX6_digestOfListeners_17 : decode cX6_digestOfListeners 17 = .ok (.iconst 0, 1) := by decide +kernel
theorem dX6_digestOfListeners_18 : decode cX6_digestOfListeners 18 = .ok (.istore 6, 2) := by decide +kernel
theorem dX6_digestOfListeners_20 : decode cX6_digestOfListeners 20 = .ok (.iload 6, 2) := by decide +kernel
theorem dX6_digestOfListeners_22 : decode cX6_digestOfListeners 22 = .ok (.bipush 7, 2) := by decide +kernel
theorem dX6_digestOfListeners_24 : decode cX6_digestOfListeners 24 = .ok (.if_icmp .gt 23, 3) := by decide +kernel
theorem dX6_digestOfListeners_27 : decode cX6_digestOfListeners 27 = .ok (.lload_n 3, 1) := by decide +kernel
theorem dX6_digestOfListeners_28 : decode cX6_digestOfListeners 28 = .ok (.aload_n 0, 1) := by decide +kernel
theorem dX6_digestOfListeners_29 : decode cX6_digestOfListeners 29 = .ok (.iload 5, 2) := by decide +kernel
theorem dX6_digestOfListeners_31 : decode cX6_digestOfListeners 31 = .ok (.iload 6, 2) := by decide +kernel
theorem dX6_digestOfListeners_33 : decode cX6_digestOfListeners 33 = .ok (.invokevirtual 440, 3) := by decide +kernel
theorem dX6_digestOfListeners_36 : decode cX6_digestOfListeners 36 = .ok (.i2l, 1) := by decide +kernel
theorem dX6_digestOfListeners_37 : decode cX6_digestOfListeners 37 = .ok (.invokestatic 346, 3) := by decide +kernel
theorem dX6_digestOfListeners_40 : decode cX6_digestOfListeners 40 = .ok (.lstore_n 3, 1) := by decide +kernel
theorem dX6_digestOfListeners_41 : decode cX6_digestOfListeners 41 = .ok (.iinc 6 1, 3) := by decide +kernel
theorem dX6_digestOfListeners_44 : decode cX6_digestOfListeners 44 = .ok (.goto (-24), 3) := by decide +kernel
theorem dX6_digestOfListeners_47 : decode cX6_digestOfListeners 47 = .ok (.lload_n 3, 1) := by decide +kernel
theorem dX6_digestOfListeners_48 : decode cX6_digestOfListeners 48 = .ok (.aload_n 0, 1) := by decide +kernel
theorem dX6_digestOfListeners_49 : decode cX6_digestOfListeners 49 = .ok (.iload 5, 2) := by decide +kernel
theorem dX6_digestOfListeners_51 : decode cX6_digestOfListeners 51 = .ok (.invokevirtual 313, 3) := by decide +kernel
theorem dX6_digestOfListeners_54 : decode cX6_digestOfListeners 54 = .ok (.i2l, 1) := by decide +kernel
theorem dX6_digestOfListeners_55 : decode cX6_digestOfListeners 55 = .ok (.invokestatic 346, 3) := by decide +kernel
theorem dX6_digestOfListeners_58 : decode cX6_digestOfListeners 58 = .ok (.lstore_n 3, 1) := by decide +kernel
theorem dX6_digestOfListeners_59 : decode cX6_digestOfListeners 59 = .ok (.iinc 5 1, 3) := by decide +kernel
theorem dX6_digestOfListeners_62 : decode cX6_digestOfListeners 62 = .ok (.goto (-57), 3) := by decide +kernel
theorem dX6_digestOfListeners_65 : decode cX6_digestOfListeners 65 = .ok (.lload_n 3, 1) := by decide +kernel
theorem dX6_digestOfListeners_66 : decode cX6_digestOfListeners 66 = .ok (.lreturn, 1) := by decide +kernel
theorem dX6_digestOfParties_0 : decode cX6_digestOfParties 0 = .ok (.lload_n 1, 1) := by decide +kernel
theorem dX6_digestOfParties_1 : decode cX6_digestOfParties 1 = .ok (.lstore_n 3, 1) := by decide +kernel
theorem dX6_digestOfParties_2 : decode cX6_digestOfParties 2 = .ok (.iconst 0, 1) := by decide +kernel
theorem dX6_digestOfParties_3 : decode cX6_digestOfParties 3 = .ok (.istore 5, 2) := by decide +kernel
theorem dX6_digestOfParties_5 : decode cX6_digestOfParties 5 = .ok (.iload 5, 2) := by decide +kernel
theorem dX6_digestOfParties_7 : decode cX6_digestOfParties 7 = .ok (.iconst 5, 1) := by decide +kernel
theorem dX6_digestOfParties_8 : decode cX6_digestOfParties 8 = .ok (.if_icmp .ge 67, 3) := by decide +kernel
theorem dX6_digestOfParties_11 : decode cX6_digestOfParties 11 = .ok (.iconst 0, 1) := by decide +kernel
theorem dX6_digestOfParties_12 : decode cX6_digestOfParties 12 = .ok (.istore 6, 2) := by decide +kernel
theorem dX6_digestOfParties_14 : decode cX6_digestOfParties 14 = .ok (.iload 6, 2) := by decide +kernel
theorem dX6_digestOfParties_16 : decode cX6_digestOfParties 16 = .ok (.iconst 3, 1) := by decide +kernel
theorem dX6_digestOfParties_17 : decode cX6_digestOfParties 17 = .ok (.if_icmp .gt 23, 3) := by decide +kernel
theorem dX6_digestOfParties_20 : decode cX6_digestOfParties 20 = .ok (.lload_n 3, 1) := by decide +kernel
theorem dX6_digestOfParties_21 : decode cX6_digestOfParties 21 = .ok (.aload_n 0, 1) := by decide +kernel
theorem dX6_digestOfParties_22 : decode cX6_digestOfParties 22 = .ok (.iload 5, 2) := by decide +kernel
theorem dX6_digestOfParties_24 : decode cX6_digestOfParties 24 = .ok (.iload 6, 2) := by decide +kernel
theorem dX6_digestOfParties_26 : decode cX6_digestOfParties 26 = .ok (.invokevirtual 443, 3) := by decide +kernel
theorem dX6_digestOfParties_29 : decode cX6_digestOfParties 29 = .ok (.i2l, 1) := by decide +kernel
theorem dX6_digestOfParties_30 : decode cX6_digestOfParties 30 = .ok (.invokestatic 346, 3) := by decide +kernel
theorem dX6_digestOfParties_33 : decode cX6_digestOfParties 33 = .ok (.lstore_n 3, 1) := by decide +kernel
theorem dX6_digestOfParties_34 : decode cX6_digestOfParties 34 = .ok (.iinc 6 1, 3) := by decide +kernel
theorem dX6_digestOfParties_37 : decode cX6_digestOfParties 37 = .ok (.goto (-23), 3) := by decide +kernel
theorem dX6_digestOfParties_40 : decode cX6_digestOfParties 40 = .ok (.iconst 0, 1) := by decide +kernel
theorem dX6_digestOfParties_41 : decode cX6_digestOfParties 41 = .ok (.istore 6, 2) := by decide +kernel
theorem dX6_digestOfParties_43 : decode cX6_digestOfParties 43 = .ok (.iload 6, 2) := by decide +kernel
theorem dX6_digestOfParties_45 : decode cX6_digestOfParties 45 = .ok (.iconst 2, 1) := by decide +kernel
theorem dX6_digestOfParties_46 : decode cX6_digestOfParties 46 = .ok (.if_icmp .ge 23, 3) := by decide +kernel
theorem dX6_digestOfParties_49 : decode cX6_digestOfParties 49 = .ok (.lload_n 3, 1) := by decide +kernel
theorem dX6_digestOfParties_50 : decode cX6_digestOfParties 50 = .ok (.aload_n 0, 1) := by decide +kernel
theorem dX6_digestOfParties_51 : decode cX6_digestOfParties 51 = .ok (.iload 5, 2) := by decide +kernel
theorem dX6_digestOfParties_53 : decode cX6_digestOfParties 53 = .ok (.iload 6, 2) := by decide +kernel
theorem dX6_digestOfParties_55 : decode cX6_digestOfParties 55 = .ok (.invokevirtual 322, 3) := by decide +kernel
theorem dX6_digestOfParties_58 : decode cX6_digestOfParties 58 = .ok (.i2l, 1) := by decide +kernel
theorem dX6_digestOfParties_59 : decode cX6_digestOfParties 59 = .ok (.invokestatic 346, 3) := by decide +kernel
theorem dX6_digestOfParties_62 : decode cX6_digestOfParties 62 = .ok (.lstore_n 3, 1) := by decide +kernel
theorem dX6_digestOfParties_63 : decode cX6_digestOfParties 63 = .ok (.iinc 6 1, 3) := by decide +kernel
theorem dX6_digestOfParties_66 : decode cX6_digestOfParties 66 = .ok (.goto (-23), 3) := by decide +kernel
theorem dX6_digestOfParties_69 : decode cX6_digestOfParties 69 = .ok (.iinc 5 1, 3) := by decide +kernel
theorem dX6_digestOfParties_72 : decode cX6_digestOfParties 72 = .ok (.goto (-67), 3) := by decide +kernel
theorem dX6_digestOfParties_75 : decode cX6_digestOfParties 75 = .ok (.lload_n 3, 1) := by decide +kernel
theorem dX6_digestOfParties_76 : decode cX6_digestOfParties 76 = .ok (.lreturn, 1) := by decide +kernel
theorem dX6_digestOfRecordings_0 : decode cX6_digestOfRecordings 0 = .ok (.lload_n 1, 1) := by decide +kernel
theorem dX6_digestOfRecordings_1 : decode cX6_digestOfRecordings 1 = .ok (.lstore_n 3, 1) := by decide +kernel
theorem dX6_digestOfRecordings_2 : decode cX6_digestOfRecordings 2 = .ok (.iconst 0, 1) := by decide +kernel
theorem dX6_digestOfRecordings_3 : decode cX6_digestOfRecordings 3 = .ok (.istore 5, 2) := by decide +kernel
theorem dX6_digestOfRecordings_5 : decode cX6_digestOfRecordings 5 = .ok (.iload 5, 2) := by decide +kernel
theorem dX6_digestOfRecordings_7 : decode cX6_digestOfRecordings 7 = .ok (.bipush 10, 2) := by decide +kernel
theorem dX6_digestOfRecordings_9 : decode cX6_digestOfRecordings 9 = .ok (.if_icmp .ge 68, 3) := by decide +kernel
theorem dX6_digestOfRecordings_12 : decode cX6_digestOfRecordings 12 = .ok (.iconst 0, 1) := by decide +kernel
theorem dX6_digestOfRecordings_13 : decode cX6_digestOfRecordings 13 = .ok (.istore 6, 2) := by decide +kernel
theorem dX6_digestOfRecordings_15 : decode cX6_digestOfRecordings 15 = .ok (.iload 6, 2) := by decide +kernel
theorem dX6_digestOfRecordings_17 : decode cX6_digestOfRecordings 17 = .ok (.bipush 6, 2) := by decide +kernel
theorem dX6_digestOfRecordings_19 : decode cX6_digestOfRecordings 19 = .ok (.if_icmp .gt 23, 3) := by decide +kernel
theorem dX6_digestOfRecordings_22 : decode cX6_digestOfRecordings 22 = .ok (.lload_n 3, 1) := by decide +kernel
theorem dX6_digestOfRecordings_23 : decode cX6_digestOfRecordings 23 = .ok (.aload_n 0, 1) := by decide +kernel
theorem dX6_digestOfRecordings_24 : decode cX6_digestOfRecordings 24 = .ok (.iload 5, 2) := by decide +kernel
theorem dX6_digestOfRecordings_26 : decode cX6_digestOfRecordings 26 = .ok (.iload 6, 2) := by decide +kernel
theorem dX6_digestOfRecordings_28 : decode cX6_digestOfRecordings 28 = .ok (.invokevirtual 446, 3) := by decide +kernel
theorem dX6_digestOfRecordings_31 : decode cX6_digestOfRecordings 31 = .ok (.i2l, 1) := by decide +kernel
theorem dX6_digestOfRecordings_32 : decode cX6_digestOfRecordings 32 = .ok (.invokestatic 346, 3) := by decide +kernel
theorem dX6_digestOfRecordings_35 : decode cX6_digestOfRecordings 35 = .ok (.lstore_n 3, 1) := by decide +kernel
theorem dX6_digestOfRecordings_36 : decode cX6_digestOfRecordings 36 = .ok (.iinc 6 1, 3) := by decide +kernel
theorem dX6_digestOfRecordings_39 : decode cX6_digestOfRecordings 39 = .ok (.goto (-24), 3) := by decide +kernel
theorem dX6_digestOfRecordings_42 : decode cX6_digestOfRecordings 42 = .ok (.iconst 0, 1) := by decide +kernel
theorem dX6_digestOfRecordings_43 : decode cX6_digestOfRecordings 43 = .ok (.istore 6, 2) := by decide +kernel
theorem dX6_digestOfRecordings_45 : decode cX6_digestOfRecordings 45 = .ok (.iload 6, 2) := by decide +kernel
theorem dX6_digestOfRecordings_47 : decode cX6_digestOfRecordings 47 = .ok (.iconst 2, 1) := by decide +kernel
theorem dX6_digestOfRecordings_48 : decode cX6_digestOfRecordings 48 = .ok (.if_icmp .ge 23, 3) := by decide +kernel
theorem dX6_digestOfRecordings_51 : decode cX6_digestOfRecordings 51 = .ok (.lload_n 3, 1) := by decide +kernel
theorem dX6_digestOfRecordings_52 : decode cX6_digestOfRecordings 52 = .ok (.aload_n 0, 1) := by decide +kernel
theorem dX6_digestOfRecordings_53 : decode cX6_digestOfRecordings 53 = .ok (.iload 5, 2) := by decide +kernel
theorem dX6_digestOfRecordings_55 : decode cX6_digestOfRecordings 55 = .ok (.iload 6, 2) := by decide +kernel
theorem dX6_digestOfRecordings_57 : decode cX6_digestOfRecordings 57 = .ok (.invokevirtual 319, 3) := by decide +kernel
theorem dX6_digestOfRecordings_60 : decode cX6_digestOfRecordings 60 = .ok (.i2l, 1) := by decide +kernel
theorem dX6_digestOfRecordings_61 : decode cX6_digestOfRecordings 61 = .ok (.invokestatic 346, 3) := by decide +kernel
theorem dX6_digestOfRecordings_64 : decode cX6_digestOfRecordings 64 = .ok (.lstore_n 3, 1) := by decide +kernel
theorem dX6_digestOfRecordings_65 : decode cX6_digestOfRecordings 65 = .ok (.iinc 6 1, 3) := by decide +kernel
theorem dX6_digestOfRecordings_68 : decode cX6_digestOfRecordings 68 = .ok (.goto (-23), 3) := by decide +kernel
theorem dX6_digestOfRecordings_71 : decode cX6_digestOfRecordings 71 = .ok (.iinc 5 1, 3) := by decide +kernel
theorem dX6_digestOfRecordings_74 : decode cX6_digestOfRecordings 74 = .ok (.goto (-69), 3) := by decide +kernel
theorem dX6_digestOfRecordings_77 : decode cX6_digestOfRecordings 77 = .ok (.lload_n 3, 1) := by decide +kernel
theorem dX6_digestOfRecordings_78 : decode cX6_digestOfRecordings 78 = .ok (.lreturn, 1) := by decide +kernel
theorem dX6_digestOfCharts_0 : decode cX6_digestOfCharts 0 = .ok (.lload_n 1, 1) := by decide +kernel
theorem dX6_digestOfCharts_1 : decode cX6_digestOfCharts 1 = .ok (.lstore_n 3, 1) := by decide +kernel
theorem dX6_digestOfCharts_2 : decode cX6_digestOfCharts 2 = .ok (.iconst 0, 1) := by decide +kernel
theorem dX6_digestOfCharts_3 : decode cX6_digestOfCharts 3 = .ok (.istore 5, 2) := by decide +kernel
theorem dX6_digestOfCharts_5 : decode cX6_digestOfCharts 5 = .ok (.iload 5, 2) := by decide +kernel
theorem dX6_digestOfCharts_7 : decode cX6_digestOfCharts 7 = .ok (.iconst 4, 1) := by decide +kernel
theorem dX6_digestOfCharts_8 : decode cX6_digestOfCharts 8 = .ok (.if_icmp .ge 38, 3) := by decide +kernel
theorem dX6_digestOfCharts_11 : decode cX6_digestOfCharts 11 = .ok (.iconst 0, 1) := by decide +kernel
theorem dX6_digestOfCharts_12 : decode cX6_digestOfCharts 12 = .ok (.istore 6, 2) := by decide +kernel
theorem dX6_digestOfCharts_14 : decode cX6_digestOfCharts 14 = .ok (.iload 6, 2) := by decide +kernel
theorem dX6_digestOfCharts_16 : decode cX6_digestOfCharts 16 = .ok (.iconst 1, 1) := by decide +kernel
theorem dX6_digestOfCharts_17 : decode cX6_digestOfCharts 17 = .ok (.if_icmp .gt 23, 3) := by decide +kernel
theorem dX6_digestOfCharts_20 : decode cX6_digestOfCharts 20 = .ok (.lload_n 3, 1) := by decide +kernel
theorem dX6_digestOfCharts_21 : decode cX6_digestOfCharts 21 = .ok (.aload_n 0, 1) := by decide +kernel
theorem dX6_digestOfCharts_22 : decode cX6_digestOfCharts 22 = .ok (.iload 5, 2) := by decide +kernel
theorem dX6_digestOfCharts_24 : decode cX6_digestOfCharts 24 = .ok (.iload 6, 2) := by decide +kernel
theorem dX6_digestOfCharts_26 : decode cX6_digestOfCharts 26 = .ok (.invokevirtual 305, 3) := by decide +kernel
theorem dX6_digestOfCharts_29 : decode cX6_digestOfCharts 29 = .ok (.i2l, 1) := by decide +kernel
theorem dX6_digestOfCharts_30 : decode cX6_digestOfCharts 30 = .ok (.invokestatic 346, 3) := by decide +kernel
theorem dX6_digestOfCharts_33 : decode cX6_digestOfCharts 33 = .ok (.lstore_n 3, 1) := by decide +kernel
theorem dX6_digestOfCharts_34 : decode cX6_digestOfCharts 34 = .ok (.iinc 6 1, 3) := by decide +kernel
theorem dX6_digestOfCharts_37 : decode cX6_digestOfCharts 37 = .ok (.goto (-23), 3) := by decide +kernel
theorem dX6_digestOfCharts_40 : decode cX6_digestOfCharts 40 = .ok (.iinc 5 1, 3) := by decide +kernel
theorem dX6_digestOfCharts_43 : decode cX6_digestOfCharts 43 = .ok (.goto (-38), 3) := by decide +kernel
theorem dX6_digestOfCharts_46 : decode cX6_digestOfCharts 46 = .ok (.lload_n 3, 1) := by decide +kernel
theorem dX6_digestOfCharts_47 : decode cX6_digestOfCharts 47 = .ok (.lreturn, 1) := by decide +kernel
theorem dX6_digestOfPlays_0 : decode cX6_digestOfPlays 0 = .ok (.lload_n 1, 1) := by decide +kernel
theorem dX6_digestOfPlays_1 : decode cX6_digestOfPlays 1 = .ok (.lstore_n 3, 1) := by decide +kernel
theorem dX6_digestOfPlays_2 : decode cX6_digestOfPlays 2 = .ok (.iconst 0, 1) := by decide +kernel
theorem dX6_digestOfPlays_3 : decode cX6_digestOfPlays 3 = .ok (.istore 5, 2) := by decide +kernel
theorem dX6_digestOfPlays_5 : decode cX6_digestOfPlays 5 = .ok (.iload 5, 2) := by decide +kernel
theorem dX6_digestOfPlays_7 : decode cX6_digestOfPlays 7 = .ok (.aload_n 0, 1) := by decide +kernel
theorem dX6_digestOfPlays_8 : decode cX6_digestOfPlays 8 = .ok (.getfield 33, 3) := by decide +kernel
theorem dX6_digestOfPlays_11 : decode cX6_digestOfPlays 11 = .ok (.getfield 194, 3) := by decide +kernel
theorem dX6_digestOfPlays_14 : decode cX6_digestOfPlays 14 = .ok (.if_icmp .ge 25, 3) := by decide +kernel
theorem dX6_digestOfPlays_17 : decode cX6_digestOfPlays 17 = .ok (.lload_n 3, 1) := by decide +kernel
theorem dX6_digestOfPlays_18 : decode cX6_digestOfPlays 18 = .ok (.aload_n 0, 1) := by decide +kernel
theorem dX6_digestOfPlays_19 : decode cX6_digestOfPlays 19 = .ok (.getfield 33, 3) := by decide +kernel
theorem dX6_digestOfPlays_22 : decode cX6_digestOfPlays 22 = .ok (.getfield 200, 3) := by decide +kernel
theorem dX6_digestOfPlays_25 : decode cX6_digestOfPlays 25 = .ok (.iload 5, 2) := by decide +kernel
theorem dX6_digestOfPlays_27 : decode cX6_digestOfPlays 27 = .ok (.iaload, 1) := by decide +kernel
theorem dX6_digestOfPlays_28 : decode cX6_digestOfPlays 28 = .ok (.i2l, 1) := by decide +kernel
theorem dX6_digestOfPlays_29 : decode cX6_digestOfPlays 29 = .ok (.invokestatic 346, 3) := by decide +kernel
theorem dX6_digestOfPlays_32 : decode cX6_digestOfPlays 32 = .ok (.lstore_n 3, 1) := by decide +kernel
theorem dX6_digestOfPlays_33 : decode cX6_digestOfPlays 33 = .ok (.iinc 5 1, 3) := by decide +kernel
theorem dX6_digestOfPlays_36 : decode cX6_digestOfPlays 36 = .ok (.goto (-31), 3) := by decide +kernel
theorem dX6_digestOfPlays_39 : decode cX6_digestOfPlays 39 = .ok (.lload_n 3, 1) := by decide +kernel
theorem dX6_digestOfPlays_40 : decode cX6_digestOfPlays 40 = .ok (.lreturn, 1) := by decide +kernel
theorem dX6_sumOf_0 : decode cX6_sumOf 0 = .ok (.iconst 0, 1) := by decide +kernel
theorem dX6_sumOf_1 : decode cX6_sumOf 1 = .ok (.istore_n 1, 1) := by decide +kernel
theorem dX6_sumOf_2 : decode cX6_sumOf 2 = .ok (.aload_n 0, 1) := by decide +kernel
theorem dX6_sumOf_3 : decode cX6_sumOf 3 = .ok (.astore_n 2, 1) := by decide +kernel
theorem dX6_sumOf_4 : decode cX6_sumOf 4 = .ok (.aload_n 2, 1) := by decide +kernel
theorem dX6_sumOf_5 : decode cX6_sumOf 5 = .ok (.arraylength, 1) := by decide +kernel
theorem dX6_sumOf_6 : decode cX6_sumOf 6 = .ok (.istore_n 3, 1) := by decide +kernel
theorem dX6_sumOf_7 : decode cX6_sumOf 7 = .ok (.iconst 0, 1) := by decide +kernel
theorem dX6_sumOf_8 : decode cX6_sumOf 8 = .ok (.istore 4, 2) := by decide +kernel
theorem dX6_sumOf_10 : decode cX6_sumOf 10 = .ok (.iload 4, 2) := by decide +kernel
theorem dX6_sumOf_12 : decode cX6_sumOf 12 = .ok (.iload_n 3, 1) := by decide +kernel
theorem dX6_sumOf_13 : decode cX6_sumOf 13 = .ok (.if_icmp .ge 20, 3) := by decide +kernel
theorem dX6_sumOf_16 : decode cX6_sumOf 16 = .ok (.aload_n 2, 1) := by decide +kernel
theorem dX6_sumOf_17 : decode cX6_sumOf 17 = .ok (.iload 4, 2) := by decide +kernel
theorem dX6_sumOf_19 : decode cX6_sumOf 19 = .ok (.iaload, 1) := by decide +kernel
theorem dX6_sumOf_20 : decode cX6_sumOf 20 = .ok (.istore 5, 2) := by decide +kernel
theorem dX6_sumOf_22 : decode cX6_sumOf 22 = .ok (.iload_n 1, 1) := by decide +kernel
theorem dX6_sumOf_23 : decode cX6_sumOf 23 = .ok (.iload 5, 2) := by decide +kernel
theorem dX6_sumOf_25 : decode cX6_sumOf 25 = .ok (.iadd, 1) := by decide +kernel
theorem dX6_sumOf_26 : decode cX6_sumOf 26 = .ok (.istore_n 1, 1) := by decide +kernel
theorem dX6_sumOf_27 : decode cX6_sumOf 27 = .ok (.iinc 4 1, 3) := by decide +kernel
theorem dX6_sumOf_30 : decode cX6_sumOf 30 = .ok (.goto (-20), 3) := by decide +kernel
theorem dX6_sumOf_33 : decode cX6_sumOf 33 = .ok (.iload_n 1, 1) := by decide +kernel
theorem dX6_sumOf_34 : decode cX6_sumOf 34 = .ok (.ireturn, 1) := by decide +kernel
theorem dX6_columnSum_0 : decode cX6_columnSum 0 = .ok (.iconst 0, 1) := by decide +kernel
theorem dX6_columnSum_1 : decode cX6_columnSum 1 = .ok (.istore_n 2, 1) := by decide +kernel
theorem dX6_columnSum_2 : decode cX6_columnSum 2 = .ok (.iconst 0, 1) := by decide +kernel
theorem dX6_columnSum_3 : decode cX6_columnSum 3 = .ok (.istore_n 3, 1) := by decide +kernel
theorem dX6_columnSum_4 : decode cX6_columnSum 4 = .ok (.iload_n 3, 1) := by decide +kernel
theorem dX6_columnSum_5 : decode cX6_columnSum 5 = .ok (.aload_n 0, 1) := by decide +kernel
theorem dX6_columnSum_6 : decode cX6_columnSum 6 = .ok (.arraylength, 1) := by decide +kernel
theorem dX6_columnSum_7 : decode cX6_columnSum 7 = .ok (.if_icmp .ge 29, 3) := by decide +kernel
theorem dX6_columnSum_10 : decode cX6_columnSum 10 = .ok (.iload_n 1, 1) := by decide +kernel
theorem dX6_columnSum_11 : decode cX6_columnSum 11 = .ok (.ifCond .lt 19, 3) := by decide +kernel
theorem dX6_columnSum_14 : decode cX6_columnSum 14 = .ok (.iload_n 1, 1) := by decide +kernel
theorem dX6_columnSum_15 : decode cX6_columnSum 15 = .ok (.aload_n 0, 1) := by decide +kernel
theorem dX6_columnSum_16 : decode cX6_columnSum 16 = .ok (.iload_n 3, 1) := by decide +kernel
theorem dX6_columnSum_17 : decode cX6_columnSum 17 = .ok (.aaload, 1) := by decide +kernel
theorem dX6_columnSum_18 : decode cX6_columnSum 18 = .ok (.arraylength, 1) := by decide +kernel
theorem dX6_columnSum_19 : decode cX6_columnSum 19 = .ok (.if_icmp .ge 11, 3) := by decide +kernel
theorem dX6_columnSum_22 : decode cX6_columnSum 22 = .ok (.iload_n 2, 1) := by decide +kernel
theorem dX6_columnSum_23 : decode cX6_columnSum 23 = .ok (.aload_n 0, 1) := by decide +kernel
theorem dX6_columnSum_24 : decode cX6_columnSum 24 = .ok (.iload_n 3, 1) := by decide +kernel
theorem dX6_columnSum_25 : decode cX6_columnSum 25 = .ok (.aaload, 1) := by decide +kernel
theorem dX6_columnSum_26 : decode cX6_columnSum 26 = .ok (.iload_n 1, 1) := by decide +kernel
theorem dX6_columnSum_27 : decode cX6_columnSum 27 = .ok (.iaload, 1) := by decide +kernel
theorem dX6_columnSum_28 : decode cX6_columnSum 28 = .ok (.iadd, 1) := by decide +kernel
theorem dX6_columnSum_29 : decode cX6_columnSum 29 = .ok (.istore_n 2, 1) := by decide +kernel
theorem dX6_columnSum_30 : decode cX6_columnSum 30 = .ok (.iinc 3 1, 3) := by decide +kernel
theorem dX6_columnSum_33 : decode cX6_columnSum 33 = .ok (.goto (-29), 3) := by decide +kernel
theorem dX6_columnSum_36 : decode cX6_columnSum 36 = .ok (.iload_n 2, 1) := by decide +kernel
theorem dX6_columnSum_37 : decode cX6_columnSum 37 = .ok (.ireturn, 1) := by decide +kernel
theorem dX6_addTimes_0 : decode cX6_addTimes 0 = .ok (.iconst 0, 1) := by decide +kernel
theorem dX6_addTimes_1 : decode cX6_addTimes 1 = .ok (.istore_n 3, 1) := by decide +kernel
theorem dX6_addTimes_2 : decode cX6_addTimes 2 = .ok (.iload_n 3, 1) := by decide +kernel
theorem dX6_addTimes_3 : decode cX6_addTimes 3 = .ok (.aload_n 0, 1) := by decide +kernel
theorem dX6_addTimes_4 : decode cX6_addTimes 4 = .ok (.arraylength, 1) := by decide +kernel
theorem dX6_addTimes_5 : decode cX6_addTimes 5 = .ok (.if_icmp .ge 26, 3) := by decide +kernel
theorem dX6_addTimes_8 : decode cX6_addTimes 8 = .ok (.iload_n 3, 1) := by decide +kernel
theorem dX6_addTimes_9 : decode cX6_addTimes 9 = .ok (.aload_n 1, 1) := by decide +kernel
theorem dX6_addTimes_10 : decode cX6_addTimes 10 = .ok (.arraylength, 1) := by decide +kernel
theorem dX6_addTimes_11 : decode cX6_addTimes 11 = .ok (.if_icmp .ge 20, 3) := by decide +kernel
theorem dX6_addTimes_14 : decode cX6_addTimes 14 = .ok (.aload_n 0, 1) := by decide +kernel
theorem dX6_addTimes_15 : decode cX6_addTimes 15 = .ok (.iload_n 3, 1) := by decide +kernel
theorem dX6_addTimes_16 : decode cX6_addTimes 16 = .ok (.dup2, 1) := by decide +kernel
theorem dX6_addTimes_17 : decode cX6_addTimes 17 = .ok (.iaload, 1) := by decide +kernel
theorem dX6_addTimes_18 : decode cX6_addTimes 18 = .ok (.aload_n 1, 1) := by decide +kernel
theorem dX6_addTimes_19 : decode cX6_addTimes 19 = .ok (.iload_n 3, 1) := by decide +kernel
theorem dX6_addTimes_20 : decode cX6_addTimes 20 = .ok (.iaload, 1) := by decide +kernel
theorem dX6_addTimes_21 : decode cX6_addTimes 21 = .ok (.iload_n 2, 1) := by decide +kernel
theorem dX6_addTimes_22 : decode cX6_addTimes 22 = .ok (.imul, 1) := by decide +kernel
theorem dX6_addTimes_23 : decode cX6_addTimes 23 = .ok (.iadd, 1) := by decide +kernel
theorem dX6_addTimes_24 : decode cX6_addTimes 24 = .ok (.iastore, 1) := by decide +kernel
theorem dX6_addTimes_25 : decode cX6_addTimes 25 = .ok (.iinc 3 1, 3) := by decide +kernel
theorem dX6_addTimes_28 : decode cX6_addTimes 28 = .ok (.goto (-26), 3) := by decide +kernel
theorem dX6_addTimes_31 : decode cX6_addTimes 31 = .ok (.return_, 1) := by decide +kernel
theorem dX6_copyAll_0 : decode cX6_copyAll 0 = .ok (.aload_n 0, 1) := by decide +kernel
theorem dX6_copyAll_1 : decode cX6_copyAll 1 = .ok (.iconst 0, 1) := by decide +kernel
theorem dX6_copyAll_2 : decode cX6_copyAll 2 = .ok (.aload_n 1, 1) := by decide +kernel
theorem dX6_copyAll_3 : decode cX6_copyAll 3 = .ok (.iconst 0, 1) := by decide +kernel
theorem dX6_copyAll_4 : decode cX6_copyAll 4 = .ok (.aload_n 0, 1) := by decide +kernel
theorem dX6_copyAll_5 : decode cX6_copyAll 5 = .ok (.arraylength, 1) := by decide +kernel
theorem dX6_copyAll_6 : decode cX6_copyAll 6 = .ok (.aload_n 1, 1) := by decide +kernel
theorem dX6_copyAll_7 : decode cX6_copyAll 7 = .ok (.arraylength, 1) := by decide +kernel
theorem dX6_copyAll_8 : decode cX6_copyAll 8 = .ok (.invokestatic 449, 3) := by decide +kernel
theorem dX6_copyAll_11 : decode cX6_copyAll 11 = .ok (.invokestatic 454, 3) := by decide +kernel
theorem dX6_copyAll_14 : decode cX6_copyAll 14 = .ok (.return_, 1) := by decide +kernel
theorem dX6_clearRows_0 : decode cX6_clearRows 0 = .ok (.iconst 0, 1) := by decide +kernel
theorem dX6_clearRows_1 : decode cX6_clearRows 1 = .ok (.istore_n 1, 1) := by decide +kernel
theorem dX6_clearRows_2 : decode cX6_clearRows 2 = .ok (.iload_n 1, 1) := by decide +kernel
theorem dX6_clearRows_3 : decode cX6_clearRows 3 = .ok (.aload_n 0, 1) := by decide +kernel
theorem dX6_clearRows_4 : decode cX6_clearRows 4 = .ok (.arraylength, 1) := by decide +kernel
theorem dX6_clearRows_5 : decode cX6_clearRows 5 = .ok (.if_icmp .ge 16, 3) := by decide +kernel
theorem dX6_clearRows_8 : decode cX6_clearRows 8 = .ok (.aload_n 0, 1) := by decide +kernel
theorem dX6_clearRows_9 : decode cX6_clearRows 9 = .ok (.iload_n 1, 1) := by decide +kernel
theorem dX6_clearRows_10 : decode cX6_clearRows 10 = .ok (.aaload, 1) := by decide +kernel
theorem dX6_clearRows_11 : decode cX6_clearRows 11 = .ok (.iconst 0, 1) := by decide +kernel
theorem dX6_clearRows_12 : decode cX6_clearRows 12 = .ok (.invokestatic 413, 3) := by decide +kernel
theorem dX6_clearRows_15 : decode cX6_clearRows 15 = .ok (.iinc 1 1, 3) := by decide +kernel
theorem dX6_clearRows_18 : decode cX6_clearRows 18 = .ok (.goto (-16), 3) := by decide +kernel
theorem dX6_clearRows_21 : decode cX6_clearRows 21 = .ok (.return_, 1) := by decide +kernel
theorem dX6_placeOf_0 : decode cX6_placeOf 0 = .ok (.iconst 0, 1) := by decide +kernel
theorem dX6_placeOf_1 : decode cX6_placeOf 1 = .ok (.istore_n 2, 1) := by decide +kernel
theorem dX6_placeOf_2 : decode cX6_placeOf 2 = .ok (.iconst 0, 1) := by decide +kernel
theorem dX6_placeOf_3 : decode cX6_placeOf 3 = .ok (.istore_n 3, 1) := by decide +kernel
theorem dX6_placeOf_4 : decode cX6_placeOf 4 = .ok (.iload_n 1, 1) := by decide +kernel
theorem dX6_placeOf_5 : decode cX6_placeOf 5 = .ok (.ifCond .lt 47, 3) := by decide +kernel
theorem dX6_placeOf_8 : decode cX6_placeOf 8 = .ok (.iload_n 1, 1) := by decide +kernel
theorem dX6_placeOf_9 : decode cX6_placeOf 9 = .ok (.aload_n 0, 1) := by decide +kernel
theorem dX6_placeOf_10 : decode cX6_placeOf 10 = .ok (.arraylength, 1) := by decide +kernel
theorem dX6_placeOf_11 : decode cX6_placeOf 11 = .ok (.if_icmp .ge 41, 3) := by decide +kernel
theorem dX6_placeOf_14 : decode cX6_placeOf 14 = .ok (.iload_n 3, 1) := by decide +kernel
theorem dX6_placeOf_15 : decode cX6_placeOf 15 = .ok (.aload_n 0, 1) := by decide +kernel
theorem dX6_placeOf_16 : decode cX6_placeOf 16 = .ok (.arraylength, 1) := by decide +kernel
theorem dX6_placeOf_17 : decode cX6_placeOf 17 = .ok (.if_icmp .ge 35, 3) := by decide +kernel
theorem dX6_placeOf_20 : decode cX6_placeOf 20 = .ok (.aload_n 0, 1) := by decide +kernel
theorem dX6_placeOf_21 : decode cX6_placeOf 21 = .ok (.iload_n 3, 1) := by decide +kernel
theorem dX6_placeOf_22 : decode cX6_placeOf 22 = .ok (.iaload, 1) := by decide +kernel
theorem dX6_placeOf_23 : decode cX6_placeOf 23 = .ok (.aload_n 0, 1) := by decide +kernel
theorem dX6_placeOf_24 : decode cX6_placeOf 24 = .ok (.iload_n 1, 1) := by decide +kernel
theorem dX6_placeOf_25 : decode cX6_placeOf 25 = .ok (.iaload, 1) := by decide +kernel
theorem dX6_placeOf_26 : decode cX6_placeOf 26 = .ok (.if_icmp .gt 17, 3) := by decide +kernel
theorem dX6_placeOf_29 : decode cX6_placeOf 29 = .ok (.aload_n 0, 1) := by decide +kernel
theorem dX6_placeOf_30 : decode cX6_placeOf 30 = .ok (.iload_n 3, 1) := by decide +kernel
theorem dX6_placeOf_31 : decode cX6_placeOf 31 = .ok (.iaload, 1) := by decide +kernel
theorem dX6_placeOf_32 : decode cX6_placeOf 32 = .ok (.aload_n 0, 1) := by decide +kernel
theorem dX6_placeOf_33 : decode cX6_placeOf 33 = .ok (.iload_n 1, 1) := by decide +kernel
theorem dX6_placeOf_34 : decode cX6_placeOf 34 = .ok (.iaload, 1) := by decide +kernel
theorem dX6_placeOf_35 : decode cX6_placeOf 35 = .ok (.if_icmp .ne 11, 3) := by decide +kernel
theorem dX6_placeOf_38 : decode cX6_placeOf 38 = .ok (.iload_n 3, 1) := by decide +kernel
theorem dX6_placeOf_39 : decode cX6_placeOf 39 = .ok (.iload_n 1, 1) := by decide +kernel
theorem dX6_placeOf_40 : decode cX6_placeOf 40 = .ok (.if_icmp .ge 6, 3) := by decide +kernel
theorem dX6_placeOf_43 : decode cX6_placeOf 43 = .ok (.iinc 2 1, 3) := by decide +kernel
theorem dX6_placeOf_46 : decode cX6_placeOf 46 = .ok (.iinc 3 1, 3) := by decide +kernel
theorem dX6_placeOf_49 : decode cX6_placeOf 49 = .ok (.goto (-45), 3) := by decide +kernel
theorem dX6_placeOf_52 : decode cX6_placeOf 52 = .ok (.iload_n 2, 1) := by decide +kernel
theorem dX6_placeOf_53 : decode cX6_placeOf 53 = .ok (.ireturn, 1) := by decide +kernel
theorem dJ9_min_7cf53_0 : decode cJ9_min_7cf53 0 = .ok (.iload_n 0, 1) := by decide +kernel
theorem dJ9_min_7cf53_1 : decode cJ9_min_7cf53 1 = .ok (.iload_n 1, 1) := by decide +kernel
theorem dJ9_min_7cf53_2 : decode cJ9_min_7cf53 2 = .ok (.if_icmp .gt 7, 3) := by decide +kernel
theorem dJ9_min_7cf53_5 : decode cJ9_min_7cf53 5 = .ok (.iload_n 0, 1) := by decide +kernel
theorem dJ9_min_7cf53_6 : decode cJ9_min_7cf53 6 = .ok (.goto 4, 3) := by decide +kernel
theorem dJ9_min_7cf53_9 : decode cJ9_min_7cf53 9 = .ok (.iload_n 1, 1) := by decide +kernel
theorem dJ9_min_7cf53_10 : decode cJ9_min_7cf53 10 = .ok (.ireturn, 1) := by decide +kernel
theorem dJ7_fill_53178_0 : decode cJ7_fill_53178 0 = .ok (.iconst 0, 1) := by decide +kernel
theorem dJ7_fill_53178_1 : decode cJ7_fill_53178 1 = .ok (.istore_n 2, 1) := by decide +kernel
theorem dJ7_fill_53178_2 : decode cJ7_fill_53178 2 = .ok (.aload_n 0, 1) := by decide +kernel
theorem dJ7_fill_53178_3 : decode cJ7_fill_53178 3 = .ok (.arraylength, 1) := by decide +kernel
theorem dJ7_fill_53178_4 : decode cJ7_fill_53178 4 = .ok (.istore_n 3, 1) := by decide +kernel
theorem dJ7_fill_53178_5 : decode cJ7_fill_53178 5 = .ok (.iload_n 2, 1) := by decide +kernel
theorem dJ7_fill_53178_6 : decode cJ7_fill_53178 6 = .ok (.iload_n 3, 1) := by decide +kernel
theorem dJ7_fill_53178_7 : decode cJ7_fill_53178 7 = .ok (.if_icmp .ge 13, 3) := by decide +kernel
theorem dJ7_fill_53178_10 : decode cJ7_fill_53178 10 = .ok (.aload_n 0, 1) := by decide +kernel
theorem dJ7_fill_53178_11 : decode cJ7_fill_53178 11 = .ok (.iload_n 2, 1) := by decide +kernel
theorem dJ7_fill_53178_12 : decode cJ7_fill_53178 12 = .ok (.iload_n 1, 1) := by decide +kernel
theorem dJ7_fill_53178_13 : decode cJ7_fill_53178 13 = .ok (.iastore, 1) := by decide +kernel
theorem dJ7_fill_53178_14 : decode cJ7_fill_53178 14 = .ok (.iinc 2 1, 3) := by decide +kernel
theorem dJ7_fill_53178_17 : decode cJ7_fill_53178 17 = .ok (.goto (-12), 3) := by decide +kernel
theorem dJ7_fill_53178_20 : decode cJ7_fill_53178 20 = .ok (.return_, 1) := by decide +kernel
theorem dL_below_0 : decode cL_below 0 = .ok (.iload_n 0, 1) := by decide +kernel
theorem dL_below_1 : decode cL_below 1 = .ok (.ldc 7, 2) := by decide +kernel
theorem dL_below_3 : decode cL_below 3 = .ok (.iand, 1) := by decide +kernel
theorem dL_below_4 : decode cL_below 4 = .ok (.iload_n 1, 1) := by decide +kernel
theorem dL_below_5 : decode cL_below 5 = .ok (.irem, 1) := by decide +kernel
theorem dL_below_6 : decode cL_below 6 = .ok (.ireturn, 1) := by decide +kernel
theorem dL_cell_0 : decode cL_cell 0 = .ok (.iload_n 1, 1) := by decide +kernel
theorem dL_cell_1 : decode cL_cell 1 = .ok (.aload_n 0, 1) := by decide +kernel
theorem dL_cell_2 : decode cL_cell 2 = .ok (.arraylength, 1) := by decide +kernel
theorem dL_cell_3 : decode cL_cell 3 = .ok (.if_icmp .ge 9, 3) := by decide +kernel
theorem dL_cell_6 : decode cL_cell 6 = .ok (.aload_n 0, 1) := by decide +kernel
theorem dL_cell_7 : decode cL_cell 7 = .ok (.iload_n 1, 1) := by decide +kernel
theorem dL_cell_8 : decode cL_cell 8 = .ok (.iaload, 1) := by decide +kernel
theorem dL_cell_9 : decode cL_cell 9 = .ok (.goto 9, 3) := by decide +kernel
theorem dL_cell_12 : decode cL_cell 12 = .ok (.ldc 8, 2) := by decide +kernel
theorem dL_cell_14 : decode cL_cell 14 = .ok (.iload_n 1, 1) := by decide +kernel
theorem dL_cell_15 : decode cL_cell 15 = .ok (.iconst 3, 1) := by decide +kernel
theorem dL_cell_16 : decode cL_cell 16 = .ok (.iadd, 1) := by decide +kernel
theorem dL_cell_17 : decode cL_cell 17 = .ok (.imul, 1) := by decide +kernel
theorem dL_cell_18 : decode cL_cell 18 = .ok (.ireturn, 1) := by decide +kernel
theorem dL_write_0 : decode cL_write 0 = .ok (.iconst 0, 1) := by decide +kernel
theorem dL_write_1 : decode cL_write 1 = .ok (.istore_n 3, 1) := by decide +kernel
theorem dL_write_2 : decode cL_write 2 = .ok (.iload_n 3, 1) := by decide +kernel
theorem dL_write_3 : decode cL_write 3 = .ok (.bipush 6, 2) := by decide +kernel
theorem dL_write_5 : decode cL_write 5 = .ok (.if_icmp .ge 87, 3) := by decide +kernel
theorem dL_write_8 : decode cL_write 8 = .ok (.aload_n 1, 1) := by decide +kernel
theorem dL_write_9 : decode cL_write 9 = .ok (.iload_n 3, 1) := by decide +kernel
theorem dL_write_10 : decode cL_write 10 = .ok (.iload_n 2, 1) := by decide +kernel
theorem dL_write_11 : decode cL_write 11 = .ok (.iadd, 1) := by decide +kernel
theorem dL_write_12 : decode cL_write 12 = .ok (.invokestatic 9, 3) := by decide +kernel
theorem dL_write_15 : decode cL_write 15 = .ok (.istore 4, 2) := by decide +kernel
theorem dL_write_17 : decode cL_write 17 = .ok (.aload_n 0, 1) := by decide +kernel
theorem dL_write_18 : decode cL_write 18 = .ok (.iload 4, 2) := by decide +kernel
theorem dL_write_20 : decode cL_write 20 = .ok (.iconst 5, 1) := by decide +kernel
theorem dL_write_21 : decode cL_write 21 = .ok (.invokestatic 15, 3) := by decide +kernel
theorem dL_write_24 : decode cL_write 24 = .ok (.invokevirtual 19, 3) := by decide +kernel
theorem dL_write_27 : decode cL_write 27 = .ok (.pop, 1) := by decide +kernel
theorem dL_write_28 : decode cL_write 28 = .ok (.iconst 0, 1) := by decide +kernel
theorem dL_write_29 : decode cL_write 29 = .ok (.istore 5, 2) := by decide +kernel
theorem dL_write_31 : decode cL_write 31 = .ok (.iload 5, 2) := by decide +kernel
theorem dL_write_33 : decode cL_write 33 = .ok (.iconst 3, 1) := by decide +kernel
theorem dL_write_34 : decode cL_write 34 = .ok (.if_icmp .ge 52, 3) := by decide +kernel
theorem dL_write_37 : decode cL_write 37 = .ok (.iload 4, 2) := by decide +kernel
theorem dL_write_39 : decode cL_write 39 = .ok (.iload 5, 2) := by decide +kernel
theorem dL_write_41 : decode cL_write 41 = .ok (.ishr, 1) := by decide +kernel
theorem dL_write_42 : decode cL_write 42 = .ok (.iconst 4, 1) := by decide +kernel
theorem dL_write_43 : decode cL_write 43 = .ok (.invokestatic 15, 3) := by decide +kernel
theorem dL_write_46 : decode cL_write 46 = .ok (.ifCond .le 34, 3) := by decide +kernel
theorem dL_write_49 : decode cL_write 49 = .ok (.aload_n 0, 1) := by decide +kernel
theorem dL_write_50 : decode cL_write 50 = .ok (.iload_n 3, 1) := by decide +kernel
theorem dL_write_51 : decode cL_write 51 = .ok (.iload 5, 2) := by decide +kernel
theorem dL_write_53 : decode cL_write 53 = .ok (.iload 4, 2) := by decide +kernel
theorem dL_write_55 : decode cL_write 55 = .ok (.iconst 3, 1) := by decide +kernel
theorem dL_write_56 : decode cL_write 56 = .ok (.ishr, 1) := by decide +kernel
theorem dL_write_57 : decode cL_write 57 = .ok (.sipush 3000, 3) := by decide +kernel
theorem dL_write_60 : decode cL_write 60 = .ok (.invokestatic 15, 3) := by decide +kernel
theorem dL_write_63 : decode cL_write 63 = .ok (.sipush 20000, 3) := by decide +kernel
theorem dL_write_66 : decode cL_write 66 = .ok (.iload 4, 2) := by decide +kernel
theorem dL_write_68 : decode cL_write 68 = .ok (.iconst 4, 1) := by decide +kernel
theorem dL_write_69 : decode cL_write 69 = .ok (.ishr, 1) := by decide +kernel
theorem dL_write_70 : decode cL_write 70 = .ok (.ldc 25, 2) := by decide +kernel
theorem dL_write_72 : decode cL_write 72 = .ok (.invokestatic 15, 3) := by decide +kernel
theorem dL_write_75 : decode cL_write 75 = .ok (.iadd, 1) := by decide +kernel
theorem dL_write_76 : decode cL_write 76 = .ok (.invokevirtual 26, 3) := by decide +kernel
theorem dL_write_79 : decode cL_write 79 = .ok (.pop, 1) := by decide +kernel
theorem dL_write_80 : decode cL_write 80 = .ok (.iinc 5 1, 3) := by decide +kernel
theorem dL_write_83 : decode cL_write 83 = .ok (.goto (-52), 3) := by decide +kernel
theorem dL_write_86 : decode cL_write 86 = .ok (.iinc 3 1, 3) := by decide +kernel
theorem dL_write_89 : decode cL_write 89 = .ok (.goto (-87), 3) := by decide +kernel
theorem dL_write_92 : decode cL_write 92 = .ok (.iconst 0, 1) := by decide +kernel
theorem dL_write_93 : decode cL_write 93 = .ok (.istore_n 3, 1) := by decide +kernel
theorem dL_write_94 : decode cL_write 94 = .ok (.iload_n 3, 1) := by decide +kernel
theorem dL_write_95 : decode cL_write 95 = .ok (.iconst 5, 1) := by decide +kernel
theorem dL_write_96 : decode cL_write 96 = .ok (.if_icmp .ge 47, 3) := by decide +kernel
theorem dL_write_99 : decode cL_write 99 = .ok (.iconst 0, 1) := by decide +kernel
theorem dL_write_100 : decode cL_write 100 = .ok (.istore 4, 2) := by decide +kernel
theorem dL_write_102 : decode cL_write 102 = .ok (.iload 4, 2) := by decide +kernel
theorem dL_write_104 : decode cL_write 104 = .ok (.iconst 3, 1) := by decide +kernel
theorem dL_write_105 : decode cL_write 105 = .ok (.if_icmp .ge 32, 3) := by decide +kernel
theorem dL_write_108 : decode cL_write 108 = .ok (.aload_n 0, 1) := by decide +kernel
theorem dL_write_109 : decode cL_write 109 = .ok (.iload_n 3, 1) := by decide +kernel
theorem dL_write_110 : decode cL_write 110 = .ok (.iload 4, 2) := by decide +kernel
theorem dL_write_112 : decode cL_write 112 = .ok (.aload_n 1, 1) := by decide +kernel
theorem dL_write_113 : decode cL_write 113 = .ok (.iload_n 3, 1) := by decide +kernel
theorem dL_write_114 : decode cL_write 114 = .ok (.iload 4, 2) := by decide +kernel
theorem dL_write_116 : decode cL_write 116 = .ok (.iadd, 1) := by decide +kernel
theorem dL_write_117 : decode cL_write 117 = .ok (.iload_n 2, 1) := by decide +kernel
theorem dL_write_118 : decode cL_write 118 = .ok (.iadd, 1) := by decide +kernel
theorem dL_write_119 : decode cL_write 119 = .ok (.invokestatic 9, 3) := by decide +kernel
theorem dL_write_122 : decode cL_write 122 = .ok (.bipush 45, 2) := by decide +kernel
theorem dL_write_124 : decode cL_write 124 = .ok (.invokestatic 15, 3) := by decide +kernel
theorem dL_write_127 : decode cL_write 127 = .ok (.invokevirtual 30, 3) := by decide +kernel
theorem dL_write_130 : decode cL_write 130 = .ok (.pop, 1) := by decide +kernel
theorem dL_write_131 : decode cL_write 131 = .ok (.iinc 4 1, 3) := by decide +kernel
theorem dL_write_134 : decode cL_write 134 = .ok (.goto (-32), 3) := by decide +kernel
theorem dL_write_137 : decode cL_write 137 = .ok (.iinc 3 1, 3) := by decide +kernel
theorem dL_write_140 : decode cL_write 140 = .ok (.goto (-46), 3) := by decide +kernel
theorem dL_write_143 : decode cL_write 143 = .ok (.iconst 0, 1) := by decide +kernel
theorem dL_write_144 : decode cL_write 144 = .ok (.istore_n 3, 1) := by decide +kernel
theorem dL_write_145 : decode cL_write 145 = .ok (.iload_n 3, 1) := by decide +kernel
theorem dL_write_146 : decode cL_write 146 = .ok (.iconst 4, 1) := by decide +kernel
theorem dL_write_147 : decode cL_write 147 = .ok (.if_icmp .ge 41, 3) := by decide +kernel
theorem dL_write_150 : decode cL_write 150 = .ok (.aload_n 0, 1) := by decide +kernel
theorem dL_write_151 : decode cL_write 151 = .ok (.aload_n 1, 1) := by decide +kernel
theorem dL_write_152 : decode cL_write 152 = .ok (.iload_n 3, 1) := by decide +kernel
theorem dL_write_153 : decode cL_write 153 = .ok (.iload_n 2, 1) := by decide +kernel
theorem dL_write_154 : decode cL_write 154 = .ok (.iadd, 1) := by decide +kernel
theorem dL_write_155 : decode cL_write 155 = .ok (.iconst 5, 1) := by decide +kernel
theorem dL_write_156 : decode cL_write 156 = .ok (.iadd, 1) := by decide +kernel
theorem dL_write_157 : decode cL_write 157 = .ok (.invokestatic 9, 3) := by decide +kernel
theorem dL_write_160 : decode cL_write 160 = .ok (.iconst 3, 1) := by decide +kernel
theorem dL_write_161 : decode cL_write 161 = .ok (.invokestatic 15, 3) := by decide +kernel
theorem dL_write_164 : decode cL_write 164 = .ok (.aload_n 1, 1) := by decide +kernel
theorem dL_write_165 : decode cL_write 165 = .ok (.iload_n 3, 1) := by decide +kernel
theorem dL_write_166 : decode cL_write 166 = .ok (.iload_n 2, 1) := by decide +kernel
theorem dL_write_167 : decode cL_write 167 = .ok (.iadd, 1) := by decide +kernel
theorem dL_write_168 : decode cL_write 168 = .ok (.bipush 6, 2) := by decide +kernel
theorem dL_write_170 : decode cL_write 170 = .ok (.iadd, 1) := by decide +kernel
theorem dL_write_171 : decode cL_write 171 = .ok (.invokestatic 9, 3) := by decide +kernel
theorem dL_write_174 : decode cL_write 174 = .ok (.iconst 3, 1) := by decide +kernel
theorem dL_write_175 : decode cL_write 175 = .ok (.invokestatic 15, 3) := by decide +kernel
theorem dL_write_178 : decode cL_write 178 = .ok (.invokevirtual 34, 3) := by decide +kernel
theorem dL_write_181 : decode cL_write 181 = .ok (.pop, 1) := by decide +kernel
theorem dL_write_182 : decode cL_write 182 = .ok (.iinc 3 1, 3) := by decide +kernel
theorem dL_write_185 : decode cL_write 185 = .ok (.goto (-40), 3) := by decide +kernel
theorem dL_write_188 : decode cL_write 188 = .ok (.return_, 1) := by decide +kernel
theorem dL_hear_0 : decode cL_hear 0 = .ok (.aload_n 0, 1) := by decide +kernel
theorem dL_hear_1 : decode cL_hear 1 = .ok (.iload_n 1, 1) := by decide +kernel
theorem dL_hear_2 : decode cL_hear 2 = .ok (.iload_n 2, 1) := by decide +kernel
theorem dL_hear_3 : decode cL_hear 3 = .ok (.iload_n 3, 1) := by decide +kernel
theorem dL_hear_4 : decode cL_hear 4 = .ok (.iload 4, 2) := by decide +kernel
theorem dL_hear_6 : decode cL_hear 6 = .ok (.invokevirtual 37, 3) := by decide +kernel
theorem dL_hear_9 : decode cL_hear 9 = .ok (.ireturn, 1) := by decide +kernel
theorem dL_hear_10 : decode cL_hear 10 = .ok (.astore 5, 2) := by decide +kernel
theorem dL_hear_12 : decode cL_hear 12 = .ok (.sipush (-7003), 3) := by decide +kernel
theorem dL_hear_15 : decode cL_hear 15 = .ok (.ireturn, 1) := by decide +kernel
theorem dL_law_0 : decode cL_law 0 = .ok (.new 20, 3) := by decide +kernel
theorem dL_law_3 : decode cL_law 3 = .ok (.dup, 1) := by decide +kernel
theorem dL_law_4 : decode cL_law 4 = .ok (.invokespecial 42, 3) := by decide +kernel
theorem dL_law_7 : decode cL_law 7 = .ok (.astore_n 1, 1) := by decide +kernel
theorem dL_law_8 : decode cL_law 8 = .ok (.aload_n 1, 1) := by decide +kernel
theorem dL_law_9 : decode cL_law 9 = .ok (.aload_n 0, 1) := by decide +kernel
theorem dL_law_10 : decode cL_law 10 = .ok (.iconst 5, 1) := by decide +kernel
theorem dL_law_11 : decode cL_law 11 = .ok (.invokestatic 43, 3) := by decide +kernel
theorem dL_law_14 : decode cL_law 14 = .ok (.sipush 130, 3) := by decide +kernel
theorem dL_law_17 : decode cL_law 17 = .ok (.newarray .int, 2) := by decide +kernel
theorem dL_law_19 : decode cL_law 19 = .ok (.astore_n 2, 1) := by decide +kernel
theorem dL_law_20 : decode cL_law 20 = .ok (.iconst 0, 1) := by decide +kernel
theorem dL_law_21 : decode cL_law 21 = .ok (.istore_n 3, 1) := by decide +kernel
theorem dL_law_22 : decode cL_law 22 = .ok (.iload_n 3, 1) := by decide +kernel
theorem dL_law_23 : decode cL_law 23 = .ok (.bipush 34, 2) := by decide +kernel
theorem dL_law_25 : decode cL_law 25 = .ok (.if_icmp .ge 367, 3) := by decide +kernel
theorem dL_law_28 : decode cL_law 28 = .ok (.aload_n 0, 1) := by decide +kernel
theorem dL_law_29 : decode cL_law 29 = .ok (.iload_n 3, 1) := by decide +kernel
theorem dL_law_30 : decode cL_law 30 = .ok (.bipush 16, 2) := by decide +kernel
theorem dL_law_32 : decode cL_law 32 = .ok (.irem, 1) := by decide +kernel
theorem dL_law_33 : decode cL_law 33 = .ok (.invokestatic 9, 3) := by decide +kernel
theorem dL_law_36 : decode cL_law 36 = .ok (.bipush 41, 2) := by decide +kernel
theorem dL_law_38 : decode cL_law 38 = .ok (.iload_n 3, 1) := by decide +kernel
theorem dL_law_39 : decode cL_law 39 = .ok (.imul, 1) := by decide +kernel
theorem dL_law_40 : decode cL_law 40 = .ok (.iadd, 1) := by decide +kernel
theorem dL_law_41 : decode cL_law 41 = .ok (.istore 4, 2) := by decide +kernel
theorem dL_law_43 : decode cL_law 43 = .ok (.iload 4, 2) := by decide +kernel
theorem dL_law_45 : decode cL_law 45 = .ok (.iconst 1, 1) := by decide +kernel
theorem dL_law_46 : decode cL_law 46 = .ok (.ishr, 1) := by decide +kernel
theorem dL_law_47 : decode cL_law 47 = .ok (.iconst 4, 1) := by decide +kernel
theorem dL_law_48 : decode cL_law 48 = .ok (.invokestatic 15, 3) := by decide +kernel
theorem dL_law_51 : decode cL_law 51 = .ok (.istore 5, 2) := by decide +kernel
theorem dL_law_53 : decode cL_law 53 = .ok (.iload 4, 2) := by decide +kernel
theorem dL_law_55 : decode cL_law 55 = .ok (.bipush 6, 2) := by decide +kernel
theorem dL_law_57 : decode cL_law 57 = .ok (.invokestatic 15, 3) := by decide +kernel
theorem dL_law_60 : decode cL_law 60 = .ok (.tableswitch 117 0 2 #[28, 58, 84], 28) := by decide +kernel
theorem dL_law_88 : decode cL_law 88 = .ok (.aload_n 1, 1) := by decide +kernel
theorem dL_law_89 : decode cL_law 89 = .ok (.iconst 0, 1) := by decide +kernel
theorem dL_law_90 : decode cL_law 90 = .ok (.invokevirtual 47, 3) := by decide +kernel
theorem dL_law_93 : decode cL_law 93 = .ok (.ldc 50, 2) := by decide +kernel
theorem dL_law_95 : decode cL_law 95 = .ok (.if_icmp .ge 115, 3) := by decide +kernel
theorem dL_law_98 : decode cL_law 98 = .ok (.aload_n 1, 1) := by decide +kernel
theorem dL_law_99 : decode cL_law 99 = .ok (.iconst 1, 1) := by decide +kernel
theorem dL_law_100 : decode cL_law 100 = .ok (.iload 4, 2) := by decide +kernel
theorem dL_law_102 : decode cL_law 102 = .ok (.iconst 2, 1) := by decide +kernel
theorem dL_law_103 : decode cL_law 103 = .ok (.ishr, 1) := by decide +kernel
theorem dL_law_104 : decode cL_law 104 = .ok (.sipush 4000, 3) := by decide +kernel
theorem dL_law_107 : decode cL_law 107 = .ok (.invokestatic 15, 3) := by decide +kernel
theorem dL_law_110 : decode cL_law 110 = .ok (.iadd, 1) := by decide +kernel
theorem dL_law_111 : decode cL_law 111 = .ok (.invokevirtual 51, 3) := by decide +kernel
theorem dL_law_114 : decode cL_law 114 = .ok (.pop, 1) := by decide +kernel
theorem dL_law_115 : decode cL_law 115 = .ok (.goto 95, 3) := by decide +kernel
theorem dL_law_118 : decode cL_law 118 = .ok (.aload_n 1, 1) := by decide +kernel
theorem dL_law_119 : decode cL_law 119 = .ok (.iload 5, 2) := by decide +kernel
theorem dL_law_121 : decode cL_law 121 = .ok (.iload 4, 2) := by decide +kernel
theorem dL_law_123 : decode cL_law 123 = .ok (.iconst 2, 1) := by decide +kernel
theorem dL_law_124 : decode cL_law 124 = .ok (.ishr, 1) := by decide +kernel
theorem dL_law_125 : decode cL_law 125 = .ok (.iconst 2, 1) := by decide +kernel
theorem dL_law_126 : decode cL_law 126 = .ok (.invokestatic 15, 3) := by decide +kernel
theorem dL_law_129 : decode cL_law 129 = .ok (.ifCond .ne 7, 3) := by decide +kernel
theorem dL_law_132 : decode cL_law 132 = .ok (.iconst 1, 1) := by decide +kernel
theorem dL_law_133 : decode cL_law 133 = .ok (.goto 4, 3) := by decide +kernel
theorem dL_law_136 : decode cL_law 136 = .ok (.iconst 0, 1) := by decide +kernel
theorem dL_law_137 : decode cL_law 137 = .ok (.invokevirtual 54, 3) := by decide +kernel
theorem dL_law_140 : decode cL_law 140 = .ok (.pop, 1) := by decide +kernel
theorem dL_law_141 : decode cL_law 141 = .ok (.goto 69, 3) := by decide +kernel
theorem dL_law_144 : decode cL_law 144 = .ok (.aload_n 1, 1) := by decide +kernel
theorem dL_law_145 : decode cL_law 145 = .ok (.iload 4, 2) := by decide +kernel
theorem dL_law_147 : decode cL_law 147 = .ok (.iconst 2, 1) := by decide +kernel
theorem dL_law_148 : decode cL_law 148 = .ok (.ishr, 1) := by decide +kernel
theorem dL_law_149 : decode cL_law 149 = .ok (.iconst 5, 1) := by decide +kernel
theorem dL_law_150 : decode cL_law 150 = .ok (.invokestatic 15, 3) := by decide +kernel
theorem dL_law_153 : decode cL_law 153 = .ok (.iload 4, 2) := by decide +kernel
theorem dL_law_155 : decode cL_law 155 = .ok (.iconst 3, 1) := by decide +kernel
theorem dL_law_156 : decode cL_law 156 = .ok (.ishr, 1) := by decide +kernel
theorem dL_law_157 : decode cL_law 157 = .ok (.iconst 5, 1) := by decide +kernel
theorem dL_law_158 : decode cL_law 158 = .ok (.invokestatic 15, 3) := by decide +kernel
theorem dL_law_161 : decode cL_law 161 = .ok (.iload 4, 2) := by decide +kernel
theorem dL_law_163 : decode cL_law 163 = .ok (.iconst 4, 1) := by decide +kernel
theorem dL_law_164 : decode cL_law 164 = .ok (.ishr, 1) := by decide +kernel
theorem dL_law_165 : decode cL_law 165 = .ok (.bipush 60, 2) := by decide +kernel
theorem dL_law_167 : decode cL_law 167 = .ok (.invokestatic 15, 3) := by decide +kernel
theorem dL_law_170 : decode cL_law 170 = .ok (.invokevirtual 30, 3) := by decide +kernel
theorem dL_law_173 : decode cL_law 173 = .ok (.pop, 1) := by decide +kernel
theorem dL_law_174 : decode cL_law 174 = .ok (.goto 36, 3) := by decide +kernel
theorem dL_law_177 : decode cL_law 177 = .ok (.aload_n 1, 1) := by decide +kernel
theorem dL_law_178 : decode cL_law 178 = .ok (.iload 5, 2) := by decide +kernel
theorem dL_law_180 : decode cL_law 180 = .ok (.iload 4, 2) := by decide +kernel
theorem dL_law_182 : decode cL_law 182 = .ok (.iconst 2, 1) := by decide +kernel
theorem dL_law_183 : decode cL_law 183 = .ok (.ishr, 1) := by decide +kernel
theorem dL_law_184 : decode cL_law 184 = .ok (.bipush 6, 2) := by decide +kernel
theorem dL_law_186 : decode cL_law 186 = .ok (.invokestatic 15, 3) := by decide +kernel
theorem dL_law_189 : decode cL_law 189 = .ok (.aload_n 1, 1) := by decide +kernel
theorem dL_law_190 : decode cL_law 190 = .ok (.iconst 0, 1) := by decide +kernel
theorem dL_law_191 : decode cL_law 191 = .ok (.invokevirtual 47, 3) := by decide +kernel
theorem dL_law_194 : decode cL_law 194 = .ok (.bipush 25, 2) := by decide +kernel
theorem dL_law_196 : decode cL_law 196 = .ok (.iload 4, 2) := by decide +kernel
theorem dL_law_198 : decode cL_law 198 = .ok (.iconst 3, 1) := by decide +kernel
theorem dL_law_199 : decode cL_law 199 = .ok (.ishr, 1) := by decide +kernel
theorem dL_law_200 : decode cL_law 200 = .ok (.bipush 90, 2) := by decide +kernel
theorem dL_law_202 : decode cL_law 202 = .ok (.invokestatic 15, 3) := by decide +kernel
theorem dL_law_205 : decode cL_law 205 = .ok (.iadd, 1) := by decide +kernel
theorem dL_law_206 : decode cL_law 206 = .ok (.invokestatic 58, 3) := by decide +kernel
theorem dL_law_209 : decode cL_law 209 = .ok (.pop, 1) := by decide +kernel
theorem dL_law_210 : decode cL_law 210 = .ok (.iconst 3, 1) := by decide +kernel
theorem dL_law_211 : decode cL_law 211 = .ok (.newarray .int, 2) := by decide +kernel
theorem dL_law_213 : decode cL_law 213 = .ok (.dup, 1) := by decide +kernel
theorem dL_law_214 : decode cL_law 214 = .ok (.iconst 0, 1) := by decide +kernel
theorem dL_law_215 : decode cL_law 215 = .ok (.sipush 200, 3) := by decide +kernel
theorem dL_law_218 : decode cL_law 218 = .ok (.iastore, 1) := by decide +kernel
theorem dL_law_219 : decode cL_law 219 = .ok (.dup, 1) := by decide +kernel
theorem dL_law_220 : decode cL_law 220 = .ok (.iconst 1, 1) := by decide +kernel
theorem dL_law_221 : decode cL_law 221 = .ok (.sipush 1000, 3) := by decide +kernel
theorem dL_law_224 : decode cL_law 224 = .ok (.iastore, 1) := by decide +kernel
theorem dL_law_225 : decode cL_law 225 = .ok (.dup, 1) := by decide +kernel
theorem dL_law_226 : decode cL_law 226 = .ok (.iconst 2, 1) := by decide +kernel
theorem dL_law_227 : decode cL_law 227 = .ok (.sipush 500, 3) := by decide +kernel
theorem dL_law_230 : decode cL_law 230 = .ok (.iastore, 1) := by decide +kernel
theorem dL_law_231 : decode cL_law 231 = .ok (.astore 6, 2) := by decide +kernel
theorem dL_law_233 : decode cL_law 233 = .ok (.iconst 0, 1) := by decide +kernel
theorem dL_law_234 : decode cL_law 234 = .ok (.istore 7, 2) := by decide +kernel
theorem dL_law_236 : decode cL_law 236 = .ok (.bipush 10, 2) := by decide +kernel
theorem dL_law_238 : decode cL_law 238 = .ok (.newarray .int, 2) := by decide +kernel
theorem dL_law_240 : decode cL_law 240 = .ok (.dup, 1) := by decide +kernel
theorem dL_law_241 : decode cL_law 241 = .ok (.iconst 0, 1) := by decide +kernel
theorem dL_law_242 : decode cL_law 242 = .ok (.bipush 8, 2) := by decide +kernel
theorem dL_law_244 : decode cL_law 244 = .ok (.iastore, 1) := by decide +kernel
theorem dL_law_245 : decode cL_law 245 = .ok (.dup, 1) := by decide +kernel
theorem dL_law_246 : decode cL_law 246 = .ok (.iconst 1, 1) := by decide +kernel
theorem dL_law_247 : decode cL_law 247 = .ok (.bipush 9, 2) := by decide +kernel
theorem dL_law_249 : decode cL_law 249 = .ok (.iastore, 1) := by decide +kernel
theorem dL_law_250 : decode cL_law 250 = .ok (.dup, 1) := by decide +kernel
theorem dL_law_251 : decode cL_law 251 = .ok (.iconst 2, 1) := by decide +kernel
theorem dL_law_252 : decode cL_law 252 = .ok (.bipush 10, 2) := by decide +kernel
theorem dL_law_254 : decode cL_law 254 = .ok (.iastore, 1) := by decide +kernel
theorem dL_law_255 : decode cL_law 255 = .ok (.dup, 1) := by decide +kernel
theorem dL_law_256 : decode cL_law 256 = .ok (.iconst 3, 1) := by decide +kernel
theorem dL_law_257 : decode cL_law 257 = .ok (.bipush 11, 2) := by decide +kernel
theorem dL_law_259 : decode cL_law 259 = .ok (.iastore, 1) := by decide +kernel
theorem dL_law_260 : decode cL_law 260 = .ok (.dup, 1) := by decide +kernel
theorem dL_law_261 : decode cL_law 261 = .ok (.iconst 4, 1) := by decide +kernel
theorem dL_law_262 : decode cL_law 262 = .ok (.bipush 12, 2) := by decide +kernel
theorem dL_law_264 : decode cL_law 264 = .ok (.iastore, 1) := by decide +kernel
theorem dL_law_265 : decode cL_law 265 = .ok (.dup, 1) := by decide +kernel
theorem dL_law_266 : decode cL_law 266 = .ok (.iconst 5, 1) := by decide +kernel
theorem dL_law_267 : decode cL_law 267 = .ok (.bipush 13, 2) := by decide +kernel
theorem dL_law_269 : decode cL_law 269 = .ok (.iastore, 1) := by decide +kernel
theorem dL_law_270 : decode cL_law 270 = .ok (.dup, 1) := by decide +kernel
theorem dL_law_271 : decode cL_law 271 = .ok (.bipush 6, 2) := by decide +kernel
theorem dL_law_273 : decode cL_law 273 = .ok (.bipush 14, 2) := by decide +kernel
theorem dL_law_275 : decode cL_law 275 = .ok (.iastore, 1) := by decide +kernel
theorem dL_law_276 : decode cL_law 276 = .ok (.dup, 1) := by decide +kernel
theorem dL_law_277 : decode cL_law 277 = .ok (.bipush 7, 2) := by decide +kernel
theorem dL_law_279 : decode cL_law 279 = .ok (.bipush 15, 2) := by decide +kernel
theorem dL_law_281 : decode cL_law 281 = .ok (.iastore, 1) := by decide +kernel
theorem dL_law_282 : decode cL_law 282 = .ok (.dup, 1) := by decide +kernel
theorem dL_law_283 : decode cL_law 283 = .ok (.bipush 8, 2) := by decide +kernel
theorem dL_law_285 : decode cL_law 285 = .ok (.bipush 16, 2) := by decide +kernel
theorem dL_law_287 : decode cL_law 287 = .ok (.iastore, 1) := by decide +kernel
theorem dL_law_288 : decode cL_law 288 = .ok (.dup, 1) := by decide +kernel
theorem dL_law_289 : decode cL_law 289 = .ok (.bipush 9, 2) := by decide +kernel
theorem dL_law_291 : decode cL_law 291 = .ok (.bipush 17, 2) := by decide +kernel
theorem dL_law_293 : decode cL_law 293 = .ok (.iastore, 1) := by decide +kernel
theorem dL_law_294 : decode cL_law 294 = .ok (.astore 8, 2) := by decide +kernel
theorem dL_law_296 : decode cL_law 296 = .ok (.aload 8, 2) := by decide +kernel
theorem dL_law_298 : decode cL_law 298 = .ok (.arraylength, 1) := by decide +kernel
theorem dL_law_299 : decode cL_law 299 = .ok (.istore 9, 2) := by decide +kernel
theorem dL_law_301 : decode cL_law 301 = .ok (.iconst 0, 1) := by decide +kernel
theorem dL_law_302 : decode cL_law 302 = .ok (.istore 10, 2) := by decide +kernel
theorem dL_law_304 : decode cL_law 304 = .ok (.iload 10, 2) := by decide +kernel
theorem dL_law_306 : decode cL_law 306 = .ok (.iload 9, 2) := by decide +kernel
theorem dL_law_308 : decode cL_law 308 = .ok (.if_icmp .ge 27, 3) := by decide +kernel
theorem dL_law_311 : decode cL_law 311 = .ok (.aload 8, 2) := by decide +kernel
theorem dL_law_313 : decode cL_law 313 = .ok (.iload 10, 2) := by decide +kernel
theorem dL_law_315 : decode cL_law 315 = .ok (.iaload, 1) := by decide +kernel
theorem dL_law_316 : decode cL_law 316 = .ok (.istore 11, 2) := by decide +kernel
theorem dL_law_318 : decode cL_law 318 = .ok (.iload 7, 2) := by decide +kernel
theorem dL_law_320 : decode cL_law 320 = .ok (.aload_n 1, 1) := by decide +kernel
theorem dL_law_321 : decode cL_law 321 = .ok (.iload 11, 2) := by decide +kernel
theorem dL_law_323 : decode cL_law 323 = .ok (.invokevirtual 47, 3) := by decide +kernel
theorem dL_law_326 : decode cL_law 326 = .ok (.iadd, 1) := by decide +kernel
theorem dL_law_327 : decode cL_law 327 = .ok (.istore 7, 2) := by decide +kernel
theorem dL_law_329 : decode cL_law 329 = .ok (.iinc 10 1, 3) := by decide +kernel
theorem dL_law_332 : decode cL_law 332 = .ok (.goto (-28), 3) := by decide +kernel
theorem dL_law_335 : decode cL_law 335 = .ok (.iconst 0, 1) := by decide +kernel
theorem dL_law_336 : decode cL_law 336 = .ok (.istore 8, 2) := by decide +kernel
theorem dL_law_338 : decode cL_law 338 = .ok (.iload 8, 2) := by decide +kernel
theorem dL_law_340 : decode cL_law 340 = .ok (.iconst 4, 1) := by decide +kernel
theorem dL_law_341 : decode cL_law 341 = .ok (.if_icmp .ge 30, 3) := by decide +kernel
theorem dL_law_344 : decode cL_law 344 = .ok (.iload 7, 2) := by decide +kernel
theorem dL_law_346 : decode cL_law 346 = .ok (.aload_n 1, 1) := by decide +kernel
theorem dL_law_347 : decode cL_law 347 = .ok (.iconst 1, 1) := by decide +kernel
theorem dL_law_348 : decode cL_law 348 = .ok (.invokevirtual 47, 3) := by decide +kernel
theorem dL_law_351 : decode cL_law 351 = .ok (.aload 6, 2) := by decide +kernel
theorem dL_law_353 : decode cL_law 353 = .ok (.aload_n 1, 1) := by decide +kernel
theorem dL_law_354 : decode cL_law 354 = .ok (.iload 8, 2) := by decide +kernel
theorem dL_law_356 : decode cL_law 356 = .ok (.iconst 1, 1) := by decide +kernel
theorem dL_law_357 : decode cL_law 357 = .ok (.invokevirtual 62, 3) := by decide +kernel
theorem dL_law_360 : decode cL_law 360 = .ok (.iaload, 1) := by decide +kernel
theorem dL_law_361 : decode cL_law 361 = .ok (.imul, 1) := by decide +kernel
theorem dL_law_362 : decode cL_law 362 = .ok (.isub, 1) := by decide +kernel
theorem dL_law_363 : decode cL_law 363 = .ok (.istore 7, 2) := by decide +kernel
theorem dL_law_365 : decode cL_law 365 = .ok (.iinc 8 1, 3) := by decide +kernel
theorem dL_law_368 : decode cL_law 368 = .ok (.goto (-30), 3) := by decide +kernel
theorem dL_law_371 : decode cL_law 371 = .ok (.iload 7, 2) := by decide +kernel
theorem dL_law_373 : decode cL_law 373 = .ok (.ifCond .ne 11, 3) := by decide +kernel
theorem dL_law_376 : decode cL_law 376 = .ok (.aload_n 1, 1) := by decide +kernel
theorem dL_law_377 : decode cL_law 377 = .ok (.aload_n 2, 1) := by decide +kernel
theorem dL_law_378 : decode cL_law 378 = .ok (.invokestatic 65, 3) := by decide +kernel
theorem dL_law_381 : decode cL_law 381 = .ok (.ifCond .ne 5, 3) := by decide +kernel
theorem dL_law_384 : decode cL_law 384 = .ok (.iconst 0, 1) := by decide +kernel
theorem dL_law_385 : decode cL_law 385 = .ok (.ireturn, 1) := by decide +kernel
theorem dL_law_386 : decode cL_law 386 = .ok (.iinc 3 1, 3) := by decide +kernel
theorem dL_law_389 : decode cL_law 389 = .ok (.goto (-367), 3) := by decide +kernel
theorem dL_law_392 : decode cL_law 392 = .ok (.aload_n 1, 1) := by decide +kernel
theorem dL_law_393 : decode cL_law 393 = .ok (.invokevirtual 69, 3) := by decide +kernel
theorem dL_law_396 : decode cL_law 396 = .ok (.lstore_n 3, 1) := by decide +kernel
theorem dL_law_397 : decode cL_law 397 = .ok (.aload_n 1, 1) := by decide +kernel
theorem dL_law_398 : decode cL_law 398 = .ok (.iconst 0, 1) := by decide +kernel
theorem dL_law_399 : decode cL_law 399 = .ok (.iconst 1, 1) := by decide +kernel
theorem dL_law_400 : decode cL_law 400 = .ok (.invokevirtual 73, 3) := by decide +kernel
theorem dL_law_403 : decode cL_law 403 = .ok (.ifCond .lt 25, 3) := by decide +kernel
theorem dL_law_406 : decode cL_law 406 = .ok (.aload_n 1, 1) := by decide +kernel
theorem dL_law_407 : decode cL_law 407 = .ok (.iconst 3, 1) := by decide +kernel
theorem dL_law_408 : decode cL_law 408 = .ok (.iconst 0, 1) := by decide +kernel
theorem dL_law_409 : decode cL_law 409 = .ok (.invokevirtual 76, 3) := by decide +kernel
theorem dL_law_412 : decode cL_law 412 = .ok (.ifCond .lt 16, 3) := by decide +kernel
theorem dL_law_415 : decode cL_law 415 = .ok (.aload_n 1, 1) := by decide +kernel
theorem dL_law_416 : decode cL_law 416 = .ok (.invokevirtual 69, 3) := by decide +kernel
theorem dL_law_419 : decode cL_law 419 = .ok (.lload_n 3, 1) := by decide +kernel
theorem dL_law_420 : decode cL_law 420 = .ok (.lcmp, 1) := by decide +kernel
theorem dL_law_421 : decode cL_law 421 = .ok (.ifCond .ne 7, 3) := by decide +kernel
theorem dL_law_424 : decode cL_law 424 = .ok (.iconst 1, 1) := by decide +kernel
theorem dL_law_425 : decode cL_law 425 = .ok (.goto 4, 3) := by decide +kernel
theorem dL_law_428 : decode cL_law 428 = .ok (.iconst 0, 1) := by decide +kernel
theorem dL_law_429 : decode cL_law 429 = .ok (.ireturn, 1) := by decide +kernel
theorem dL_isSound_0 : decode cL_isSound 0 = .ok (.sipush 400, 3) := by decide +kernel
theorem dL_isSound_3 : decode cL_isSound 3 = .ok (.bipush 10, 2) := by decide +kernel
theorem dL_isSound_5 : decode cL_isSound 5 = .ok (.multianewarray 79 2, 4) := by decide +kernel
theorem dL_isSound_9 : decode cL_isSound 9 = .ok (.astore_n 2, 1) := by decide +kernel
theorem dL_isSound_10 : decode cL_isSound 10 = .ok (.iconst 0, 1) := by decide +kernel
theorem dL_isSound_11 : decode cL_isSound 11 = .ok (.istore_n 3, 1) := by decide +kernel
theorem dL_isSound_12 : decode cL_isSound 12 = .ok (.iload_n 3, 1) := by decide +kernel
theorem dL_isSound_13 : decode cL_isSound 13 = .ok (.aload_n 0, 1) := by decide +kernel
theorem dL_isSound_14 : decode cL_isSound 14 = .ok (.iconst 5, 1) := by decide +kernel
theorem dL_isSound_15 : decode cL_isSound 15 = .ok (.invokevirtual 47, 3) := by decide +kernel
theorem dL_isSound_18 : decode cL_isSound 18 = .ok (.if_icmp .ge 122, 3) := by decide +kernel
theorem dL_isSound_21 : decode cL_isSound 21 = .ok (.aload_n 0, 1) := by decide +kernel
theorem dL_isSound_22 : decode cL_isSound 22 = .ok (.iload_n 3, 1) := by decide +kernel
theorem dL_isSound_23 : decode cL_isSound 23 = .ok (.iconst 4, 1) := by decide +kernel
theorem dL_isSound_24 : decode cL_isSound 24 = .ok (.invokevirtual 81, 3) := by decide +kernel
theorem dL_isSound_27 : decode cL_isSound 27 = .ok (.istore 4, 2) := by decide +kernel
theorem dL_isSound_29 : decode cL_isSound 29 = .ok (.aload_n 0, 1) := by decide +kernel
theorem dL_isSound_30 : decode cL_isSound 30 = .ok (.iload_n 3, 1) := by decide +kernel
theorem dL_isSound_31 : decode cL_isSound 31 = .ok (.iconst 5, 1) := by decide +kernel
theorem dL_isSound_32 : decode cL_isSound 32 = .ok (.invokevirtual 81, 3) := by decide +kernel
theorem dL_isSound_35 : decode cL_isSound 35 = .ok (.iconst 1, 1) := by decide +kernel
theorem dL_isSound_36 : decode cL_isSound 36 = .ok (.if_icmp .ne 28, 3) := by decide +kernel
theorem dL_isSound_39 : decode cL_isSound 39 = .ok (.aload_n 1, 1) := by decide +kernel
theorem dL_isSound_40 : decode cL_isSound 40 = .ok (.iload_n 3, 1) := by decide +kernel
theorem dL_isSound_41 : decode cL_isSound 41 = .ok (.iaload, 1) := by decide +kernel
theorem dL_isSound_42 : decode cL_isSound 42 = .ok (.ifCond .le 15, 3) := by decide +kernel
theorem dL_isSound_45 : decode cL_isSound 45 = .ok (.aload_n 1, 1) := by decide +kernel
theorem dL_isSound_46 : decode cL_isSound 46 = .ok (.iload_n 3, 1) := by decide +kernel
theorem dL_isSound_47 : decode cL_isSound 47 = .ok (.iaload, 1) := by decide +kernel
theorem dL_isSound_48 : decode cL_isSound 48 = .ok (.iload 4, 2) := by decide +kernel
theorem dL_isSound_50 : decode cL_isSound 50 = .ok (.iconst 1, 1) := by decide +kernel
theorem dL_isSound_51 : decode cL_isSound 51 = .ok (.iadd, 1) := by decide +kernel
theorem dL_isSound_52 : decode cL_isSound 52 = .ok (.if_icmp .eq 5, 3) := by decide +kernel
theorem dL_isSound_55 : decode cL_isSound 55 = .ok (.iconst 0, 1) := by decide +kernel
theorem dL_isSound_56 : decode cL_isSound 56 = .ok (.ireturn, 1) := by decide +kernel
theorem dL_isSound_57 : decode cL_isSound 57 = .ok (.aload_n 1, 1) := by decide +kernel
theorem dL_isSound_58 : decode cL_isSound 58 = .ok (.iload_n 3, 1) := by decide +kernel
theorem dL_isSound_59 : decode cL_isSound 59 = .ok (.iload 4, 2) := by decide +kernel
theorem dL_isSound_61 : decode cL_isSound 61 = .ok (.iconst 1, 1) := by decide +kernel
theorem dL_isSound_62 : decode cL_isSound 62 = .ok (.iadd, 1) := by decide +kernel
theorem dL_isSound_63 : decode cL_isSound 63 = .ok (.iastore, 1) := by decide +kernel
theorem dL_isSound_64 : decode cL_isSound 64 = .ok (.iload 4, 2) := by decide +kernel
theorem dL_isSound_66 : decode cL_isSound 66 = .ok (.ifCond .eq 6, 3) := by decide +kernel
theorem dL_isSound_69 : decode cL_isSound 69 = .ok (.goto 65, 3) := by decide +kernel
theorem dL_isSound_72 : decode cL_isSound 72 = .ok (.aload_n 2, 1) := by decide +kernel
theorem dL_isSound_73 : decode cL_isSound 73 = .ok (.bipush 100, 2) := by decide +kernel
theorem dL_isSound_75 : decode cL_isSound 75 = .ok (.aload_n 0, 1) := by decide +kernel
theorem dL_isSound_76 : decode cL_isSound 76 = .ok (.iload_n 3, 1) := by decide +kernel
theorem dL_isSound_77 : decode cL_isSound 77 = .ok (.iconst 0, 1) := by decide +kernel
theorem dL_isSound_78 : decode cL_isSound 78 = .ok (.invokevirtual 81, 3) := by decide +kernel
theorem dL_isSound_81 : decode cL_isSound 81 = .ok (.imul, 1) := by decide +kernel
theorem dL_isSound_82 : decode cL_isSound 82 = .ok (.aload_n 0, 1) := by decide +kernel
theorem dL_isSound_83 : decode cL_isSound 83 = .ok (.iload_n 3, 1) := by decide +kernel
theorem dL_isSound_84 : decode cL_isSound 84 = .ok (.iconst 2, 1) := by decide +kernel
theorem dL_isSound_85 : decode cL_isSound 85 = .ok (.invokevirtual 81, 3) := by decide +kernel
theorem dL_isSound_88 : decode cL_isSound 88 = .ok (.sipush 1440, 3) := by decide +kernel
theorem dL_isSound_91 : decode cL_isSound 91 = .ok (.idiv, 1) := by decide +kernel
theorem dL_isSound_92 : decode cL_isSound 92 = .ok (.iadd, 1) := by decide +kernel
theorem dL_isSound_93 : decode cL_isSound 93 = .ok (.aaload, 1) := by decide +kernel
theorem dL_isSound_94 : decode cL_isSound 94 = .ok (.astore 5, 2) := by decide +kernel
theorem dL_isSound_96 : decode cL_isSound 96 = .ok (.aload 5, 2) := by decide +kernel
theorem dL_isSound_98 : decode cL_isSound 98 = .ok (.aload_n 0, 1) := by decide +kernel
theorem dL_isSound_99 : decode cL_isSound 99 = .ok (.aload_n 0, 1) := by decide +kernel
theorem dL_isSound_100 : decode cL_isSound 100 = .ok (.iload_n 3, 1) := by decide +kernel
theorem dL_isSound_101 : decode cL_isSound 101 = .ok (.iconst 1, 1) := by decide +kernel
theorem dL_isSound_102 : decode cL_isSound 102 = .ok (.invokevirtual 81, 3) := by decide +kernel
theorem dL_isSound_105 : decode cL_isSound 105 = .ok (.iconst 0, 1) := by decide +kernel
theorem dL_isSound_106 : decode cL_isSound 106 = .ok (.invokevirtual 84, 3) := by decide +kernel
theorem dL_isSound_109 : decode cL_isSound 109 = .ok (.dup2, 1) := by decide +kernel
theorem dL_isSound_110 : decode cL_isSound 110 = .ok (.iaload, 1) := by decide +kernel
theorem dL_isSound_111 : decode cL_isSound 111 = .ok (.iconst 1, 1) := by decide +kernel
theorem dL_isSound_112 : decode cL_isSound 112 = .ok (.iadd, 1) := by decide +kernel
theorem dL_isSound_113 : decode cL_isSound 113 = .ok (.iastore, 1) := by decide +kernel
theorem dL_isSound_114 : decode cL_isSound 114 = .ok (.aload 5, 2) := by decide +kernel
theorem dL_isSound_116 : decode cL_isSound 116 = .ok (.aload_n 0, 1) := by decide +kernel
theorem dL_isSound_117 : decode cL_isSound 117 = .ok (.aload_n 0, 1) := by decide +kernel
theorem dL_isSound_118 : decode cL_isSound 118 = .ok (.iload_n 3, 1) := by decide +kernel
theorem dL_isSound_119 : decode cL_isSound 119 = .ok (.iconst 1, 1) := by decide +kernel
theorem dL_isSound_120 : decode cL_isSound 120 = .ok (.invokevirtual 81, 3) := by decide +kernel
theorem dL_isSound_123 : decode cL_isSound 123 = .ok (.iconst 0, 1) := by decide +kernel
theorem dL_isSound_124 : decode cL_isSound 124 = .ok (.invokevirtual 84, 3) := by decide +kernel
theorem dL_isSound_127 : decode cL_isSound 127 = .ok (.iaload, 1) := by decide +kernel
theorem dL_isSound_128 : decode cL_isSound 128 = .ok (.iconst 5, 1) := by decide +kernel
theorem dL_isSound_129 : decode cL_isSound 129 = .ok (.if_icmp .le 5, 3) := by decide +kernel
theorem dL_isSound_132 : decode cL_isSound 132 = .ok (.iconst 0, 1) := by decide +kernel
theorem dL_isSound_133 : decode cL_isSound 133 = .ok (.ireturn, 1) := by decide +kernel
theorem dL_isSound_134 : decode cL_isSound 134 = .ok (.iinc 3 1, 3) := by decide +kernel
theorem dL_isSound_137 : decode cL_isSound 137 = .ok (.goto (-125), 3) := by decide +kernel
theorem dL_isSound_140 : decode cL_isSound 140 = .ok (.iconst 1, 1) := by decide +kernel
theorem dL_isSound_141 : decode cL_isSound 141 = .ok (.ireturn, 1) := by decide +kernel
abbrev vwCl : List vw_C := [(RX0, TX0, 7), (RX1, TX1, 12), (RX2, TX2, 8), (RX3, TX3, 3), (RX4, TX4, 7), (RX5, TX5, 1), (RX6, TX6, 11)]
section VXS
variable {p : Program} {l : Launch} {e : Env} {R : Room} {s : State} {m : MethodId} {args : Array Value} {below : List Frame} {meth : Method} {c : Code} {T : State} {H : Heap} {locs : List Loc} {cells slots : Nat}
abbrev vx_CSW (R : Room) (s : State) (args : Array Value) (own : String) (index : Nat) (y : MethodName) (bytes : ByteArray) (maxL : Nat) (ret : Option FieldType) (hh : List (Nat × Nat × Nat × Nat)) (ws : List Cond) (rm : Room) (mc ms n : Nat) : Prop :=
  (rm.cells = mc ∧ rm.slots = ms ∧ rm.frames + 1 ≤ R.frames ∧ 8 + (maxL + 11) + rm.locals ≤ R.locals ∧ (∀ w ∈ ws, ∀ (a' : Array Value) (U : State), s.WarmedH U.vm → w.before a' U = true) ∧ Cond.codeWith y bytes maxL ret hh ∈ ws) ∧
  (Cond.codeWith y bytes maxL ret hh).before args s = true ∧ (Cond.initialized y.cls).before args s = true ∧ (y.cls ≠ "java/lang/invoke/MethodHandle" ∧ y.cls ≠ "java/lang/invoke/VarHandle") ∧
  (∀ sig, parseMethodDescriptor y.desc = some sig → n = sig.parameters.length) ∧ (Cond.methodLink own index y).before args s = true ∧ (Cond.static y).before args s = true
theorem vx_cwSW {own : String} {index maxL mc ms : Nat} {y : MethodName} {bytes : ByteArray} {ret : Option FieldType} {hh : List (Nat × Nat × Nat × Nat)} {Ts ws ws' : List Cond} {rm : Room} (n : Nat) (ht : ∀ w ∈ Ts, w.before args s = true) (hT : GoodIn Ts (va_wsS own index y ws)) (hw : ws = Cond.codeWith y bytes maxL ret hh :: ws') (hrc : rm.cells = mc) (hrs : rm.slots = ms)
    (hd : y.cls ≠ "java/lang/invoke/MethodHandle" ∧ y.cls ≠ "java/lang/invoke/VarHandle" ∧ (parseMethodDescriptor y.desc).map (fun d => d.parameters.length) = some n) (hR : rm.frames + 1 ≤ R.frames ∧ 8 + (maxL + 11) + rm.locals ≤ R.locals) :
    vx_CSW R s args own index y bytes maxL ret hh ws rm mc ms n := by
  have ok : ∀ w ∈ va_wsS own index y ws, w.before args s = true := fun w h => ht w (hT w h).1
  have hG : GoodIn Ts ws := fun w h => hT w (by unfold va_wsS; exact List.mem_append_right _ h)
  have hc : Cond.codeWith y bytes maxL ret hh ∈ ws := by rw [hw]; exact List.mem_cons_self
  refine ⟨⟨hrc, hrs, hR.1, hR.2, pay_in ht hG, hc⟩, ht _ (hG _ hc).1, ok _ (by simp [va_wsS]), ⟨hd.1, hd.2.1⟩, fun sig h => ?_, ok _ (by simp [va_wsS]), ok _ (by simp [va_wsS])⟩
  have h2 := hd.2.2
  rw [h] at h2
  exact (Option.some.inj h2).symm
theorem vx_callSW (X : Stand p l e R s m args below meth c T locs cells slots) (hexec : p.tables.exec = Jvm.exec) {own : String} {index : Nat} {y : MethodName} {bytes : ByteArray} {maxL : Nat} {ret : Option FieldType} {hh : List (Nat × Nat × Nat × Nat)}
    (hown : s.vm.findClass own = some m.cls) (hlink : (Cond.methodLink own index y).before args s = true) (hstat : (Cond.static y).before args s = true) (hinit : (Cond.initialized y.cls).before args s = true)
    (hcode : (Cond.codeWith y bytes maxL ret hh).before args s = true) (hy : y.cls ≠ "java/lang/invoke/MethodHandle" ∧ y.cls ≠ "java/lang/invoke/VarHandle")
    {W9 : Nat} {Pre : Pt → Array Value → Prop} {Post : Pt → Array Value → Option Value → Pt → Prop} (hK : Back l R p e below s args y 3 W9 Pre Post)
    {g : JFrame} (hg : g.method = m) (hsize : g.locals.size = c.maxLocals) {argsL rest : List Value} (hlen : ∀ sig, parseMethodDescriptor y.desc = some sig → argsL.length = sig.parameters.length)
    (hstack : g.stack = argsL.reverse ++ rest) (hW : 2 * g.monitorRoom + (rest.map fun v => v.category).sum ≤ W9) (hdg : decode c.code g.pc = .ok (.invokestatic index, 3))
    (hpre : ∀ vm₁, s.WarmedH vm₁ → Pre ⟨T.setVm vm₁, locs, cells, slots⟩ argsL.toArray) :
    ∃ (v : Option Value) (vm₁ : Vm) (B : Pt), s.WarmedH vm₁ ∧ Stand p l e R s m args below meth c B.U B.locs B.cells B.slots ∧ Post ⟨T.setVm vm₁, locs, cells, slots⟩ argsL.toArray v B ∧
      ∀ target, Steps p.tables e below (B.U.setTop { g with pc := g.pc + 3, stack := v.toList ++ rest }) target → Steps p.tables e below (T.setTop g) target := by
  obtain ⟨mk, methM, cM, hnamed, hmethM, -, -, -, -, -, -, hsigM⟩ := Cond.codeWith_spec hcode
  have hstatic : methM.isStatic = true := Cond.static_spec hnamed hmethM hstat
  obtain ⟨kP, hkP, -⟩ := className_of_methodNamed hnamed
  have hinitP : kP.init = .initialized := Cond.initialized_spec (findClass_of_methodNamed hnamed) hkP hinit
  obtain ⟨vm₁, X₁, hstep₁⟩ := X.invokestatic hexec hown hlink hnamed hmethM hstatic hkP hinitP hy (g := g) hg (argsL := argsL) (rest := rest) (hlen _ hsigM) hstack hdg
  obtain ⟨v, B, X', hpost, hsteps⟩ := hK m meth c ⟨T.setVm vm₁, locs, cells, slots⟩ { g with stack := rest } (.invokestatic index) mk argsL.toArray X₁ hg hsize hdg hW (X₁.named hnamed) (hpre vm₁ X₁.warmed)
  exact ⟨v, vm₁, B, X₁.warmed, X', hpost, fun target h => hstep₁ _ fun acts => by rw [doInvoke_state]; exact hsteps.trans h⟩
theorem vx_runSW {y : MethodName} {bytes cc : ByteArray} {maxL nL mc ms n index : Nat} {ret : Option FieldType} {hh : List (Nat × Nat × Nat × Nat)} {ws : List Cond} {rm : Room} {Pc : Array Value → State → Prop} {Qc : Array Value → State → Outcome → State → Prop} {free : Addr → Prop} {Ts : List Cond} {own : String} {As rest : List Value} {g : JFrame}
    (S : CallFix p m c cc nL s args Ts own) (hM : Met l y ws rm Pc Qc mc ms free) (cw : vx_CSW R s args own index y bytes maxL ret hh ws rm mc ms n) (hp : PreS s H Pc As)
    (hg : g.method = m) (hn : As.length = n) (hsize : g.locals.size = nL) (hstack : g.stack = As.reverse ++ rest) (hW : 2 * g.monitorRoom + (rest.map fun v => v.category).sum ≤ 8) (hdg : decode cc g.pc = .ok (.invokestatic index, 3)) (hf : cells + mc ≤ R.cells ∧ slots + ms ≤ R.slots) :
    va_Run p l e R s m args below meth c H locs cells slots mc ms g rest (Qc As.toArray) (free) := by
  obtain ⟨⟨hrc, hrs, hfr, hlo, hws, hcw⟩, hcode, hini, hy, hlen, hl, hstt⟩ := cw
  have hK : Back l R p e below s args y 3 8 (PreOf R mc ms Pc) (PostOf Qc mc ms free) := va_backW (hh := hh) (bytes := bytes) (maxL := maxL) (ret := ret) hM hp.1 hrc hrs hfr hlo hws hcw (fun a' U hW => word_at hW (Or.inl (by first | rfl | simp [Cond.onTables, Cond.keeps, Cond.steady])) hini)
  obtain ⟨hx, hb, hml, ho, -⟩ := S
  intro T hT X
  obtain ⟨v, vm₁, ⟨U', l2, c2, s2⟩, hW₁, X', ⟨g', mk, t, L, e1, e2, hq, h1, hL, h2, h3⟩, st⟩ := vx_callSW X hx (hh := hh) (bytes := bytes) (maxL := maxL) (ret := ret) ho hl hstt hini hcode hy hK hg (hsize.trans hml.symm) (argsL := As) (rest := rest) (fun sig h => hn.trans (hlen sig h)) hstack hW (by rw [hb]; exact hdg)
    (fun vm₁ hW₁ => ⟨hf.1, hf.2, hp.2 (T.setVm vm₁) hT hW₁⟩)
  dsimp only [Pt.U, Pt.locs, Pt.cells, Pt.slots] at X' e1 e2 h1 h2 h3 st
  subst h1; subst h2; subst h3
  exact ⟨v, (T.setVm vm₁).calling g' mk As.toArray, t, U', L, hT, X', hL, e1, e2, hq, st⟩
end VXS
theorem vr_outer (c : ClassId) (N h0 : Nat) : ∀ i : Nat, Jvm.Free.Multi.outerC c N h0 i = arrV c N (fun j => va_rf (if j < i then some (h0 + 1 + j) else none))
  | 0 => by
    show ({ cls := c, slots := Array.replicate N .null, vm := .none } : Cell) = _
    rw [arrV_new]
    refine congrArg (arrV c N) (funext fun j => ?_)
    simp [va_rf]
  | i + 1 => by
    show (Jvm.Free.Multi.outerC c N h0 i).setSlot i (.ref (h0 + 1 + i)) = _
    rw [vr_outer c N h0 i, arrV_store]
    refine congrArg (arrV c N) (funext fun j => ?_)
    by_cases e : j = i
    · subst e
      simp [updV, va_rf]
    · by_cases h : j < i
      · simp [updV, e, h, Nat.lt_succ_of_lt h]
      · simp [updV, e, h, show ¬ j < i + 1 by omega]
end
section
/-! PLACES. The cells that a run reaches are numbered 0, 1, .. : each has a kind (0..6: the class by its place in vwCl; 20 int[]; 21 boolean[]; 22 int[][]), a length, and its references (none: a whole number stands there). The whole numbers lie in a memory that may leave places open ('none': nothing is known, nothing may be read). A real heap holds such a picture at addresses al (k + 1); al 0 is the law's script. -/
abbrev jj_Sh : Type := Nat × Nat × List (Option (Option Nat))
abbrev jj_Lay : Type := List jj_Sh
abbrev jj_Mem : Type := Nat → Nat → Option Int32
abbrev jj_C : Type := Nat × List (Option Value) × List Value × jj_Lay × jj_Mem
abbrev jj_G : Type := ClassId × ClassId × ClassId
def jj_v (al : Nat → Nat) : Value → Value
  | .ref p => .ref (al (p + 1))
  | .int x => .int x
  | .long x => .long x
  | .float x => .float x
  | .double x => .double x
  | .null => .null
  | .retAddr _ => .ref (al 0)
theorem jj_v_cat (al : Nat → Nat) (v : Value) : (jj_v al v).category = v.category := by cases v <;> rfl
def jj_fld (al : Nat → Nat) (t : Nat → Int32) (rs : List (Option (Option Nat))) (j : Nat) : Value :=
  match rs[j]? with
  | some (some r) => va_rf (r.map fun q => al (q + 1))
  | _ => .int (t j)
def jj_el (al : Nat → Nat) (rs : List (Option (Option Nat))) (j : Nat) : Option Nat :=
  match rs[j]? with
  | some (some r) => r.map fun q => al (q + 1)
  | _ => none
def jj_cell (g : jj_G) (al : Nat → Nat) (t : Nat → Int32) (c : jj_Sh) : va_E :=
  if c.1 = 20 then .inl (g.1, c.2.1, .inl t)
  else if c.1 = 21 then .inl (g.2.1, c.2.1, .inl t)
  else if c.1 = 22 then .inl (g.2.2, c.2.1, .inr (.inr (.inr (.inr (jj_el al c.2.2)))))
  else .inr (c.1, (List.range c.2.1).map (jj_fld al t c.2.2))
def jj_W (g : jj_G) (al : Nat → Nat) (t : Nat → Nat → Int32) (lay : jj_Lay) : va_W := lay.mapIdx (fun k c => (al (k + 1), jj_cell g al (t k) c))
theorem jj_W_at {g : jj_G} {al : Nat → Nat} {t : Nat → Nat → Int32} {lay : jj_Lay} {k : Nat} {c : jj_Sh} (h : lay[k]? = some c) : (jj_W g al t lay)[k]? = some (al (k + 1), jj_cell g al (t k) c) := by
  unfold jj_W
  rw [List.getElem?_mapIdx, h]
  rfl
theorem jj_W_inv {g : jj_G} {al : Nat → Nat} {t : Nat → Nat → Int32} {lay : jj_Lay} {k : Nat} {q : Nat × va_E} (h : (jj_W g al t lay)[k]? = some q) : ∃ c, lay[k]? = some c ∧ q = (al (k + 1), jj_cell g al (t k) c) := by
  unfold jj_W at h
  rw [List.getElem?_mapIdx] at h
  cases hc : lay[k]? with
  | none => rw [hc] at h; cases h
  | some c => rw [hc] at h; cases h; exact ⟨c, rfl, rfl⟩
theorem jj_W_set {g : jj_G} {al : Nat → Nat} {t t' : Nat → Nat → Int32} {lay : jj_Lay} {k : Nat} {c' : jj_Sh} (hk : k < lay.length) (ht : ∀ q, q ≠ k → t' q = t q) : (jj_W g al t lay).set k (al (k + 1), jj_cell g al (t' k) c') = jj_W g al t' (lay.set k c') := by
  apply List.ext_getElem?
  intro q
  simp only [jj_W, List.getElem?_set, List.getElem?_mapIdx, List.length_mapIdx]
  by_cases h : k = q
  · subst h
    simp [hk]
  · simp only [if_neg h]
    rw [ht q (Ne.symm h)]
theorem jj_set_same {α : Type} {lay : List α} {k : Nat} {c : α} (h : lay[k]? = some c) : lay.set k c = lay := by
  apply List.ext_getElem?
  intro q
  rw [List.getElem?_set]
  by_cases e : k = q
  · subst e
    rw [if_pos rfl, if_pos (List.getElem?_eq_some_iff.mp h).1, h]
  · rw [if_neg e]
/-- one place of the memory anew -/
def jj_w (S : jj_Mem) (k i : Nat) (x : Int32) : jj_Mem := fun q j => if q = k ∧ j = i then some x else S q j
def jj_u2 (t : Nat → Nat → Int32) (k i : Nat) (x : Int32) : Nat → Nat → Int32 := fun q j => if q = k ∧ j = i then x else t q j
def jj_ext (S : jj_Mem) (t : Nat → Nat → Int32) : Prop := ∀ (p j : Nat) (x : Int32), S p j = some x → t p j = x
theorem jj_ext_w {S : jj_Mem} {t : Nat → Nat → Int32} {k i : Nat} {x : Int32} (h : jj_ext S t) : jj_ext (jj_w S k i x) (jj_u2 t k i x) := by
  intro p j y hy
  unfold jj_w at hy
  unfold jj_u2
  by_cases e : p = k ∧ j = i
  · rw [if_pos e] at hy ⊢
    exact Option.some.inj hy
  · rw [if_neg e] at hy ⊢
    exact h p j y hy
theorem jj_u2_at (t : Nat → Nat → Int32) (k i : Nat) (x : Int32) : jj_u2 t k i x k = upd (t k) i x := by
  funext j
  unfold jj_u2 upd
  by_cases e : j = i
  · rw [if_pos ⟨rfl, e⟩, if_pos e]
  · rw [if_neg (fun q => e q.2), if_neg e]
theorem jj_u2_ne (t : Nat → Nat → Int32) {k i : Nat} {x : Int32} (q : Nat) (h : q ≠ k) : jj_u2 t k i x q = t q := by
  funext j
  unfold jj_u2
  rw [if_neg (fun e => h e.1)]
theorem jj_w_at (S : jj_Mem) (k i : Nat) (x : Int32) : jj_w S k i x k i = some x := if_pos ⟨rfl, rfl⟩
theorem jj_w_neP {S : jj_Mem} {k i : Nat} {x : Int32} {q j : Nat} (h : q ≠ k) : jj_w S k i x q j = S q j := if_neg (fun e => h e.1)
theorem jj_w_neI {S : jj_Mem} {k i : Nat} {x : Int32} {q j : Nat} (h : j ≠ i) : jj_w S k i x q j = S q j := if_neg (fun e => h e.2)
/-- the slots of all cells -/
def jj_sl : jj_Lay → Nat
  | [] => 0
  | c :: r => c.2.1 + jj_sl r
theorem jj_sl_app (a b : jj_Lay) : jj_sl (a ++ b) = jj_sl a + jj_sl b := by
  induction a with
  | nil => show jj_sl b = 0 + jj_sl b; omega
  | cons c r ih => show c.2.1 + jj_sl (r ++ b) = (c.2.1 + jj_sl r) + jj_sl b; rw [ih]; omega
-- locals: a list of the frame's places; none: nothing is known of it
def jj_asg (al : Nat → Nat) : Nat → List (Option Value) → List (Nat × Value)
  | _, [] => []
  | i, none :: r => jj_asg al (i + 1) r
  | i, some v :: r => (i, jj_v al v) :: jj_asg al (i + 1) r
theorem jj_asg_mem {al : Nat → Nat} {L : List (Option Value)} {q : Nat × Value} : ∀ {i : Nat}, q ∈ jj_asg al i L ↔ ∃ (j : Nat) (v : Value), L[j]? = some (some v) ∧ q = (i + j, jj_v al v) := by
  induction L with
  | nil => intro i; simp [jj_asg]
  | cons a r ih =>
    intro i
    cases a with
    | none =>
      show q ∈ jj_asg al (i + 1) r ↔ _
      rw [ih]
      constructor
      · rintro ⟨j, v, h, e⟩
        exact ⟨j + 1, v, by simpa using h, by rw [e, show i + 1 + j = i + (j + 1) by omega]⟩
      · rintro ⟨j, v, h, e⟩
        cases j with
        | zero => simp at h
        | succ j => exact ⟨j, v, by simpa using h, by rw [e, show i + 1 + j = i + (j + 1) by omega]⟩
    | some w =>
      show q ∈ (i, jj_v al w) :: jj_asg al (i + 1) r ↔ _
      rw [List.mem_cons, ih]
      constructor
      · rintro (h | ⟨j, v, h, e⟩)
        · exact ⟨0, w, rfl, h⟩
        · exact ⟨j + 1, v, by simpa using h, by rw [e, show i + 1 + j = i + (j + 1) by omega]⟩
      · rintro ⟨j, v, h, e⟩
        cases j with
        | zero => left; simp at h; rw [e, h]; rfl
        | succ j => exact Or.inr ⟨j, v, by simpa using h, by rw [e, show i + 1 + j = i + (j + 1) by omega]⟩
def jj_clr1 (L : List (Option Value)) (i : Nat) : List (Option Value) := match L[i]? with
  | some (some v) => if v.category = 2 then L.set i none else L
  | _ => L
def jj_clr (L : List (Option Value)) : Nat → List (Option Value)
  | 0 => L
  | i + 1 => jj_clr1 L i
def jj_st1 (L : List (Option Value)) (i : Nat) (v : Value) : List (Option Value) := (jj_clr L i).set i (some v)
def jj_st2 (L : List (Option Value)) (i : Nat) (v : Value) : List (Option Value) := ((jj_clr L i).set i (some v)).set (i + 1) none
theorem jj_clr_len (L : List (Option Value)) (i : Nat) : (jj_clr L i).length = L.length := by
  cases i with
  | zero => rfl
  | succ i =>
    show (jj_clr1 L i).length = L.length
    unfold jj_clr1
    split
    · split
      · rw [List.length_set]
      · rfl
    · rfl
/-- what stands behind the clearing stood there before, and is no long that reaches into i -/
theorem jj_clr_at {L : List (Option Value)} {i j : Nat} {v : Value} (h : (jj_clr L i)[j]? = some (some v)) : L[j]? = some (some v) ∧ ¬ (j + 1 = i ∧ v.category = 2) := by
  cases i with
  | zero => exact ⟨h, fun q => by omega⟩
  | succ i =>
    replace h : (jj_clr1 L i)[j]? = some (some v) := h
    unfold jj_clr1 at h
    split at h
    · rename_i w hw
      split at h
      · rename_i hc
        rw [List.getElem?_set] at h
        by_cases e : i = j
        · rw [if_pos e] at h
          split at h <;> cases h
        · rw [if_neg e] at h
          exact ⟨h, fun q => e (by omega)⟩
      · rename_i hc
        refine ⟨h, fun q => ?_⟩
        have : j = i := by omega
        subst this
        rw [hw] at h
        cases h
        exact hc q.2
    · rename_i hn
      refine ⟨h, fun q => ?_⟩
      have : j = i := by omega
      subst this
      exact hn v h
theorem jj_st1_sub {al : Nat → Nat} {L : List (Option Value)} {i : Nat} {v : Value} {q : Nat × Value} (h : q ∈ jj_asg al 0 (jj_st1 L i v)) : q ∈ (i, jj_v al v) :: (jj_asg al 0 L).filter (fun q => !(q.1 == i) && !(q.1 + 1 == i && q.2.category == 2)) := by
  obtain ⟨j, w, hj, rfl⟩ := jj_asg_mem.mp h
  unfold jj_st1 at hj
  rw [List.getElem?_set] at hj
  by_cases e : i = j
  · rw [if_pos e] at hj
    split at hj
    · cases hj
      subst e
      rw [Nat.zero_add]
      exact List.mem_cons_self
    · cases hj
  · rw [if_neg e] at hj
    obtain ⟨h1, h2⟩ := jj_clr_at hj
    refine List.mem_cons_of_mem _ (List.mem_filter.mpr ⟨jj_asg_mem.mpr ⟨j, w, h1, rfl⟩, ?_⟩)
    show (!(0 + j == i) && !(0 + j + 1 == i && (jj_v al w).category == 2)) = true
    rw [jj_v_cat, Nat.zero_add]
    simp only [Bool.and_eq_true, Bool.not_eq_true', beq_eq_false_iff_ne, Bool.and_eq_false_iff]
    refine ⟨fun q => e q.symm, ?_⟩
    by_cases c : j + 1 = i
    · exact Or.inr (fun q => h2 ⟨c, q⟩)
    · exact Or.inl c
theorem jj_st2_sub {al : Nat → Nat} {L : List (Option Value)} {i : Nat} {v : Value} {q : Nat × Value} (h : q ∈ jj_asg al 0 (jj_st2 L i v)) : q ∈ (i, jj_v al v) :: (jj_asg al 0 L).filter (fun q => !(q.1 == i) && (!(q.1 == i + 1) && !(q.1 + 1 == i && q.2.category == 2))) := by
  obtain ⟨j, w, hj, rfl⟩ := jj_asg_mem.mp h
  unfold jj_st2 at hj
  rw [List.getElem?_set] at hj
  by_cases e2 : i + 1 = j
  · rw [if_pos e2] at hj
    split at hj <;> cases hj
  · rw [if_neg e2, List.getElem?_set] at hj
    by_cases e : i = j
    · rw [if_pos e] at hj
      split at hj
      · cases hj
        subst e
        rw [Nat.zero_add]
        exact List.mem_cons_self
      · cases hj
    · rw [if_neg e] at hj
      obtain ⟨h1, h2⟩ := jj_clr_at hj
      refine List.mem_cons_of_mem _ (List.mem_filter.mpr ⟨jj_asg_mem.mpr ⟨j, w, h1, rfl⟩, ?_⟩)
      show (!(0 + j == i) && (!(0 + j == i + 1) && !(0 + j + 1 == i && (jj_v al w).category == 2))) = true
      rw [jj_v_cat, Nat.zero_add]
      simp only [Bool.and_eq_true, Bool.not_eq_true', beq_eq_false_iff_ne, Bool.and_eq_false_iff]
      refine ⟨fun q => e q.symm, fun q => e2 q.symm, ?_⟩
      by_cases c : j + 1 = i
      · exact Or.inr (fun q => h2 ⟨c, q⟩)
      · exact Or.inl c
-- references point at places that are there
def jj_wv (n : Nat) : Value → Prop
  | .ref p => p < n
  | _ => True
def jj_wl (n : Nat) (L : List (Option Value)) : Prop := ∀ v, some v ∈ L → jj_wv n v
def jj_ws (n : Nat) (st : List Value) : Prop := ∀ v ∈ st, jj_wv n v
def jj_wy (lay : jj_Lay) : Prop := ∀ c ∈ lay, ∀ q, some (some q) ∈ c.2.2 → q < lay.length
theorem jj_ws_cons {n : Nat} {v : Value} {st : List Value} (h : jj_wv n v) (hs : jj_ws n st) : jj_ws n (v :: st) := fun w hw => (List.mem_cons.mp hw).elim (fun e => e ▸ h) (hs w)
theorem jj_ws_tl {n : Nat} {v : Value} {st : List Value} (hs : jj_ws n (v :: st)) : jj_ws n st := fun w hw => hs w (List.mem_cons_of_mem _ hw)
theorem jj_ws_hd {n : Nat} {v : Value} {st : List Value} (hs : jj_ws n (v :: st)) : jj_wv n v := hs v List.mem_cons_self
theorem jj_wv_mono {n k : Nat} (h : n ≤ k) {v : Value} (hv : jj_wv n v) : jj_wv k v := by
  cases v <;> first | exact trivial | exact Nat.lt_of_lt_of_le hv h
theorem jj_wl_set {n : Nat} {L : List (Option Value)} {i : Nat} {x : Option Value} (h : jj_wl n L) (hx : ∀ v, x = some v → jj_wv n v) : jj_wl n (L.set i x) := fun v hv => by
  rcases List.mem_or_eq_of_mem_set hv with q | q
  · exact h v q
  · exact hx v q.symm
theorem jj_wl_clr {n : Nat} {L : List (Option Value)} {i : Nat} (h : jj_wl n L) : jj_wl n (jj_clr L i) := by
  cases i with
  | zero => exact h
  | succ i =>
    show jj_wl n (jj_clr1 L i)
    unfold jj_clr1
    split
    · split
      · exact jj_wl_set h (fun v q => by cases q)
      · exact h
    · exact h
theorem jj_wl_st1 {n : Nat} {L : List (Option Value)} {i : Nat} {v : Value} (h : jj_wl n L) (hv : jj_wv n v) : jj_wl n (jj_st1 L i v) := jj_wl_set (jj_wl_clr h) (fun w q => by cases q; exact hv)
theorem jj_wl_st2 {n : Nat} {L : List (Option Value)} {i : Nat} {v : Value} (h : jj_wl n L) (hv : jj_wv n v) : jj_wl n (jj_st2 L i v) := jj_wl_set (jj_wl_set (jj_wl_clr h) (fun w q => by cases q; exact hv)) (fun w q => by cases q)
theorem jj_st1_len (L : List (Option Value)) (i : Nat) (v : Value) : (jj_st1 L i v).length = L.length := by unfold jj_st1; rw [List.length_set, jj_clr_len]
theorem jj_st2_len (L : List (Option Value)) (i : Nat) (v : Value) : (jj_st2 L i v).length = L.length := by unfold jj_st2; rw [List.length_set, List.length_set, jj_clr_len]
-- the tables' words: those that stay good everywhere, and the links between nest mates
def jj_gW : List Cond := lw_tbl.filter goodWord
def jj_isN : Cond → Bool
  | .fieldLinkNest .. => true
  | .methodLinkNest .. => true
  | .arrayOver _ => true
  | _ => false
def jj_nW : List Cond := lw_tbl.filter jj_isN
theorem jj_gW_good : ∀ w ∈ jj_gW, (w.onTables && w.keeps) = true ∨ ∃ ty, w = .arrayClass ty := fun _ h => good_of_word (List.mem_filter.mp h).2
theorem jj_gW_in (i : Nat) {w : Cond} (h : lw_tbl[i]? = some w) (hg : goodWord w = true) : w ∈ jj_gW := List.mem_filter.mpr ⟨List.mem_of_getElem? h, hg⟩
theorem jj_nW_in (i : Nat) {w : Cond} (h : lw_tbl[i]? = some w) (hg : jj_isN w = true) : w ∈ jj_nW := List.mem_filter.mpr ⟨List.mem_of_getElem? h, hg⟩
theorem jj_ao_vm {ty : FieldType} {A B : Array Value} {u U : State} (h : u.vm = U.vm) (hz : (Cond.arrayOver ty).before A u = true) : (Cond.arrayOver ty).before B U = true := by
  unfold Cond.before Cond.holds at hz ⊢
  simp only [Cond.value] at hz ⊢
  rw [← h]
  exact hz
theorem jj_nW_warm {s U : State} (hW : s.WarmedH U.vm) (h : ∀ w ∈ jj_nW, va_Nw w s) : ∀ w ∈ jj_nW, va_Nw w U := by
  intro w hw
  have hn := (List.mem_filter.mp hw).2
  have h1 := h w hw
  cases w <;> first | exact va_Nw.warmF hW h1 | exact va_Nw.warmM hW h1 | (rename_i ty; exact jj_ao_vm (u := s.setVm U.vm) (U := U) (A := #[]) rfl (by rw [Cond.arrayOver_setVmC hW.alike]; exact h1)) | cases hn
def jj_ty (ci : Nat) : Nat → FieldType := match ci with
  | 0 => tyX0 | 1 => tyX1 | 2 => tyX2 | 3 => tyX3 | 4 => tyX4 | 5 => tyX5 | _ => tyX6
theorem jj_u0 : ∀ w ∈ u_ws RX0 TX0 7, w ∈ jj_gW := by decide +kernel
theorem jj_u1 : ∀ w ∈ u_ws RX1 TX1 12, w ∈ jj_gW := by decide +kernel
theorem jj_u2w : ∀ w ∈ u_ws RX2 TX2 8, w ∈ jj_gW := by decide +kernel
theorem jj_u3 : ∀ w ∈ u_ws RX3 TX3 3, w ∈ jj_gW := by decide +kernel
theorem jj_u4 : ∀ w ∈ u_ws RX4 TX4 7, w ∈ jj_gW := by decide +kernel
theorem jj_u5 : ∀ w ∈ u_ws RX5 TX5 1, w ∈ jj_gW := by decide +kernel
theorem jj_u6 : ∀ w ∈ u_ws RX6 TX6 11, w ∈ jj_gW := by decide +kernel
theorem jj_cls {ci : Nat} {C : String} {T : u_T} {N : Nat} (h : vwCl[ci]? = some (C, T, N)) : (∀ w ∈ u_ws C T N, w ∈ jj_gW) ∧ (∀ k, k < N → parseFieldDescriptor (T k).2.2.1 = some (jj_ty ci k)) ∧ (∀ a, a < N → ∀ b, b < N → a ≠ b → (T a).2.1 ≠ (T b).2.1) ∧ ci < 7 := by
  match ci, h with
  | 0, h => cases h; exact ⟨jj_u0, tyX0_ok, nmX0, by decide⟩
  | 1, h => cases h; exact ⟨jj_u1, tyX1_ok, nmX1, by decide⟩
  | 2, h => cases h; exact ⟨jj_u2w, tyX2_ok, nmX2, by decide⟩
  | 3, h => cases h; exact ⟨jj_u3, tyX3_ok, nmX3, by decide⟩
  | 4, h => cases h; exact ⟨jj_u4, tyX4_ok, nmX4, by decide⟩
  | 5, h => cases h; exact ⟨jj_u5, tyX5_ok, nmX5, by decide⟩
  | 6, h => cases h; exact ⟨jj_u6, tyX6_ok, nmX6, by decide⟩
  | k + 7, h => simp [vwCl] at h
end
section
/-! RULES. jj_R: from the configuration c (pc, locals, operand stack, cells, memory) of a method's frame the machine comes to c', in every heap that holds the picture. A rule an instruction; their machine side is the kit's. -/
/-- the script, where the method may read it: its length and its ints -/
abbrev jj_X : Type := Option (Nat × (Nat → Int32))
def jj_Cx (p : Program) (s : State) (m : MethodId) (args : Array Value) (meth : Method) (cd : Code) (cc : ByteArray) (nL : Nat) (own nm : String) (sx : jj_X) (D : va_G) (g : jj_G) (A : Nat → Prop) (al0 : Nat → Nat) : Prop :=
  p.tables.exec = Jvm.exec ∧ cd.code = cc ∧ cd.maxLocals = nL ∧ s.vm.findClass own = some m.cls ∧ meth.name = nm ∧ (∀ w ∈ jj_gW, w.before args s = true) ∧ (∀ w ∈ jj_nW, va_Nw w s) ∧ va_K D vwCl [(g.1, .int), (g.2.1, .boolean), (g.2.2, .array .int)] s ∧ (∀ q, s.heap.size ≤ q → A q) ∧
  (∀ y, sx = some y → va_X (al0 0) y.1 y.2 s s.heap ∧ al0 0 < s.heap.size ∧ ¬ A (al0 0))
def jj_Rel (s : State) (D : va_G) (g : jj_G) (A : Nat → Prop) (nL : Nat) (al0 : Nat → Nat) (n0 : Nat) (L : List (Option Value)) (st : List Value) (lay : jj_Lay) (S : jj_Mem) (al : Nat → Nat) (t : Nat → Nat → Int32) (H : Heap) (locs : List Loc) (ls : Array Slot) : Prop :=
  jj_ext S t ∧ va_P D vwCl (jj_W g al t lay) H ∧ va_D A (jj_W g al t lay) ∧ va_S A s.heap H locs ∧ lv_has ls nL (jj_asg al 0 L) ∧ jj_wl lay.length L ∧ jj_ws lay.length st ∧ jj_wy lay ∧ L.length = nL ∧ al 0 = al0 0 ∧ ∀ k, k < n0 → al (k + 1) = al0 (k + 1)
def jj_Wd (p : Program) (l : Launch) (e : Env) (R : Room) (s : State) (m : MethodId) (args : Array Value) (below : List Frame) (meth : Method) (cd : Code) (D : va_G) (g : jj_G) (A : Nat → Prop) (nL : Nat) (al0 : Nat → Nat) (n0 s0 : Nat) (Q : State → Prop) (c : jj_C) : Prop :=
  ∀ (al : Nat → Nat) (t : Nat → Nat → Int32) (H : Heap) (locs : List Loc) (ls : Array Slot) (cells slots : Nat), n0 + cells = c.2.2.2.1.length → s0 + slots = jj_sl c.2.2.2.1 → jj_Rel s D g A nL al0 n0 c.2.1 c.2.2.1 c.2.2.2.1 c.2.2.2.2 al t H locs ls →
    W p l e R s m args below meth cd H locs cells slots Q (F0 m c.1 ls (c.2.2.1.map (jj_v al)))
/-- mu: code, number of locals, own class, name; lim: frames, locals, cells, slots that must be free -/
def jj_R (cc : ByteArray) (nL : Nat) (own nm : String) (sx : jj_X) (fr lo nc sc : Nat) (c c' : jj_C) : Prop :=
  ∀ (p : Program) (l : Launch) (e : Env) (R : Room) (s : State) (m : MethodId) (args : Array Value) (below : List Frame) (meth : Method) (cd : Code) (D : va_G) (g : jj_G) (A : Nat → Prop) (al0 : Nat → Nat) (n0 s0 : Nat) (Q : State → Prop),
    jj_Cx p s m args meth cd cc nL own nm sx D g A al0 → fr ≤ R.frames → lo ≤ R.locals → nc ≤ n0 + R.cells → sc ≤ s0 + R.slots →
    jj_Wd p l e R s m args below meth cd D g A nL al0 n0 s0 Q c' → jj_Wd p l e R s m args below meth cd D g A nL al0 n0 s0 Q c
section JR
variable {cc : ByteArray} {nL : Nat} {own nm : String} {sx : jj_X} {fr lo nc sc : Nat} {cE : jj_C} {pc : Nat} {L : List (Option Value)} {st : List Value} {lay : jj_Lay} {S : jj_Mem}
theorem jj_refl {c : jj_C} : jj_R cc nL own nm sx fr lo nc sc c c := fun _ _ _ _ _ _ _ _ _ _ _ _ _ _ _ _ _ _ _ _ _ _ h => h
theorem jj_tr {c c1 : jj_C} (h1 : jj_R cc nL own nm sx fr lo nc sc c c1) (h2 : jj_R cc nL own nm sx fr lo nc sc c1 cE) : jj_R cc nL own nm sx fr lo nc sc c cE :=
  fun p l e R s m args below meth cd D g A al0 n0 s0 Q a b d f g' h => h1 p l e R s m args below meth cd D g A al0 n0 s0 Q a b d f g' (h2 p l e R s m args below meth cd D g A al0 n0 s0 Q a b d f g' h)
/-- a step on the operand stack alone -/
theorem jj_pure {pc' : Nat} {st' : List Value}
    (h : ∀ {p : Program} {l : Launch} {e : Env} {R : Room} {s : State} {m : MethodId} {args : Array Value} {below : List Frame} {meth : Method} {cd : Code} {H : Heap} {locs : List Loc} {cells slots : Nat} {Q : State → Prop} (ls : Array Slot) (al : Nat → Nat), p.tables.exec = Jvm.exec → cd.code = cc → s.vm.findClass own = some m.cls → (∀ w ∈ jj_gW, w.before args s = true) → lv_has ls nL (jj_asg al 0 L) →
      W p l e R s m args below meth cd H locs cells slots Q (F0 m pc' ls (st'.map (jj_v al))) → W p l e R s m args below meth cd H locs cells slots Q (F0 m pc ls (st.map (jj_v al))))
    (hw : ∀ n, jj_wl n L → jj_ws n st → jj_ws n st') (k : jj_R cc nL own nm sx fr lo nc sc (pc', L, st', lay, S) cE) : jj_R cc nL own nm sx fr lo nc sc (pc, L, st, lay, S) cE := by
  intro p l e R s m args below meth cd D g A al0 n0 s0 Q hC hf hl hc hs hE
  have hk := k p l e R s m args below meth cd D g A al0 n0 s0 Q hC hf hl hc hs hE
  intro al t H locs ls cells slots h1 h2 hR
  obtain ⟨hx, hb, hml, hown, hnm, hts, hN, hK, hA, hX⟩ := hC
  obtain ⟨e1, e2, e3, e4, e5, e6, e7, e8⟩ := hR
  exact h ls al hx hb hown hts e5 (hk al t H locs ls cells slots h1 h2 ⟨e1, e2, e3, e4, e5, e6, hw _ e6 e7, e8⟩)
/-- a store into a local, the stack shorter by one -/
theorem jj_stor {pc' : Nat} {v : Value} {L' : List (Option Value)} (hlen : L'.length = L.length)
    (h : ∀ {p : Program} {l : Launch} {e : Env} {R : Room} {s : State} {m : MethodId} {args : Array Value} {below : List Frame} {meth : Method} {cd : Code} {H : Heap} {locs : List Loc} {cells slots : Nat} {Q : State → Prop} (ls : Array Slot) (al : Nat → Nat), p.tables.exec = Jvm.exec → cd.code = cc → lv_has ls nL (jj_asg al 0 L) → L.length = nL →
      (∀ ls', lv_has ls' nL (jj_asg al 0 L') → W p l e R s m args below meth cd H locs cells slots Q (F0 m pc' ls' (st.map (jj_v al)))) → W p l e R s m args below meth cd H locs cells slots Q (F0 m pc ls ((v :: st).map (jj_v al))))
    (hw : ∀ n, jj_wl n L → jj_wv n v → jj_wl n L') (k : jj_R cc nL own nm sx fr lo nc sc (pc', L', st, lay, S) cE) : jj_R cc nL own nm sx fr lo nc sc (pc, L, v :: st, lay, S) cE := by
  intro p l e R s m args below meth cd D g A al0 n0 s0 Q hC hf hl hc hs hE
  have hk := k p l e R s m args below meth cd D g A al0 n0 s0 Q hC hf hl hc hs hE
  intro al t H locs ls cells slots h1 h2 hR
  obtain ⟨hx, hb, hml, hown, hnm, hts, hN, hK, hA, hX⟩ := hC
  obtain ⟨e1, e2, e3, e4, e5, e6, e7, e8, e9, e10⟩ := hR
  exact h ls al hx hb e5 e9 (fun ls' hl' => hk al t H locs ls' cells slots h1 h2 ⟨e1, e2, e3, e4, hl', hw _ e6 (jj_ws_hd e7), jj_ws_tl e7, e8, hlen.trans e9, e10⟩)
theorem jj_lmem {al : Nat → Nat} {ls : Array Slot} {i : Nat} {v : Value} (h : lv_has ls nL (jj_asg al 0 L)) (hv : L[i]? = some (some v)) : ls[i]? = some (.val (jj_v al v)) :=
  h.2.2 (i, jj_v al v) (jj_asg_mem.mpr ⟨i, v, hv, by rw [Nat.zero_add]⟩)
theorem jj_lsub {al : Nat → Nat} {ls : Array Slot} {l : List (Nat × Value)} {L' : List (Option Value)} (h : lv_has ls nL l) (hq : ∀ q ∈ jj_asg al 0 L', q ∈ l) : lv_has ls nL (jj_asg al 0 L') := ⟨h.1, h.2.1, fun q z => h.2.2 q (hq q z)⟩

theorem js_iconst {n : Int} {v : Int32} (hdg : decode cc pc = .ok (.iconst n, 1)) (hv : Int32.ofInt n = v) (k : jj_R cc nL own nm sx fr lo nc sc (pc + 1, L, .int v :: st, lay, S) cE) : jj_R cc nL own nm sx fr lo nc sc (pc, L, st, lay, S) cE :=
  jj_pure (fun ls al hx hb hown hts hl kk => lv_iconst hx hb hdg hv kk) (fun n hL hs => by exact jj_ws_cons trivial hs) k
theorem js_bipush {n : Int} {v : Int32} (hdg : decode cc pc = .ok (.bipush n, 2)) (hv : (Int8.ofInt n).toInt32 = v) (k : jj_R cc nL own nm sx fr lo nc sc (pc + 2, L, .int v :: st, lay, S) cE) : jj_R cc nL own nm sx fr lo nc sc (pc, L, st, lay, S) cE :=
  jj_pure (fun ls al hx hb hown hts hl kk => lv_bipush hx hb hdg hv kk) (fun n hL hs => by exact jj_ws_cons trivial hs) k
theorem js_sipush {n : Int} {v : Int32} (hdg : decode cc pc = .ok (.sipush n, 3)) (hv : (Int16.ofInt n).toInt32 = v) (k : jj_R cc nL own nm sx fr lo nc sc (pc + 3, L, .int v :: st, lay, S) cE) : jj_R cc nL own nm sx fr lo nc sc (pc, L, st, lay, S) cE :=
  jj_pure (fun ls al hx hb hown hts hl kk => lv_sipush hx hb hdg hv kk) (fun n hL hs => by exact jj_ws_cons trivial hs) k
theorem js_ldc {ix : Nat} {v : Int32} (hdg : decode cc pc = .ok (.ldc ix, 2)) (hc : Cond.constant own ix v ∈ jj_gW) (k : jj_R cc nL own nm sx fr lo nc sc (pc + 2, L, .int v :: st, lay, S) cE) : jj_R cc nL own nm sx fr lo nc sc (pc, L, st, lay, S) cE :=
  jj_pure (fun ls al hx hb hown hts hl kk => lv_ldc hx hb hown (hts _ hc) hdg kk) (fun n hL hs => by exact jj_ws_cons trivial hs) k
theorem js_ldc2 {ix : Nat} {v : Int64} (hdg : decode cc pc = .ok (.ldc2_w ix, 3)) (hc : Cond.constantLong own ix v ∈ jj_gW) (k : jj_R cc nL own nm sx fr lo nc sc (pc + 3, L, .long v :: st, lay, S) cE) : jj_R cc nL own nm sx fr lo nc sc (pc, L, st, lay, S) cE :=
  jj_pure (fun ls al hx hb hown hts hl kk => lv_ldc2 hx hb hown (hts _ hc) hdg kk) (fun n hL hs => by exact jj_ws_cons trivial hs) k
theorem js_iload_n {q : Fin 4} {x : Int32} (i : Nat) (hi : (q : Nat) = i) (hdg : decode cc pc = .ok (.iload_n q, 1)) (hv : L[i]? = some (some (.int x))) (k : jj_R cc nL own nm sx fr lo nc sc (pc + 1, L, .int x :: st, lay, S) cE) : jj_R cc nL own nm sx fr lo nc sc (pc, L, st, lay, S) cE :=
  jj_pure (fun ls al hx hb hown hts hl kk => lv_iload_n hx hb hdg hi (jj_lmem hl hv) kk) (fun n hL hs => by exact jj_ws_cons (trivial) hs) k
theorem js_iload {i : Nat} {x : Int32} (hdg : decode cc pc = .ok (.iload i, 2)) (hv : L[i]? = some (some (.int x))) (k : jj_R cc nL own nm sx fr lo nc sc (pc + 2, L, .int x :: st, lay, S) cE) : jj_R cc nL own nm sx fr lo nc sc (pc, L, st, lay, S) cE :=
  jj_pure (fun ls al hx hb hown hts hl kk => lv_iload hx hb hdg (jj_lmem hl hv) kk) (fun n hL hs => by exact jj_ws_cons (trivial) hs) k
theorem js_lload_n {q : Fin 4} {x : Int64} (i : Nat) (hi : (q : Nat) = i) (hdg : decode cc pc = .ok (.lload_n q, 1)) (hv : L[i]? = some (some (.long x))) (k : jj_R cc nL own nm sx fr lo nc sc (pc + 1, L, .long x :: st, lay, S) cE) : jj_R cc nL own nm sx fr lo nc sc (pc, L, st, lay, S) cE :=
  jj_pure (fun ls al hx hb hown hts hl kk => lv_lload_n hx hb hdg hi (jj_lmem hl hv) kk) (fun n hL hs => by exact jj_ws_cons (trivial) hs) k
theorem js_lload {i : Nat} {x : Int64} (hdg : decode cc pc = .ok (.lload i, 2)) (hv : L[i]? = some (some (.long x))) (k : jj_R cc nL own nm sx fr lo nc sc (pc + 2, L, .long x :: st, lay, S) cE) : jj_R cc nL own nm sx fr lo nc sc (pc, L, st, lay, S) cE :=
  jj_pure (fun ls al hx hb hown hts hl kk => lv_lload hx hb hdg (jj_lmem hl hv) kk) (fun n hL hs => by exact jj_ws_cons (trivial) hs) k
theorem js_aload_n {q : Fin 4} {x : Nat} (i : Nat) (hi : (q : Nat) = i) (hdg : decode cc pc = .ok (.aload_n q, 1)) (hv : L[i]? = some (some (.ref x))) (k : jj_R cc nL own nm sx fr lo nc sc (pc + 1, L, .ref x :: st, lay, S) cE) : jj_R cc nL own nm sx fr lo nc sc (pc, L, st, lay, S) cE :=
  jj_pure (fun ls al hx hb hown hts hl kk => lv_aload_n hx hb hdg hi (jj_lmem hl hv) kk) (fun n hL hs => by exact jj_ws_cons (hL _ (List.mem_of_getElem? hv)) hs) k
theorem js_aload {i : Nat} {x : Nat} (hdg : decode cc pc = .ok (.aload i, 2)) (hv : L[i]? = some (some (.ref x))) (k : jj_R cc nL own nm sx fr lo nc sc (pc + 2, L, .ref x :: st, lay, S) cE) : jj_R cc nL own nm sx fr lo nc sc (pc, L, st, lay, S) cE :=
  jj_pure (fun ls al hx hb hown hts hl kk => lv_aload hx hb hdg (jj_lmem hl hv) kk) (fun n hL hs => by exact jj_ws_cons (hL _ (List.mem_of_getElem? hv)) hs) k
theorem js_xload_n {q : Fin 4} {x : Nat} (i : Nat) (hi : (q : Nat) = i) (hdg : decode cc pc = .ok (.aload_n q, 1)) (hv : L[i]? = some (some (.retAddr x))) (k : jj_R cc nL own nm sx fr lo nc sc (pc + 1, L, .retAddr x :: st, lay, S) cE) : jj_R cc nL own nm sx fr lo nc sc (pc, L, st, lay, S) cE :=
  jj_pure (fun ls al hx hb hown hts hl kk => lv_aload_n hx hb hdg hi (jj_lmem hl hv) kk) (fun n hL hs => by exact jj_ws_cons trivial hs) k
theorem js_istore_n {q : Fin 4} {x : Int32} {L' : List (Option Value)} (i : Nat) (hi : (q : Nat) = i) (hdg : decode cc pc = .ok (.istore_n q, 1)) (hL : jj_st1 L i (.int x) = L') (hn : i < L.length) (k : jj_R cc nL own nm sx fr lo nc sc (pc + 1, L', st, lay, S) cE) : jj_R cc nL own nm sx fr lo nc sc (pc, L, .int x :: st, lay, S) cE :=
  jj_stor (by rw [← hL]; exact jj_st1_len _ _ _) (fun ls al hx hb hl hn2 kk => lv_istore_n hx hb hdg hi hl (by omega) rfl (fun ls2 h2 => kk ls2 (jj_lsub h2 (fun q hq => jj_st1_sub (v := .int x) (by rw [hL]; exact hq))))) (fun n h hv => by rw [← hL]; exact jj_wl_st1 h hv) k
theorem js_istore {i : Nat} {x : Int32} {L' : List (Option Value)} (hdg : decode cc pc = .ok (.istore i, 2)) (hL : jj_st1 L i (.int x) = L') (hn : i < L.length) (k : jj_R cc nL own nm sx fr lo nc sc (pc + 2, L', st, lay, S) cE) : jj_R cc nL own nm sx fr lo nc sc (pc, L, .int x :: st, lay, S) cE :=
  jj_stor (by rw [← hL]; exact jj_st1_len _ _ _) (fun ls al hx hb hl hn2 kk => lv_istore hx hb hdg hl (by omega) rfl (fun ls2 h2 => kk ls2 (jj_lsub h2 (fun q hq => jj_st1_sub (v := .int x) (by rw [hL]; exact hq))))) (fun n h hv => by rw [← hL]; exact jj_wl_st1 h hv) k
theorem js_astore_n {q : Fin 4} {x : Nat} {L' : List (Option Value)} (i : Nat) (hi : (q : Nat) = i) (hdg : decode cc pc = .ok (.astore_n q, 1)) (hL : jj_st1 L i (.ref x) = L') (hn : i < L.length) (k : jj_R cc nL own nm sx fr lo nc sc (pc + 1, L', st, lay, S) cE) : jj_R cc nL own nm sx fr lo nc sc (pc, L, .ref x :: st, lay, S) cE :=
  jj_stor (by rw [← hL]; exact jj_st1_len _ _ _) (fun ls al hx hb hl hn2 kk => lv_astore_n hx hb hdg hi hl (by omega) rfl (fun ls2 h2 => kk ls2 (jj_lsub h2 (fun q hq => jj_st1_sub (v := .ref x) (by rw [hL]; exact hq))))) (fun n h hv => by rw [← hL]; exact jj_wl_st1 h hv) k
theorem js_astore {i : Nat} {x : Nat} {L' : List (Option Value)} (hdg : decode cc pc = .ok (.astore i, 2)) (hL : jj_st1 L i (.ref x) = L') (hn : i < L.length) (k : jj_R cc nL own nm sx fr lo nc sc (pc + 2, L', st, lay, S) cE) : jj_R cc nL own nm sx fr lo nc sc (pc, L, .ref x :: st, lay, S) cE :=
  jj_stor (by rw [← hL]; exact jj_st1_len _ _ _) (fun ls al hx hb hl hn2 kk => lv_astore hx hb hdg hl (by omega) rfl (fun ls2 h2 => kk ls2 (jj_lsub h2 (fun q hq => jj_st1_sub (v := .ref x) (by rw [hL]; exact hq))))) (fun n h hv => by rw [← hL]; exact jj_wl_st1 h hv) k
theorem js_lstore_n {q : Fin 4} {x : Int64} {L' : List (Option Value)} (i : Nat) (hi : (q : Nat) = i) (hdg : decode cc pc = .ok (.lstore_n q, 1)) (hL : jj_st2 L i (.long x) = L') (hn : i + 1 < L.length) (k : jj_R cc nL own nm sx fr lo nc sc (pc + 1, L', st, lay, S) cE) : jj_R cc nL own nm sx fr lo nc sc (pc, L, .long x :: st, lay, S) cE :=
  jj_stor (by rw [← hL]; exact jj_st2_len _ _ _) (fun ls al hx hb hl hn2 kk => lv_lstore_n hx hb hdg hi hl (by omega) rfl (fun ls2 h2 => kk ls2 (jj_lsub h2 (fun q hq => jj_st2_sub (v := .long x) (by rw [hL]; exact hq))))) (fun n h hv => by rw [← hL]; exact jj_wl_st2 h hv) k
theorem js_lstore {i : Nat} {x : Int64} {L' : List (Option Value)} (hdg : decode cc pc = .ok (.lstore i, 2)) (hL : jj_st2 L i (.long x) = L') (hn : i + 1 < L.length) (k : jj_R cc nL own nm sx fr lo nc sc (pc + 2, L', st, lay, S) cE) : jj_R cc nL own nm sx fr lo nc sc (pc, L, .long x :: st, lay, S) cE :=
  jj_stor (by rw [← hL]; exact jj_st2_len _ _ _) (fun ls al hx hb hl hn2 kk => lv_lstore hx hb hdg hl (by omega) rfl (fun ls2 h2 => kk ls2 (jj_lsub h2 (fun q hq => jj_st2_sub (v := .long x) (by rw [hL]; exact hq))))) (fun n h hv => by rw [← hL]; exact jj_wl_st2 h hv) k
theorem js_iinc {i : Nat} {n : Int} {x v : Int32} {L' : List (Option Value)} (hdg : decode cc pc = .ok (.iinc i n, 3)) (hx0 : L[i]? = some (some (.int x))) (hv : x + Int32.ofInt n = v) (hL : jj_st1 L i (.int v) = L') (k : jj_R cc nL own nm sx fr lo nc sc (pc + 3, L', st, lay, S) cE) : jj_R cc nL own nm sx fr lo nc sc (pc, L, st, lay, S) cE := by
  intro p l e R s m args below meth cd D g A al0 n0 s0 Q hC hf hl hc hs hE
  have hk := k p l e R s m args below meth cd D g A al0 n0 s0 Q hC hf hl hc hs hE
  intro al t H locs ls cells slots h1 h2 hR
  obtain ⟨hx, hb, hml, hown, hnm, hts, hN, hK, hA, hX⟩ := hC
  obtain ⟨e1, e2, e3, e4, e5, e6, e7, e8, e9, e10⟩ := hR
  obtain ⟨j, hj⟩ := List.getElem?_of_mem (jj_asg_mem (al := al) (i := 0).mpr ⟨i, .int x, hx0, rfl⟩)
  have hi : i < nL := by rw [← e9]; exact (List.getElem?_eq_some_iff.mp hx0).1
  rw [Nat.zero_add] at hj
  refine lv_iinc (k := j) hx hb hdg e5 hj hv hi rfl (fun ls2 hl2 => ?_)
  exact hk al t H locs ls2 cells slots h1 h2 ⟨e1, e2, e3, e4, jj_lsub hl2 (fun q hq => jj_st1_sub (v := .int v) (by rw [hL]; exact hq)), by rw [← hL]; exact jj_wl_st1 e6 trivial, e7, e8, by rw [← hL, jj_st1_len]; exact e9, e10⟩
theorem js_iadd {x y : Int32} (hdg : decode cc pc = .ok (.iadd, 1)) (k : jj_R cc nL own nm sx fr lo nc sc (pc + 1, L, .int (x + y) :: st, lay, S) cE) : jj_R cc nL own nm sx fr lo nc sc (pc, L, .int y :: .int x :: st, lay, S) cE :=
  jj_pure (fun ls al hx hb hown hts hl kk => lv_iadd hx hb hdg kk) (fun n hL hs => by exact jj_ws_cons trivial (jj_ws_tl (jj_ws_tl hs))) k
theorem js_isub {x y : Int32} (hdg : decode cc pc = .ok (.isub, 1)) (k : jj_R cc nL own nm sx fr lo nc sc (pc + 1, L, .int (x - y) :: st, lay, S) cE) : jj_R cc nL own nm sx fr lo nc sc (pc, L, .int y :: .int x :: st, lay, S) cE :=
  jj_pure (fun ls al hx hb hown hts hl kk => lv_isub hx hb hdg kk) (fun n hL hs => by exact jj_ws_cons trivial (jj_ws_tl (jj_ws_tl hs))) k
theorem js_imul {x y : Int32} (hdg : decode cc pc = .ok (.imul, 1)) (k : jj_R cc nL own nm sx fr lo nc sc (pc + 1, L, .int (x * y) :: st, lay, S) cE) : jj_R cc nL own nm sx fr lo nc sc (pc, L, .int y :: .int x :: st, lay, S) cE :=
  jj_pure (fun ls al hx hb hown hts hl kk => lv_imul hx hb hdg kk) (fun n hL hs => by exact jj_ws_cons trivial (jj_ws_tl (jj_ws_tl hs))) k
theorem js_iand {x y : Int32} (hdg : decode cc pc = .ok (.iand, 1)) (k : jj_R cc nL own nm sx fr lo nc sc (pc + 1, L, .int (x &&& y) :: st, lay, S) cE) : jj_R cc nL own nm sx fr lo nc sc (pc, L, .int y :: .int x :: st, lay, S) cE :=
  jj_pure (fun ls al hx hb hown hts hl kk => lv_iand hx hb hdg kk) (fun n hL hs => by exact jj_ws_cons trivial (jj_ws_tl (jj_ws_tl hs))) k
theorem js_ior {x y : Int32} (hdg : decode cc pc = .ok (.ior, 1)) (k : jj_R cc nL own nm sx fr lo nc sc (pc + 1, L, .int (x ||| y) :: st, lay, S) cE) : jj_R cc nL own nm sx fr lo nc sc (pc, L, .int y :: .int x :: st, lay, S) cE :=
  jj_pure (fun ls al hx hb hown hts hl kk => lv_ior hx hb hdg kk) (fun n hL hs => by exact jj_ws_cons trivial (jj_ws_tl (jj_ws_tl hs))) k
theorem js_ixor {x y : Int32} (hdg : decode cc pc = .ok (.ixor, 1)) (k : jj_R cc nL own nm sx fr lo nc sc (pc + 1, L, .int (x ^^^ y) :: st, lay, S) cE) : jj_R cc nL own nm sx fr lo nc sc (pc, L, .int y :: .int x :: st, lay, S) cE :=
  jj_pure (fun ls al hx hb hown hts hl kk => lv_ixor hx hb hdg kk) (fun n hL hs => by exact jj_ws_cons trivial (jj_ws_tl (jj_ws_tl hs))) k
theorem js_ishl {x y : Int32} (hdg : decode cc pc = .ok (.ishl, 1)) (k : jj_R cc nL own nm sx fr lo nc sc (pc + 1, L, .int (x <<< (y &&& 31)) :: st, lay, S) cE) : jj_R cc nL own nm sx fr lo nc sc (pc, L, .int y :: .int x :: st, lay, S) cE :=
  jj_pure (fun ls al hx hb hown hts hl kk => lv_ishl hx hb hdg kk) (fun n hL hs => by exact jj_ws_cons trivial (jj_ws_tl (jj_ws_tl hs))) k
theorem js_ishr {x y : Int32} (hdg : decode cc pc = .ok (.ishr, 1)) (k : jj_R cc nL own nm sx fr lo nc sc (pc + 1, L, .int (x >>> (y &&& 31)) :: st, lay, S) cE) : jj_R cc nL own nm sx fr lo nc sc (pc, L, .int y :: .int x :: st, lay, S) cE :=
  jj_pure (fun ls al hx hb hown hts hl kk => lv_ishr hx hb hdg kk) (fun n hL hs => by exact jj_ws_cons trivial (jj_ws_tl (jj_ws_tl hs))) k
theorem js_ladd {x y : Int64} (hdg : decode cc pc = .ok (.ladd, 1)) (k : jj_R cc nL own nm sx fr lo nc sc (pc + 1, L, .long (x + y) :: st, lay, S) cE) : jj_R cc nL own nm sx fr lo nc sc (pc, L, .long y :: .long x :: st, lay, S) cE :=
  jj_pure (fun ls al hx hb hown hts hl kk => lv_ladd hx hb hdg kk) (fun n hL hs => by exact jj_ws_cons trivial (jj_ws_tl (jj_ws_tl hs))) k
theorem js_lmul {x y : Int64} (hdg : decode cc pc = .ok (.lmul, 1)) (k : jj_R cc nL own nm sx fr lo nc sc (pc + 1, L, .long (x * y) :: st, lay, S) cE) : jj_R cc nL own nm sx fr lo nc sc (pc, L, .long y :: .long x :: st, lay, S) cE :=
  jj_pure (fun ls al hx hb hown hts hl kk => lv_lmul hx hb hdg kk) (fun n hL hs => by exact jj_ws_cons trivial (jj_ws_tl (jj_ws_tl hs))) k
theorem js_idiv {x y : Int32} (hdg : decode cc pc = .ok (.idiv, 1)) (hne : ¬ y = 0) (k : jj_R cc nL own nm sx fr lo nc sc (pc + 1, L, .int (x / y) :: st, lay, S) cE) : jj_R cc nL own nm sx fr lo nc sc (pc, L, .int y :: .int x :: st, lay, S) cE :=
  jj_pure (fun ls al hx hb hown hts hl kk => lv_idiv hx hb hdg hne kk) (fun n hL hs => by exact jj_ws_cons trivial (jj_ws_tl (jj_ws_tl hs))) k
theorem js_irem {x y : Int32} (hdg : decode cc pc = .ok (.irem, 1)) (hne : ¬ y = 0) (k : jj_R cc nL own nm sx fr lo nc sc (pc + 1, L, .int (x - x / y * y) :: st, lay, S) cE) : jj_R cc nL own nm sx fr lo nc sc (pc, L, .int y :: .int x :: st, lay, S) cE :=
  jj_pure (fun ls al hx hb hown hts hl kk => lv_irem hx hb hdg hne kk) (fun n hL hs => by exact jj_ws_cons trivial (jj_ws_tl (jj_ws_tl hs))) k
theorem js_i2l {x : Int32} (hdg : decode cc pc = .ok (.i2l, 1)) (k : jj_R cc nL own nm sx fr lo nc sc (pc + 1, L, .long x.toInt64 :: st, lay, S) cE) : jj_R cc nL own nm sx fr lo nc sc (pc, L, .int x :: st, lay, S) cE :=
  jj_pure (fun ls al hx hb hown hts hl kk => lv_i2l hx hb hdg rfl kk) (fun n hL hs => by exact jj_ws_cons trivial (jj_ws_tl hs)) k
theorem js_lcmp {x y : Int64} (hdg : decode cc pc = .ok (.lcmp, 1)) (k : jj_R cc nL own nm sx fr lo nc sc (pc + 1, L, .int (lg_cmp x y) :: st, lay, S) cE) : jj_R cc nL own nm sx fr lo nc sc (pc, L, .long y :: .long x :: st, lay, S) cE :=
  jj_pure (fun ls al hx hb hown hts hl kk => W.lcmp hx hb hdg kk) (fun n hL hs => by exact jj_ws_cons trivial (jj_ws_tl (jj_ws_tl hs))) k
theorem js_dup {v : Value} (hc : v.category = 1) (hdg : decode cc pc = .ok (.dup, 1)) (k : jj_R cc nL own nm sx fr lo nc sc (pc + 1, L, v :: v :: st, lay, S) cE) : jj_R cc nL own nm sx fr lo nc sc (pc, L, v :: st, lay, S) cE :=
  jj_pure (fun ls al hx hb hown hts hl kk => lv_dup hx hb hdg (by rw [jj_v_cat]; exact hc) kk) (fun n hL hs => by exact jj_ws_cons (jj_ws_hd hs) hs) k
theorem js_dup2 {v w : Value} (hc : v.category = 1) (hc2 : w.category = 1) (hdg : decode cc pc = .ok (.dup2, 1)) (k : jj_R cc nL own nm sx fr lo nc sc (pc + 1, L, v :: w :: v :: w :: st, lay, S) cE) : jj_R cc nL own nm sx fr lo nc sc (pc, L, v :: w :: st, lay, S) cE :=
  jj_pure (fun ls al hx hb hown hts hl kk => lv_dup2_11 hx hb hdg (by rw [jj_v_cat]; exact hc) (by rw [jj_v_cat]; exact hc2) kk) (fun n hL hs => by exact jj_ws_cons (jj_ws_hd hs) (jj_ws_cons (jj_ws_hd (jj_ws_tl hs)) hs)) k
theorem js_pop {v : Value} (hc : v.category = 1) (hdg : decode cc pc = .ok (.pop, 1)) (k : jj_R cc nL own nm sx fr lo nc sc (pc + 1, L, st, lay, S) cE) : jj_R cc nL own nm sx fr lo nc sc (pc, L, v :: st, lay, S) cE :=
  jj_pure (fun ls al hx hb hown hts hl kk => lv_pop hx hb hdg (by rw [jj_v_cat]; exact hc) kk) (fun n hL hs => by exact jj_ws_tl hs) k
theorem js_goto {off : Int} (tgt : Nat) (hdg : decode cc pc = .ok (.goto off, 3)) (ht : (pc : Int) + off = (tgt : Int)) (k : jj_R cc nL own nm sx fr lo nc sc (tgt, L, st, lay, S) cE) : jj_R cc nL own nm sx fr lo nc sc (pc, L, st, lay, S) cE :=
  jj_pure (fun ls al hx hb hown hts hl kk => lv_goto hx hb hdg ht kk) (fun n hL hs => by exact hs) k
theorem js_if_eq {x : Int32} {off : Int} (tgt : Nat) (hdg : decode cc pc = .ok (.ifCond .eq off, 3)) (ht : (pc : Int) + off = (tgt : Int)) (kt : x = 0 → jj_R cc nL own nm sx fr lo nc sc (tgt, L, st, lay, S) cE) (kf : ¬ x = 0 → jj_R cc nL own nm sx fr lo nc sc (pc + 3, L, st, lay, S) cE) : jj_R cc nL own nm sx fr lo nc sc (pc, L, .int x :: st, lay, S) cE := by
  intro p l e R s m args below meth cd D g A al0 n0 s0 Q hC hf hl hc hs hE
  have hkt := fun q => kt q p l e R s m args below meth cd D g A al0 n0 s0 Q hC hf hl hc hs hE
  have hkf := fun q => kf q p l e R s m args below meth cd D g A al0 n0 s0 Q hC hf hl hc hs hE
  intro al t H locs ls cells slots h1 h2 hR
  obtain ⟨hx, hb, hml, hown, hnm, hts, hN, hK, hA, hX⟩ := hC
  obtain ⟨e1, e2, e3, e4, e5, e6, e7, e8⟩ := hR
  exact lv_if_eq hx hb hdg ht (fun q => hkt q al t H locs ls cells slots h1 h2 ⟨e1, e2, e3, e4, e5, e6, jj_ws_tl e7, e8⟩) (fun q => hkf q al t H locs ls cells slots h1 h2 ⟨e1, e2, e3, e4, e5, e6, jj_ws_tl e7, e8⟩)
theorem js_icmp_eq {x y : Int32} {off : Int} (tgt : Nat) (hdg : decode cc pc = .ok (.if_icmp .eq off, 3)) (ht : (pc : Int) + off = (tgt : Int)) (kt : x = y → jj_R cc nL own nm sx fr lo nc sc (tgt, L, st, lay, S) cE) (kf : ¬ x = y → jj_R cc nL own nm sx fr lo nc sc (pc + 3, L, st, lay, S) cE) : jj_R cc nL own nm sx fr lo nc sc (pc, L, .int y :: .int x :: st, lay, S) cE := by
  intro p l e R s m args below meth cd D g A al0 n0 s0 Q hC hf hl hc hs hE
  have hkt := fun q => kt q p l e R s m args below meth cd D g A al0 n0 s0 Q hC hf hl hc hs hE
  have hkf := fun q => kf q p l e R s m args below meth cd D g A al0 n0 s0 Q hC hf hl hc hs hE
  intro al t H locs ls cells slots h1 h2 hR
  obtain ⟨hx, hb, hml, hown, hnm, hts, hN, hK, hA, hX⟩ := hC
  obtain ⟨e1, e2, e3, e4, e5, e6, e7, e8⟩ := hR
  exact lv_icmp_eq hx hb hdg ht (fun q => hkt q al t H locs ls cells slots h1 h2 ⟨e1, e2, e3, e4, e5, e6, jj_ws_tl (jj_ws_tl e7), e8⟩) (fun q => hkf q al t H locs ls cells slots h1 h2 ⟨e1, e2, e3, e4, e5, e6, jj_ws_tl (jj_ws_tl e7), e8⟩)
theorem js_if_ne {x : Int32} {off : Int} (tgt : Nat) (hdg : decode cc pc = .ok (.ifCond .ne off, 3)) (ht : (pc : Int) + off = (tgt : Int)) (kt : ¬ x = 0 → jj_R cc nL own nm sx fr lo nc sc (tgt, L, st, lay, S) cE) (kf : x = 0 → jj_R cc nL own nm sx fr lo nc sc (pc + 3, L, st, lay, S) cE) : jj_R cc nL own nm sx fr lo nc sc (pc, L, .int x :: st, lay, S) cE := by
  intro p l e R s m args below meth cd D g A al0 n0 s0 Q hC hf hl hc hs hE
  have hkt := fun q => kt q p l e R s m args below meth cd D g A al0 n0 s0 Q hC hf hl hc hs hE
  have hkf := fun q => kf q p l e R s m args below meth cd D g A al0 n0 s0 Q hC hf hl hc hs hE
  intro al t H locs ls cells slots h1 h2 hR
  obtain ⟨hx, hb, hml, hown, hnm, hts, hN, hK, hA, hX⟩ := hC
  obtain ⟨e1, e2, e3, e4, e5, e6, e7, e8⟩ := hR
  exact lv_if_ne hx hb hdg ht (fun q => hkt q al t H locs ls cells slots h1 h2 ⟨e1, e2, e3, e4, e5, e6, jj_ws_tl e7, e8⟩) (fun q => hkf q al t H locs ls cells slots h1 h2 ⟨e1, e2, e3, e4, e5, e6, jj_ws_tl e7, e8⟩)
theorem js_icmp_ne {x y : Int32} {off : Int} (tgt : Nat) (hdg : decode cc pc = .ok (.if_icmp .ne off, 3)) (ht : (pc : Int) + off = (tgt : Int)) (kt : ¬ x = y → jj_R cc nL own nm sx fr lo nc sc (tgt, L, st, lay, S) cE) (kf : x = y → jj_R cc nL own nm sx fr lo nc sc (pc + 3, L, st, lay, S) cE) : jj_R cc nL own nm sx fr lo nc sc (pc, L, .int y :: .int x :: st, lay, S) cE := by
  intro p l e R s m args below meth cd D g A al0 n0 s0 Q hC hf hl hc hs hE
  have hkt := fun q => kt q p l e R s m args below meth cd D g A al0 n0 s0 Q hC hf hl hc hs hE
  have hkf := fun q => kf q p l e R s m args below meth cd D g A al0 n0 s0 Q hC hf hl hc hs hE
  intro al t H locs ls cells slots h1 h2 hR
  obtain ⟨hx, hb, hml, hown, hnm, hts, hN, hK, hA, hX⟩ := hC
  obtain ⟨e1, e2, e3, e4, e5, e6, e7, e8⟩ := hR
  exact lv_icmp_ne hx hb hdg ht (fun q => hkt q al t H locs ls cells slots h1 h2 ⟨e1, e2, e3, e4, e5, e6, jj_ws_tl (jj_ws_tl e7), e8⟩) (fun q => hkf q al t H locs ls cells slots h1 h2 ⟨e1, e2, e3, e4, e5, e6, jj_ws_tl (jj_ws_tl e7), e8⟩)
theorem js_if_lt {x : Int32} {off : Int} (tgt : Nat) (hdg : decode cc pc = .ok (.ifCond .lt off, 3)) (ht : (pc : Int) + off = (tgt : Int)) (kt : x < 0 → jj_R cc nL own nm sx fr lo nc sc (tgt, L, st, lay, S) cE) (kf : ¬ x < 0 → jj_R cc nL own nm sx fr lo nc sc (pc + 3, L, st, lay, S) cE) : jj_R cc nL own nm sx fr lo nc sc (pc, L, .int x :: st, lay, S) cE := by
  intro p l e R s m args below meth cd D g A al0 n0 s0 Q hC hf hl hc hs hE
  have hkt := fun q => kt q p l e R s m args below meth cd D g A al0 n0 s0 Q hC hf hl hc hs hE
  have hkf := fun q => kf q p l e R s m args below meth cd D g A al0 n0 s0 Q hC hf hl hc hs hE
  intro al t H locs ls cells slots h1 h2 hR
  obtain ⟨hx, hb, hml, hown, hnm, hts, hN, hK, hA, hX⟩ := hC
  obtain ⟨e1, e2, e3, e4, e5, e6, e7, e8⟩ := hR
  exact lv_if_lt hx hb hdg ht (fun q => hkt q al t H locs ls cells slots h1 h2 ⟨e1, e2, e3, e4, e5, e6, jj_ws_tl e7, e8⟩) (fun q => hkf q al t H locs ls cells slots h1 h2 ⟨e1, e2, e3, e4, e5, e6, jj_ws_tl e7, e8⟩)
theorem js_icmp_lt {x y : Int32} {off : Int} (tgt : Nat) (hdg : decode cc pc = .ok (.if_icmp .lt off, 3)) (ht : (pc : Int) + off = (tgt : Int)) (kt : x < y → jj_R cc nL own nm sx fr lo nc sc (tgt, L, st, lay, S) cE) (kf : ¬ x < y → jj_R cc nL own nm sx fr lo nc sc (pc + 3, L, st, lay, S) cE) : jj_R cc nL own nm sx fr lo nc sc (pc, L, .int y :: .int x :: st, lay, S) cE := by
  intro p l e R s m args below meth cd D g A al0 n0 s0 Q hC hf hl hc hs hE
  have hkt := fun q => kt q p l e R s m args below meth cd D g A al0 n0 s0 Q hC hf hl hc hs hE
  have hkf := fun q => kf q p l e R s m args below meth cd D g A al0 n0 s0 Q hC hf hl hc hs hE
  intro al t H locs ls cells slots h1 h2 hR
  obtain ⟨hx, hb, hml, hown, hnm, hts, hN, hK, hA, hX⟩ := hC
  obtain ⟨e1, e2, e3, e4, e5, e6, e7, e8⟩ := hR
  exact lv_icmp_lt hx hb hdg ht (fun q => hkt q al t H locs ls cells slots h1 h2 ⟨e1, e2, e3, e4, e5, e6, jj_ws_tl (jj_ws_tl e7), e8⟩) (fun q => hkf q al t H locs ls cells slots h1 h2 ⟨e1, e2, e3, e4, e5, e6, jj_ws_tl (jj_ws_tl e7), e8⟩)
theorem js_if_ge {x : Int32} {off : Int} (tgt : Nat) (hdg : decode cc pc = .ok (.ifCond .ge off, 3)) (ht : (pc : Int) + off = (tgt : Int)) (kt : 0 ≤ x → jj_R cc nL own nm sx fr lo nc sc (tgt, L, st, lay, S) cE) (kf : ¬ 0 ≤ x → jj_R cc nL own nm sx fr lo nc sc (pc + 3, L, st, lay, S) cE) : jj_R cc nL own nm sx fr lo nc sc (pc, L, .int x :: st, lay, S) cE := by
  intro p l e R s m args below meth cd D g A al0 n0 s0 Q hC hf hl hc hs hE
  have hkt := fun q => kt q p l e R s m args below meth cd D g A al0 n0 s0 Q hC hf hl hc hs hE
  have hkf := fun q => kf q p l e R s m args below meth cd D g A al0 n0 s0 Q hC hf hl hc hs hE
  intro al t H locs ls cells slots h1 h2 hR
  obtain ⟨hx, hb, hml, hown, hnm, hts, hN, hK, hA, hX⟩ := hC
  obtain ⟨e1, e2, e3, e4, e5, e6, e7, e8⟩ := hR
  exact lv_if_ge hx hb hdg ht (fun q => hkt q al t H locs ls cells slots h1 h2 ⟨e1, e2, e3, e4, e5, e6, jj_ws_tl e7, e8⟩) (fun q => hkf q al t H locs ls cells slots h1 h2 ⟨e1, e2, e3, e4, e5, e6, jj_ws_tl e7, e8⟩)
theorem js_icmp_ge {x y : Int32} {off : Int} (tgt : Nat) (hdg : decode cc pc = .ok (.if_icmp .ge off, 3)) (ht : (pc : Int) + off = (tgt : Int)) (kt : y ≤ x → jj_R cc nL own nm sx fr lo nc sc (tgt, L, st, lay, S) cE) (kf : ¬ y ≤ x → jj_R cc nL own nm sx fr lo nc sc (pc + 3, L, st, lay, S) cE) : jj_R cc nL own nm sx fr lo nc sc (pc, L, .int y :: .int x :: st, lay, S) cE := by
  intro p l e R s m args below meth cd D g A al0 n0 s0 Q hC hf hl hc hs hE
  have hkt := fun q => kt q p l e R s m args below meth cd D g A al0 n0 s0 Q hC hf hl hc hs hE
  have hkf := fun q => kf q p l e R s m args below meth cd D g A al0 n0 s0 Q hC hf hl hc hs hE
  intro al t H locs ls cells slots h1 h2 hR
  obtain ⟨hx, hb, hml, hown, hnm, hts, hN, hK, hA, hX⟩ := hC
  obtain ⟨e1, e2, e3, e4, e5, e6, e7, e8⟩ := hR
  exact lv_icmp_ge hx hb hdg ht (fun q => hkt q al t H locs ls cells slots h1 h2 ⟨e1, e2, e3, e4, e5, e6, jj_ws_tl (jj_ws_tl e7), e8⟩) (fun q => hkf q al t H locs ls cells slots h1 h2 ⟨e1, e2, e3, e4, e5, e6, jj_ws_tl (jj_ws_tl e7), e8⟩)
theorem js_if_gt {x : Int32} {off : Int} (tgt : Nat) (hdg : decode cc pc = .ok (.ifCond .gt off, 3)) (ht : (pc : Int) + off = (tgt : Int)) (kt : 0 < x → jj_R cc nL own nm sx fr lo nc sc (tgt, L, st, lay, S) cE) (kf : ¬ 0 < x → jj_R cc nL own nm sx fr lo nc sc (pc + 3, L, st, lay, S) cE) : jj_R cc nL own nm sx fr lo nc sc (pc, L, .int x :: st, lay, S) cE := by
  intro p l e R s m args below meth cd D g A al0 n0 s0 Q hC hf hl hc hs hE
  have hkt := fun q => kt q p l e R s m args below meth cd D g A al0 n0 s0 Q hC hf hl hc hs hE
  have hkf := fun q => kf q p l e R s m args below meth cd D g A al0 n0 s0 Q hC hf hl hc hs hE
  intro al t H locs ls cells slots h1 h2 hR
  obtain ⟨hx, hb, hml, hown, hnm, hts, hN, hK, hA, hX⟩ := hC
  obtain ⟨e1, e2, e3, e4, e5, e6, e7, e8⟩ := hR
  exact lv_if_gt hx hb hdg ht (fun q => hkt q al t H locs ls cells slots h1 h2 ⟨e1, e2, e3, e4, e5, e6, jj_ws_tl e7, e8⟩) (fun q => hkf q al t H locs ls cells slots h1 h2 ⟨e1, e2, e3, e4, e5, e6, jj_ws_tl e7, e8⟩)
theorem js_icmp_gt {x y : Int32} {off : Int} (tgt : Nat) (hdg : decode cc pc = .ok (.if_icmp .gt off, 3)) (ht : (pc : Int) + off = (tgt : Int)) (kt : y < x → jj_R cc nL own nm sx fr lo nc sc (tgt, L, st, lay, S) cE) (kf : ¬ y < x → jj_R cc nL own nm sx fr lo nc sc (pc + 3, L, st, lay, S) cE) : jj_R cc nL own nm sx fr lo nc sc (pc, L, .int y :: .int x :: st, lay, S) cE := by
  intro p l e R s m args below meth cd D g A al0 n0 s0 Q hC hf hl hc hs hE
  have hkt := fun q => kt q p l e R s m args below meth cd D g A al0 n0 s0 Q hC hf hl hc hs hE
  have hkf := fun q => kf q p l e R s m args below meth cd D g A al0 n0 s0 Q hC hf hl hc hs hE
  intro al t H locs ls cells slots h1 h2 hR
  obtain ⟨hx, hb, hml, hown, hnm, hts, hN, hK, hA, hX⟩ := hC
  obtain ⟨e1, e2, e3, e4, e5, e6, e7, e8⟩ := hR
  exact lv_icmp_gt hx hb hdg ht (fun q => hkt q al t H locs ls cells slots h1 h2 ⟨e1, e2, e3, e4, e5, e6, jj_ws_tl (jj_ws_tl e7), e8⟩) (fun q => hkf q al t H locs ls cells slots h1 h2 ⟨e1, e2, e3, e4, e5, e6, jj_ws_tl (jj_ws_tl e7), e8⟩)
theorem js_if_le {x : Int32} {off : Int} (tgt : Nat) (hdg : decode cc pc = .ok (.ifCond .le off, 3)) (ht : (pc : Int) + off = (tgt : Int)) (kt : x ≤ 0 → jj_R cc nL own nm sx fr lo nc sc (tgt, L, st, lay, S) cE) (kf : ¬ x ≤ 0 → jj_R cc nL own nm sx fr lo nc sc (pc + 3, L, st, lay, S) cE) : jj_R cc nL own nm sx fr lo nc sc (pc, L, .int x :: st, lay, S) cE := by
  intro p l e R s m args below meth cd D g A al0 n0 s0 Q hC hf hl hc hs hE
  have hkt := fun q => kt q p l e R s m args below meth cd D g A al0 n0 s0 Q hC hf hl hc hs hE
  have hkf := fun q => kf q p l e R s m args below meth cd D g A al0 n0 s0 Q hC hf hl hc hs hE
  intro al t H locs ls cells slots h1 h2 hR
  obtain ⟨hx, hb, hml, hown, hnm, hts, hN, hK, hA, hX⟩ := hC
  obtain ⟨e1, e2, e3, e4, e5, e6, e7, e8⟩ := hR
  exact lv_if_le hx hb hdg ht (fun q => hkt q al t H locs ls cells slots h1 h2 ⟨e1, e2, e3, e4, e5, e6, jj_ws_tl e7, e8⟩) (fun q => hkf q al t H locs ls cells slots h1 h2 ⟨e1, e2, e3, e4, e5, e6, jj_ws_tl e7, e8⟩)
theorem js_icmp_le {x y : Int32} {off : Int} (tgt : Nat) (hdg : decode cc pc = .ok (.if_icmp .le off, 3)) (ht : (pc : Int) + off = (tgt : Int)) (kt : x ≤ y → jj_R cc nL own nm sx fr lo nc sc (tgt, L, st, lay, S) cE) (kf : ¬ x ≤ y → jj_R cc nL own nm sx fr lo nc sc (pc + 3, L, st, lay, S) cE) : jj_R cc nL own nm sx fr lo nc sc (pc, L, .int y :: .int x :: st, lay, S) cE := by
  intro p l e R s m args below meth cd D g A al0 n0 s0 Q hC hf hl hc hs hE
  have hkt := fun q => kt q p l e R s m args below meth cd D g A al0 n0 s0 Q hC hf hl hc hs hE
  have hkf := fun q => kf q p l e R s m args below meth cd D g A al0 n0 s0 Q hC hf hl hc hs hE
  intro al t H locs ls cells slots h1 h2 hR
  obtain ⟨hx, hb, hml, hown, hnm, hts, hN, hK, hA, hX⟩ := hC
  obtain ⟨e1, e2, e3, e4, e5, e6, e7, e8⟩ := hR
  exact lv_icmp_le hx hb hdg ht (fun q => hkt q al t H locs ls cells slots h1 h2 ⟨e1, e2, e3, e4, e5, e6, jj_ws_tl (jj_ws_tl e7), e8⟩) (fun q => hkf q al t H locs ls cells slots h1 h2 ⟨e1, e2, e3, e4, e5, e6, jj_ws_tl (jj_ws_tl e7), e8⟩)
theorem js_tabOut {dflt la ha2 : Int} {offs : Array Int} {len : Nat} {x : Int32} (tgt : Nat) (hdg : decode cc pc = .ok (.tableswitch dflt la ha2 offs, len)) (h : x.toInt < la ∨ ha2 < x.toInt) (ht : (pc : Int) + dflt = (tgt : Int)) (k : jj_R cc nL own nm sx fr lo nc sc (tgt, L, st, lay, S) cE) : jj_R cc nL own nm sx fr lo nc sc (pc, L, .int x :: st, lay, S) cE := by
  intro p l e R s m args below meth cd D g A al0 n0 s0 Q hC hf hl hc hs hE
  have hk := k p l e R s m args below meth cd D g A al0 n0 s0 Q hC hf hl hc hs hE
  intro al t H locs ls cells slots h1 h2 hR
  obtain ⟨hx, hb, hml, hown, hnm, hts, hN, hK, hA, hX⟩ := hC
  obtain ⟨e1, e2, e3, e4, e5, e6, e7, e8, e9⟩ := hR
  exact lv_tableOut hx hb hdg h ht (hk al t H locs ls cells slots h1 h2 ⟨e1, e2, e3, e4, e5, e6, jj_ws_tl e7, e8, e9⟩)
theorem js_tabIn {dflt la ha2 : Int} {offs : Array Int} {len : Nat} {x : Int32} {off : Int} (tgt : Nat) (hdg : decode cc pc = .ok (.tableswitch dflt la ha2 offs, len)) (ha : ¬ x.toInt < la) (hz : ¬ ha2 < x.toInt) (ho : offs[(x.toInt - la).toNat]? = some off) (ht : (pc : Int) + off = (tgt : Int)) (k : jj_R cc nL own nm sx fr lo nc sc (tgt, L, st, lay, S) cE) : jj_R cc nL own nm sx fr lo nc sc (pc, L, .int x :: st, lay, S) cE := by
  intro p l e R s m args below meth cd D g A al0 n0 s0 Q hC hf hl hc hs hE
  have hk := k p l e R s m args below meth cd D g A al0 n0 s0 Q hC hf hl hc hs hE
  intro al t H locs ls cells slots h1 h2 hR
  obtain ⟨hx, hb, hml, hown, hnm, hts, hN, hK, hA, hX⟩ := hC
  obtain ⟨e1, e2, e3, e4, e5, e6, e7, e8, e9⟩ := hR
  exact lv_tableIn hx hb hdg ha hz ho ht (hk al t H locs ls cells slots h1 h2 ⟨e1, e2, e3, e4, e5, e6, jj_ws_tl e7, e8, e9⟩)
theorem js_lookup {dflt : Int} {ps : Array (Int × Int)} {len : Nat} {x : Int32} {off : Int} (tgt : Nat) (hdg : decode cc pc = .ok (.lookupswitch dflt ps, len)) (hp : (ps.toList.zip (ps.toList.drop 1)).all (fun (a, next) => a.1 < next.1) = true) (ho : Op.lookupswitch.offset ps.toList dflt x.toInt = off) (ht : (pc : Int) + off = (tgt : Int)) (k : jj_R cc nL own nm sx fr lo nc sc (tgt, L, st, lay, S) cE) : jj_R cc nL own nm sx fr lo nc sc (pc, L, .int x :: st, lay, S) cE := by
  intro p l e R s m args below meth cd D g A al0 n0 s0 Q hC hf hl hc hs hE
  have hk := k p l e R s m args below meth cd D g A al0 n0 s0 Q hC hf hl hc hs hE
  intro al t H locs ls cells slots h1 h2 hR
  obtain ⟨hx, hb, hml, hown, hnm, hts, hN, hK, hA, hX⟩ := hC
  obtain ⟨e1, e2, e3, e4, e5, e6, e7, e8, e9⟩ := hR
  exact lv_lookup hx hb hdg hp ho ht (hk al t H locs ls cells slots h1 h2 ⟨e1, e2, e3, e4, e5, e6, jj_ws_tl e7, e8, e9⟩)
theorem jj_cell_o {g : jj_G} {al : Nat → Nat} {t : Nat → Int32} {ci n : Nat} {rs : List (Option (Option Nat))} (h : ci < 7) : jj_cell g al t (ci, n, rs) = .inr (ci, (List.range n).map (jj_fld al t rs)) := by
  unfold jj_cell
  rw [if_neg (by show ¬ ci = 20; omega), if_neg (by show ¬ ci = 21; omega), if_neg (by show ¬ ci = 22; omega)]
theorem jj_cell_i {g : jj_G} {al : Nat → Nat} {t : Nat → Int32} {n : Nat} {rs : List (Option (Option Nat))} : jj_cell g al t (20, n, rs) = .inl (g.1, n, .inl t) := rfl
theorem jj_cell_z {g : jj_G} {al : Nat → Nat} {t : Nat → Int32} {n : Nat} {rs : List (Option (Option Nat))} : jj_cell g al t (21, n, rs) = .inl (g.2.1, n, .inl t) := rfl
theorem jj_cell_q {g : jj_G} {al : Nat → Nat} {t : Nat → Int32} {n : Nat} {rs : List (Option (Option Nat))} : jj_cell g al t (22, n, rs) = .inl (g.2.2, n, .inr (.inr (.inr (.inr (jj_el al rs))))) := rfl
theorem jj_fat {al : Nat → Nat} {t : Nat → Int32} {rs : List (Option (Option Nat))} {n k : Nat} (hk : k < n) : ((List.range n).map (jj_fld al t rs))[k]? = some (jj_fld al t rs k) := by
  rw [List.getElem?_map, List.getElem?_range hk]
  rfl
theorem jj_fld_i {al : Nat → Nat} {t : Nat → Int32} {rs : List (Option (Option Nat))} {k : Nat} (h : rs[k]? = some none) : jj_fld al t rs k = .int (t k) := by unfold jj_fld; rw [h]
theorem jj_fld_r {al : Nat → Nat} {t : Nat → Int32} {rs : List (Option (Option Nat))} {k q : Nat} (h : rs[k]? = some (some (some q))) : jj_fld al t rs k = .ref (al (q + 1)) := by unfold jj_fld; rw [h]; rfl
/-- a field, by the class's place ci, the slot k -/
def jj_lkF (own : String) (ix : Nat) (T : u_T) (k : Nat) : Prop := Cond.fieldLink own ix (T k).1 (T k).2.1 (T k).2.2.1 ∈ jj_gW
def jj_lkN (own : String) (ix : Nat) (T : u_T) (k : Nat) (host : String) : Prop := Cond.fieldLinkNest own ix (T k).1 (T k).2.1 (T k).2.2.1 host ∈ jj_nW
theorem jj_fset {al : Nat → Nat} {f : Nat → Int32} {rs : List (Option (Option Nat))} {n z : Nat} {x : Int32} (h : rs[z]? = some none) : ((List.range n).map (jj_fld al f rs)).set z (.int x) = (List.range n).map (jj_fld al (upd f z x) rs) := by
  apply List.ext_getElem?
  intro q
  rw [List.getElem?_set, List.length_map, List.length_range]
  by_cases hq : q < n
  · rw [jj_fat hq, jj_fat hq]
    by_cases e : z = q
    · subst e
      rw [if_pos rfl, if_pos hq, jj_fld_i h]
      unfold upd
      rw [if_pos rfl]
    · rw [if_neg e]
      congr 1
      unfold jj_fld
      split <;> first | rfl | (unfold upd; rw [if_neg (fun w => e w.symm)])
  · have h1 : ∀ u : Nat → Value, ((List.range n).map u)[q]? = none := fun u => List.getElem?_eq_none (by rw [List.length_map, List.length_range]; omega)
    rw [h1, h1]
    by_cases e : z = q
    · rw [if_pos e, if_neg (by omega)]
    · rw [if_neg e]
theorem js_geti {ix a ci n : Nat} {rs : List (Option (Option Nat))} {C : String} {T : u_T} (z : Nat) (hlk : jj_lkF own ix T z) (ha : lay[a]? = some (ci, n, rs)) (hcl : vwCl[ci]? = some (C, T, n)) (hz : z < n) {x : Int32} (hr : rs[z]? = some none) (hx0 : S a z = some x) (hdg : decode cc pc = .ok (.getfield ix, 3)) (k : jj_R cc nL own nm sx fr lo nc sc (pc + 3, L, .int x :: st, lay, S) cE) : jj_R cc nL own nm sx fr lo nc sc (pc, L, .ref a :: st, lay, S) cE := by
  intro p l e R s m args below meth cd D g A al0 n0 s0 Q hC hf hl hc hs hE
  have hk := k p l e R s m args below meth cd D g A al0 n0 s0 Q hC hf hl hc hs hE
  intro al t H locs ls cells slots h1 h2 hR
  obtain ⟨hx, hb, hml, hown, hnm, hts, hN, hK, hA, hX⟩ := hC
  obtain ⟨e1, e2, e3, e4, e5, e6, e7, e8, e9⟩ := hR
  obtain ⟨c1, c2, c3, c4⟩ := jj_cls hcl
  have he := jj_W_at (g := g) (al := al) (t := t) ha
  rw [jj_cell_o c4] at he
  refine va_get (v := .int (t a z)) hx hb hts c1 hown hK e2 a he hcl _ hz (hts _ hlk) (fun _ h9 => h9) (by rw [jj_fat hz, jj_fld_i hr]) hdg ?_
  have h9 := e1 a _ x hx0
  rw [h9]
  exact hk al t H locs ls cells slots h1 h2 ⟨e1, e2, e3, e4, e5, e6, jj_ws_cons trivial (jj_ws_tl e7), e8, e9⟩
theorem js_getr {ix a ci n : Nat} {rs : List (Option (Option Nat))} {C : String} {T : u_T} (z : Nat) (hlk : jj_lkF own ix T z) (ha : lay[a]? = some (ci, n, rs)) (hcl : vwCl[ci]? = some (C, T, n)) (hz : z < n) {q : Nat} (hr : rs[z]? = some (some (some q))) (hdg : decode cc pc = .ok (.getfield ix, 3)) (k : jj_R cc nL own nm sx fr lo nc sc (pc + 3, L, .ref q :: st, lay, S) cE) : jj_R cc nL own nm sx fr lo nc sc (pc, L, .ref a :: st, lay, S) cE := by
  intro p l e R s m args below meth cd D g A al0 n0 s0 Q hC hf hl hc hs hE
  have hk := k p l e R s m args below meth cd D g A al0 n0 s0 Q hC hf hl hc hs hE
  intro al t H locs ls cells slots h1 h2 hR
  obtain ⟨hx, hb, hml, hown, hnm, hts, hN, hK, hA, hX⟩ := hC
  obtain ⟨e1, e2, e3, e4, e5, e6, e7, e8, e9⟩ := hR
  obtain ⟨c1, c2, c3, c4⟩ := jj_cls hcl
  have he := jj_W_at (g := g) (al := al) (t := t) ha
  rw [jj_cell_o c4] at he
  refine va_get (v := .ref (al (q + 1))) hx hb hts c1 hown hK e2 a he hcl _ hz (hts _ hlk) (fun _ h9 => h9) (by rw [jj_fat hz, jj_fld_r hr]) hdg ?_
  exact hk al t H locs ls cells slots h1 h2 ⟨e1, e2, e3, e4, e5, e6, jj_ws_cons (v := .ref q) (e8 _ (List.mem_of_getElem? ha) q (List.mem_of_getElem? hr)) (jj_ws_tl e7), e8, e9⟩
theorem js_put {ix a ci n : Nat} {rs : List (Option (Option Nat))} {C : String} {T : u_T} {x : Int32} (z : Nat) (hlk : jj_lkF own ix T z) (ha : lay[a]? = some (ci, n, rs)) (hcl : vwCl[ci]? = some (C, T, n)) (hz : z < n) (hr : rs[z]? = some none) (hfin : (T z).2.2.2 = false) (hd : parseFieldDescriptor (T z).2.2.1 = some .int) (hdg : decode cc pc = .ok (.putfield ix, 3)) (k : jj_R cc nL own nm sx fr lo nc sc (pc + 3, L, st, lay, jj_w S a z x) cE) : jj_R cc nL own nm sx fr lo nc sc (pc, L, .int x :: .ref a :: st, lay, S) cE := by
  intro p l e R s m args below meth cd D g A al0 n0 s0 Q hC hf hl hc hs hE
  have hk := k p l e R s m args below meth cd D g A al0 n0 s0 Q hC hf hl hc hs hE
  intro al t H locs ls cells slots h1 h2 hR
  obtain ⟨hx, hb, hml, hown, hnm, hts, hN, hK, hA, hX⟩ := hC
  obtain ⟨e1, e2, e3, e4, e5, e6, e7, e8, e9⟩ := hR
  obtain ⟨c1, c2, c3, c4⟩ := jj_cls hcl
  have he := jj_W_at (g := g) (al := al) (t := t) ha
  rw [jj_cell_o c4] at he
  have hset : (jj_W g al t lay).set a (al (a + 1), .inr (ci, ((List.range n).map (jj_fld al (t a) rs)).set z (.int x))) = jj_W g al (jj_u2 t a z x) lay := by
    have h9 := jj_W_set (g := g) (al := al) (t := t) (t' := jj_u2 t a z x) (c' := (ci, n, rs)) (List.getElem?_eq_some_iff.mp ha).1 (fun q hq => jj_u2_ne t q hq)
    rw [jj_set_same ha, jj_cell_o c4, jj_u2_at, ← jj_fset hr] at h9
    exact h9
  refine va_put hx hb hts c1 (jj_ty ci) c2 c3 hown hK e2 e3 e4 a he hcl z hz (hts _ hlk) (fun _ h9 => h9) hfin hd rfl rfl (by rw [List.length_map, List.length_range]; exact hz) hdg (fun H1 locs1 hP hD hS => ?_)
  have hP : va_P D vwCl (jj_W g al (jj_u2 t a z x) lay) H1 := by rw [← hset]; exact hP
  have hD : va_D A (jj_W g al (jj_u2 t a z x) lay) := by rw [← hset]; exact hD
  exact hk al (jj_u2 t a z x) H1 locs1 ls cells slots h1 h2 ⟨jj_ext_w e1, hP, hD, hS, e5, e6, jj_ws_tl (jj_ws_tl e7), e8, e9⟩
theorem js_getNi {ix a ci n : Nat} {rs : List (Option (Option Nat))} {C : String} {T : u_T} (z : Nat) {host : String} (hlk : jj_lkN own ix T z host) (ha : lay[a]? = some (ci, n, rs)) (hcl : vwCl[ci]? = some (C, T, n)) (hz : z < n) {x : Int32} (hr : rs[z]? = some none) (hx0 : S a z = some x) (hdg : decode cc pc = .ok (.getfield ix, 3)) (k : jj_R cc nL own nm sx fr lo nc sc (pc + 3, L, .int x :: st, lay, S) cE) : jj_R cc nL own nm sx fr lo nc sc (pc, L, .ref a :: st, lay, S) cE := by
  intro p l e R s m args below meth cd D g A al0 n0 s0 Q hC hf hl hc hs hE
  have hk := k p l e R s m args below meth cd D g A al0 n0 s0 Q hC hf hl hc hs hE
  intro al t H locs ls cells slots h1 h2 hR
  obtain ⟨hx, hb, hml, hown, hnm, hts, hN, hK, hA, hX⟩ := hC
  obtain ⟨e1, e2, e3, e4, e5, e6, e7, e8, e9⟩ := hR
  obtain ⟨c1, c2, c3, c4⟩ := jj_cls hcl
  have he := jj_W_at (g := g) (al := al) (t := t) ha
  rw [jj_cell_o c4] at he
  refine va_getN (v := .int (t a z)) hx hb hts c1 hown hK e2 a he hcl _ hz (va_Nw.use rfl (hN _ hlk)) (fun _ h9 => h9) (by rw [jj_fat hz, jj_fld_i hr]) hdg ?_
  have h9 := e1 a _ x hx0
  rw [h9]
  exact hk al t H locs ls cells slots h1 h2 ⟨e1, e2, e3, e4, e5, e6, jj_ws_cons trivial (jj_ws_tl e7), e8, e9⟩
theorem js_getNr {ix a ci n : Nat} {rs : List (Option (Option Nat))} {C : String} {T : u_T} (z : Nat) {host : String} (hlk : jj_lkN own ix T z host) (ha : lay[a]? = some (ci, n, rs)) (hcl : vwCl[ci]? = some (C, T, n)) (hz : z < n) {q : Nat} (hr : rs[z]? = some (some (some q))) (hdg : decode cc pc = .ok (.getfield ix, 3)) (k : jj_R cc nL own nm sx fr lo nc sc (pc + 3, L, .ref q :: st, lay, S) cE) : jj_R cc nL own nm sx fr lo nc sc (pc, L, .ref a :: st, lay, S) cE := by
  intro p l e R s m args below meth cd D g A al0 n0 s0 Q hC hf hl hc hs hE
  have hk := k p l e R s m args below meth cd D g A al0 n0 s0 Q hC hf hl hc hs hE
  intro al t H locs ls cells slots h1 h2 hR
  obtain ⟨hx, hb, hml, hown, hnm, hts, hN, hK, hA, hX⟩ := hC
  obtain ⟨e1, e2, e3, e4, e5, e6, e7, e8, e9⟩ := hR
  obtain ⟨c1, c2, c3, c4⟩ := jj_cls hcl
  have he := jj_W_at (g := g) (al := al) (t := t) ha
  rw [jj_cell_o c4] at he
  refine va_getN (v := .ref (al (q + 1))) hx hb hts c1 hown hK e2 a he hcl _ hz (va_Nw.use rfl (hN _ hlk)) (fun _ h9 => h9) (by rw [jj_fat hz, jj_fld_r hr]) hdg ?_
  exact hk al t H locs ls cells slots h1 h2 ⟨e1, e2, e3, e4, e5, e6, jj_ws_cons (v := .ref q) (e8 _ (List.mem_of_getElem? ha) q (List.mem_of_getElem? hr)) (jj_ws_tl e7), e8, e9⟩
theorem js_putN {ix a ci n : Nat} {rs : List (Option (Option Nat))} {C : String} {T : u_T} {x : Int32} (z : Nat) {host : String} (hlk : jj_lkN own ix T z host) (ha : lay[a]? = some (ci, n, rs)) (hcl : vwCl[ci]? = some (C, T, n)) (hz : z < n) (hr : rs[z]? = some none) (hfin : (T z).2.2.2 = false) (hd : parseFieldDescriptor (T z).2.2.1 = some .int) (hdg : decode cc pc = .ok (.putfield ix, 3)) (k : jj_R cc nL own nm sx fr lo nc sc (pc + 3, L, st, lay, jj_w S a z x) cE) : jj_R cc nL own nm sx fr lo nc sc (pc, L, .int x :: .ref a :: st, lay, S) cE := by
  intro p l e R s m args below meth cd D g A al0 n0 s0 Q hC hf hl hc hs hE
  have hk := k p l e R s m args below meth cd D g A al0 n0 s0 Q hC hf hl hc hs hE
  intro al t H locs ls cells slots h1 h2 hR
  obtain ⟨hx, hb, hml, hown, hnm, hts, hN, hK, hA, hX⟩ := hC
  obtain ⟨e1, e2, e3, e4, e5, e6, e7, e8, e9⟩ := hR
  obtain ⟨c1, c2, c3, c4⟩ := jj_cls hcl
  have he := jj_W_at (g := g) (al := al) (t := t) ha
  rw [jj_cell_o c4] at he
  have hset : (jj_W g al t lay).set a (al (a + 1), .inr (ci, ((List.range n).map (jj_fld al (t a) rs)).set z (.int x))) = jj_W g al (jj_u2 t a z x) lay := by
    have h9 := jj_W_set (g := g) (al := al) (t := t) (t' := jj_u2 t a z x) (c' := (ci, n, rs)) (List.getElem?_eq_some_iff.mp ha).1 (fun q hq => jj_u2_ne t q hq)
    rw [jj_set_same ha, jj_cell_o c4, jj_u2_at, ← jj_fset hr] at h9
    exact h9
  refine va_putN hx hb hts c1 (jj_ty ci) c2 c3 hown hK e2 e3 e4 a he hcl z hz (va_Nw.use rfl (hN _ hlk)) (fun _ h9 => h9) hfin hd rfl rfl (by rw [List.length_map, List.length_range]; exact hz) hdg (fun H1 locs1 hP hD hS => ?_)
  have hP : va_P D vwCl (jj_W g al (jj_u2 t a z x) lay) H1 := by rw [← hset]; exact hP
  have hD : va_D A (jj_W g al (jj_u2 t a z x) lay) := by rw [← hset]; exact hD
  exact hk al (jj_u2 t a z x) H1 locs1 ls cells slots h1 h2 ⟨jj_ext_w e1, hP, hD, hS, e5, e6, jj_ws_tl (jj_ws_tl e7), e8, e9⟩
theorem jj_nI_in {i : Int32} {j n : Nat} (h : i = nI j) (hj : j < n) (hn : n < 2 ^ 31) : vp_in i n ∧ i.toNatClampNeg = j := by
  subst h
  exact ⟨vp_in_nI hj hn, nI_clamp (by omega)⟩
theorem js_iald {a n : Nat} {rs : List (Option (Option Nat))} {i x : Int32} (j : Nat) (hi : i = nI j) (ha : lay[a]? = some (20, n, rs)) (hj : j < n) (hn : n < 2 ^ 31) (hx0 : S a j = some x) (hdg : decode cc pc = .ok (.iaload, 1)) (k : jj_R cc nL own nm sx fr lo nc sc (pc + 1, L, .int x :: st, lay, S) cE) : jj_R cc nL own nm sx fr lo nc sc (pc, L, .int i :: .ref a :: st, lay, S) cE := by
  intro p l e R s m args below meth cd D g A al0 n0 s0 Q hC hf hl hc hs hE
  have hk := k p l e R s m args below meth cd D g A al0 n0 s0 Q hC hf hl hc hs hE
  intro al t H locs ls cells slots h1 h2 hR
  obtain ⟨hx, hb, hml, hown, hnm, hts, hN, hK, hA, hX⟩ := hC
  obtain ⟨e1, e2, e3, e4, e5, e6, e7, e8, e9⟩ := hR
  obtain ⟨i1, i2⟩ := jj_nI_in hi hj hn
  have he := jj_W_at (g := g) (al := al) (t := t) ha
  rw [jj_cell_i] at he
  refine va_iald hx hb hK e2 a 0 he rfl i1 hdg ?_
  rw [i2, e1 a _ x hx0]
  exact hk al t H locs ls cells slots h1 h2 ⟨e1, e2, e3, e4, e5, e6, jj_ws_cons trivial (jj_ws_tl (jj_ws_tl e7)), e8, e9⟩
theorem js_zald {a n : Nat} {rs : List (Option (Option Nat))} {i x : Int32} (j : Nat) (hi : i = nI j) (ha : lay[a]? = some (21, n, rs)) (hj : j < n) (hn : n < 2 ^ 31) (hx0 : S a j = some x) (hdg : decode cc pc = .ok (.baload, 1)) (k : jj_R cc nL own nm sx fr lo nc sc (pc + 1, L, .int x :: st, lay, S) cE) : jj_R cc nL own nm sx fr lo nc sc (pc, L, .int i :: .ref a :: st, lay, S) cE := by
  intro p l e R s m args below meth cd D g A al0 n0 s0 Q hC hf hl hc hs hE
  have hk := k p l e R s m args below meth cd D g A al0 n0 s0 Q hC hf hl hc hs hE
  intro al t H locs ls cells slots h1 h2 hR
  obtain ⟨hx, hb, hml, hown, hnm, hts, hN, hK, hA, hX⟩ := hC
  obtain ⟨e1, e2, e3, e4, e5, e6, e7, e8, e9⟩ := hR
  obtain ⟨i1, i2⟩ := jj_nI_in hi hj hn
  have he := jj_W_at (g := g) (al := al) (t := t) ha
  rw [jj_cell_z] at he
  refine va_zald hx hb hK e2 a 1 he rfl i1 hdg ?_
  rw [i2, e1 a _ x hx0]
  exact hk al t H locs ls cells slots h1 h2 ⟨e1, e2, e3, e4, e5, e6, jj_ws_cons trivial (jj_ws_tl (jj_ws_tl e7)), e8, e9⟩
theorem js_iast {a n : Nat} {rs : List (Option (Option Nat))} {i x : Int32} (j : Nat) (hi : i = nI j) (ha : lay[a]? = some (20, n, rs)) (hj : j < n) (hn : n < 2 ^ 31) (hdg : decode cc pc = .ok (.iastore, 1)) (k : jj_R cc nL own nm sx fr lo nc sc (pc + 1, L, st, lay, jj_w S a j x) cE) : jj_R cc nL own nm sx fr lo nc sc (pc, L, .int x :: .int i :: .ref a :: st, lay, S) cE := by
  intro p l e R s m args below meth cd D g A al0 n0 s0 Q hC hf hl hc hs hE
  have hk := k p l e R s m args below meth cd D g A al0 n0 s0 Q hC hf hl hc hs hE
  intro al t H locs ls cells slots h1 h2 hR
  obtain ⟨hx, hb, hml, hown, hnm, hts, hN, hK, hA, hX⟩ := hC
  obtain ⟨e1, e2, e3, e4, e5, e6, e7, e8, e9⟩ := hR
  obtain ⟨i1, i2⟩ := jj_nI_in hi hj hn
  have he := jj_W_at (g := g) (al := al) (t := t) ha
  rw [jj_cell_i] at he
  have hset : (jj_W g al t lay).set a (al (a + 1), .inl (g.1, n, .inl (upd (t a) j x))) = jj_W g al (jj_u2 t a j x) lay := by
    have h9 := jj_W_set (g := g) (al := al) (t := t) (t' := jj_u2 t a j x) (c' := (20, n, rs)) (List.getElem?_eq_some_iff.mp ha).1 (fun q hq => jj_u2_ne t q hq)
    rw [jj_set_same ha, jj_cell_i, jj_u2_at] at h9
    exact h9
  refine va_iast hx hb hK e2 e3 e4 a 0 he rfl i1 hdg (fun H1 locs1 hP hD hS => ?_)
  rw [i2, hset] at hP hD
  exact hk al (jj_u2 t a j x) H1 locs1 ls cells slots h1 h2 ⟨jj_ext_w e1, hP, hD, hS, e5, e6, jj_ws_tl (jj_ws_tl (jj_ws_tl e7)), e8, e9⟩
theorem js_zast {a n : Nat} {rs : List (Option (Option Nat))} {i x : Int32} (j : Nat) (hi : i = nI j) (ha : lay[a]? = some (21, n, rs)) (hj : j < n) (hn : n < 2 ^ 31) (hnar : vp_nar .boolean x = x) (hdg : decode cc pc = .ok (.bastore, 1)) (k : jj_R cc nL own nm sx fr lo nc sc (pc + 1, L, st, lay, jj_w S a j x) cE) : jj_R cc nL own nm sx fr lo nc sc (pc, L, .int x :: .int i :: .ref a :: st, lay, S) cE := by
  intro p l e R s m args below meth cd D g A al0 n0 s0 Q hC hf hl hc hs hE
  have hk := k p l e R s m args below meth cd D g A al0 n0 s0 Q hC hf hl hc hs hE
  intro al t H locs ls cells slots h1 h2 hR
  obtain ⟨hx, hb, hml, hown, hnm, hts, hN, hK, hA, hX⟩ := hC
  obtain ⟨e1, e2, e3, e4, e5, e6, e7, e8, e9⟩ := hR
  obtain ⟨i1, i2⟩ := jj_nI_in hi hj hn
  have he := jj_W_at (g := g) (al := al) (t := t) ha
  rw [jj_cell_z] at he
  have hset : (jj_W g al t lay).set a (al (a + 1), .inl (g.2.1, n, .inl (upd (t a) j x))) = jj_W g al (jj_u2 t a j x) lay := by
    have h9 := jj_W_set (g := g) (al := al) (t := t) (t' := jj_u2 t a j x) (c' := (21, n, rs)) (List.getElem?_eq_some_iff.mp ha).1 (fun q hq => jj_u2_ne t q hq)
    rw [jj_set_same ha, jj_cell_z, jj_u2_at] at h9
    exact h9
  refine va_zast hx hb hK e2 e3 e4 a 1 he rfl i1 hdg (fun H1 locs1 hP hD hS => ?_)
  rw [i2, hnar, hset] at hP hD
  exact hk al (jj_u2 t a j x) H1 locs1 ls cells slots h1 h2 ⟨jj_ext_w e1, hP, hD, hS, e5, e6, jj_ws_tl (jj_ws_tl (jj_ws_tl e7)), e8, e9⟩
theorem js_aald {a n q : Nat} {rs : List (Option (Option Nat))} {i : Int32} (j : Nat) (hi : i = nI j) (ha : lay[a]? = some (22, n, rs)) (hj : j < n) (hn : n < 2 ^ 31) (hr : rs[j]? = some (some (some q))) (hdg : decode cc pc = .ok (.aaload, 1)) (k : jj_R cc nL own nm sx fr lo nc sc (pc + 1, L, .ref q :: st, lay, S) cE) : jj_R cc nL own nm sx fr lo nc sc (pc, L, .int i :: .ref a :: st, lay, S) cE := by
  intro p l e R s m args below meth cd D g A al0 n0 s0 Q hC hf hl hc hs hE
  have hk := k p l e R s m args below meth cd D g A al0 n0 s0 Q hC hf hl hc hs hE
  intro al t H locs ls cells slots h1 h2 hR
  obtain ⟨hx, hb, hml, hown, hnm, hts, hN, hK, hA, hX⟩ := hC
  obtain ⟨e1, e2, e3, e4, e5, e6, e7, e8, e9⟩ := hR
  obtain ⟨i1, i2⟩ := jj_nI_in hi hj hn
  have he := jj_W_at (g := g) (al := al) (t := t) ha
  rw [jj_cell_q] at he
  have hel : jj_el al rs j = some (al (q + 1)) := by unfold jj_el; rw [hr]; rfl
  refine W.aald (v := .ref (al (q + 1))) (ty := .array .int) hx hb (e2 a _ he) ((hK.2 2 _ rfl).1 n (fun j => va_rf (jj_el al rs j))) rfl (fun z => by cases z) (by show ¬ (i < 0 ∨ (arrV _ _ _).slots.size ≤ _); rw [arrV_size]; exact i1) (by show (arrV _ _ _).slots[_]? = _; rw [i2, arrV_read _ _ hj, hel]; rfl) rfl rfl hdg ?_
  exact hk al t H locs ls cells slots h1 h2 ⟨e1, e2, e3, e4, e5, e6, jj_ws_cons (v := .ref q) (e8 _ (List.mem_of_getElem? ha) q (List.mem_of_getElem? hr)) (jj_ws_tl (jj_ws_tl e7)), e8, e9⟩
theorem js_alen {a n kd : Nat} {rs : List (Option (Option Nat))} {v : Int32} (ha : lay[a]? = some (kd, n, rs)) (hkd : kd = 20 ∨ kd = 21 ∨ kd = 22) (hv : nI n = v) (hdg : decode cc pc = .ok (.arraylength, 1)) (k : jj_R cc nL own nm sx fr lo nc sc (pc + 1, L, .int v :: st, lay, S) cE) : jj_R cc nL own nm sx fr lo nc sc (pc, L, .ref a :: st, lay, S) cE := by
  intro p l e R s m args below meth cd D g A al0 n0 s0 Q hC hf hl hc hs hE
  have hk := k p l e R s m args below meth cd D g A al0 n0 s0 Q hC hf hl hc hs hE
  intro al t H locs ls cells slots h1 h2 hR
  obtain ⟨hx, hb, hml, hown, hnm, hts, hN, hK, hA, hX⟩ := hC
  obtain ⟨e1, e2, e3, e4, e5, e6, e7, e8, e9⟩ := hR
  have he := jj_W_at (g := g) (al := al) (t := t) ha
  have hk2 := hk al t H locs ls cells slots h1 h2 ⟨e1, e2, e3, e4, e5, e6, jj_ws_cons trivial (jj_ws_tl e7), e8, e9⟩
  rcases hkd with rfl | rfl | rfl
  · exact va_alen hx hb hK e2 a 0 he rfl hv hdg hk2
  · exact va_alen hx hb hK e2 a 1 he rfl hv hdg hk2
  · exact va_alen hx hb hK e2 a 2 he rfl hv hdg hk2
theorem js_sald {x : Nat} {i : Int32} {Ls : Nat} {xs : Nat → Int32} (hsx : sx = some (Ls, xs)) (hin : vp_in i Ls) (hdg : decode cc pc = .ok (.iaload, 1)) (k : jj_R cc nL own nm sx fr lo nc sc (pc + 1, L, .int (xs i.toNatClampNeg) :: st, lay, S) cE) : jj_R cc nL own nm sx fr lo nc sc (pc, L, .int i :: .retAddr x :: st, lay, S) cE := by
  intro p l e R s m args below meth cd D g A al0 n0 s0 Q hC hf hl hc hs hE
  have hk := k p l e R s m args below meth cd D g A al0 n0 s0 Q hC hf hl hc hs hE
  intro al t H locs ls cells slots h1 h2 hR
  obtain ⟨hx, hb, hml, hown, hnm, hts, hN, hK, hA, hX⟩ := hC
  obtain ⟨e1, e2, e3, e4, e5, e6, e7, e8, e9⟩ := hR
  obtain ⟨x1, x2, x3⟩ := hX _ hsx
  have e0 : al 0 = al0 0 := e9.2.1
  rw [← e0] at x1 x2 x3
  exact va_sld hx hb x1 x2 x3 e4 hin hdg (hk al t H locs ls cells slots h1 h2 ⟨e1, e2, e3, e4, e5, e6, jj_ws_cons trivial (jj_ws_tl (jj_ws_tl e7)), e8, e9⟩)
theorem js_slen {x : Nat} {Ls : Nat} {xs : Nat → Int32} (hsx : sx = some (Ls, xs)) (hdg : decode cc pc = .ok (.arraylength, 1)) (k : jj_R cc nL own nm sx fr lo nc sc (pc + 1, L, .int (nI Ls) :: st, lay, S) cE) : jj_R cc nL own nm sx fr lo nc sc (pc, L, .retAddr x :: st, lay, S) cE := by
  intro p l e R s m args below meth cd D g A al0 n0 s0 Q hC hf hl hc hs hE
  have hk := k p l e R s m args below meth cd D g A al0 n0 s0 Q hC hf hl hc hs hE
  intro al t H locs ls cells slots h1 h2 hR
  obtain ⟨hx, hb, hml, hown, hnm, hts, hN, hK, hA, hX⟩ := hC
  obtain ⟨e1, e2, e3, e4, e5, e6, e7, e8, e9⟩ := hR
  obtain ⟨x1, x2, x3⟩ := hX _ hsx
  have e0 : al 0 = al0 0 := e9.2.1
  rw [← e0] at x1 x2 x3
  exact va_slen hx hb x1 x2 x3 e4 hdg (hk al t H locs ls cells slots h1 h2 ⟨e1, e2, e3, e4, e5, e6, jj_ws_cons trivial (jj_ws_tl e7), e8, e9⟩)
end JR
end
section
/-! CALLS. A contract jj_CT: method y, from its arguments, the cells and the memory, answers v, and leaves these cells and this memory. -/
def jj_Pc (D : va_G) (g : jj_G) (sx : jj_X) (al : Nat → Nat) (t : Nat → Nat → Int32) (lay : jj_Lay) (av : List Value) (sz : Nat) : Array Value → State → Prop :=
  va_Pc (av.map (jj_v al)) (fun U => U.heap.size = sz ∧ va_P D vwCl (jj_W g al t lay) U.heap ∧ va_K D vwCl [(g.1, .int), (g.2.1, .boolean), (g.2.2, .array .int)] U ∧ va_D (fun _ => True) (jj_W g al t lay) ∧ (∀ w ∈ jj_nW, va_Nw w U) ∧ (∀ y, sx = some y → va_X (al 0) y.1 y.2 U U.heap ∧ al 0 < sz ∧ ∀ (k : Nat) (c : jj_Sh), lay[k]? = some c → al (k + 1) ≠ al 0))
def jj_Qc (D : va_G) (g : jj_G) (al : Nat → Nat) (t : Nat → Nat → Int32) (lay : jj_Lay) (sz : Nat) (v : Option Value) (lay' : jj_Lay) (S' : jj_Mem) : Array Value → State → Outcome → State → Prop := fun _ st oc tt =>
  ∃ (al' : Nat → Nat) (t' : Nat → Nat → Int32), oc = .returned (v.map (jj_v al')) ∧ (al' 0 = al 0 ∧ ∀ k, k < lay.length → al' (k + 1) = al (k + 1)) ∧ jj_ext S' t' ∧ va_P D vwCl (jj_W g al' t' lay') tt.heap ∧ va_D (va_A (jj_W g al t lay) sz) (jj_W g al' t' lay') ∧ va_F (va_A (jj_W g al t lay) sz) st tt
def jj_CT (y : MethodName) (hd : Cond) (sx : jj_X) (fr lo : Nat) (av : List Value) (lay : jj_Lay) (S : jj_Mem) (v : Option Value) (lay' : jj_Lay) (S' : jj_Mem) : Prop :=
  lay.length ≤ lay'.length ∧ jj_sl lay ≤ jj_sl lay' ∧
  (jj_ws lay.length av → jj_wy lay → jj_wy lay' ∧ (∀ w, v = some w → jj_wv lay'.length w) ∧
  ∀ (l : Launch) (D : va_G) (g : jj_G) (al : Nat → Nat) (t : Nat → Nat → Int32) (sz : Nat), jj_ext S t →
    Met l y (hd :: jj_gW) { frames := fr, cells := lay'.length - lay.length, slots := jj_sl lay' - jj_sl lay, locals := lo } (jj_Pc D g sx al t lay av sz) (jj_Qc D g al t lay sz v lay' S') (lay'.length - lay.length) (jj_sl lay' - jj_sl lay) (va_A (jj_W g al t lay) sz))
def jj_ent : List Value → List (Option Value)
  | [] => []
  | v :: r => if v.category = 2 then some v :: none :: jj_ent r else some v :: jj_ent r
theorem jj_asg_rep (al : Nat → Nat) : ∀ (n i : Nat), jj_asg al i (List.replicate n none) = []
  | 0, _ => rfl
  | n + 1, i => by rw [List.replicate_succ]; exact jj_asg_rep al n (i + 1)
theorem jj_asg_ent (al : Nat → Nat) (n : Nat) : ∀ (av : List Value) (i : Nat), jj_asg al i (jj_ent av ++ List.replicate n none) = lv_args i (av.map (jj_v al))
  | [], i => jj_asg_rep al n i
  | v :: r, i => by
    unfold jj_ent
    rw [List.map_cons]
    unfold lv_args
    by_cases h : v.category = 2
    · rw [if_pos h, if_pos (by rw [jj_v_cat]; exact h)]
      show (i, jj_v al v) :: jj_asg al (i + 1 + 1) (jj_ent r ++ _) = _
      rw [jj_asg_ent al n r (i + 1 + 1)]
    · rw [if_neg h, if_neg (by rw [jj_v_cat]; exact h)]
      show (i, jj_v al v) :: jj_asg al (i + 1) (jj_ent r ++ _) = _
      rw [jj_asg_ent al n r (i + 1)]
theorem jj_ent_len (al : Nat → Nat) : ∀ (av : List Value), (jj_ent av).length = (lg_sl (av.map (jj_v al))).length
  | [] => rfl
  | v :: r => by
    unfold jj_ent
    have ih := jj_ent_len al r
    unfold lg_sl at ih ⊢
    rw [List.map_cons, List.flatMap_cons]
    by_cases h : v.category = 2
    · rw [if_pos h, if_pos (by rw [jj_v_cat]; exact h)]
      simp only [List.length_cons, List.length_append, List.length_nil]
      omega
    · rw [if_neg h, if_neg (by rw [jj_v_cat]; exact h)]
      simp only [List.length_cons, List.length_append, List.length_nil]
      omega
theorem jj_wl_ent {n k : Nat} : ∀ {av : List Value}, jj_ws n av → jj_wl n (jj_ent av ++ List.replicate k none)
  | [], _ => fun v hv => by
    have := List.eq_of_mem_replicate hv
    cases this
  | w :: r, h => fun v hv => by
    have ih := jj_wl_ent (k := k) (jj_ws_tl h)
    unfold jj_ent at hv
    by_cases hc : w.category = 2
    · rw [if_pos hc] at hv
      rcases List.mem_cons.mp hv with e | hv
      · cases e; exact jj_ws_hd h
      · rcases List.mem_cons.mp hv with e | hv
        · cases e
        · exact ih v hv
    · rw [if_neg hc] at hv
      rcases List.mem_cons.mp hv with e | hv
      · cases e; exact jj_ws_hd h
      · exact ih v hv
/-- what a return needs of its type -/
def jj_rt (ret : Option FieldType) (v : Option Value) (ins : Instr) : Prop := match v with
  | none => ret = none ∧ ins = .return_
  | some (.int x) => (∃ ty, ret = some ty ∧ narrow ty (.int x) = .int x) ∧ ins = .ireturn
  | some (.long _) => ret = some .long ∧ ins = .lreturn
  | some (.ref _) => (∃ rt, ret = some rt ∧ ((∃ n, rt = .object n) ∨ ∃ t, rt = .array t)) ∧ ins = .areturn
  | _ => False
/-- a body's walk gives the contract (hB: the two forms of the first word) -/
theorem jj_mk0 {y : MethodName} {hd : Cond} {cc : ByteArray} {nL : Nat} {ret : Option FieldType} {own : String} {sx : jj_X} {fr lo : Nat} {av : List Value} {lay lay' : jj_Lay} {S S' : jj_Mem} {v : Option Value} {L L' : List (Option Value)} {pc' : Nat} {ins : Instr}
    (hB : ∀ {l : Launch} {ws' : List Cond} {rm : Room} {Pc : Array Value → State → Prop} {Qc : Array Value → State → Outcome → State → Prop} {mc ms : Nat} {free : Addr → Prop},
      (∀ p e s m args below meth c s₁, BodyLoose p l y (headSpec (hd :: ws') rm) cc nL ret e s m args below meth c s₁ → c.maxLocals = nL → Pc args s → W p l e (headSpec (hd :: ws') rm).room s m args below meth c s.heap [] 0 0 (MQ below Qc args s mc ms free) (entryFrame m args nL)) → Met l y (hd :: ws') rm Pc Qc mc ms free)
    (hown : own = y.cls) (hL : jj_ent av ++ List.replicate (nL - (jj_ent av).length) none = L) (hlen : L.length = nL)
    (hret : jj_rt ret v ins) (hdg : decode cc pc' = .ok (ins, 1)) (h1 : lay.length ≤ lay'.length) (h2 : jj_sl lay ≤ jj_sl lay') (hwy : jj_wy lay → jj_wy lay') (hwv : jj_ws lay.length av → jj_wy lay → ∀ w, v = some w → jj_wv lay'.length w)
    (hR : jj_R cc nL own y.name sx fr lo lay'.length (jj_sl lay') (0, L, [], lay, S) (pc', L', v.toList, lay', S')) : jj_CT y hd sx fr lo av lay S v lay' S' := by
  refine ⟨h1, h2, fun hav hy => ⟨hwy hy, hwv hav hy, fun l D g al t sz he => ?_⟩⟩
  refine hB ?_
  intro p e s m args below meth c s₁ B hml hv
  obtain ⟨rfl, hsz, hP, hK, hD0, hN, hX⟩ := hv
  have hx := B.exec
  have hb := B.bytes
  have hr := B.returns
  have hts := atoms_spec (ws := hd :: jj_gW) B.pre
  have hownC : s.vm.findClass y.cls = some m.cls := findClass_of_methodNamed B.named
  have hlocks := B.notSynchronized
  have hin : meth.name = y.name := (name_of_methodNamed B.named B.method).1
  subst hsz
  have hD := hD0.self (sz := s.heap.size)
  have hbl : (lg_sl (av.map (jj_v al))).length ≤ nL := by
    rw [← jj_ent_len al av, ← hlen, ← hL, List.length_append]
    omega
  have hl := lv_entry (av.map (jj_v al)) (n := nL) hbl
  rw [lg_entry_eq]
  generalize (lg_sl (av.map (jj_v al)) ++ List.replicate (nL - (lg_sl (av.map (jj_v al))).length) Slot.unset).toArray = ls at hl ⊢
  rw [← jj_asg_ent al (nL - (jj_ent av).length) av 0, hL] at hl
  have hXa : ∀ z, sx = some z → va_X (al 0) z.1 z.2 s s.heap ∧ al 0 < s.heap.size ∧ ¬ va_A (jj_W g al t lay) s.heap.size (al 0) := fun z hz => by
    obtain ⟨q1, q2, q3⟩ := hX z hz
    refine ⟨q1, q2, fun hq => ?_⟩
    rcases hq with ⟨k, e9, hk⟩ | hq
    · obtain ⟨c9, hc9, e8⟩ := jj_W_inv hk
      exact q3 k c9 hc9 (congrArg Prod.fst e8).symm
    · omega
  have key := hR p l e (headSpec (hd :: jj_gW) { frames := fr, cells := lay'.length - lay.length, slots := jj_sl lay' - jj_sl lay, locals := lo }).room s m ((av.map (jj_v al)).toArray) below meth c D g (va_A (jj_W g al t lay) s.heap.size) al lay.length (jj_sl lay)
    (MQ below (jj_Qc D g al t lay s.heap.size v lay' S') ((av.map (jj_v al)).toArray) s (lay'.length - lay.length) (jj_sl lay' - jj_sl lay) (va_A (jj_W g al t lay) s.heap.size))
    ⟨hx, hb, hml, by rw [hown]; exact hownC, hin, fun w hw => hts w (List.mem_cons_of_mem _ hw), hN, hK, fun q hq => Or.inr hq, hXa⟩
    (Nat.le_refl _) (Nat.le_refl _) (by show _ ≤ lay.length + (lay'.length - lay.length); omega) (by show _ ≤ jj_sl lay + (jj_sl lay' - jj_sl lay); omega)
    (by
      intro al' t' H locs ls' cells slots c1 c2 hRel
      obtain ⟨e1, e2, e3, e4, e5, e6, e7, e8, e9, e10, e11⟩ := hRel
      have ecl : cells = lay'.length - lay.length := by
        have : lay.length + cells = lay'.length := c1
        omega
      have esl : slots = jj_sl lay' - jj_sl lay := by
        have : jj_sl lay + slots = jj_sl lay' := c2
        omega
      rw [ecl, esl]
      have fin : ∀ tt : State, tt.heap = H → s.WarmedH tt.vm → jj_Qc D g al t lay s.heap.size v lay' S' ((av.map (jj_v al)).toArray) s (.returned (v.map (jj_v al'))) tt := fun tt ht hW =>
        ⟨al', t', rfl, ⟨e10, e11⟩, e1, by rw [ht]; exact e2, e3, e4.F ht⟩
      cases v with
      | none =>
        obtain ⟨q1, q2⟩ := hret
        subst q2
        exact W.vret hx hb (by rw [hr, q1]) (fun tt ht hW => fin tt ht hW) e4.2.2 hdg
      | some v =>
        cases v with
        | int x =>
          obtain ⟨⟨ty, q1, q3⟩, q2⟩ := hret
          subst q2
          exact W.zret hx hb (by rw [hr, q1]) q3 (fun tt ht hW => fin tt ht hW) e4.2.2 hdg
        | long x =>
          obtain ⟨q1, q2⟩ := hret
          subst q2
          exact W.lret hx hb (by rw [hr, q1]) (fun tt ht hW => fin tt ht hW) e4.2.2 hdg
        | ref a =>
          obtain ⟨⟨rt, q1, q3⟩, q2⟩ := hret
          subst q2
          exact W.aret hx hb (by rw [hr, q1]) q3 (Or.inr ⟨_, rfl⟩) (fun tt ht hW => fin tt ht hW) e4.2.2 hdg
        | float x => exact absurd hret id
        | double x => exact absurd hret id
        | null => exact absurd hret id
        | retAddr x => exact absurd hret id)
  refine key al t s.heap [] ls 0 0 rfl rfl ⟨he, hP, hD, va_S.rf, hl, ?_, (fun v hv => by cases hv), hy, hlen, rfl, fun _ _ => rfl⟩
  show jj_wl lay.length L
  rw [← hL]
  exact jj_wl_ent hav
theorem jj_mk {y : MethodName} {cc : ByteArray} {nL : Nat} {ret : Option FieldType} {sx : jj_X} {fr lo : Nat} {av : List Value} {lay lay' : jj_Lay} {S S' : jj_Mem} {v : Option Value} {L L' : List (Option Value)} {pc' : Nat} {ins : Instr} (own : String)
    (hpl : plainName y.cls = true) (hown : own = y.cls) (hL : jj_ent av ++ List.replicate (nL - (jj_ent av).length) none = L) (hlen : L.length = nL)
    (hret : jj_rt ret v ins) (hdg : decode cc pc' = .ok (ins, 1)) (h1 : lay.length ≤ lay'.length) (h2 : jj_sl lay ≤ jj_sl lay') (hwy : jj_wy lay → jj_wy lay') (hwv : jj_ws lay.length av → jj_wy lay → ∀ w, v = some w → jj_wv lay'.length w)
    (hR : jj_R cc nL own y.name sx fr lo lay'.length (jj_sl lay') (0, L, [], lay, S) (pc', L', v.toList, lay', S')) : jj_CT y (.code y cc nL ret) sx fr lo av lay S v lay' S' :=
  jj_mk0 (fun hbd => Met.ofW (cc := cc) (maxL := nL) (ret := ret) hpl rfl hbd) hown hL hlen hret hdg h1 h2 hwy hwv hR
theorem jj_mkW {y : MethodName} {cc : ByteArray} {nL : Nat} {ret : Option FieldType} {hh : List (Nat × Nat × Nat × Nat)} {sx : jj_X} {fr lo : Nat} {av : List Value} {lay lay' : jj_Lay} {S S' : jj_Mem} {v : Option Value} {L L' : List (Option Value)} {pc' : Nat} {ins : Instr} (own : String)
    (hpl : plainName y.cls = true) (hown : own = y.cls) (hL : jj_ent av ++ List.replicate (nL - (jj_ent av).length) none = L) (hlen : L.length = nL)
    (hret : jj_rt ret v ins) (hdg : decode cc pc' = .ok (ins, 1)) (h1 : lay.length ≤ lay'.length) (h2 : jj_sl lay ≤ jj_sl lay') (hwy : jj_wy lay → jj_wy lay') (hwv : jj_ws lay.length av → jj_wy lay → ∀ w, v = some w → jj_wv lay'.length w)
    (hR : jj_R cc nL own y.name sx fr lo lay'.length (jj_sl lay') (0, L, [], lay, S) (pc', L', v.toList, lay', S')) : jj_CT y (.codeWith y cc nL ret hh) sx fr lo av lay S v lay' S' :=
  jj_mk0 (fun hbd => va_MetW (cc := cc) (maxL := nL) (ret := ret) (hh := hh) hpl rfl hbd) hown hL hlen hret hdg h1 h2 hwy hwv hR
end
section
/-! CALLS, the caller's side: the whole picture goes along, and comes back. -/
theorem jj_v_agree {al al' : Nat → Nat} {n : Nat} (h0 : al' 0 = al 0) (h : ∀ k, k < n → al' (k + 1) = al (k + 1)) {v : Value} (hv : jj_wv n v) : jj_v al' v = jj_v al v := by
  cases v with
  | ref p => show Value.ref _ = Value.ref _; rw [h p hv]
  | retAddr x => show Value.ref _ = Value.ref _; rw [h0]
  | _ => rfl
theorem jj_asg_agree {al al' : Nat → Nat} {n : Nat} (h0 : al' 0 = al 0) (h : ∀ k, k < n → al' (k + 1) = al (k + 1)) : ∀ {L : List (Option Value)} {i : Nat}, jj_wl n L → jj_asg al' i L = jj_asg al i L
  | [], i, _ => rfl
  | none :: r, i, hL => jj_asg_agree h0 h (L := r) (i := i + 1) (fun v hv => hL v (List.mem_cons_of_mem _ hv))
  | some w :: r, i, hL => by
    show (i, jj_v al' w) :: jj_asg al' (i + 1) r = (i, jj_v al w) :: jj_asg al (i + 1) r
    rw [jj_v_agree h0 h (hL w List.mem_cons_self), jj_asg_agree h0 h (L := r) (i := i + 1) (fun v hv => hL v (List.mem_cons_of_mem _ hv))]
theorem jj_st_agree {al al' : Nat → Nat} {n : Nat} (h0 : al' 0 = al 0) (h : ∀ k, k < n → al' (k + 1) = al (k + 1)) {st : List Value} (hs : jj_ws n st) : st.map (jj_v al') = st.map (jj_v al) :=
  List.map_congr_left fun v hv => jj_v_agree h0 h (hs v hv)
theorem jj_nW_same {s U : State} (hv : s.vm = U.vm) (h : ∀ w ∈ jj_nW, va_Nw w s) : ∀ w ∈ jj_nW, va_Nw w U := by
  intro w hw
  have hn := (List.mem_filter.mp hw).2
  have h1 := h w hw
  cases w <;> first | exact va_Nw.same rfl hv h1 | exact jj_ao_vm (A := #[]) hv h1 | cases hn
theorem jj_X_moved {b Ls : Nat} {xs : Nat → Int32} {u U : State} {H : Heap} (hvm : u.vm.Alike U.vm) (h : va_X b Ls xs u H) : va_X b Ls xs U H := by
  obtain ⟨scr, h1, h2, h3⟩ := h
  exact ⟨scr, h1, State.isArrayOf_alike hvm h2, h3⟩
theorem jj_blind {D : va_G} {g : jj_G} {sx : jj_X} {al : Nat → Nat} {t : Nat → Nat → Int32} {lay : jj_Lay} {av : List Value} {sz : Nat} : FrameBlind (jj_Pc D g sx al t lay av sz) := by
  intro a U gg mk q
  obtain ⟨q0, q1, qP, qK, qD, qN, qX⟩ := q
  exact ⟨q0, q1, qP, va_K.moved (u := U) (U := U.calling gg mk a) (Vm.Alike.refl U.vm) qK, qD, jj_nW_same (s := U) (U := U.calling gg mk a) rfl qN, fun y hy => ⟨jj_X_moved (u := U) (U := U.calling gg mk a) (Vm.Alike.refl U.vm) (qX y hy).1, (qX y hy).2⟩⟩
theorem jj_pcU {s : State} {D : va_G} {g : jj_G} {sx : jj_X} {A : Nat → Prop} {al : Nat → Nat} {t : Nat → Nat → Int32} {lay : jj_Lay} {av : List Value} {H : Heap} {locs : List Loc} (hP : va_P D vwCl (jj_W g al t lay) H) (hK : va_K D vwCl [(g.1, .int), (g.2.1, .boolean), (g.2.2, .array .int)] s) (hD : va_D A (jj_W g al t lay)) (hN : ∀ w ∈ jj_nW, va_Nw w s) (hS : va_S A s.heap H locs)
    (hX : ∀ y, sx = some y → va_X (al 0) y.1 y.2 s s.heap ∧ al 0 < s.heap.size ∧ ¬ A (al 0)) : ∀ U : State, U.heap = H → s.WarmedH U.vm → jj_Pc D g sx al t lay av H.size (av.map (jj_v al)).toArray U := by
  intro U hU hW
  refine ⟨rfl, by rw [hU], by rw [hU]; exact hP, va_K.moved hW.alike hK, hD.weaken (fun _ _ _ _ => trivial), jj_nW_warm hW hN, fun y hy => ?_⟩
  obtain ⟨x1, x2, x3⟩ := hX y hy
  refine ⟨?_, Nat.lt_of_lt_of_le x2 hS.1, fun k c hc e => ?_⟩
  · obtain ⟨scr, h1, h2, h3⟩ := x1
    exact ⟨scr, by rw [hU, hS.2.1 _ x2 x3]; exact h1, State.isArrayOf_alike hW.alike h2, h3⟩
  · have h9 := hD.2 k _ (jj_W_at (g := g) (al := al) (t := t) hc)
    exact x3 (by rw [← e]; exact h9)
section JC
variable {p : Program} {l : Launch} {e : Env} {R : Room} {s : State} {m : MethodId} {args : Array Value} {below : List Frame} {meth : Method} {cd : Code} {H : Heap} {locs : List Loc} {cells slots : Nat} {Q : State → Prop}
theorem jj_goon {D : va_G} {g : jj_G} {A : Nat → Prop} {al : Nat → Nat} {t : Nat → Nat → Int32} {lay lay' : jj_Lay} {S' : jj_Mem} {v : Option Value} {mc ms pc : Nat} {ls : Array Slot} {st0 rest : List Value} {aa : Array Value}
    (hr : va_Run p l e R s m args below meth cd H locs cells slots mc ms (F0 m pc ls st0) rest (jj_Qc D g al t lay H.size v lay' S' aa) (va_A (jj_W g al t lay) H.size)) (hS : va_S A s.heap H locs) (hD : va_D A (jj_W g al t lay)) (hA : ∀ q, s.heap.size ≤ q → A q)
    (kk : ∀ (al' : Nat → Nat) (t' : Nat → Nat → Int32) (H1 : Heap) (locs1 : List Loc), al' 0 = al 0 → (∀ k, k < lay.length → al' (k + 1) = al (k + 1)) → jj_ext S' t' → va_P D vwCl (jj_W g al' t' lay') H1 → va_D A (jj_W g al' t' lay') → va_S A s.heap H1 locs1 → W p l e R s m args below meth cd H1 locs1 (cells + mc) (slots + ms) Q (F0 m (pc + 3) ls ((v.map (jj_v al')).toList ++ rest))) : W p l e R s m args below meth cd H locs cells slots Q (F0 m pc ls st0) := by
  have hf : ∀ q, va_A (jj_W g al t lay) H.size q → A q := fun q h => by
    rcases h with ⟨k, e9, h⟩ | h
    · exact hD.2 k _ h
    · exact hA q (Nat.le_trans hS.1 h)
  intro T hT X
  obtain ⟨v0, st₀, t0, T', L, h0, X', hL, e1, e2, ⟨al', t', hv, ⟨g1, g2⟩, hext, hP1, hD1, hF⟩, stp⟩ := hr T hT X
  cases hv
  obtain ⟨hz, hk⟩ := hF
  rw [h0] at hz hk
  obtain ⟨t2, a1, b1⟩ := kk al' t' T'.heap (locs ++ L) g1 g2 hext (by rw [e1]; exact hP1) (hD1.weaken (fun _ _ _ h => hf _ h))
    ⟨Nat.le_trans hS.1 (by rw [e1]; exact hz), fun q h1 h2 => by rw [e1, hk q (Nat.lt_of_lt_of_le h1 hS.1) (fun z => h2 (hf q z))]; exact hS.2.1 q h1 h2, fun q hq => by
      rcases List.mem_append.mp hq with h | h
      · exact hS.2.2 q h
      · exact hf _ (hL q h)⟩ T' rfl X'
  exact ⟨t2, stp t2 a1, b1⟩
end JC
theorem jj_GI {hd : Cond} (h : hd ∈ jj_gW) : GoodIn jj_gW (hd :: jj_gW) := fun w hw => by
  rcases List.mem_cons.mp hw with e | hw
  · subst e; exact ⟨h, jj_gW_good _ h⟩
  · exact ⟨hw, jj_gW_good _ hw⟩
/-- what a call needs of the callee's name, by program -/
def jj_yn (y : MethodName) (n : Nat) : Prop := y.cls ≠ "java/lang/invoke/MethodHandle" ∧ y.cls ≠ "java/lang/invoke/VarHandle" ∧ (parseMethodDescriptor y.desc).map (fun d => d.parameters.length) = some n
/-- the room of a call -/
def jj_rm (fr lo fr' lo' nL' nc sc : Nat) (lay' : jj_Lay) (st : List Value) : Prop := fr' + 1 ≤ fr ∧ 8 + (nL' + 11) + lo' ≤ lo ∧ lay'.length ≤ nc ∧ jj_sl lay' ≤ sc ∧ (st.map fun v => v.category).sum ≤ 8
section JK
variable {cc : ByteArray} {nL : Nat} {own nm : String} {sx sx' : jj_X} {fr lo nc sc : Nat} {cE : jj_C} {pc : Nat} {L : List (Option Value)} {st : List Value} {lay lay' : jj_Lay} {S S' : jj_Mem}
theorem js_callS {y : MethodName} {cc' : ByteArray} {nL' fr' lo' ix : Nat} {av : List Value} {v : Option Value} {ret' : Option FieldType} {stk : List Value} (hCT : jj_CT y (.code y cc' nL' ret') sx' fr' lo' av lay S v lay' S') (hsx : sx' = none ∨ sx' = sx) (hcw : Cond.code y cc' nL' ret' ∈ jj_gW) (hini : Cond.initialized y.cls ∈ jj_gW) (hlk : Cond.methodLink own ix y ∈ jj_gW) (hstt : Cond.static y ∈ jj_gW) (hyn : jj_yn y av.length) (hstk : stk = av.reverse ++ st) (hrm : jj_rm fr lo fr' lo' nL' nc sc lay' st) (hdg : decode cc pc = .ok (.invokestatic ix, 3))
    (k : jj_R cc nL own nm sx fr lo nc sc (pc + 3, L, v.toList ++ st, lay', S') cE) : jj_R cc nL own nm sx fr lo nc sc (pc, L, stk, lay, S) cE := by
  intro p l e R s m args below meth cd D g A al0 n0 s0 Q hC hf hl hc hs hE
  have hk := k p l e R s m args below meth cd D g A al0 n0 s0 Q hC hf hl hc hs hE
  intro al t H locs ls cells slots h1 h2 hR
  obtain ⟨hx, hb, hml, hown, hnm, hts, hN, hK, hA, hX⟩ := hC
  obtain ⟨e1, e2, e3, e4, e5, e6, e7, e8, e9, e10, e11⟩ := hR
  subst hstk
  obtain ⟨c1, c2, c3⟩ := hCT
  obtain ⟨m1, m2, m3, m4, m5⟩ := hrm
  have hrest : jj_ws lay.length st := fun w hw => e7 w (List.mem_append_right _ hw)
  have hav : jj_ws lay.length av := fun w hw => e7 w (List.mem_append_left _ (List.mem_reverse.mpr hw))
  obtain ⟨d1, d2, d3⟩ := c3 hav e8
  have hM := d3 l D g al t H.size e1
  have hX9 : ∀ z, sx' = some z → va_X (al 0) z.1 z.2 s s.heap ∧ al 0 < s.heap.size ∧ ¬ A (al 0) := fun z hz => by
    rcases hsx with q | q
    · rw [q] at hz; cases hz
    · rw [e10]; exact hX z (q ▸ hz)
  have hpc := jj_pcU (sx := sx') (av := av) e2 hK e3 hN e4 hX9
  have hlen9 : (av.map (jj_v al)).length = av.length := List.length_map _
  have hst9 : (av.reverse ++ st).map (jj_v al) = (av.map (jj_v al)).reverse ++ st.map (jj_v al) := by
    rw [List.map_append, List.map_reverse]
  have hcat : ((st.map (jj_v al)).map fun v => v.category).sum ≤ 8 := by
    rw [List.map_map]
    have : (st.map ((fun v => v.category) ∘ jj_v al)) = st.map fun v => v.category := List.map_congr_left fun v _ => jj_v_cat al v
    rw [this]; exact m5
  have hroom : cells + (lay'.length - lay.length) ≤ R.cells ∧ slots + (jj_sl lay' - jj_sl lay) ≤ R.slots := by
    have z1 : n0 + cells = lay.length := h1
    have z2 : s0 + slots = jj_sl lay := h2
    constructor <;> omega
  have hGI : GoodIn jj_gW (va_wsS own ix y (.code y cc' nL' ret' :: jj_gW)) := fun w hw => by
    unfold va_wsS at hw
    rcases List.mem_append.mp hw with hw | hw
    · have hw2 : w ∈ jj_gW := by
        simp only [List.mem_cons, List.not_mem_nil, or_false] at hw
        rcases hw with rfl | rfl | rfl <;> assumption
      exact ⟨hw2, jj_gW_good _ hw2⟩
    · exact jj_GI hcw w hw
  refine W.eq (g2 := F0 m pc ls ((av.map (jj_v al)).reverse ++ st.map (jj_v al))) (congrArg (F0 m pc ls) hst9) ?_
  refine jj_goon (va_runS (As := av.map (jj_v al)) (rest := st.map (jj_v al)) ⟨hx, hb, hml, hown, hts⟩ hM (va_cwS av.length hts hGI rfl rfl rfl hyn ⟨by show fr' + 1 ≤ _; omega, by show 8 + (nL' + 11) + lo' ≤ _; omega⟩) ⟨jj_blind, hpc⟩ rfl hlen9 e5.1 rfl (lv_room hcat) hdg hroom) e4 e3 hA (fun al' t' H1 locs1 g1 g2 hext hP1 hD1 hS1 => ?_)
  have hk2 := hk al' t' H1 locs1 ls (cells + (lay'.length - lay.length)) (slots + (jj_sl lay' - jj_sl lay)) (by have z1 : n0 + cells = lay.length := h1; show n0 + (cells + (lay'.length - lay.length)) = lay'.length; omega) (by have z2 : s0 + slots = jj_sl lay := h2; show s0 + (slots + (jj_sl lay' - jj_sl lay)) = jj_sl lay'; omega)
    ⟨hext, hP1, hD1, hS1, by rw [jj_asg_agree g1 g2 e6]; exact e5, fun w hw => jj_wv_mono c1 (e6 w hw), fun w hw => by
      rcases List.mem_append.mp hw with h | h
      · cases v with
        | none => cases h
        | some v => exact d2 w (congrArg some (List.mem_singleton.mp h).symm)
      · exact jj_wv_mono c1 (hrest w h), d1, e9, g1.trans e10, fun q hq => (g2 q (by have z1 : n0 + cells = lay.length := h1; omega)).trans (e11 q hq)⟩
  have he9 : (v.toList ++ st).map (jj_v al') = (v.map (jj_v al')).toList ++ st.map (jj_v al) := by
    rw [List.map_append, jj_st_agree g1 g2 hrest]
    cases v <;> rfl
  have hk3 := hk2
  dsimp only at hk3
  rw [he9] at hk3
  exact hk3
theorem js_callSN {y : MethodName} {cc' : ByteArray} {nL' fr' lo' ix : Nat} {av : List Value} {v : Option Value} {ret' : Option FieldType} {host : String} {stk : List Value} (hCT : jj_CT y (.code y cc' nL' ret') sx' fr' lo' av lay S v lay' S') (hsx : sx' = none ∨ sx' = sx) (hcw : Cond.code y cc' nL' ret' ∈ jj_gW) (hini : Cond.initialized y.cls ∈ jj_gW) (hlk : Cond.methodLinkNest own ix y host ∈ jj_nW) (hstt : Cond.static y ∈ jj_gW) (hyn : jj_yn y av.length) (hstk : stk = av.reverse ++ st) (hrm : jj_rm fr lo fr' lo' nL' nc sc lay' st) (hdg : decode cc pc = .ok (.invokestatic ix, 3))
    (k : jj_R cc nL own nm sx fr lo nc sc (pc + 3, L, v.toList ++ st, lay', S') cE) : jj_R cc nL own nm sx fr lo nc sc (pc, L, stk, lay, S) cE := by
  intro p l e R s m args below meth cd D g A al0 n0 s0 Q hC hf hl hc hs hE
  have hk := k p l e R s m args below meth cd D g A al0 n0 s0 Q hC hf hl hc hs hE
  intro al t H locs ls cells slots h1 h2 hR
  obtain ⟨hx, hb, hml, hown, hnm, hts, hN, hK, hA, hX⟩ := hC
  obtain ⟨e1, e2, e3, e4, e5, e6, e7, e8, e9, e10, e11⟩ := hR
  subst hstk
  obtain ⟨c1, c2, c3⟩ := hCT
  obtain ⟨m1, m2, m3, m4, m5⟩ := hrm
  have hrest : jj_ws lay.length st := fun w hw => e7 w (List.mem_append_right _ hw)
  have hav : jj_ws lay.length av := fun w hw => e7 w (List.mem_append_left _ (List.mem_reverse.mpr hw))
  obtain ⟨d1, d2, d3⟩ := c3 hav e8
  have hM := d3 l D g al t H.size e1
  have hX9 : ∀ z, sx' = some z → va_X (al 0) z.1 z.2 s s.heap ∧ al 0 < s.heap.size ∧ ¬ A (al 0) := fun z hz => by
    rcases hsx with q | q
    · rw [q] at hz; cases hz
    · rw [e10]; exact hX z (q ▸ hz)
  have hpc := jj_pcU (sx := sx') (av := av) e2 hK e3 hN e4 hX9
  have hlen9 : (av.map (jj_v al)).length = av.length := List.length_map _
  have hst9 : (av.reverse ++ st).map (jj_v al) = (av.map (jj_v al)).reverse ++ st.map (jj_v al) := by
    rw [List.map_append, List.map_reverse]
  have hcat : ((st.map (jj_v al)).map fun v => v.category).sum ≤ 8 := by
    rw [List.map_map]
    have : (st.map ((fun v => v.category) ∘ jj_v al)) = st.map fun v => v.category := List.map_congr_left fun v _ => jj_v_cat al v
    rw [this]; exact m5
  have hroom : cells + (lay'.length - lay.length) ≤ R.cells ∧ slots + (jj_sl lay' - jj_sl lay) ≤ R.slots := by
    have z1 : n0 + cells = lay.length := h1
    have z2 : s0 + slots = jj_sl lay := h2
    constructor <;> omega
  refine W.eq (g2 := F0 m pc ls ((av.map (jj_v al)).reverse ++ st.map (jj_v al))) (congrArg (F0 m pc ls) hst9) ?_
  refine jj_goon (va_runSN (As := av.map (jj_v al)) (rest := st.map (jj_v al)) ⟨hx, hb, hml, hown, hts⟩ hM ⟨va_cnB av.length hts (jj_GI hcw) rfl rfl rfl (hN _ hlk) (hts _ hini) hyn ⟨by show fr' + 1 ≤ _; omega, by show 8 + (nL' + 11) + lo' ≤ _; omega⟩, hts _ hstt, trivial⟩ ⟨jj_blind, hpc⟩ rfl hlen9 e5.1 rfl (lv_room hcat) hdg hroom) e4 e3 hA (fun al' t' H1 locs1 g1 g2 hext hP1 hD1 hS1 => ?_)
  have hk2 := hk al' t' H1 locs1 ls (cells + (lay'.length - lay.length)) (slots + (jj_sl lay' - jj_sl lay)) (by have z1 : n0 + cells = lay.length := h1; show n0 + (cells + (lay'.length - lay.length)) = lay'.length; omega) (by have z2 : s0 + slots = jj_sl lay := h2; show s0 + (slots + (jj_sl lay' - jj_sl lay)) = jj_sl lay'; omega)
    ⟨hext, hP1, hD1, hS1, by rw [jj_asg_agree g1 g2 e6]; exact e5, fun w hw => jj_wv_mono c1 (e6 w hw), fun w hw => by
      rcases List.mem_append.mp hw with h | h
      · cases v with
        | none => cases h
        | some v => exact d2 w (congrArg some (List.mem_singleton.mp h).symm)
      · exact jj_wv_mono c1 (hrest w h), d1, e9, g1.trans e10, fun q hq => (g2 q (by have z1 : n0 + cells = lay.length := h1; omega)).trans (e11 q hq)⟩
  have he9 : (v.toList ++ st).map (jj_v al') = (v.map (jj_v al')).toList ++ st.map (jj_v al) := by
    rw [List.map_append, jj_st_agree g1 g2 hrest]
    cases v <;> rfl
  have hk3 := hk2
  dsimp only at hk3
  rw [he9] at hk3
  exact hk3
theorem js_callV {y : MethodName} {cc' : ByteArray} {nL' fr' lo' ix : Nat} {av : List Value} {v : Option Value} {ret' : Option FieldType} {b : Nat} {stk : List Value} (hCT : jj_CT y (.code y cc' nL' ret') sx' fr' lo' (.ref b :: av) lay S v lay' S') (hsx : sx' = none ∨ sx' = sx) (hcw : Cond.code y cc' nL' ret' ∈ jj_gW) (hini : Cond.initialized y.cls ∈ jj_gW) (hlk : Cond.methodLink own ix y ∈ jj_gW) (hin : Cond.instanceMethod y ∈ jj_gW) (hse : Cond.selects y.cls y y ∈ jj_gW) {ci n9 : Nat} {rs9 : List (Option (Option Nat))} {T9 : u_T} (hb9 : lay[b]? = some (ci, n9, rs9)) (hcl : vwCl[ci]? = some (y.cls, T9, n9)) (hyn : jj_yn y av.length) (hstk : stk = av.reverse ++ .ref b :: st) (hrm : jj_rm fr lo fr' lo' nL' nc sc lay' st) (hdg : decode cc pc = .ok (.invokevirtual ix, 3))
    (k : jj_R cc nL own nm sx fr lo nc sc (pc + 3, L, v.toList ++ st, lay', S') cE) : jj_R cc nL own nm sx fr lo nc sc (pc, L, stk, lay, S) cE := by
  intro p l e R s m args below meth cd D g A al0 n0 s0 Q hC hf hl hc hs hE
  have hk := k p l e R s m args below meth cd D g A al0 n0 s0 Q hC hf hl hc hs hE
  intro al t H locs ls cells slots h1 h2 hR
  obtain ⟨hx, hb, hml, hown, hnm, hts, hN, hK, hA, hX⟩ := hC
  obtain ⟨e1, e2, e3, e4, e5, e6, e7, e8, e9, e10, e11⟩ := hR
  subst hstk
  obtain ⟨c1, c2, c3⟩ := hCT
  obtain ⟨m1, m2, m3, m4, m5⟩ := hrm
  have hrest : jj_ws lay.length st := fun w hw => e7 w (List.mem_append_right _ (List.mem_cons_of_mem _ hw))
  have hav : jj_ws lay.length (.ref b :: av) := fun w hw => by
    rcases List.mem_cons.mp hw with e | hw
    · exact e7 w (List.mem_append_right _ (by rw [e]; exact List.mem_cons_self))
    · exact e7 w (List.mem_append_left _ (List.mem_reverse.mpr hw))
  obtain ⟨d1, d2, d3⟩ := c3 hav e8
  have hM := d3 l D g al t H.size e1
  have hX9 : ∀ z, sx' = some z → va_X (al 0) z.1 z.2 s s.heap ∧ al 0 < s.heap.size ∧ ¬ A (al 0) := fun z hz => by
    rcases hsx with q | q
    · rw [q] at hz; cases hz
    · rw [e10]; exact hX z (q ▸ hz)
  have hpc := jj_pcU (sx := sx') (av := (.ref b :: av)) e2 hK e3 hN e4 hX9
  have hlen9 : (av.map (jj_v al)).length = av.length := List.length_map _
  have hst9 : (av.reverse ++ .ref b :: st).map (jj_v al) = (av.map (jj_v al)).reverse ++ .ref (al (b + 1)) :: st.map (jj_v al) := by
    rw [List.map_append, List.map_reverse]; rfl
  have hcat : ((st.map (jj_v al)).map fun v => v.category).sum ≤ 8 := by
    rw [List.map_map]
    have : (st.map ((fun v => v.category) ∘ jj_v al)) = st.map fun v => v.category := List.map_congr_left fun v _ => jj_v_cat al v
    rw [this]; exact m5
  have hroom : cells + (lay'.length - lay.length) ≤ R.cells ∧ slots + (jj_sl lay' - jj_sl lay) ≤ R.slots := by
    have z1 : n0 + cells = lay.length := h1
    have z2 : s0 + slots = jj_sl lay := h2
    constructor <;> omega
  have hrecv : ∃ cell : Cell, H[al (b + 1)]? = some cell ∧ cell.vm.isStatics = false ∧ s.vm.findClass y.cls = some cell.cls := by
    have he := jj_W_at (g := g) (al := al) (t := t) hb9
    rw [jj_cell_o (jj_cls hcl).2.2.2] at he
    exact va_recv hK e2 hcl he
  have hGI : GoodIn jj_gW (wsV own ix y.cls y (.code y cc' nL' ret' :: jj_gW)) := fun w hw => by
    unfold wsV at hw
    rcases List.mem_append.mp hw with hw | hw
    · have hw2 : w ∈ jj_gW := by
        simp only [List.mem_cons, List.not_mem_nil, or_false] at hw
        rcases hw with rfl | rfl | rfl | rfl <;> assumption
      exact ⟨hw2, jj_gW_good _ hw2⟩
    · exact jj_GI hcw w hw
  refine W.eq (g2 := F0 m pc ls ((av.map (jj_v al)).reverse ++ .ref (al (b + 1)) :: st.map (jj_v al))) (congrArg (F0 m pc ls) hst9) ?_
  refine jj_goon (va_runV (As := av.map (jj_v al)) (rest := st.map (jj_v al)) ⟨hx, hb, hml, hown, hts⟩ hM (cwV av.length hts hGI rfl rfl rfl ⟨rfl, hyn⟩ ⟨by show fr' + 1 ≤ _; omega, by show 8 + (nL' + 11) + lo' ≤ _; omega⟩) ⟨jj_blind, hrecv, hpc⟩ rfl hlen9 e5.1 rfl (lv_room hcat) hdg hroom) e4 e3 hA (fun al' t' H1 locs1 g1 g2 hext hP1 hD1 hS1 => ?_)
  have hk2 := hk al' t' H1 locs1 ls (cells + (lay'.length - lay.length)) (slots + (jj_sl lay' - jj_sl lay)) (by have z1 : n0 + cells = lay.length := h1; show n0 + (cells + (lay'.length - lay.length)) = lay'.length; omega) (by have z2 : s0 + slots = jj_sl lay := h2; show s0 + (slots + (jj_sl lay' - jj_sl lay)) = jj_sl lay'; omega)
    ⟨hext, hP1, hD1, hS1, by rw [jj_asg_agree g1 g2 e6]; exact e5, fun w hw => jj_wv_mono c1 (e6 w hw), fun w hw => by
      rcases List.mem_append.mp hw with h | h
      · cases v with
        | none => cases h
        | some v => exact d2 w (congrArg some (List.mem_singleton.mp h).symm)
      · exact jj_wv_mono c1 (hrest w h), d1, e9, g1.trans e10, fun q hq => (g2 q (by have z1 : n0 + cells = lay.length := h1; omega)).trans (e11 q hq)⟩
  have he9 : (v.toList ++ st).map (jj_v al') = (v.map (jj_v al')).toList ++ st.map (jj_v al) := by
    rw [List.map_append, jj_st_agree g1 g2 hrest]
    cases v <;> rfl
  have hk3 := hk2
  dsimp only at hk3
  rw [he9] at hk3
  exact hk3
theorem js_callVN {y : MethodName} {cc' : ByteArray} {nL' fr' lo' ix : Nat} {av : List Value} {v : Option Value} {ret' : Option FieldType} {host : String} {b : Nat} {stk : List Value} (hCT : jj_CT y (.code y cc' nL' ret') sx' fr' lo' (.ref b :: av) lay S v lay' S') (hsx : sx' = none ∨ sx' = sx) (hcw : Cond.code y cc' nL' ret' ∈ jj_gW) (hini : Cond.initialized y.cls ∈ jj_gW) (hlk : Cond.methodLinkNest own ix y host ∈ jj_nW) (hin : Cond.instanceMethod y ∈ jj_gW) (hse : Cond.selects y.cls y y ∈ jj_gW) {ci n9 : Nat} {rs9 : List (Option (Option Nat))} {T9 : u_T} (hb9 : lay[b]? = some (ci, n9, rs9)) (hcl : vwCl[ci]? = some (y.cls, T9, n9)) (hyn : jj_yn y av.length) (hstk : stk = av.reverse ++ .ref b :: st) (hrm : jj_rm fr lo fr' lo' nL' nc sc lay' st) (hdg : decode cc pc = .ok (.invokevirtual ix, 3))
    (k : jj_R cc nL own nm sx fr lo nc sc (pc + 3, L, v.toList ++ st, lay', S') cE) : jj_R cc nL own nm sx fr lo nc sc (pc, L, stk, lay, S) cE := by
  intro p l e R s m args below meth cd D g A al0 n0 s0 Q hC hf hl hc hs hE
  have hk := k p l e R s m args below meth cd D g A al0 n0 s0 Q hC hf hl hc hs hE
  intro al t H locs ls cells slots h1 h2 hR
  obtain ⟨hx, hb, hml, hown, hnm, hts, hN, hK, hA, hX⟩ := hC
  obtain ⟨e1, e2, e3, e4, e5, e6, e7, e8, e9, e10, e11⟩ := hR
  subst hstk
  obtain ⟨c1, c2, c3⟩ := hCT
  obtain ⟨m1, m2, m3, m4, m5⟩ := hrm
  have hrest : jj_ws lay.length st := fun w hw => e7 w (List.mem_append_right _ (List.mem_cons_of_mem _ hw))
  have hav : jj_ws lay.length (.ref b :: av) := fun w hw => by
    rcases List.mem_cons.mp hw with e | hw
    · exact e7 w (List.mem_append_right _ (by rw [e]; exact List.mem_cons_self))
    · exact e7 w (List.mem_append_left _ (List.mem_reverse.mpr hw))
  obtain ⟨d1, d2, d3⟩ := c3 hav e8
  have hM := d3 l D g al t H.size e1
  have hX9 : ∀ z, sx' = some z → va_X (al 0) z.1 z.2 s s.heap ∧ al 0 < s.heap.size ∧ ¬ A (al 0) := fun z hz => by
    rcases hsx with q | q
    · rw [q] at hz; cases hz
    · rw [e10]; exact hX z (q ▸ hz)
  have hpc := jj_pcU (sx := sx') (av := (.ref b :: av)) e2 hK e3 hN e4 hX9
  have hlen9 : (av.map (jj_v al)).length = av.length := List.length_map _
  have hst9 : (av.reverse ++ .ref b :: st).map (jj_v al) = (av.map (jj_v al)).reverse ++ .ref (al (b + 1)) :: st.map (jj_v al) := by
    rw [List.map_append, List.map_reverse]; rfl
  have hcat : ((st.map (jj_v al)).map fun v => v.category).sum ≤ 8 := by
    rw [List.map_map]
    have : (st.map ((fun v => v.category) ∘ jj_v al)) = st.map fun v => v.category := List.map_congr_left fun v _ => jj_v_cat al v
    rw [this]; exact m5
  have hroom : cells + (lay'.length - lay.length) ≤ R.cells ∧ slots + (jj_sl lay' - jj_sl lay) ≤ R.slots := by
    have z1 : n0 + cells = lay.length := h1
    have z2 : s0 + slots = jj_sl lay := h2
    constructor <;> omega
  have hrecv : ∃ cell : Cell, H[al (b + 1)]? = some cell ∧ cell.vm.isStatics = false ∧ s.vm.findClass y.cls = some cell.cls := by
    have he := jj_W_at (g := g) (al := al) (t := t) hb9
    rw [jj_cell_o (jj_cls hcl).2.2.2] at he
    exact va_recv hK e2 hcl he
  refine W.eq (g2 := F0 m pc ls ((av.map (jj_v al)).reverse ++ .ref (al (b + 1)) :: st.map (jj_v al))) (congrArg (F0 m pc ls) hst9) ?_
  refine jj_goon (va_runVN (As := av.map (jj_v al)) (rest := st.map (jj_v al)) ⟨hx, hb, hml, hown, hts⟩ hM ⟨va_cnB av.length hts (jj_GI hcw) rfl rfl rfl (hN _ hlk) (hts _ hini) hyn ⟨by show fr' + 1 ≤ _; omega, by show 8 + (nL' + 11) + lo' ≤ _; omega⟩, hts _ hin, hts _ hse⟩ ⟨jj_blind, hrecv, hpc⟩ rfl hlen9 e5.1 rfl (lv_room hcat) hdg hroom) e4 e3 hA (fun al' t' H1 locs1 g1 g2 hext hP1 hD1 hS1 => ?_)
  have hk2 := hk al' t' H1 locs1 ls (cells + (lay'.length - lay.length)) (slots + (jj_sl lay' - jj_sl lay)) (by have z1 : n0 + cells = lay.length := h1; show n0 + (cells + (lay'.length - lay.length)) = lay'.length; omega) (by have z2 : s0 + slots = jj_sl lay := h2; show s0 + (slots + (jj_sl lay' - jj_sl lay)) = jj_sl lay'; omega)
    ⟨hext, hP1, hD1, hS1, by rw [jj_asg_agree g1 g2 e6]; exact e5, fun w hw => jj_wv_mono c1 (e6 w hw), fun w hw => by
      rcases List.mem_append.mp hw with h | h
      · cases v with
        | none => cases h
        | some v => exact d2 w (congrArg some (List.mem_singleton.mp h).symm)
      · exact jj_wv_mono c1 (hrest w h), d1, e9, g1.trans e10, fun q hq => (g2 q (by have z1 : n0 + cells = lay.length := h1; omega)).trans (e11 q hq)⟩
  have he9 : (v.toList ++ st).map (jj_v al') = (v.map (jj_v al')).toList ++ st.map (jj_v al) := by
    rw [List.map_append, jj_st_agree g1 g2 hrest]
    cases v <;> rfl
  have hk3 := hk2
  dsimp only at hk3
  rw [he9] at hk3
  exact hk3
theorem js_callI {y : MethodName} {cc' : ByteArray} {nL' fr' lo' ix : Nat} {av : List Value} {v : Option Value} {b : Nat} {stk : List Value} (hCT : jj_CT y (.code y cc' nL' none) sx' fr' lo' (.ref b :: av) lay S v lay' S') (hsx : sx' = none ∨ sx' = sx) (hcw : Cond.code y cc' nL' none ∈ jj_gW) (hini : Cond.initialized y.cls ∈ jj_gW) (hlk : Cond.methodLink own ix y ∈ jj_gW) (hin : Cond.instanceMethod y ∈ jj_gW) (hnm9 : y.name = "<init>") (hyn : jj_yn y av.length) (hstk : stk = av.reverse ++ .ref b :: st) (hrm : jj_rm fr lo fr' lo' nL' nc sc lay' st) (hdg : decode cc pc = .ok (.invokespecial ix, 3))
    (k : jj_R cc nL own nm sx fr lo nc sc (pc + 3, L, v.toList ++ st, lay', S') cE) : jj_R cc nL own nm sx fr lo nc sc (pc, L, stk, lay, S) cE := by
  intro p l e R s m args below meth cd D g A al0 n0 s0 Q hC hf hl hc hs hE
  have hk := k p l e R s m args below meth cd D g A al0 n0 s0 Q hC hf hl hc hs hE
  intro al t H locs ls cells slots h1 h2 hR
  obtain ⟨hx, hb, hml, hown, hnm, hts, hN, hK, hA, hX⟩ := hC
  obtain ⟨e1, e2, e3, e4, e5, e6, e7, e8, e9, e10, e11⟩ := hR
  subst hstk
  obtain ⟨c1, c2, c3⟩ := hCT
  obtain ⟨m1, m2, m3, m4, m5⟩ := hrm
  have hrest : jj_ws lay.length st := fun w hw => e7 w (List.mem_append_right _ (List.mem_cons_of_mem _ hw))
  have hav : jj_ws lay.length (.ref b :: av) := fun w hw => by
    rcases List.mem_cons.mp hw with e | hw
    · exact e7 w (List.mem_append_right _ (by rw [e]; exact List.mem_cons_self))
    · exact e7 w (List.mem_append_left _ (List.mem_reverse.mpr hw))
  obtain ⟨d1, d2, d3⟩ := c3 hav e8
  have hM := d3 l D g al t H.size e1
  have hX9 : ∀ z, sx' = some z → va_X (al 0) z.1 z.2 s s.heap ∧ al 0 < s.heap.size ∧ ¬ A (al 0) := fun z hz => by
    rcases hsx with q | q
    · rw [q] at hz; cases hz
    · rw [e10]; exact hX z (q ▸ hz)
  have hpc := jj_pcU (sx := sx') (av := (.ref b :: av)) e2 hK e3 hN e4 hX9
  have hlen9 : (av.map (jj_v al)).length = av.length := List.length_map _
  have hst9 : (av.reverse ++ .ref b :: st).map (jj_v al) = (av.map (jj_v al)).reverse ++ .ref (al (b + 1)) :: st.map (jj_v al) := by
    rw [List.map_append, List.map_reverse]; rfl
  have hcat : ((st.map (jj_v al)).map fun v => v.category).sum ≤ 8 := by
    rw [List.map_map]
    have : (st.map ((fun v => v.category) ∘ jj_v al)) = st.map fun v => v.category := List.map_congr_left fun v _ => jj_v_cat al v
    rw [this]; exact m5
  have hroom : cells + (lay'.length - lay.length) ≤ R.cells ∧ slots + (jj_sl lay' - jj_sl lay) ≤ R.slots := by
    have z1 : n0 + cells = lay.length := h1
    have z2 : s0 + slots = jj_sl lay := h2
    constructor <;> omega
  refine W.eq (g2 := F0 m pc ls ((av.map (jj_v al)).reverse ++ .ref (al (b + 1)) :: st.map (jj_v al))) (congrArg (F0 m pc ls) hst9) ?_
  refine jj_goon (va_runI (As := av.map (jj_v al)) (rest := st.map (jj_v al)) ⟨hx, hb, hml, hown, hts⟩ hM (cwI av.length hts (jj_GI hcw) rfl rfl rfl (hts _ hini) (hts _ hlk) (hts _ hin) hnm9 hyn ⟨by show fr' + 1 ≤ _; omega, by show 8 + (nL' + 11) + lo' ≤ _; omega⟩) ⟨jj_blind, hpc⟩ rfl hlen9 e5.1 rfl (lv_room hcat) hdg hroom) e4 e3 hA (fun al' t' H1 locs1 g1 g2 hext hP1 hD1 hS1 => ?_)
  have hk2 := hk al' t' H1 locs1 ls (cells + (lay'.length - lay.length)) (slots + (jj_sl lay' - jj_sl lay)) (by have z1 : n0 + cells = lay.length := h1; show n0 + (cells + (lay'.length - lay.length)) = lay'.length; omega) (by have z2 : s0 + slots = jj_sl lay := h2; show s0 + (slots + (jj_sl lay' - jj_sl lay)) = jj_sl lay'; omega)
    ⟨hext, hP1, hD1, hS1, by rw [jj_asg_agree g1 g2 e6]; exact e5, fun w hw => jj_wv_mono c1 (e6 w hw), fun w hw => by
      rcases List.mem_append.mp hw with h | h
      · cases v with
        | none => cases h
        | some v => exact d2 w (congrArg some (List.mem_singleton.mp h).symm)
      · exact jj_wv_mono c1 (hrest w h), d1, e9, g1.trans e10, fun q hq => (g2 q (by have z1 : n0 + cells = lay.length := h1; omega)).trans (e11 q hq)⟩
  have he9 : (v.toList ++ st).map (jj_v al') = (v.map (jj_v al')).toList ++ st.map (jj_v al) := by
    rw [List.map_append, jj_st_agree g1 g2 hrest]
    cases v <;> rfl
  have hk3 := hk2
  dsimp only at hk3
  rw [he9] at hk3
  exact hk3
theorem js_callIN {y : MethodName} {cc' : ByteArray} {nL' fr' lo' ix : Nat} {av : List Value} {v : Option Value} {host : String} {b : Nat} {stk : List Value} (hCT : jj_CT y (.code y cc' nL' none) sx' fr' lo' (.ref b :: av) lay S v lay' S') (hsx : sx' = none ∨ sx' = sx) (hcw : Cond.code y cc' nL' none ∈ jj_gW) (hini : Cond.initialized y.cls ∈ jj_gW) (hlk : Cond.methodLinkNest own ix y host ∈ jj_nW) (hin : Cond.instanceMethod y ∈ jj_gW) (hnm9 : y.name = "<init>") (hyn : jj_yn y av.length) (hstk : stk = av.reverse ++ .ref b :: st) (hrm : jj_rm fr lo fr' lo' nL' nc sc lay' st) (hdg : decode cc pc = .ok (.invokespecial ix, 3))
    (k : jj_R cc nL own nm sx fr lo nc sc (pc + 3, L, v.toList ++ st, lay', S') cE) : jj_R cc nL own nm sx fr lo nc sc (pc, L, stk, lay, S) cE := by
  intro p l e R s m args below meth cd D g A al0 n0 s0 Q hC hf hl hc hs hE
  have hk := k p l e R s m args below meth cd D g A al0 n0 s0 Q hC hf hl hc hs hE
  intro al t H locs ls cells slots h1 h2 hR
  obtain ⟨hx, hb, hml, hown, hnm, hts, hN, hK, hA, hX⟩ := hC
  obtain ⟨e1, e2, e3, e4, e5, e6, e7, e8, e9, e10, e11⟩ := hR
  subst hstk
  obtain ⟨c1, c2, c3⟩ := hCT
  obtain ⟨m1, m2, m3, m4, m5⟩ := hrm
  have hrest : jj_ws lay.length st := fun w hw => e7 w (List.mem_append_right _ (List.mem_cons_of_mem _ hw))
  have hav : jj_ws lay.length (.ref b :: av) := fun w hw => by
    rcases List.mem_cons.mp hw with e | hw
    · exact e7 w (List.mem_append_right _ (by rw [e]; exact List.mem_cons_self))
    · exact e7 w (List.mem_append_left _ (List.mem_reverse.mpr hw))
  obtain ⟨d1, d2, d3⟩ := c3 hav e8
  have hM := d3 l D g al t H.size e1
  have hX9 : ∀ z, sx' = some z → va_X (al 0) z.1 z.2 s s.heap ∧ al 0 < s.heap.size ∧ ¬ A (al 0) := fun z hz => by
    rcases hsx with q | q
    · rw [q] at hz; cases hz
    · rw [e10]; exact hX z (q ▸ hz)
  have hpc := jj_pcU (sx := sx') (av := (.ref b :: av)) e2 hK e3 hN e4 hX9
  have hlen9 : (av.map (jj_v al)).length = av.length := List.length_map _
  have hst9 : (av.reverse ++ .ref b :: st).map (jj_v al) = (av.map (jj_v al)).reverse ++ .ref (al (b + 1)) :: st.map (jj_v al) := by
    rw [List.map_append, List.map_reverse]; rfl
  have hcat : ((st.map (jj_v al)).map fun v => v.category).sum ≤ 8 := by
    rw [List.map_map]
    have : (st.map ((fun v => v.category) ∘ jj_v al)) = st.map fun v => v.category := List.map_congr_left fun v _ => jj_v_cat al v
    rw [this]; exact m5
  have hroom : cells + (lay'.length - lay.length) ≤ R.cells ∧ slots + (jj_sl lay' - jj_sl lay) ≤ R.slots := by
    have z1 : n0 + cells = lay.length := h1
    have z2 : s0 + slots = jj_sl lay := h2
    constructor <;> omega
  refine W.eq (g2 := F0 m pc ls ((av.map (jj_v al)).reverse ++ .ref (al (b + 1)) :: st.map (jj_v al))) (congrArg (F0 m pc ls) hst9) ?_
  refine jj_goon (va_runIN (As := av.map (jj_v al)) (rest := st.map (jj_v al)) ⟨hx, hb, hml, hown, hts⟩ hM ⟨va_cnB av.length hts (jj_GI hcw) rfl rfl rfl (hN _ hlk) (hts _ hini) hyn ⟨by show fr' + 1 ≤ _; omega, by show 8 + (nL' + 11) + lo' ≤ _; omega⟩, hnm9, hts _ hin⟩ ⟨jj_blind, hpc⟩ rfl hlen9 e5.1 rfl (lv_room hcat) hdg hroom) e4 e3 hA (fun al' t' H1 locs1 g1 g2 hext hP1 hD1 hS1 => ?_)
  have hk2 := hk al' t' H1 locs1 ls (cells + (lay'.length - lay.length)) (slots + (jj_sl lay' - jj_sl lay)) (by have z1 : n0 + cells = lay.length := h1; show n0 + (cells + (lay'.length - lay.length)) = lay'.length; omega) (by have z2 : s0 + slots = jj_sl lay := h2; show s0 + (slots + (jj_sl lay' - jj_sl lay)) = jj_sl lay'; omega)
    ⟨hext, hP1, hD1, hS1, by rw [jj_asg_agree g1 g2 e6]; exact e5, fun w hw => jj_wv_mono c1 (e6 w hw), fun w hw => by
      rcases List.mem_append.mp hw with h | h
      · cases v with
        | none => cases h
        | some v => exact d2 w (congrArg some (List.mem_singleton.mp h).symm)
      · exact jj_wv_mono c1 (hrest w h), d1, e9, g1.trans e10, fun q hq => (g2 q (by have z1 : n0 + cells = lay.length := h1; omega)).trans (e11 q hq)⟩
  have he9 : (v.toList ++ st).map (jj_v al') = (v.map (jj_v al')).toList ++ st.map (jj_v al) := by
    rw [List.map_append, jj_st_agree g1 g2 hrest]
    cases v <;> rfl
  have hk3 := hk2
  dsimp only at hk3
  rw [he9] at hk3
  exact hk3
theorem js_callSW {y : MethodName} {cc' : ByteArray} {nL' fr' lo' ix : Nat} {av : List Value} {v : Option Value} {ret' : Option FieldType} {hh : List (Nat × Nat × Nat × Nat)} {stk : List Value} (hCT : jj_CT y (.codeWith y cc' nL' ret' hh) sx' fr' lo' av lay S v lay' S') (hsx : sx' = none ∨ sx' = sx) (hcw : Cond.codeWith y cc' nL' ret' hh ∈ jj_gW) (hini : Cond.initialized y.cls ∈ jj_gW) (hlk : Cond.methodLink own ix y ∈ jj_gW) (hstt : Cond.static y ∈ jj_gW) (hyn : jj_yn y av.length) (hstk : stk = av.reverse ++ st) (hrm : jj_rm fr lo fr' lo' nL' nc sc lay' st) (hdg : decode cc pc = .ok (.invokestatic ix, 3))
    (k : jj_R cc nL own nm sx fr lo nc sc (pc + 3, L, v.toList ++ st, lay', S') cE) : jj_R cc nL own nm sx fr lo nc sc (pc, L, stk, lay, S) cE := by
  intro p l e R s m args below meth cd D g A al0 n0 s0 Q hC hf hl hc hs hE
  have hk := k p l e R s m args below meth cd D g A al0 n0 s0 Q hC hf hl hc hs hE
  intro al t H locs ls cells slots h1 h2 hR
  obtain ⟨hx, hb, hml, hown, hnm, hts, hN, hK, hA, hX⟩ := hC
  obtain ⟨e1, e2, e3, e4, e5, e6, e7, e8, e9, e10, e11⟩ := hR
  subst hstk
  obtain ⟨c1, c2, c3⟩ := hCT
  obtain ⟨m1, m2, m3, m4, m5⟩ := hrm
  have hrest : jj_ws lay.length st := fun w hw => e7 w (List.mem_append_right _ hw)
  have hav : jj_ws lay.length av := fun w hw => e7 w (List.mem_append_left _ (List.mem_reverse.mpr hw))
  obtain ⟨d1, d2, d3⟩ := c3 hav e8
  have hM := d3 l D g al t H.size e1
  have hX9 : ∀ z, sx' = some z → va_X (al 0) z.1 z.2 s s.heap ∧ al 0 < s.heap.size ∧ ¬ A (al 0) := fun z hz => by
    rcases hsx with q | q
    · rw [q] at hz; cases hz
    · rw [e10]; exact hX z (q ▸ hz)
  have hpc := jj_pcU (sx := sx') (av := av) e2 hK e3 hN e4 hX9
  have hlen9 : (av.map (jj_v al)).length = av.length := List.length_map _
  have hst9 : (av.reverse ++ st).map (jj_v al) = (av.map (jj_v al)).reverse ++ st.map (jj_v al) := by
    rw [List.map_append, List.map_reverse]
  have hcat : ((st.map (jj_v al)).map fun v => v.category).sum ≤ 8 := by
    rw [List.map_map]
    have : (st.map ((fun v => v.category) ∘ jj_v al)) = st.map fun v => v.category := List.map_congr_left fun v _ => jj_v_cat al v
    rw [this]; exact m5
  have hroom : cells + (lay'.length - lay.length) ≤ R.cells ∧ slots + (jj_sl lay' - jj_sl lay) ≤ R.slots := by
    have z1 : n0 + cells = lay.length := h1
    have z2 : s0 + slots = jj_sl lay := h2
    constructor <;> omega
  have hGI : GoodIn jj_gW (va_wsS own ix y (.codeWith y cc' nL' ret' hh :: jj_gW)) := fun w hw => by
    unfold va_wsS at hw
    rcases List.mem_append.mp hw with hw | hw
    · have hw2 : w ∈ jj_gW := by
        simp only [List.mem_cons, List.not_mem_nil, or_false] at hw
        rcases hw with rfl | rfl | rfl <;> assumption
      exact ⟨hw2, jj_gW_good _ hw2⟩
    · exact jj_GI hcw w hw
  refine W.eq (g2 := F0 m pc ls ((av.map (jj_v al)).reverse ++ st.map (jj_v al))) (congrArg (F0 m pc ls) hst9) ?_
  refine jj_goon (vx_runSW (As := av.map (jj_v al)) (rest := st.map (jj_v al)) ⟨hx, hb, hml, hown, hts⟩ hM (vx_cwSW av.length hts hGI rfl rfl rfl hyn ⟨by show fr' + 1 ≤ _; omega, by show 8 + (nL' + 11) + lo' ≤ _; omega⟩) ⟨jj_blind, hpc⟩ rfl hlen9 e5.1 rfl (lv_room hcat) hdg hroom) e4 e3 hA (fun al' t' H1 locs1 g1 g2 hext hP1 hD1 hS1 => ?_)
  have hk2 := hk al' t' H1 locs1 ls (cells + (lay'.length - lay.length)) (slots + (jj_sl lay' - jj_sl lay)) (by have z1 : n0 + cells = lay.length := h1; show n0 + (cells + (lay'.length - lay.length)) = lay'.length; omega) (by have z2 : s0 + slots = jj_sl lay := h2; show s0 + (slots + (jj_sl lay' - jj_sl lay)) = jj_sl lay'; omega)
    ⟨hext, hP1, hD1, hS1, by rw [jj_asg_agree g1 g2 e6]; exact e5, fun w hw => jj_wv_mono c1 (e6 w hw), fun w hw => by
      rcases List.mem_append.mp hw with h | h
      · cases v with
        | none => cases h
        | some v => exact d2 w (congrArg some (List.mem_singleton.mp h).symm)
      · exact jj_wv_mono c1 (hrest w h), d1, e9, g1.trans e10, fun q hq => (g2 q (by have z1 : n0 + cells = lay.length := h1; omega)).trans (e11 q hq)⟩
  have he9 : (v.toList ++ st).map (jj_v al') = (v.map (jj_v al')).toList ++ st.map (jj_v al) := by
    rw [List.map_append, jj_st_agree g1 g2 hrest]
    cases v <;> rfl
  have hk3 := hk2
  dsimp only at hk3
  rw [he9] at hk3
  exact hk3
end JK
end
section
/-! NEW CELLS: each comes behind those that are there. -/
theorem jj_cell_agree {g : jj_G} {al al' : Nat → Nat} {t : Nat → Int32} {c : jj_Sh} (h : ∀ q, some (some q) ∈ c.2.2 → al' (q + 1) = al (q + 1)) : jj_cell g al' t c = jj_cell g al t c := by
  have h1 : ∀ (r : Option Nat) (j : Nat), c.2.2[j]? = some (some r) → (r.map fun q => al' (q + 1)) = r.map fun q => al (q + 1) := fun r j hj => by
    cases r with
    | none => rfl
    | some q => exact congrArg some (h q (List.mem_of_getElem? hj))
  have h2 : jj_el al' c.2.2 = jj_el al c.2.2 := funext fun j => by
    unfold jj_el
    split
    · rename_i r hr
      exact h1 r j hr
    · rfl
  have h3 : jj_fld al' t c.2.2 = jj_fld al t c.2.2 := funext fun j => by
    unfold jj_fld
    split
    · rename_i r hr
      rw [h1 r j hr]
    · rfl
  unfold jj_cell
  rw [h2, h3]
theorem jj_W_agree {g : jj_G} {al al' : Nat → Nat} {t t' : Nat → Nat → Int32} {lay : jj_Lay} (hy : jj_wy lay) (ha : ∀ k, k < lay.length → al' (k + 1) = al (k + 1)) (ht : ∀ k, k < lay.length → t' k = t k) : jj_W g al' t' lay = jj_W g al t lay := by
  apply List.ext_getElem?
  intro q
  cases hc : lay[q]? with
  | none => unfold jj_W; rw [List.getElem?_mapIdx, List.getElem?_mapIdx, hc]; rfl
  | some c =>
    have hq : q < lay.length := (List.getElem?_eq_some_iff.mp hc).1
    rw [jj_W_at hc, jj_W_at hc, ha q hq, ht q hq, jj_cell_agree (fun r hr => ha r (hy c (List.mem_of_getElem? hc) r hr))]
theorem jj_W_app {g : jj_G} {al : Nat → Nat} {t : Nat → Nat → Int32} {a b : jj_Lay} : jj_W g al t (a ++ b) = jj_W g al t a ++ b.mapIdx (fun k c => (al (a.length + k + 1), jj_cell g al (t (a.length + k)) c)) := by
  unfold jj_W
  rw [List.mapIdx_append]
  congr 1
  apply List.ext_getElem?
  intro q
  rw [List.getElem?_mapIdx, List.getElem?_mapIdx]
  cases b[q]? with
  | none => rfl
  | some c => show some _ = some _; rw [Nat.add_comm q a.length]
theorem jj_wy_app {a b : jj_Lay} (ha : jj_wy a) (hb : ∀ c ∈ b, ∀ q, some (some q) ∈ c.2.2 → q < (a ++ b).length) : jj_wy (a ++ b) := fun c hc q hq => by
  rcases List.mem_append.mp hc with h | h
  · have := ha c h q hq
    rw [List.length_append]
    omega
  · exact hb c h q hq
theorem jj_wl_mono {n k : Nat} (h : n ≤ k) {L : List (Option Value)} (hL : jj_wl n L) : jj_wl k L := fun v hv => jj_wv_mono h (hL v hv)
theorem jj_ws_mono {n k : Nat} (h : n ≤ k) {L : List Value} (hL : jj_ws n L) : jj_ws k L := fun v hv => jj_wv_mono h (hL v hv)
/-- the memory with zeros from place n on, up to n + c -/
def jj_z (S : jj_Mem) (n c : Nat) : jj_Mem := fun q j => if n ≤ q ∧ q < n + c then some 0 else S q j
def jj_zt (t : Nat → Nat → Int32) (n c : Nat) : Nat → Nat → Int32 := fun q j => if n ≤ q ∧ q < n + c then 0 else t q j
theorem jj_ext_z {S : jj_Mem} {t : Nat → Nat → Int32} {n c : Nat} (h : jj_ext S t) : jj_ext (jj_z S n c) (jj_zt t n c) := by
  intro p j x hx
  unfold jj_z at hx
  unfold jj_zt
  by_cases e : n ≤ p ∧ p < n + c
  · rw [if_pos e] at hx ⊢
    exact Option.some.inj hx
  · rw [if_neg e] at hx ⊢
    exact h p j x hx
theorem jj_zt_lo {t : Nat → Nat → Int32} {n c k : Nat} (h : k < n) : jj_zt t n c k = t k := funext fun j => if_neg (fun q => by omega)
theorem jj_zt_hi {t : Nat → Nat → Int32} {n c k : Nat} (h : n ≤ k) (h2 : k < n + c) : jj_zt t n c k = fun _ => 0 := funext fun j => if_pos ⟨h, h2⟩
def jj_alU (al : Nat → Nat) (n a : Nat) : Nat → Nat := fun k => if k = n + 1 then a else al k
theorem jj_alU_at (al : Nat → Nat) (n a : Nat) : jj_alU al n a (n + 1) = a := if_pos rfl
theorem jj_alU_lo (al : Nat → Nat) (n a : Nat) {k : Nat} (h : k < n + 1) : jj_alU al n a k = al k := if_neg (by omega)
section JA
variable {cc : ByteArray} {nL : Nat} {own nm : String} {sx : jj_X} {fr lo nc sc : Nat} {cE : jj_C} {pc : Nat} {L : List (Option Value)} {st : List Value} {lay : jj_Lay} {S : jj_Mem}
/-- one new cell: the picture with it -/
theorem jj_new1 {s : State} {D : va_G} {g : jj_G} {A : Nat → Prop} {al0 : Nat → Nat} {n0 : Nat} {al : Nat → Nat} {t : Nat → Nat → Int32} {H H1 : Heap} {locs : List Loc} {ls : Array Slot} {c : jj_Sh} {a : Nat} {e : va_E}
    (hR : jj_Rel s D g A nL al0 n0 L st lay S al t H locs ls) (hn : n0 ≤ lay.length) (hc : ∀ q, some (some q) ∉ c.2.2) (he : e = jj_cell g al (fun _ => 0) c)
    (hP : va_P D vwCl (jj_W g al t lay ++ [(a, e)]) H1) (hD : va_D A (jj_W g al t lay ++ [(a, e)])) (hS : va_S A s.heap H1 locs) :
    jj_Rel s D g A nL al0 n0 L (.ref lay.length :: st) (lay ++ [c]) (jj_z S lay.length 1) (jj_alU al lay.length a) (jj_zt t lay.length 1) H1 locs ls ∧ (Value.ref a :: st.map (jj_v al)) = (Value.ref lay.length :: st).map (jj_v (jj_alU al lay.length a)) := by
  obtain ⟨e1, e2, e3, e4, e5, e6, e7, e8, e9, e10, e11⟩ := hR
  have ga : ∀ k, k < lay.length → jj_alU al lay.length a (k + 1) = al (k + 1) := fun k hk => jj_alU_lo _ _ _ (by omega)
  have g0 : jj_alU al lay.length a 0 = al 0 := jj_alU_lo _ _ _ (by omega)
  have hW : jj_W g (jj_alU al lay.length a) (jj_zt t lay.length 1) (lay ++ [c]) = jj_W g al t lay ++ [(a, e)] := by
    rw [jj_W_app, jj_W_agree e8 ga (fun k hk => jj_zt_lo hk)]
    congr 1
    show [(jj_alU al lay.length a (lay.length + 0 + 1), jj_cell g (jj_alU al lay.length a) (jj_zt t lay.length 1 (lay.length + 0)) c)] = [(a, e)]
    rw [show lay.length + 0 = lay.length from rfl, jj_alU_at, jj_zt_hi (n := lay.length) (c := 1) (k := lay.length) (Nat.le_refl _) (by omega), jj_cell_agree (al := al) (fun q hq => absurd hq (hc q)), he]
  have hl1 : lay.length ≤ (lay ++ [c]).length := by rw [List.length_append]; omega
  refine ⟨⟨jj_ext_z e1, by rw [hW]; exact hP, by rw [hW]; exact hD, hS, by rw [jj_asg_agree g0 ga e6]; exact e5, jj_wl_mono hl1 e6, jj_ws_cons (by show lay.length < (lay ++ [c]).length; rw [List.length_append]; exact Nat.lt_succ_self _) (jj_ws_mono hl1 e7), jj_wy_app e8 (fun c' hc' q hq => by
      rw [List.mem_singleton.mp hc'] at hq
      exact absurd hq (hc q)), e9, g0.trans e10, fun k hk => (ga k (by omega)).trans (e11 k hk)⟩, ?_⟩
  rw [List.map_cons, jj_st_agree g0 ga e7]
  show _ = Value.ref (jj_alU al lay.length a (lay.length + 1)) :: _
  rw [jj_alU_at]
theorem js_new {ix ci n : Nat} {C : String} {T : u_T} (rs : List (Option (Option Nat))) (hcl : vwCl[ci]? = some (C, T, n)) (hlk : Cond.classLink own ix C ∈ jj_gW) (hmk : Cond.instantiable C n ∈ jj_gW) (hini : Cond.initialized C ∈ jj_gW) (hrs : ∀ j, j < n → defaultValue (jj_ty ci j) = (match rs[j]? with | some (some none) => Value.null | _ => Value.int 0)) (hno : ∀ q, some (some q) ∉ rs) (hnc : lay.length + 1 ≤ nc) (hsc : jj_sl lay + n ≤ sc) (hdg : decode cc pc = .ok (.new ix, 3))
    (k : jj_R cc nL own nm sx fr lo nc sc (pc + 3, L, .ref lay.length :: st, lay ++ [(ci, n, rs)], jj_z S lay.length 1) cE) : jj_R cc nL own nm sx fr lo nc sc (pc, L, st, lay, S) cE := by
  intro p l e R s m args below meth cd D g A al0 n0 s0 Q hC hf hl hc hs hE
  have hk := k p l e R s m args below meth cd D g A al0 n0 s0 Q hC hf hl hc hs hE
  intro al t H locs ls cells slots h1 h2 hR
  obtain ⟨hx, hb, hml, hown, hnm, hts, hN, hK, hA, hX⟩ := hC
  obtain ⟨e1, e2, e3, e4, e5, e6, e7, e8, e9, e10, e11⟩ := hR
  have z1 : n0 + cells = lay.length := h1
  have z2 : s0 + slots = jj_sl lay := h2
  obtain ⟨c1, c2, c3, c4⟩ := jj_cls hcl
  refine va_new (ci := ci) (fs := (List.range n).map (jj_fld al (fun _ => 0) rs)) hx hb hts c1 (jj_ty ci) c2 hown (hts _ hlk) (hts _ hmk) (hts _ hini) hK e2 e3 e4 hA hcl (fun j hj => ?_) (by omega) (by omega) hdg (fun q H1 hP hD hS => ?_)
  · unfold vp_V
    rw [List.getD_eq_getElem?_getD, jj_fat hj, hrs j hj]
    unfold jj_fld
    split
    · rename_i h9; rw [h9]; rfl
    · rename_i h9
      split
      · rename_i r hr
        cases r with
        | none => exact absurd hr h9
        | some q9 => exact absurd (List.mem_of_getElem? hr) (hno q9)
      · rfl
  · obtain ⟨r1, r2⟩ := jj_new1 (c := (ci, n, rs)) (a := q) ⟨e1, e2, e3, e4, e5, e6, e7, e8, e9, e10, e11⟩ (by omega) hno (by rw [jj_cell_o c4]) hP hD hS
    have h9 := hk _ _ H1 locs ls (cells + 1) (slots + n) (by show n0 + (cells + 1) = (lay ++ [(ci, n, rs)]).length; rw [List.length_append]; show _ = lay.length + 1; omega) (by show s0 + (slots + n) = jj_sl (lay ++ [(ci, n, rs)]); rw [jj_sl_app]; show _ = jj_sl lay + (n + 0); omega) r1
    exact W.eq (congrArg (F0 m (pc + 3) ls) r2) h9
theorem js_newI {n : Int32} (N : Nat) (hn : n = nI N) (hN : N ≤ 100000) (hcw : Cond.arrayClass .int ∈ jj_gW) (hnc : lay.length + 1 ≤ nc) (hsc : jj_sl lay + N ≤ sc) (hdg : decode cc pc = .ok (.newarray .int, 2))
    (k : jj_R cc nL own nm sx fr lo nc sc (pc + 2, L, .ref lay.length :: st, lay ++ [(20, N, [])], jj_z S lay.length 1) cE) : jj_R cc nL own nm sx fr lo nc sc (pc, L, .int n :: st, lay, S) cE := by
  intro p l e R s m args below meth cd D g A al0 n0 s0 Q hC hf hl hc hs hE
  have hk := k p l e R s m args below meth cd D g A al0 n0 s0 Q hC hf hl hc hs hE
  intro al t H locs ls cells slots h1 h2 hR
  obtain ⟨hx, hb, hml, hown, hnm, hts, hN, hK, hA, hX⟩ := hC
  obtain ⟨e1, e2, e3, e4, e5, e6, e7, e8, e9, e10, e11⟩ := hR
  have z1 : n0 + cells = lay.length := h1
  have z2 : s0 + slots = jj_sl lay := h2
  subst hn
  refine va_newa (atype := .int) (ty := .int) (N' := N) (a0 := (N, .inl (fun _ => 0))) hx hb (hts _ hcw) rfl hK e2 e3 e4 hA (fun cA => rfl) (nI_pos (by omega)) (nI_clamp (by omega)) (by show N * _ ≤ _; simp [componentBytes]; omega) (by omega) (by omega) hdg (fun q cA H1 hK1 hP hD hS => ?_)
  have hcA : cA = g.1 := by
    have q1 : s.vm.findClass ("[" ++ (FieldType.int).toString) = some cA := (hK1.2 3 (cA, .int) rfl).2
    have q2 : s.vm.findClass ("[" ++ (FieldType.int).toString) = some (g.1) := (hK.2 0 _ rfl).2
    exact Option.some.inj (q1.symm.trans q2)
  subst hcA
  obtain ⟨r1, r2⟩ := jj_new1 (c := (20, N, [])) (a := q) ⟨e1, e2, e3, e4, e5, e6, jj_ws_tl e7, e8, e9, e10, e11⟩ (by omega) (fun q h => by cases h) rfl hP hD hS
  have h9 := hk _ _ H1 locs ls (cells + 1) (slots + N) (by show n0 + (cells + 1) = (lay ++ [(20, N, [])]).length; rw [List.length_append]; show _ = lay.length + 1; omega) (by show s0 + (slots + N) = jj_sl (lay ++ [(20, N, [])]); rw [jj_sl_app]; show _ = jj_sl lay + (N + 0); omega) r1
  exact W.eq (congrArg (F0 m (pc + 2) ls) r2) h9
theorem js_newZ {n : Int32} (N : Nat) (hn : n = nI N) (hN : N ≤ 100000) (hcw : Cond.arrayClass .boolean ∈ jj_gW) (hnc : lay.length + 1 ≤ nc) (hsc : jj_sl lay + N ≤ sc) (hdg : decode cc pc = .ok (.newarray .boolean, 2))
    (k : jj_R cc nL own nm sx fr lo nc sc (pc + 2, L, .ref lay.length :: st, lay ++ [(21, N, [])], jj_z S lay.length 1) cE) : jj_R cc nL own nm sx fr lo nc sc (pc, L, .int n :: st, lay, S) cE := by
  intro p l e R s m args below meth cd D g A al0 n0 s0 Q hC hf hl hc hs hE
  have hk := k p l e R s m args below meth cd D g A al0 n0 s0 Q hC hf hl hc hs hE
  intro al t H locs ls cells slots h1 h2 hR
  obtain ⟨hx, hb, hml, hown, hnm, hts, hN, hK, hA, hX⟩ := hC
  obtain ⟨e1, e2, e3, e4, e5, e6, e7, e8, e9, e10, e11⟩ := hR
  have z1 : n0 + cells = lay.length := h1
  have z2 : s0 + slots = jj_sl lay := h2
  subst hn
  refine va_newa (atype := .boolean) (ty := .boolean) (N' := N) (a0 := (N, .inl (fun _ => 0))) hx hb (hts _ hcw) rfl hK e2 e3 e4 hA (fun cA => rfl) (nI_pos (by omega)) (nI_clamp (by omega)) (by show N * _ ≤ _; simp [componentBytes]; omega) (by omega) (by omega) hdg (fun q cA H1 hK1 hP hD hS => ?_)
  have hcA : cA = g.2.1 := by
    have q1 : s.vm.findClass ("[" ++ (FieldType.boolean).toString) = some cA := (hK1.2 3 (cA, .boolean) rfl).2
    have q2 : s.vm.findClass ("[" ++ (FieldType.boolean).toString) = some (g.2.1) := (hK.2 1 _ rfl).2
    exact Option.some.inj (q1.symm.trans q2)
  subst hcA
  obtain ⟨r1, r2⟩ := jj_new1 (c := (21, N, [])) (a := q) ⟨e1, e2, e3, e4, e5, e6, jj_ws_tl e7, e8, e9, e10, e11⟩ (by omega) (fun q h => by cases h) rfl hP hD hS
  have h9 := hk _ _ H1 locs ls (cells + 1) (slots + N) (by show n0 + (cells + 1) = (lay ++ [(21, N, [])]).length; rw [List.length_append]; show _ = lay.length + 1; omega) (by show s0 + (slots + N) = jj_sl (lay ++ [(21, N, [])]); rw [jj_sl_app]; show _ = jj_sl lay + (N + 0); omega) r1
  exact W.eq (congrArg (F0 m (pc + 2) ls) r2) h9
theorem js_objInit {ix a : Nat} (hlk : Cond.methodLink own ix objectInit ∈ jj_gW) (hin : Cond.instanceMethod objectInit ∈ jj_gW) (hcw : Cond.code objectInit ⟨#[0xb1]⟩ 1 none ∈ jj_gW) (hfr : 1 ≤ fr) (hlo : (st.map fun v => v.category).sum + 12 ≤ lo) (hdg : decode cc pc = .ok (.invokespecial ix, 3)) (k : jj_R cc nL own nm sx fr lo nc sc (pc + 3, L, st, lay, S) cE) : jj_R cc nL own nm sx fr lo nc sc (pc, L, .ref a :: st, lay, S) cE := by
  intro p l e R s m args below meth cd D g A al0 n0 s0 Q hC hf hl hc hs hE
  have hk := k p l e R s m args below meth cd D g A al0 n0 s0 Q hC hf hl hc hs hE
  intro al t H locs ls cells slots h1 h2 hR
  obtain ⟨hx, hb, hml, hown, hnm, hts, hN, hK, hA, hX⟩ := hC
  obtain ⟨e1, e2, e3, e4, e5, e6, e7, e8, e9, e10, e11⟩ := hR
  have z1 : n0 + cells = lay.length := h1
  have z2 : s0 + slots = jj_sl lay := h2
  have hcat : ((st.map (jj_v al)).map fun v => v.category).sum = (st.map fun v => v.category).sum := by
    rw [List.map_map]
    exact congrArg List.sum (List.map_congr_left fun v _ => jj_v_cat al v)
  refine W.objInit hx hb hown (hts _ hlk) (hts _ hin) (hts _ hcw) rfl (by rw [hml]; exact e5.1) rfl hdg (by omega) (by show 2 * 0 + _ + 12 ≤ _; rw [hcat]; omega) ?_
  exact hk al t H locs ls cells slots h1 h2 ⟨e1, e2, e3, e4, e5, e6, jj_ws_tl e7, e8, e9, e10, e11⟩
theorem jj_fsetr {al : Nat → Nat} {f : Nat → Int32} {rs : List (Option (Option Nat))} {n z q : Nat} (hz : z < rs.length) : ((List.range n).map (jj_fld al f rs)).set z (.ref (al (q + 1))) = (List.range n).map (jj_fld al f (rs.set z (some (some q)))) := by
  apply List.ext_getElem?
  intro j
  rw [List.getElem?_set, List.length_map, List.length_range]
  by_cases hj : j < n
  · rw [jj_fat hj, jj_fat hj]
    by_cases e : z = j
    · subst e
      rw [if_pos rfl, if_pos hj]
      unfold jj_fld
      rw [List.getElem?_set, if_pos rfl, if_pos hz]
      rfl
    · rw [if_neg e]
      unfold jj_fld
      rw [List.getElem?_set, if_neg e]
  · have h1 : ∀ u : Nat → Value, ((List.range n).map u)[j]? = none := fun u => List.getElem?_eq_none (by rw [List.length_map, List.length_range]; omega)
    rw [h1, h1]
    by_cases e : z = j
    · rw [if_pos e, if_neg (by omega)]
    · rw [if_neg e]
theorem js_putF {ix a ci n q : Nat} {rs : List (Option (Option Nat))} {C : String} {T : u_T} {lay' : jj_Lay} (z : Nat) (hlk : jj_lkF own ix T z) (ha : lay[a]? = some (ci, n, rs)) (hcl : vwCl[ci]? = some (C, T, n)) (hz : z < n) (hzr : z < rs.length) (hfin : (T z).2.2.2 = true) (hini : nm = "<init>") (hdecl : (T z).1 = own) {ty : FieldType} (hd : parseFieldDescriptor (T z).2.2.1 = some ty) (hnr : ∀ x, narrow ty (.ref x) = .ref x) (hft : ∀ x, fits ty (.ref x) = true) (hlay : lay.set a (ci, n, rs.set z (some (some q))) = lay') (hdg : decode cc pc = .ok (.putfield ix, 3)) (k : jj_R cc nL own nm sx fr lo nc sc (pc + 3, L, st, lay', S) cE) : jj_R cc nL own nm sx fr lo nc sc (pc, L, .ref q :: .ref a :: st, lay, S) cE := by
  intro p l e R s m args below meth cd D g A al0 n0 s0 Q hC hf hl hc hs hE
  have hk := k p l e R s m args below meth cd D g A al0 n0 s0 Q hC hf hl hc hs hE
  intro al t H locs ls cells slots h1 h2 hR
  obtain ⟨hx, hb, hml, hown, hnm, hts, hN, hK, hA, hX⟩ := hC
  obtain ⟨e1, e2, e3, e4, e5, e6, e7, e8, e9, e10, e11⟩ := hR
  have z1 : n0 + cells = lay.length := h1
  have z2 : s0 + slots = jj_sl lay := h2
  obtain ⟨c1, c2, c3, c4⟩ := jj_cls hcl
  have he := jj_W_at (g := g) (al := al) (t := t) ha
  rw [jj_cell_o c4] at he
  have hset : (jj_W g al t lay).set a (al (a + 1), .inr (ci, ((List.range n).map (jj_fld al (t a) rs)).set z (.ref (al (q + 1))))) = jj_W g al t lay' := by
    have h9 := jj_W_set (g := g) (al := al) (t := t) (t' := t) (c' := (ci, n, rs.set z (some (some q)))) (List.getElem?_eq_some_iff.mp ha).1 (fun q hq => rfl)
    rw [hlay, jj_cell_o c4, ← jj_fsetr hzr] at h9
    exact h9
  have hlen : lay'.length = lay.length := by rw [← hlay, List.length_set]
  have hsl : ∀ (l : jj_Lay) (b : Nat) (r' : List (Option (Option Nat))), l[b]? = some (ci, n, rs) → jj_sl (l.set b (ci, n, r')) = jj_sl l := by
    intro l
    induction l with
    | nil => intro b r' hb; cases hb
    | cons x l ih =>
      intro b r' hb
      cases b with
      | zero => cases hb; rfl
      | succ b => show x.2.1 + jj_sl (l.set b (ci, n, r')) = x.2.1 + jj_sl l; rw [ih b r' hb]
  refine va_putF hx hb hts c1 (jj_ty ci) c2 c3 hown hK e2 e3 e4 a he hcl z hz (hts _ hlk) (fun _ h9 => h9) hfin (hnm.trans hini) hdecl hd (hnr _) (hft _) (by rw [List.length_map, List.length_range]; exact hz) hdg (fun H1 locs1 hP hD hS => ?_)
  have hP : va_P D vwCl (jj_W g al t lay') H1 := by rw [← hset]; exact hP
  have hD : va_D A (jj_W g al t lay') := by rw [← hset]; exact hD
  exact hk al t H1 locs1 ls cells slots (by show n0 + cells = lay'.length; omega) (by show s0 + slots = jj_sl lay'; rw [← hlay, hsl lay a _ ha]; omega) ⟨e1, hP, hD, hS, e5, by rw [hlen]; exact e6, by rw [hlen]; exact jj_ws_tl (jj_ws_tl e7), fun c hc q9 hq9 => by
    rw [hlen]
    rw [← hlay] at hc
    rcases List.mem_or_eq_of_mem_set hc with h | h
    · exact e8 c h q9 hq9
    · rw [h] at hq9
      rcases List.mem_or_eq_of_mem_set hq9 with h2 | h2
      · exact e8 _ (List.mem_of_getElem? ha) q9 h2
      · cases h2; exact jj_ws_hd e7, e9, e10, e11⟩
/-- n ints copied from place a at sp to place b at dp -/
def jj_cp (S : jj_Mem) (a sp b dp n : Nat) : jj_Mem := fun q j => if q = b ∧ dp ≤ j ∧ j < dp + n then S a (sp + (j - dp)) else S q j
def jj_cpt (t : Nat → Nat → Int32) (a sp b dp n : Nat) : Nat → Nat → Int32 := fun q j => if q = b ∧ dp ≤ j ∧ j < dp + n then t a (sp + (j - dp)) else t q j
theorem js_copyi {ix a b na nb : Nat} {ra rb : List (Option (Option Nat))} (sp dp n : Nat) {isp idp inn : Int32} (hsp : isp = nI sp) (hdp : idp = nI dp) (hn : inn = nI n) (hla : lay[a]? = some (20, na, ra)) (hlb : lay[b]? = some (20, nb, rb)) (h3 : sp + n ≤ na) (h4 : dp + n ≤ nb) (hna : na < 100000) (hnb : nb < 100000)
    (hlk : Cond.methodLink own ix arraycopyName ∈ jj_gW) (hnat : Cond.native arraycopyName ∈ jj_gW) (hstt : Cond.static arraycopyName ∈ jj_gW) (hini : Cond.initialized "java/lang/System" ∈ jj_gW) (hfr : 1 ≤ fr) (hlo : (st.map fun v => v.category).sum + (nativeFrameWords "java/lang/System" "arraycopy" 5 + 11) ≤ lo) (hdg : decode cc pc = .ok (.invokestatic ix, 3))
    (k : jj_R cc nL own nm sx fr lo nc sc (pc + 3, L, st, lay, jj_cp S a sp b dp n) cE) : jj_R cc nL own nm sx fr lo nc sc (pc, L, .int inn :: .int idp :: .ref b :: .int isp :: .ref a :: st, lay, S) cE := by
  intro p l e R s m args below meth cd D g A al0 n0 s0 Q hC hf hl hc hs hE
  have hk := k p l e R s m args below meth cd D g A al0 n0 s0 Q hC hf hl hc hs hE
  intro al t H locs ls cells slots h1 h2 hR
  obtain ⟨hx, hb, hml, hown, hnm, hts, hN, hK, hA, hX⟩ := hC
  obtain ⟨e1, e2, e3, e4, e5, e6, e7, e8, e9, e10, e11⟩ := hR
  have z1 : n0 + cells = lay.length := h1
  have z2 : s0 + slots = jj_sl lay := h2
  subst hsp; subst hdp; subst hn
  have hea := jj_W_at (g := g) (al := al) (t := t) hla
  have heb := jj_W_at (g := g) (al := al) (t := t) hlb
  rw [jj_cell_i] at hea heb
  have hcat : ((st.map (jj_v al)).map fun v => v.category).sum = (st.map fun v => v.category).sum := by
    rw [List.map_map]
    exact congrArg List.sum (List.map_congr_left fun v _ => jj_v_cat al v)
  have c1 : (nI sp).toNatClampNeg = sp := nI_clamp (by omega)
  have c2 : (nI dp).toNatClampNeg = dp := nI_clamp (by omega)
  have c3 : (nI n).toNatClampNeg = n := nI_clamp (by omega)
  have hset : (jj_W g al t lay).set b (al (b + 1), .inl (g.1, nb, .inl (va_cpy (t a) (t b) sp dp n))) = jj_W g al (jj_cpt t a sp b dp n) lay := by
    have h9 := jj_W_set (g := g) (al := al) (t := t) (t' := jj_cpt t a sp b dp n) (c' := (20, nb, rb)) (List.getElem?_eq_some_iff.mp hlb).1 (fun q hq => funext fun j => if_neg (fun w => hq w.1))
    rw [jj_set_same hlb, jj_cell_i] at h9
    rw [← h9]
    have : jj_cpt t a sp b dp n b = va_cpy (t a) (t b) sp dp n := funext fun j => by
      unfold jj_cpt va_cpy
      by_cases w : dp ≤ j ∧ j < dp + n
      · rw [if_pos ⟨rfl, w⟩, if_pos w]
      · rw [if_neg (fun v => w v.2), if_neg w]
    rw [this]
  refine va_copyi hx hb (by rw [hml]; exact e5.1.symm) hown (hts _ hlk) (hts _ hnat) (hts _ hstt) (hts _ hini) hK e2 e3 e4 a b 0 0 hea heb rfl rfl rfl (nI_pos (by omega)) (nI_pos (by omega)) (nI_pos (by omega)) (by rw [c1, c3]; exact h3) (by rw [c2, c3]; exact h4) (fun i hi => rfl) (by omega) (by rw [hcat]; omega) hdg (fun H1 locs1 hP hD hS => ?_)
  rw [c1, c2, c3] at hP hD
  have hP : va_P D vwCl (jj_W g al (jj_cpt t a sp b dp n) lay) H1 := by rw [← hset]; exact hP
  have hD : va_D A (jj_W g al (jj_cpt t a sp b dp n) lay) := by rw [← hset]; exact hD
  refine hk al _ H1 locs1 ls cells slots h1 h2 ⟨fun p9 j x hx9 => ?_, hP, hD, hS, e5, e6, jj_ws_tl (jj_ws_tl (jj_ws_tl (jj_ws_tl (jj_ws_tl e7)))), e8, e9, e10, e11⟩
  replace hx9 : jj_cp S a sp b dp n p9 j = some x := hx9
  unfold jj_cp at hx9
  unfold jj_cpt
  by_cases w : p9 = b ∧ dp ≤ j ∧ j < dp + n
  · rw [if_pos w] at hx9 ⊢
    exact e1 _ _ _ hx9
  · rw [if_neg w] at hx9 ⊢
    exact e1 _ _ _ hx9
end JA
end
section
/-! new int[N][K]: the outer row a cell, its N inner rows the cells behind it. -/
def jj_rf (n N : Nat) : List (Option (Option Nat)) := (List.range N).map fun i => some (some (n + 1 + i))
theorem jj_rf_at {n N i : Nat} (h : i < N) : (jj_rf n N)[i]? = some (some (some (n + 1 + i))) := by
  unfold jj_rf
  rw [List.getElem?_map, List.getElem?_range h]
  rfl
theorem jj_rf_no {n N i : Nat} (h : N ≤ i) : (jj_rf n N)[i]? = none := by
  unfold jj_rf
  rw [List.getElem?_map, List.getElem?_eq_none (by rw [List.length_range]; exact h)]
  rfl
theorem jj_sl_rep (k n : Nat) : jj_sl (List.replicate n ((20, k, []) : jj_Sh)) = n * k := by
  induction n with
  | zero => simp [jj_sl]
  | succ n ih => rw [List.replicate_succ]; show k + jj_sl _ = _; rw [ih, Nat.succ_mul]; omega
section JM
variable {cc : ByteArray} {nL : Nat} {own nm : String} {sx : jj_X} {fr lo nc sc : Nat} {cE : jj_C} {pc : Nat} {L : List (Option Value)} {st : List Value} {lay : jj_Lay} {S : jj_Mem}
theorem js_mna {ix : Nat} {inn ik : Int32} (N K : Nat) (hn : inn = nI N) (hk0 : ik = nI K) (hN : N ≤ 1000) (hK0 : K ≤ 1000) (hlk : Cond.classLink own ix "[[I" ∈ jj_gW) (hov : Cond.arrayOver (.array .int) ∈ jj_nW) (hac : Cond.arrayClass .int ∈ jj_gW) (hnc : lay.length + 1 + N ≤ nc) (hsc : jj_sl lay + N + N * K ≤ sc) (hdg : decode cc pc = .ok (.multianewarray ix 2, 4))
    (k : jj_R cc nL own nm sx fr lo nc sc (pc + 4, L, .ref lay.length :: st, lay ++ (22, N, jj_rf lay.length N) :: List.replicate N (20, K, []), jj_z S (lay.length + 1) N) cE) : jj_R cc nL own nm sx fr lo nc sc (pc, L, .int ik :: .int inn :: st, lay, S) cE := by
  intro p l e R s m args below meth cd D g A al0 n0 s0 Q hC hf hl hc hs hE
  have hk := k p l e R s m args below meth cd D g A al0 n0 s0 Q hC hf hl hc hs hE
  intro al t H locs ls cells slots h1 h2 hR
  obtain ⟨hx, hb, hml, hown, hnm, hts, hNw, hK, hA, hX⟩ := hC
  obtain ⟨e1, e2, e3, e4, e5, e6, e7, e8, e9, e10, e11⟩ := hR
  have z1 : n0 + cells = lay.length := h1
  have z2 : s0 + slots = jj_sl lay := h2
  subst hn; subst hk0
  have cN : (nI N).toNatClampNeg = N := nI_clamp (by omega)
  have cK : (nI K).toNatClampNeg = K := nI_clamp (by omega)
  intro T hT Xs
  obtain ⟨vm₁, cA, comp, -, fA, fC, hO, hI, X', step⟩ := Jvm.Stand.multianewarray2F Xs hx hown (hts _ hlk) (jj_ao_vm (A := #[]) rfl (hNw _ hov)) (hts _ hac) (g := F0 m pc ls (.int (nI K) :: .int (nI N) :: st.map (jj_v al))) rfl (by rw [hb]; exact hdg) rfl (nI_pos (by omega)) (nI_pos (by omega)) (by rw [cN]; omega) (by rw [cK]; show K * 4 ≤ _; omega) (by rw [cK]; omega) rfl rfl (by rw [cN]; omega) (by rw [cN, cK]; omega)
  rw [cN, cK] at X' step
  have eI : comp = g.1 := Option.some.inj (fC.symm.trans (hK.2 0 _ rfl).2)
  have eQ : cA = g.2.2 := Option.some.inj (fA.symm.trans (hK.2 2 _ rfl).2)
  subst eI; subst eQ
  generalize hF : Jvm.Free.Multi.fill (T.setVm vm₁) g.2.2 g.1 N K (defaultValue .int) N = F at X' step
  have hTh : (T.setVm vm₁).heap = H := hT
  obtain ⟨f1, f2, -, -⟩ := Jvm.Free.Multi.fill_facts (T.setVm vm₁) g.2.2 g.1 N K (defaultValue .int) N
  rw [hF, hTh] at f1 f2
  have hold : ∀ x : Nat, x < H.size → F.heap[x]? = H[x]? := fun x hx => by
    have := Jvm.Free.Multi.fill_old (T.setVm vm₁) g.2.2 g.1 N K (defaultValue .int) (a := x) (by rw [hTh]; exact hx) N
    rw [hF, hTh] at this
    exact this
  have hrow : ∀ j : Nat, j < N → F.heap[H.size + 1 + j]? = some (vp_cell g.1 (K, .inl (fun _ => 0))) := fun j hj => by
    have := Jvm.Free.Multi.fill_inner (T.setVm vm₁) g.2.2 g.1 N K (defaultValue .int) N j hj
    rw [hF, hTh] at this
    rw [this]
    show some ({ cls := g.1, slots := Array.replicate K (defaultValue .int), vm := .none } : Cell) = some (arrV g.1 K fun _ => .int 0)
    rw [← arrV_new]
    rfl
  rw [vr_outer] at f2
  have hlow : ∀ (k9 : Nat) (c9 : jj_Sh), lay[k9]? = some c9 → al (k9 + 1) < H.size := fun k9 c9 hc9 => (e2 k9 _ (jj_W_at hc9)).lt
  obtain ⟨al', hal⟩ : ∃ al' : Nat → Nat, al' = fun k9 => if k9 < lay.length + 1 then al k9 else H.size + (k9 - (lay.length + 1)) := ⟨_, rfl⟩
  have ga : ∀ k9, k9 < lay.length → al' (k9 + 1) = al (k9 + 1) := fun k9 h9 => by rw [hal]; exact if_pos (by omega)
  have gb : ∀ k9, lay.length ≤ k9 → al' (k9 + 1) = H.size + (k9 - lay.length) := fun k9 h9 => by
    rw [hal]
    show (if k9 + 1 < lay.length + 1 then al (k9 + 1) else H.size + (k9 + 1 - (lay.length + 1))) = _
    rw [if_neg (by omega)]
    omega
  have g0 : al' 0 = al 0 := by rw [hal]; exact if_pos (by omega)
  obtain ⟨new, hnew⟩ : ∃ new : jj_Lay, new = (22, N, jj_rf lay.length N) :: List.replicate N (20, K, []) := ⟨_, rfl⟩
  have hnl : new.length = 1 + N := by rw [hnew, List.length_cons, List.length_replicate]; omega
  have hn0 : new[0]? = some (22, N, jj_rf lay.length N) := by rw [hnew]; rfl
  have hn1 : ∀ i, i < N → new[i + 1]? = some (20, K, []) := fun i hi => by
    rw [hnew, List.getElem?_cons_succ, List.getElem?_replicate, if_pos hi]
  have hlen : (lay ++ new).length = lay.length + 1 + N := by rw [List.length_append, hnl]; omega
  have hWold : jj_W g al' (jj_zt t (lay.length + 1) N) lay = jj_W g al t lay := jj_W_agree e8 ga (fun k9 h9 => jj_zt_lo (by omega))
  have hP0 : va_P D vwCl (jj_W g al t lay) F.heap := e2.kept (fun k9 q hq => hold q.1 ((e2 k9 q hq).lt))
  have hP : va_P D vwCl (jj_W g al' (jj_zt t (lay.length + 1) N) (lay ++ new)) F.heap := by
    rw [jj_W_app, hWold]
    refine hP0.app (fun k9 q hq => ?_)
    rw [List.getElem?_mapIdx] at hq
    cases k9 with
    | zero =>
      rw [hn0] at hq
      cases hq
      show va_at D vwCl (al' (lay.length + 0 + 1), jj_cell g al' _ (22, N, jj_rf lay.length N)) F.heap
      rw [jj_cell_q]
      show F.heap[al' (lay.length + 0 + 1)]? = some _
      rw [gb _ (Nat.le_refl _), Nat.sub_self, Nat.add_zero, f2]
      show some _ = some (arrV g.2.2 N (fun j => va_rf (jj_el al' (jj_rf lay.length N) j)))
      refine congrArg some (congrArg (arrV g.2.2 N) (funext fun j => ?_))
      show va_rf _ = va_rf _
      unfold jj_el
      by_cases hj : j < N
      · rw [if_pos hj, jj_rf_at hj]
        show va_rf _ = va_rf (some (al' (lay.length + 1 + j + 1)))
        rw [gb _ (by omega), show H.size + (lay.length + 1 + j - lay.length) = H.size + 1 + j by omega]
      · rw [if_neg hj, jj_rf_no (by omega)]
    | succ i =>
      by_cases hi : i < N
      · rw [hn1 i hi] at hq
        cases hq
        show va_at D vwCl (al' (lay.length + (i + 1) + 1), jj_cell g al' _ (20, K, [])) F.heap
        rw [jj_cell_i]
        show F.heap[al' (lay.length + (i + 1) + 1)]? = some _
        rw [gb _ (by omega), show H.size + (lay.length + (i + 1) - lay.length) = H.size + 1 + i by omega, hrow i hi, jj_zt_hi (by omega) (by omega)]
      · rw [List.getElem?_eq_none (by rw [hnl]; omega)] at hq
        cases hq
  have haddr : ∀ (k9 : Nat) (q : Nat × va_E), (jj_W g al' (jj_zt t (lay.length + 1) N) (lay ++ new))[k9]? = some q → q.1 = al' (k9 + 1) ∧ (k9 < lay.length → q.1 < H.size) := fun k9 q hq => by
    obtain ⟨c9, hc9, rfl⟩ := jj_W_inv hq
    refine ⟨rfl, fun h9 => ?_⟩
    show al' (k9 + 1) < _
    rw [ga k9 h9]
    rw [List.getElem?_append_left h9] at hc9
    exact hlow k9 c9 hc9
  have hold9 : ∀ (k9 : Nat) (q : Nat × va_E), k9 < lay.length → (jj_W g al' (jj_zt t (lay.length + 1) N) (lay ++ new))[k9]? = some q → (jj_W g al t lay)[k9]? = some q := fun k9 q h9 hq => by
    rw [jj_W_app, hWold, List.getElem?_append_left (by unfold jj_W; rw [List.length_mapIdx]; exact h9)] at hq
    exact hq
  have hD : va_D A (jj_W g al' (jj_zt t (lay.length + 1) N) (lay ++ new)) := by
    refine ⟨fun i j x y hi hj hxy => ?_, fun k9 q hq => ?_⟩
    · obtain ⟨a1, a2⟩ := haddr i x hi
      obtain ⟨b1, b2⟩ := haddr j y hj
      by_cases hi9 : i < lay.length <;> by_cases hj9 : j < lay.length
      · exact e3.1 i j x y (hold9 i x hi9 hi) (hold9 j y hj9 hj) hxy
      · have := a2 hi9
        rw [hxy, b1, gb j (by omega)] at this
        omega
      · have := b2 hj9
        rw [← hxy, a1, gb i (by omega)] at this
        omega
      · rw [a1, b1, gb i (by omega), gb j (by omega)] at hxy
        omega
    · by_cases h9 : k9 < lay.length
      · exact e3.2 k9 q (hold9 k9 q h9 hq)
      · refine hA _ ?_
        rw [(haddr k9 q hq).1, gb k9 (by omega)]
        exact Nat.le_trans e4.1 (Nat.le_add_right _ _)
  have hsz : H.size ≤ F.heap.size := by omega
  have hS : va_S A s.heap F.heap locs := ⟨Nat.le_trans e4.1 hsz, fun q q1 q2 => (hold q (Nat.lt_of_lt_of_le q1 e4.1)).trans (e4.2.1 q q1 q2), e4.2.2⟩
  have hsl9 : jj_sl (lay ++ new) = jj_sl lay + (N + N * K) := by
    rw [jj_sl_app, hnew]
    show _ + (N + jj_sl _) = _
    rw [jj_sl_rep]
  have hyn : jj_wy (lay ++ new) := jj_wy_app e8 (fun c9 hc9 q hq => by
    rw [hlen]
    rw [hnew] at hc9
    rcases List.mem_cons.mp hc9 with h9 | h9
    · rw [h9] at hq
      obtain ⟨j, hj⟩ := List.getElem?_of_mem hq
      replace hj : (jj_rf lay.length N)[j]? = some (some (some q)) := hj
      by_cases hjN : j < N
      · rw [jj_rf_at hjN] at hj
        cases hj
        omega
      · rw [jj_rf_no (by omega)] at hj
        cases hj
    · rw [List.eq_of_mem_replicate h9] at hq
      cases hq)
  have hk2 := hk al' (jj_zt t (lay.length + 1) N) F.heap locs ls (cells + 1 + N) (slots + N + N * K)
    (by show n0 + (cells + 1 + N) = (lay ++ (22, N, jj_rf lay.length N) :: List.replicate N (20, K, [])).length; rw [← hnew, hlen]; omega)
    (by show s0 + (slots + N + N * K) = jj_sl (lay ++ (22, N, jj_rf lay.length N) :: List.replicate N (20, K, [])); rw [← hnew, hsl9]; omega)
  dsimp only at hk2
  rw [← hnew] at hk2
  have hk3 := hk2 ⟨jj_ext_z e1, hP, hD, hS, by rw [jj_asg_agree g0 ga e6]; exact e5, jj_wl_mono (by rw [hlen]; omega) e6, jj_ws_cons (by show lay.length < (lay ++ new).length; rw [hlen]; omega) (jj_ws_mono (by rw [hlen]; omega) (jj_ws_tl (jj_ws_tl e7))), hyn, e9, g0.trans e10, fun k9 h9 => (ga k9 (by omega)).trans (e11 k9 h9)⟩
  have hst9 : (Value.ref lay.length :: st).map (jj_v al') = Value.ref T.heap.size :: st.map (jj_v al) := by
    rw [List.map_cons, jj_st_agree g0 ga (jj_ws_tl (jj_ws_tl e7)), hT]
    show Value.ref (al' (lay.length + 1)) :: _ = _
    rw [gb _ (Nat.le_refl _), Nat.sub_self, Nat.add_zero]
  rw [hst9] at hk3
  obtain ⟨t2, a1, b1⟩ := hk3 F rfl X'
  exact ⟨t2, step t2 a1, b1⟩
end JM
end
section
/-! The same rules over numbers nI n, and forgetting. -/
theorem jj_inc (i : Nat) : nI i + Int32.ofInt 1 = nI (i + 1) := nI_1 i
theorem jj_dec (i : Nat) : nI (i + 1) + Int32.ofInt (-1) = nI i := pk_m1 i
def jj_le : List (Option Value) → List (Option Value) → Prop
  | [], [] => True
  | none :: r', _ :: r => jj_le r' r
  | some v :: r', some w :: r => v = w ∧ jj_le r' r
  | _, _ => False
theorem jj_le_at : ∀ {L' L : List (Option Value)}, jj_le L' L → L'.length = L.length ∧ ∀ (i : Nat) (v : Value), L'[i]? = some (some v) → L[i]? = some (some v)
  | [], [], _ => ⟨rfl, fun i v h => by simp at h⟩
  | [], _ :: _, h => absurd h (by simp [jj_le])
  | none :: r', [], h => absurd h (by simp [jj_le])
  | some v :: r', [], h => absurd h (by simp [jj_le])
  | none :: r', b :: r, h => by
    have h : jj_le r' r := by cases b <;> exact h
    obtain ⟨q1, q2⟩ := jj_le_at h
    refine ⟨by rw [List.length_cons, List.length_cons, q1], fun i v hv => ?_⟩
    cases i with
    | zero => simp at hv
    | succ i => simpa using q2 i v (by simpa using hv)
  | some v :: r', none :: r, h => absurd h (by simp [jj_le])
  | some v :: r', some w :: r, h => by
    obtain ⟨h0, h⟩ := h
    obtain ⟨q1, q2⟩ := jj_le_at h
    refine ⟨by rw [List.length_cons, List.length_cons, q1], fun i u hu => ?_⟩
    cases i with
    | zero => rw [h0] at hu; exact hu
    | succ i => simpa using q2 i u (by simpa using hu)
section JN
variable {cc : ByteArray} {nL : Nat} {own nm : String} {sx : jj_X} {fr lo nc sc : Nat} {cE : jj_C} {pc : Nat} {L : List (Option Value)} {st : List Value} {lay : jj_Lay} {S : jj_Mem}
/-- less is known of the locals -/
theorem js_fgL {L' : List (Option Value)} (h : jj_le L' L) (k : jj_R cc nL own nm sx fr lo nc sc (pc, L', st, lay, S) cE) : jj_R cc nL own nm sx fr lo nc sc (pc, L, st, lay, S) cE := by
  intro p l e R s m args below meth cd D g A al0 n0 s0 Q hC hf hl hc hs hE
  have hk := k p l e R s m args below meth cd D g A al0 n0 s0 Q hC hf hl hc hs hE
  intro al t H locs ls cells slots h1 h2 hR
  obtain ⟨e1, e2, e3, e4, e5, e6, e7, e8, e9, e10⟩ := hR
  obtain ⟨q1, q2⟩ := jj_le_at h
  refine hk al t H locs ls cells slots h1 h2 ⟨e1, e2, e3, e4, jj_lsub e5 (fun q hq => ?_), fun v hv => ?_, e7, e8, q1.trans e9, e10⟩
  · obtain ⟨j, v, hj, rfl⟩ := jj_asg_mem.mp hq
    exact jj_asg_mem.mpr ⟨j, v, q2 j v hj, rfl⟩
  · obtain ⟨j, hj⟩ := List.getElem?_of_mem hv
    exact e6 v (List.mem_of_getElem? (q2 j v hj))
/-- less is known of the memory -/
theorem js_fgS {S' : jj_Mem} (h : ∀ p j x, S' p j = some x → S p j = some x) (k : jj_R cc nL own nm sx fr lo nc sc (pc, L, st, lay, S') cE) : jj_R cc nL own nm sx fr lo nc sc (pc, L, st, lay, S) cE := by
  intro p l e R s m args below meth cd D g A al0 n0 s0 Q hC hf hl hc hs hE
  have hk := k p l e R s m args below meth cd D g A al0 n0 s0 Q hC hf hl hc hs hE
  intro al t H locs ls cells slots h1 h2 hR
  obtain ⟨e1, e2⟩ := hR
  exact hk al t H locs ls cells slots h1 h2 ⟨fun p9 j x hx => e1 p9 j x (h p9 j x hx), e2⟩
/-- from here on by cases -/
theorem js_ex {P : Prop} (h : P → jj_R cc nL own nm sx fr lo nc sc (pc, L, st, lay, S) cE) (hp : P) : jj_R cc nL own nm sx fr lo nc sc (pc, L, st, lay, S) cE := h hp
theorem jn_if_eq {a : Nat} {off : Int} (tgt : Nat) (ha : a < 2 ^ 31) (hdg : decode cc pc = .ok (.ifCond .eq off, 3)) (ht : (pc : Int) + off = (tgt : Int)) (kt : a = 0 → jj_R cc nL own nm sx fr lo nc sc (tgt, L, st, lay, S) cE) (kf : a ≠ 0 → jj_R cc nL own nm sx fr lo nc sc (pc + 3, L, st, lay, S) cE) : jj_R cc nL own nm sx fr lo nc sc (pc, L, .int (nI a) :: st, lay, S) cE :=
  js_if_eq tgt hdg ht (fun q => kt ((nI_eq (a := a) (b := 0) ha (by decide)).mp q)) (fun q => kf (fun w => q ((nI_eq (a := a) (b := 0) ha (by decide)).mpr w)))
theorem jn_icmp_eq {a b : Nat} {off : Int} (tgt : Nat) (ha : a < 2 ^ 31) (hb : b < 2 ^ 31) (hdg : decode cc pc = .ok (.if_icmp .eq off, 3)) (ht : (pc : Int) + off = (tgt : Int)) (kt : a = b → jj_R cc nL own nm sx fr lo nc sc (tgt, L, st, lay, S) cE) (kf : a ≠ b → jj_R cc nL own nm sx fr lo nc sc (pc + 3, L, st, lay, S) cE) : jj_R cc nL own nm sx fr lo nc sc (pc, L, .int (nI b) :: .int (nI a) :: st, lay, S) cE :=
  js_icmp_eq tgt hdg ht (fun q => kt ((nI_eq (a := a) (b := b) ha hb).mp q)) (fun q => kf (fun w => q ((nI_eq (a := a) (b := b) ha hb).mpr w)))
theorem jn_if_ne {a : Nat} {off : Int} (tgt : Nat) (ha : a < 2 ^ 31) (hdg : decode cc pc = .ok (.ifCond .ne off, 3)) (ht : (pc : Int) + off = (tgt : Int)) (kt : a ≠ 0 → jj_R cc nL own nm sx fr lo nc sc (tgt, L, st, lay, S) cE) (kf : a = 0 → jj_R cc nL own nm sx fr lo nc sc (pc + 3, L, st, lay, S) cE) : jj_R cc nL own nm sx fr lo nc sc (pc, L, .int (nI a) :: st, lay, S) cE :=
  js_if_ne tgt hdg ht (fun q => kt (fun w => q ((nI_eq (a := a) (b := 0) ha (by decide)).mpr w))) (fun q => kf ((nI_eq (a := a) (b := 0) ha (by decide)).mp q))
theorem jn_icmp_ne {a b : Nat} {off : Int} (tgt : Nat) (ha : a < 2 ^ 31) (hb : b < 2 ^ 31) (hdg : decode cc pc = .ok (.if_icmp .ne off, 3)) (ht : (pc : Int) + off = (tgt : Int)) (kt : a ≠ b → jj_R cc nL own nm sx fr lo nc sc (tgt, L, st, lay, S) cE) (kf : a = b → jj_R cc nL own nm sx fr lo nc sc (pc + 3, L, st, lay, S) cE) : jj_R cc nL own nm sx fr lo nc sc (pc, L, .int (nI b) :: .int (nI a) :: st, lay, S) cE :=
  js_icmp_ne tgt hdg ht (fun q => kt (fun w => q ((nI_eq (a := a) (b := b) ha hb).mpr w))) (fun q => kf ((nI_eq (a := a) (b := b) ha hb).mp q))
theorem jn_if_lt {a : Nat} {off : Int} (tgt : Nat) (ha : a < 2 ^ 31) (hdg : decode cc pc = .ok (.ifCond .lt off, 3)) (ht : (pc : Int) + off = (tgt : Int)) (kt : a < 0 → jj_R cc nL own nm sx fr lo nc sc (tgt, L, st, lay, S) cE) (kf : 0 ≤ a → jj_R cc nL own nm sx fr lo nc sc (pc + 3, L, st, lay, S) cE) : jj_R cc nL own nm sx fr lo nc sc (pc, L, .int (nI a) :: st, lay, S) cE :=
  js_if_lt tgt hdg ht (fun q => kt ((nI_ltI (a := a) (b := 0) ha (by decide)).mp q)) (fun q => kf (Nat.le_of_not_lt (fun z => q ((nI_ltI (a := a) (b := 0) ha (by decide)).mpr z))))
theorem jn_icmp_lt {a b : Nat} {off : Int} (tgt : Nat) (ha : a < 2 ^ 31) (hb : b < 2 ^ 31) (hdg : decode cc pc = .ok (.if_icmp .lt off, 3)) (ht : (pc : Int) + off = (tgt : Int)) (kt : a < b → jj_R cc nL own nm sx fr lo nc sc (tgt, L, st, lay, S) cE) (kf : b ≤ a → jj_R cc nL own nm sx fr lo nc sc (pc + 3, L, st, lay, S) cE) : jj_R cc nL own nm sx fr lo nc sc (pc, L, .int (nI b) :: .int (nI a) :: st, lay, S) cE :=
  js_icmp_lt tgt hdg ht (fun q => kt ((nI_ltI (a := a) (b := b) ha hb).mp q)) (fun q => kf (Nat.le_of_not_lt (fun z => q ((nI_ltI (a := a) (b := b) ha hb).mpr z))))
theorem jn_if_ge {a : Nat} {off : Int} (tgt : Nat) (ha : a < 2 ^ 31) (hdg : decode cc pc = .ok (.ifCond .ge off, 3)) (ht : (pc : Int) + off = (tgt : Int)) (kt : 0 ≤ a → jj_R cc nL own nm sx fr lo nc sc (tgt, L, st, lay, S) cE) (kf : a < 0 → jj_R cc nL own nm sx fr lo nc sc (pc + 3, L, st, lay, S) cE) : jj_R cc nL own nm sx fr lo nc sc (pc, L, .int (nI a) :: st, lay, S) cE :=
  js_if_ge tgt hdg ht (fun q => kt ((nI_leI (a := 0) (b := a) (by decide) ha).mp q)) (fun q => kf (Nat.lt_of_not_le (fun z => q ((nI_leI (a := 0) (b := a) (by decide) ha).mpr z))))
theorem jn_icmp_ge {a b : Nat} {off : Int} (tgt : Nat) (ha : a < 2 ^ 31) (hb : b < 2 ^ 31) (hdg : decode cc pc = .ok (.if_icmp .ge off, 3)) (ht : (pc : Int) + off = (tgt : Int)) (kt : b ≤ a → jj_R cc nL own nm sx fr lo nc sc (tgt, L, st, lay, S) cE) (kf : a < b → jj_R cc nL own nm sx fr lo nc sc (pc + 3, L, st, lay, S) cE) : jj_R cc nL own nm sx fr lo nc sc (pc, L, .int (nI b) :: .int (nI a) :: st, lay, S) cE :=
  js_icmp_ge tgt hdg ht (fun q => kt ((nI_leI (a := b) (b := a) hb ha).mp q)) (fun q => kf (Nat.lt_of_not_le (fun z => q ((nI_leI (a := b) (b := a) hb ha).mpr z))))
theorem jn_if_gt {a : Nat} {off : Int} (tgt : Nat) (ha : a < 2 ^ 31) (hdg : decode cc pc = .ok (.ifCond .gt off, 3)) (ht : (pc : Int) + off = (tgt : Int)) (kt : 0 < a → jj_R cc nL own nm sx fr lo nc sc (tgt, L, st, lay, S) cE) (kf : a ≤ 0 → jj_R cc nL own nm sx fr lo nc sc (pc + 3, L, st, lay, S) cE) : jj_R cc nL own nm sx fr lo nc sc (pc, L, .int (nI a) :: st, lay, S) cE :=
  js_if_gt tgt hdg ht (fun q => kt ((nI_ltI (a := 0) (b := a) (by decide) ha).mp q)) (fun q => kf (Nat.le_of_not_lt (fun z => q ((nI_ltI (a := 0) (b := a) (by decide) ha).mpr z))))
theorem jn_icmp_gt {a b : Nat} {off : Int} (tgt : Nat) (ha : a < 2 ^ 31) (hb : b < 2 ^ 31) (hdg : decode cc pc = .ok (.if_icmp .gt off, 3)) (ht : (pc : Int) + off = (tgt : Int)) (kt : b < a → jj_R cc nL own nm sx fr lo nc sc (tgt, L, st, lay, S) cE) (kf : a ≤ b → jj_R cc nL own nm sx fr lo nc sc (pc + 3, L, st, lay, S) cE) : jj_R cc nL own nm sx fr lo nc sc (pc, L, .int (nI b) :: .int (nI a) :: st, lay, S) cE :=
  js_icmp_gt tgt hdg ht (fun q => kt ((nI_ltI (a := b) (b := a) hb ha).mp q)) (fun q => kf (Nat.le_of_not_lt (fun z => q ((nI_ltI (a := b) (b := a) hb ha).mpr z))))
theorem jn_if_le {a : Nat} {off : Int} (tgt : Nat) (ha : a < 2 ^ 31) (hdg : decode cc pc = .ok (.ifCond .le off, 3)) (ht : (pc : Int) + off = (tgt : Int)) (kt : a ≤ 0 → jj_R cc nL own nm sx fr lo nc sc (tgt, L, st, lay, S) cE) (kf : 0 < a → jj_R cc nL own nm sx fr lo nc sc (pc + 3, L, st, lay, S) cE) : jj_R cc nL own nm sx fr lo nc sc (pc, L, .int (nI a) :: st, lay, S) cE :=
  js_if_le tgt hdg ht (fun q => kt ((nI_leI (a := a) (b := 0) ha (by decide)).mp q)) (fun q => kf (Nat.lt_of_not_le (fun z => q ((nI_leI (a := a) (b := 0) ha (by decide)).mpr z))))
theorem jn_icmp_le {a b : Nat} {off : Int} (tgt : Nat) (ha : a < 2 ^ 31) (hb : b < 2 ^ 31) (hdg : decode cc pc = .ok (.if_icmp .le off, 3)) (ht : (pc : Int) + off = (tgt : Int)) (kt : a ≤ b → jj_R cc nL own nm sx fr lo nc sc (tgt, L, st, lay, S) cE) (kf : b < a → jj_R cc nL own nm sx fr lo nc sc (pc + 3, L, st, lay, S) cE) : jj_R cc nL own nm sx fr lo nc sc (pc, L, .int (nI b) :: .int (nI a) :: st, lay, S) cE :=
  js_icmp_le tgt hdg ht (fun q => kt ((nI_leI (a := a) (b := b) ha hb).mp q)) (fun q => kf (Nat.lt_of_not_le (fun z => q ((nI_leI (a := a) (b := b) ha hb).mpr z))))
theorem jn_iadd {x y : Nat} (hdg : decode cc pc = .ok (.iadd, 1)) (k : jj_R cc nL own nm sx fr lo nc sc (pc + 1, L, .int (nI (x + y)) :: st, lay, S) cE) : jj_R cc nL own nm sx fr lo nc sc (pc, L, .int (nI y) :: .int (nI x) :: st, lay, S) cE := js_iadd hdg (by rw [nI_add]; exact k)
theorem jn_imul {x y : Nat} (hdg : decode cc pc = .ok (.imul, 1)) (k : jj_R cc nL own nm sx fr lo nc sc (pc + 1, L, .int (nI (x * y)) :: st, lay, S) cE) : jj_R cc nL own nm sx fr lo nc sc (pc, L, .int (nI y) :: .int (nI x) :: st, lay, S) cE := js_imul hdg (by rw [pk_mul]; exact k)
theorem jn_isub {x y : Nat} (h : y ≤ x) (hdg : decode cc pc = .ok (.isub, 1)) (k : jj_R cc nL own nm sx fr lo nc sc (pc + 1, L, .int (nI (x - y)) :: st, lay, S) cE) : jj_R cc nL own nm sx fr lo nc sc (pc, L, .int (nI y) :: .int (nI x) :: st, lay, S) cE := js_isub hdg (by rw [pk_sub h]; exact k)
theorem jn_idiv {x y : Nat} (hx : x < 2 ^ 31) (h0 : 0 < y) (hy : y < 2 ^ 31) (hdg : decode cc pc = .ok (.idiv, 1)) (k : jj_R cc nL own nm sx fr lo nc sc (pc + 1, L, .int (nI (x / y)) :: st, lay, S) cE) : jj_R cc nL own nm sx fr lo nc sc (pc, L, .int (nI y) :: .int (nI x) :: st, lay, S) cE := js_idiv hdg (nI_ne0 h0 hy) (by rw [pk_div hx h0 hy]; exact k)
theorem jn_irem {x y : Nat} (hx : x < 2 ^ 31) (h0 : 0 < y) (hy : y < 2 ^ 31) (hdg : decode cc pc = .ok (.irem, 1)) (k : jj_R cc nL own nm sx fr lo nc sc (pc + 1, L, .int (nI (x % y)) :: st, lay, S) cE) : jj_R cc nL own nm sx fr lo nc sc (pc, L, .int (nI y) :: .int (nI x) :: st, lay, S) cE := js_irem hdg (nI_ne0 h0 hy) (by rw [pk_rem hx h0 hy]; exact k)
/-- another name for the top of the stack -/
theorem js_top {x y : Int32} (h : x = y) (k : jj_R cc nL own nm sx fr lo nc sc (pc, L, .int y :: st, lay, S) cE) : jj_R cc nL own nm sx fr lo nc sc (pc, L, .int x :: st, lay, S) cE := by rw [h]; exact k
end JN
/-- sums -/
def jj_sm (f : Nat → Nat) : Nat → Nat
  | 0 => 0
  | n + 1 => jj_sm f n + f n
theorem jj_sm_congr {f g : Nat → Nat} : ∀ {n : Nat}, (∀ j, j < n → f j = g j) → jj_sm f n = jj_sm g n
  | 0, _ => rfl
  | n + 1, h => by
    show jj_sm f n + f n = jj_sm g n + g n
    rw [jj_sm_congr (fun j hj => h j (by omega)), h n (by omega)]
theorem jj_sm_le {f g : Nat → Nat} : ∀ {n : Nat}, (∀ j, j < n → f j ≤ g j) → jj_sm f n ≤ jj_sm g n
  | 0, _ => Nat.le_refl _
  | n + 1, h => Nat.add_le_add (jj_sm_le (fun j hj => h j (by omega))) (h n (by omega))
theorem jj_sm_add (f g : Nat → Nat) : ∀ n : Nat, jj_sm (fun j => f j + g j) n = jj_sm f n + jj_sm g n
  | 0 => rfl
  | n + 1 => by
    show jj_sm (fun j => f j + g j) n + (f n + g n) = (jj_sm f n + f n) + (jj_sm g n + g n)
    rw [jj_sm_add f g n]; omega
theorem jj_sm_mul (c : Nat) (f : Nat → Nat) : ∀ n : Nat, jj_sm (fun j => c * f j) n = c * jj_sm f n
  | 0 => rfl
  | n + 1 => by
    show jj_sm (fun j => c * f j) n + c * f n = c * (jj_sm f n + f n)
    rw [jj_sm_mul c f n, Nat.mul_add]
theorem jj_sm_at {f : Nat → Nat} : ∀ {n j : Nat}, j < n → f j ≤ jj_sm f n
  | 0, j, h => absurd h (by omega)
  | n + 1, j, h => by
    show f j ≤ jj_sm f n + f n
    by_cases e : j = n
    · subst e; omega
    · have := jj_sm_at (f := f) (n := n) (j := j) (by omega)
      omega
theorem jj_sm_mono {f : Nat → Nat} : ∀ {k n : Nat}, k ≤ n → jj_sm f k ≤ jj_sm f n
  | k, 0, h => by rw [show k = 0 by omega]; exact Nat.le_refl _
  | k, n + 1, h => by
    by_cases e : k = n + 1
    · rw [e]; exact Nat.le_refl _
    · exact Nat.le_trans (jj_sm_mono (f := f) (k := k) (n := n) (by omega)) (Nat.le_add_right _ _)
def jj_up (f : Nat → Nat) (i x : Nat) : Nat → Nat := fun j => if j = i then x else f j
theorem jj_up_at (f : Nat → Nat) (i x : Nat) : jj_up f i x i = x := if_pos rfl
theorem jj_up_ne (f : Nat → Nat) {i x j : Nat} (h : j ≠ i) : jj_up f i x j = f j := if_neg h
theorem jj_sm_up_out {f : Nat → Nat} {i x : Nat} : ∀ {n : Nat}, n ≤ i → jj_sm (jj_up f i x) n = jj_sm f n := fun h => jj_sm_congr (fun j hj => jj_up_ne f (by omega))
theorem jj_sm_up {f : Nat → Nat} {i x : Nat} : ∀ {n : Nat}, i < n → jj_sm (jj_up f i x) n + f i = jj_sm f n + x
  | 0, h => absurd h (by omega)
  | n + 1, h => by
    show (jj_sm (jj_up f i x) n + jj_up f i x n) + f i = (jj_sm f n + f n) + x
    by_cases e : i = n
    · subst e
      rw [jj_sm_up_out (Nat.le_refl _), jj_up_at]; omega
    · have := jj_sm_up (f := f) (i := i) (x := x) (n := n) (by omega)
      rw [jj_up_ne f (by omega)]; omega
/-- the body comes to a return with v -/
def jj_RR (cc : ByteArray) (nL : Nat) (own nm : String) (sx : jj_X) (fr lo nc sc : Nat) (c : jj_C) (v : Option Value) (ins : Instr) (lay' : jj_Lay) (S' : jj_Mem) : Prop :=
  ∃ (pc' : Nat) (L' : List (Option Value)), decode cc pc' = .ok (ins, 1) ∧ jj_R cc nL own nm sx fr lo nc sc c (pc', L', v.toList, lay', S')
section JO
variable {y : MethodName} {cc : ByteArray} {nL : Nat} {own nm : String} {sx : jj_X} {fr lo nc sc : Nat} {av : List Value} {lay : jj_Lay} {S S' : jj_Mem} {L : List (Option Value)} {pc : Nat} {st : List Value} {cE : jj_C}
theorem js_st {st' : List Value} (h : st = st') (k : jj_R cc nL own nm sx fr lo nc sc (pc, L, st', lay, S) cE) : jj_R cc nL own nm sx fr lo nc sc (pc, L, st, lay, S) cE := h ▸ k
theorem jj_mkI {x : Int32} (own : String) (ret0 : FieldType) (hpl : plainName y.cls = true) (hown : own = y.cls) (hL : jj_ent av ++ List.replicate (nL - (jj_ent av).length) none = L) (hlen : L.length = nL) (hn : narrow ret0 (.int x) = .int x)
    (hR : jj_RR cc nL own y.name sx fr lo lay.length (jj_sl lay) (0, L, [], lay, S) (some (.int x)) .ireturn lay S') : jj_CT y (.code y cc nL (some ret0)) sx fr lo av lay S (some (.int x)) lay S' := by
  obtain ⟨pc', L', hd, h⟩ := hR
  exact jj_mk own hpl hown hL hlen ⟨⟨ret0, rfl, hn⟩, rfl⟩ hd (Nat.le_refl _) (Nat.le_refl _) id (fun _ _ w h => by cases h; trivial) h
theorem jj_mkL {x : Int64} (own : String) (hpl : plainName y.cls = true) (hown : own = y.cls) (hL : jj_ent av ++ List.replicate (nL - (jj_ent av).length) none = L) (hlen : L.length = nL)
    (hR : jj_RR cc nL own y.name sx fr lo lay.length (jj_sl lay) (0, L, [], lay, S) (some (.long x)) .lreturn lay S') : jj_CT y (.code y cc nL (some .long)) sx fr lo av lay S (some (.long x)) lay S' := by
  obtain ⟨pc', L', hd, h⟩ := hR
  exact jj_mk own hpl hown hL hlen ⟨rfl, rfl⟩ hd (Nat.le_refl _) (Nat.le_refl _) id (fun _ _ w h => by cases h; trivial) h
theorem jj_mkV (own : String) (hpl : plainName y.cls = true) (hown : own = y.cls) (hL : jj_ent av ++ List.replicate (nL - (jj_ent av).length) none = L) (hlen : L.length = nL)
    (hR : jj_RR cc nL own y.name sx fr lo lay.length (jj_sl lay) (0, L, [], lay, S) none .return_ lay S') : jj_CT y (.code y cc nL none) sx fr lo av lay S none lay S' := by
  obtain ⟨pc', L', hd, h⟩ := hR
  exact jj_mk own hpl hown hL hlen ⟨rfl, rfl⟩ hd (Nat.le_refl _) (Nat.le_refl _) id (fun _ _ w h => by cases h) h
theorem jj_RRs {c c1 : jj_C} {v : Option Value} {ins : Instr} {lay' : jj_Lay} (h : jj_R cc nL own nm sx fr lo nc sc c c1) (k : jj_RR cc nL own nm sx fr lo nc sc c1 v ins lay' S') : jj_RR cc nL own nm sx fr lo nc sc c v ins lay' S' := by
  obtain ⟨pc', L', hd, hk⟩ := k
  exact ⟨pc', L', hd, jj_tr h hk⟩
end JO
end
section
/-! WORDS: each link that an instruction needs, found in the tables by program; the cells of a PlayPool, by their places. -/
theorem jw_m_RX6_3 : Cond.methodLink RX6 3 objectInit ∈ jj_gW := List.mem_filter.mpr ⟨by decide +kernel, rfl⟩
theorem jw_oi : Cond.instanceMethod objectInit ∈ jj_gW := List.mem_filter.mpr ⟨by decide +kernel, rfl⟩
theorem jw_oc : Cond.code objectInit ⟨#[0xb1]⟩ 1 none ∈ jj_gW := List.mem_filter.mpr ⟨by decide +kernel, rfl⟩
theorem jw_w_RX6_9 : Cond.classLink RX6 9 RX2 ∈ jj_gW := List.mem_filter.mpr ⟨by decide +kernel, rfl⟩
theorem jw_v_RX2 : Cond.instantiable RX2 8 ∈ jj_gW := List.mem_filter.mpr ⟨by decide +kernel, rfl⟩
theorem jw_ii_RX2 : Cond.initialized RX2 ∈ jj_gW := List.mem_filter.mpr ⟨by decide +kernel, rfl⟩
theorem jw_c_X2_init : Cond.code yX2_init cX2_init 1 none ∈ jj_gW := List.mem_filter.mpr ⟨by decide +kernel, rfl⟩
theorem jw_i_RX2 : Cond.initialized yX2_init.cls ∈ jj_gW := List.mem_filter.mpr ⟨by decide +kernel, rfl⟩
theorem jw_h_RX6_11 : Cond.methodLinkNest RX6 11 yX2_init "PlayPool" ∈ jj_nW := List.mem_filter.mpr ⟨by decide +kernel, rfl⟩
theorem jw_s_X2_init : Cond.instanceMethod yX2_init ∈ jj_gW := List.mem_filter.mpr ⟨by decide +kernel, rfl⟩
theorem jw_y_X2_init : jj_yn yX2_init 0 := ⟨by decide +kernel, by decide +kernel, by decide +kernel⟩
theorem jw_f_RX6_12 : jj_lkF RX6 12 TX6 0 := List.mem_filter.mpr ⟨(by decide +kernel : Cond.fieldLink RX6 12 (TX6 0).1 (TX6 0).2.1 (TX6 0).2.2.1 ∈ lw_tbl), rfl⟩
theorem jw_w_RX6_16 : Cond.classLink RX6 16 RX5 ∈ jj_gW := List.mem_filter.mpr ⟨by decide +kernel, rfl⟩
theorem jw_v_RX5 : Cond.instantiable RX5 1 ∈ jj_gW := List.mem_filter.mpr ⟨by decide +kernel, rfl⟩
theorem jw_ii_RX5 : Cond.initialized RX5 ∈ jj_gW := List.mem_filter.mpr ⟨by decide +kernel, rfl⟩
theorem jw_c_X5_init : Cond.code yX5_init cX5_init 1 none ∈ jj_gW := List.mem_filter.mpr ⟨by decide +kernel, rfl⟩
theorem jw_i_RX5 : Cond.initialized yX5_init.cls ∈ jj_gW := List.mem_filter.mpr ⟨by decide +kernel, rfl⟩
theorem jw_h_RX6_18 : Cond.methodLinkNest RX6 18 yX5_init "PlayPool" ∈ jj_nW := List.mem_filter.mpr ⟨by decide +kernel, rfl⟩
theorem jw_s_X5_init : Cond.instanceMethod yX5_init ∈ jj_gW := List.mem_filter.mpr ⟨by decide +kernel, rfl⟩
theorem jw_y_X5_init : jj_yn yX5_init 0 := ⟨by decide +kernel, by decide +kernel, by decide +kernel⟩
theorem jw_f_RX6_19 : jj_lkF RX6 19 TX6 1 := List.mem_filter.mpr ⟨(by decide +kernel : Cond.fieldLink RX6 19 (TX6 1).1 (TX6 1).2.1 (TX6 1).2.2.1 ∈ lw_tbl), rfl⟩
theorem jw_w_RX6_23 : Cond.classLink RX6 23 RX0 ∈ jj_gW := List.mem_filter.mpr ⟨by decide +kernel, rfl⟩
theorem jw_v_RX0 : Cond.instantiable RX0 7 ∈ jj_gW := List.mem_filter.mpr ⟨by decide +kernel, rfl⟩
theorem jw_ii_RX0 : Cond.initialized RX0 ∈ jj_gW := List.mem_filter.mpr ⟨by decide +kernel, rfl⟩
theorem jw_c_X0_init : Cond.code yX0_init cX0_init 1 none ∈ jj_gW := List.mem_filter.mpr ⟨by decide +kernel, rfl⟩
theorem jw_i_RX0 : Cond.initialized yX0_init.cls ∈ jj_gW := List.mem_filter.mpr ⟨by decide +kernel, rfl⟩
theorem jw_h_RX6_25 : Cond.methodLinkNest RX6 25 yX0_init "PlayPool" ∈ jj_nW := List.mem_filter.mpr ⟨by decide +kernel, rfl⟩
theorem jw_s_X0_init : Cond.instanceMethod yX0_init ∈ jj_gW := List.mem_filter.mpr ⟨by decide +kernel, rfl⟩
theorem jw_y_X0_init : jj_yn yX0_init 0 := ⟨by decide +kernel, by decide +kernel, by decide +kernel⟩
theorem jw_f_RX6_26 : jj_lkF RX6 26 TX6 2 := List.mem_filter.mpr ⟨(by decide +kernel : Cond.fieldLink RX6 26 (TX6 2).1 (TX6 2).2.1 (TX6 2).2.2.1 ∈ lw_tbl), rfl⟩
theorem jw_w_RX6_30 : Cond.classLink RX6 30 RX4 ∈ jj_gW := List.mem_filter.mpr ⟨by decide +kernel, rfl⟩
theorem jw_v_RX4 : Cond.instantiable RX4 7 ∈ jj_gW := List.mem_filter.mpr ⟨by decide +kernel, rfl⟩
theorem jw_ii_RX4 : Cond.initialized RX4 ∈ jj_gW := List.mem_filter.mpr ⟨by decide +kernel, rfl⟩
theorem jw_c_X4_init : Cond.code yX4_init cX4_init 1 none ∈ jj_gW := List.mem_filter.mpr ⟨by decide +kernel, rfl⟩
theorem jw_i_RX4 : Cond.initialized yX4_init.cls ∈ jj_gW := List.mem_filter.mpr ⟨by decide +kernel, rfl⟩
theorem jw_h_RX6_32 : Cond.methodLinkNest RX6 32 yX4_init "PlayPool" ∈ jj_nW := List.mem_filter.mpr ⟨by decide +kernel, rfl⟩
theorem jw_s_X4_init : Cond.instanceMethod yX4_init ∈ jj_gW := List.mem_filter.mpr ⟨by decide +kernel, rfl⟩
theorem jw_y_X4_init : jj_yn yX4_init 0 := ⟨by decide +kernel, by decide +kernel, by decide +kernel⟩
theorem jw_f_RX6_33 : jj_lkF RX6 33 TX6 3 := List.mem_filter.mpr ⟨(by decide +kernel : Cond.fieldLink RX6 33 (TX6 3).1 (TX6 3).2.1 (TX6 3).2.2.1 ∈ lw_tbl), rfl⟩
theorem jw_w_RX6_37 : Cond.classLink RX6 37 RX3 ∈ jj_gW := List.mem_filter.mpr ⟨by decide +kernel, rfl⟩
theorem jw_v_RX3 : Cond.instantiable RX3 3 ∈ jj_gW := List.mem_filter.mpr ⟨by decide +kernel, rfl⟩
theorem jw_ii_RX3 : Cond.initialized RX3 ∈ jj_gW := List.mem_filter.mpr ⟨by decide +kernel, rfl⟩
theorem jw_c_X3_init : Cond.code yX3_init cX3_init 1 none ∈ jj_gW := List.mem_filter.mpr ⟨by decide +kernel, rfl⟩
theorem jw_i_RX3 : Cond.initialized yX3_init.cls ∈ jj_gW := List.mem_filter.mpr ⟨by decide +kernel, rfl⟩
theorem jw_h_RX6_39 : Cond.methodLinkNest RX6 39 yX3_init "PlayPool" ∈ jj_nW := List.mem_filter.mpr ⟨by decide +kernel, rfl⟩
theorem jw_s_X3_init : Cond.instanceMethod yX3_init ∈ jj_gW := List.mem_filter.mpr ⟨by decide +kernel, rfl⟩
theorem jw_y_X3_init : jj_yn yX3_init 0 := ⟨by decide +kernel, by decide +kernel, by decide +kernel⟩
theorem jw_f_RX6_40 : jj_lkF RX6 40 TX6 4 := List.mem_filter.mpr ⟨(by decide +kernel : Cond.fieldLink RX6 40 (TX6 4).1 (TX6 4).2.1 (TX6 4).2.2.1 ∈ lw_tbl), rfl⟩
theorem jw_w_RX6_44 : Cond.classLink RX6 44 RX1 ∈ jj_gW := List.mem_filter.mpr ⟨by decide +kernel, rfl⟩
theorem jw_v_RX1 : Cond.instantiable RX1 12 ∈ jj_gW := List.mem_filter.mpr ⟨by decide +kernel, rfl⟩
theorem jw_ii_RX1 : Cond.initialized RX1 ∈ jj_gW := List.mem_filter.mpr ⟨by decide +kernel, rfl⟩
theorem jw_c_X1_init : Cond.code yX1_init cX1_init 1 none ∈ jj_gW := List.mem_filter.mpr ⟨by decide +kernel, rfl⟩
theorem jw_i_RX1 : Cond.initialized yX1_init.cls ∈ jj_gW := List.mem_filter.mpr ⟨by decide +kernel, rfl⟩
theorem jw_h_RX6_46 : Cond.methodLinkNest RX6 46 yX1_init "PlayPool" ∈ jj_nW := List.mem_filter.mpr ⟨by decide +kernel, rfl⟩
theorem jw_s_X1_init : Cond.instanceMethod yX1_init ∈ jj_gW := List.mem_filter.mpr ⟨by decide +kernel, rfl⟩
theorem jw_y_X1_init : jj_yn yX1_init 0 := ⟨by decide +kernel, by decide +kernel, by decide +kernel⟩
theorem jw_f_RX6_47 : jj_lkF RX6 47 TX6 5 := List.mem_filter.mpr ⟨(by decide +kernel : Cond.fieldLink RX6 47 (TX6 5).1 (TX6 5).2.1 (TX6 5).2.2.1 ∈ lw_tbl), rfl⟩
theorem jw_f_RX6_51 : jj_lkF RX6 51 TX6 6 := List.mem_filter.mpr ⟨(by decide +kernel : Cond.fieldLink RX6 51 (TX6 6).1 (TX6 6).2.1 (TX6 6).2.2.1 ∈ lw_tbl), rfl⟩
theorem jw_f_RX6_54 : jj_lkF RX6 54 TX6 7 := List.mem_filter.mpr ⟨(by decide +kernel : Cond.fieldLink RX6 54 (TX6 7).1 (TX6 7).2.1 (TX6 7).2.2.1 ∈ lw_tbl), rfl⟩
theorem jw_f_RX6_57 : jj_lkF RX6 57 TX6 8 := List.mem_filter.mpr ⟨(by decide +kernel : Cond.fieldLink RX6 57 (TX6 8).1 (TX6 8).2.1 (TX6 8).2.2.1 ∈ lw_tbl), rfl⟩
theorem jw_f_RX6_61 : jj_lkF RX6 61 TX6 9 := List.mem_filter.mpr ⟨(by decide +kernel : Cond.fieldLink RX6 61 (TX6 9).1 (TX6 9).2.1 (TX6 9).2.2.1 ∈ lw_tbl), rfl⟩
theorem jw_f_RX6_65 : jj_lkF RX6 65 TX6 10 := List.mem_filter.mpr ⟨(by decide +kernel : Cond.fieldLink RX6 65 (TX6 10).1 (TX6 10).2.1 (TX6 10).2.2.1 ∈ lw_tbl), rfl⟩
theorem jw_c_X6_needRecording : Cond.code yX6_needRecording cX6_needRecording 1 none ∈ jj_gW := List.mem_filter.mpr ⟨by decide +kernel, rfl⟩
theorem jw_i_RX6 : Cond.initialized yX6_needRecording.cls ∈ jj_gW := List.mem_filter.mpr ⟨by decide +kernel, rfl⟩
theorem jw_m_RX6_68 : Cond.methodLink RX6 68 yX6_needRecording ∈ jj_gW := List.mem_filter.mpr ⟨by decide +kernel, rfl⟩
theorem jw_s_X6_needRecording : Cond.static yX6_needRecording ∈ jj_gW := List.mem_filter.mpr ⟨by decide +kernel, rfl⟩
theorem jw_y_X6_needRecording : jj_yn yX6_needRecording 1 := ⟨by decide +kernel, by decide +kernel, by decide +kernel⟩
theorem jw_n_RX6_72 : jj_lkN RX6 72 TX2 0 "PlayPool" := List.mem_filter.mpr ⟨(by decide +kernel : Cond.fieldLinkNest RX6 72 (TX2 0).1 (TX2 0).2.1 (TX2 0).2.2.1 "PlayPool" ∈ lw_tbl), rfl⟩
theorem jw_c_X2_addTrack : Cond.code yX2_addTrack cX2_addTrack 3 (some .int) ∈ jj_gW := List.mem_filter.mpr ⟨by decide +kernel, rfl⟩
theorem jw_h_RX6_82 : Cond.methodLinkNest RX6 82 yX2_addTrack "PlayPool" ∈ jj_nW := List.mem_filter.mpr ⟨by decide +kernel, rfl⟩
theorem jw_s_X2_addTrack : Cond.instanceMethod yX2_addTrack ∈ jj_gW := List.mem_filter.mpr ⟨by decide +kernel, rfl⟩
theorem jw_e_X2_addTrack : Cond.selects yX2_addTrack.cls yX2_addTrack yX2_addTrack ∈ jj_gW := List.mem_filter.mpr ⟨by decide +kernel, rfl⟩
theorem jw_y_X2_addTrack : jj_yn yX2_addTrack 1 := ⟨by decide +kernel, by decide +kernel, by decide +kernel⟩
theorem jw_c_X6_needTrack : Cond.code yX6_needTrack cX6_needTrack 2 none ∈ jj_gW := List.mem_filter.mpr ⟨by decide +kernel, rfl⟩
theorem jw_m_RX6_86 : Cond.methodLink RX6 86 yX6_needTrack ∈ jj_gW := List.mem_filter.mpr ⟨by decide +kernel, rfl⟩
theorem jw_s_X6_needTrack : Cond.instanceMethod yX6_needTrack ∈ jj_gW := List.mem_filter.mpr ⟨by decide +kernel, rfl⟩
theorem jw_e_X6_needTrack : Cond.selects yX6_needTrack.cls yX6_needTrack yX6_needTrack ∈ jj_gW := List.mem_filter.mpr ⟨by decide +kernel, rfl⟩
theorem jw_y_X6_needTrack : jj_yn yX6_needTrack 1 := ⟨by decide +kernel, by decide +kernel, by decide +kernel⟩
theorem jw_c_X6_needLand : Cond.code yX6_needLand cX6_needLand 1 none ∈ jj_gW := List.mem_filter.mpr ⟨by decide +kernel, rfl⟩
theorem jw_m_RX6_89 : Cond.methodLink RX6 89 yX6_needLand ∈ jj_gW := List.mem_filter.mpr ⟨by decide +kernel, rfl⟩
theorem jw_s_X6_needLand : Cond.static yX6_needLand ∈ jj_gW := List.mem_filter.mpr ⟨by decide +kernel, rfl⟩
theorem jw_y_X6_needLand : jj_yn yX6_needLand 1 := ⟨by decide +kernel, by decide +kernel, by decide +kernel⟩
theorem jw_k_RX6_92 : Cond.constant RX6 92 99999 ∈ jj_gW := List.mem_filter.mpr ⟨by decide +kernel, rfl⟩
theorem jw_n_RX6_100 : jj_lkN RX6 100 TX2 3 "PlayPool" := List.mem_filter.mpr ⟨(by decide +kernel : Cond.fieldLinkNest RX6 100 (TX2 3).1 (TX2 3).2.1 (TX2 3).2.2.1 "PlayPool" ∈ lw_tbl), rfl⟩
theorem jw_c_X2_addWindow : Cond.code yX2_addWindow cX2_addWindow 5 none ∈ jj_gW := List.mem_filter.mpr ⟨by decide +kernel, rfl⟩
theorem jw_h_RX6_105 : Cond.methodLinkNest RX6 105 yX2_addWindow "PlayPool" ∈ jj_nW := List.mem_filter.mpr ⟨by decide +kernel, rfl⟩
theorem jw_s_X2_addWindow : Cond.instanceMethod yX2_addWindow ∈ jj_gW := List.mem_filter.mpr ⟨by decide +kernel, rfl⟩
theorem jw_e_X2_addWindow : Cond.selects yX2_addWindow.cls yX2_addWindow yX2_addWindow ∈ jj_gW := List.mem_filter.mpr ⟨by decide +kernel, rfl⟩
theorem jw_y_X2_addWindow : jj_yn yX2_addWindow 4 := ⟨by decide +kernel, by decide +kernel, by decide +kernel⟩
theorem jw_c_X6_judgePlays : Cond.code yX6_judgePlays cX6_judgePlays 6 none ∈ jj_gW := List.mem_filter.mpr ⟨by decide +kernel, rfl⟩
theorem jw_m_RX6_109 : Cond.methodLink RX6 109 yX6_judgePlays ∈ jj_gW := List.mem_filter.mpr ⟨by decide +kernel, rfl⟩
theorem jw_s_X6_judgePlays : Cond.instanceMethod yX6_judgePlays ∈ jj_gW := List.mem_filter.mpr ⟨by decide +kernel, rfl⟩
theorem jw_e_X6_judgePlays : Cond.selects yX6_judgePlays.cls yX6_judgePlays yX6_judgePlays ∈ jj_gW := List.mem_filter.mpr ⟨by decide +kernel, rfl⟩
theorem jw_y_X6_judgePlays : jj_yn yX6_judgePlays 0 := ⟨by decide +kernel, by decide +kernel, by decide +kernel⟩
theorem jw_c_X6_needParty : Cond.code yX6_needParty cX6_needParty 1 none ∈ jj_gW := List.mem_filter.mpr ⟨by decide +kernel, rfl⟩
theorem jw_m_RX6_121 : Cond.methodLink RX6 121 yX6_needParty ∈ jj_gW := List.mem_filter.mpr ⟨by decide +kernel, rfl⟩
theorem jw_s_X6_needParty : Cond.static yX6_needParty ∈ jj_gW := List.mem_filter.mpr ⟨by decide +kernel, rfl⟩
theorem jw_y_X6_needParty : jj_yn yX6_needParty 1 := ⟨by decide +kernel, by decide +kernel, by decide +kernel⟩
theorem jw_n_RX6_126 : jj_lkN RX6 126 TX5 0 "PlayPool" := List.mem_filter.mpr ⟨(by decide +kernel : Cond.fieldLinkNest RX6 126 (TX5 0).1 (TX5 0).2.1 (TX5 0).2.2.1 "PlayPool" ∈ lw_tbl), rfl⟩
theorem jw_c_X5_claimsOf : Cond.code yX5_claimsOf cX5_claimsOf 2 (some .int) ∈ jj_gW := List.mem_filter.mpr ⟨by decide +kernel, rfl⟩
theorem jw_h_RX6_130 : Cond.methodLinkNest RX6 130 yX5_claimsOf "PlayPool" ∈ jj_nW := List.mem_filter.mpr ⟨by decide +kernel, rfl⟩
theorem jw_s_X5_claimsOf : Cond.instanceMethod yX5_claimsOf ∈ jj_gW := List.mem_filter.mpr ⟨by decide +kernel, rfl⟩
theorem jw_e_X5_claimsOf : Cond.selects yX5_claimsOf.cls yX5_claimsOf yX5_claimsOf ∈ jj_gW := List.mem_filter.mpr ⟨by decide +kernel, rfl⟩
theorem jw_y_X5_claimsOf : jj_yn yX5_claimsOf 1 := ⟨by decide +kernel, by decide +kernel, by decide +kernel⟩
theorem jw_c_X6_needPlan : Cond.code yX6_needPlan cX6_needPlan 1 none ∈ jj_gW := List.mem_filter.mpr ⟨by decide +kernel, rfl⟩
theorem jw_m_RX6_141 : Cond.methodLink RX6 141 yX6_needPlan ∈ jj_gW := List.mem_filter.mpr ⟨by decide +kernel, rfl⟩
theorem jw_s_X6_needPlan : Cond.static yX6_needPlan ∈ jj_gW := List.mem_filter.mpr ⟨by decide +kernel, rfl⟩
theorem jw_y_X6_needPlan : jj_yn yX6_needPlan 1 := ⟨by decide +kernel, by decide +kernel, by decide +kernel⟩
theorem jw_n_RX6_144 : jj_lkN RX6 144 TX0 0 "PlayPool" := List.mem_filter.mpr ⟨(by decide +kernel : Cond.fieldLinkNest RX6 144 (TX0 0).1 (TX0 0).2.1 (TX0 0).2.2.1 "PlayPool" ∈ lw_tbl), rfl⟩
theorem jw_c_X0_add : Cond.code yX0_add cX0_add 4 (some .int) ∈ jj_gW := List.mem_filter.mpr ⟨by decide +kernel, rfl⟩
theorem jw_h_RX6_149 : Cond.methodLinkNest RX6 149 yX0_add "PlayPool" ∈ jj_nW := List.mem_filter.mpr ⟨by decide +kernel, rfl⟩
theorem jw_s_X0_add : Cond.instanceMethod yX0_add ∈ jj_gW := List.mem_filter.mpr ⟨by decide +kernel, rfl⟩
theorem jw_e_X0_add : Cond.selects yX0_add.cls yX0_add yX0_add ∈ jj_gW := List.mem_filter.mpr ⟨by decide +kernel, rfl⟩
theorem jw_y_X0_add : jj_yn yX0_add 2 := ⟨by decide +kernel, by decide +kernel, by decide +kernel⟩
theorem jw_c_X6_needListener : Cond.code yX6_needListener cX6_needListener 2 none ∈ jj_gW := List.mem_filter.mpr ⟨by decide +kernel, rfl⟩
theorem jw_m_RX6_153 : Cond.methodLink RX6 153 yX6_needListener ∈ jj_gW := List.mem_filter.mpr ⟨by decide +kernel, rfl⟩
theorem jw_s_X6_needListener : Cond.instanceMethod yX6_needListener ∈ jj_gW := List.mem_filter.mpr ⟨by decide +kernel, rfl⟩
theorem jw_e_X6_needListener : Cond.selects yX6_needListener.cls yX6_needListener yX6_needListener ∈ jj_gW := List.mem_filter.mpr ⟨by decide +kernel, rfl⟩
theorem jw_y_X6_needListener : jj_yn yX6_needListener 1 := ⟨by decide +kernel, by decide +kernel, by decide +kernel⟩
theorem jw_n_RX6_159 : jj_lkN RX6 159 TX0 3 "PlayPool" := List.mem_filter.mpr ⟨(by decide +kernel : Cond.fieldLinkNest RX6 159 (TX0 3).1 (TX0 3).2.1 (TX0 3).2.2.1 "PlayPool" ∈ lw_tbl), rfl⟩
theorem jw_c_X6_isClosed : Cond.code yX6_isClosed cX6_isClosed 2 (some .boolean) ∈ jj_gW := List.mem_filter.mpr ⟨by decide +kernel, rfl⟩
theorem jw_m_RX6_187 : Cond.methodLink RX6 187 yX6_isClosed ∈ jj_gW := List.mem_filter.mpr ⟨by decide +kernel, rfl⟩
theorem jw_s_X6_isClosed : Cond.instanceMethod yX6_isClosed ∈ jj_gW := List.mem_filter.mpr ⟨by decide +kernel, rfl⟩
theorem jw_e_X6_isClosed : Cond.selects yX6_isClosed.cls yX6_isClosed yX6_isClosed ∈ jj_gW := List.mem_filter.mpr ⟨by decide +kernel, rfl⟩
theorem jw_y_X6_isClosed : jj_yn yX6_isClosed 1 := ⟨by decide +kernel, by decide +kernel, by decide +kernel⟩
theorem jw_c_X0_hasKept : Cond.code yX0_hasKept cX0_hasKept 4 (some .boolean) ∈ jj_gW := List.mem_filter.mpr ⟨by decide +kernel, rfl⟩
theorem jw_h_RX6_163 : Cond.methodLinkNest RX6 163 yX0_hasKept "PlayPool" ∈ jj_nW := List.mem_filter.mpr ⟨by decide +kernel, rfl⟩
theorem jw_s_X0_hasKept : Cond.instanceMethod yX0_hasKept ∈ jj_gW := List.mem_filter.mpr ⟨by decide +kernel, rfl⟩
theorem jw_e_X0_hasKept : Cond.selects yX0_hasKept.cls yX0_hasKept yX0_hasKept ∈ jj_gW := List.mem_filter.mpr ⟨by decide +kernel, rfl⟩
theorem jw_y_X0_hasKept : jj_yn yX0_hasKept 2 := ⟨by decide +kernel, by decide +kernel, by decide +kernel⟩
theorem jw_n_RX6_194 : jj_lkN RX6 194 TX4 0 "PlayPool" := List.mem_filter.mpr ⟨(by decide +kernel : Cond.fieldLinkNest RX6 194 (TX4 0).1 (TX4 0).2.1 (TX4 0).2.2.1 "PlayPool" ∈ lw_tbl), rfl⟩
theorem jw_c_X4_add : Cond.code yX4_add cX4_add 6 (some .int) ∈ jj_gW := List.mem_filter.mpr ⟨by decide +kernel, rfl⟩
theorem jw_h_RX6_197 : Cond.methodLinkNest RX6 197 yX4_add "PlayPool" ∈ jj_nW := List.mem_filter.mpr ⟨by decide +kernel, rfl⟩
theorem jw_s_X4_add : Cond.instanceMethod yX4_add ∈ jj_gW := List.mem_filter.mpr ⟨by decide +kernel, rfl⟩
theorem jw_e_X4_add : Cond.selects yX4_add.cls yX4_add yX4_add ∈ jj_gW := List.mem_filter.mpr ⟨by decide +kernel, rfl⟩
theorem jw_y_X4_add : jj_yn yX4_add 4 := ⟨by decide +kernel, by decide +kernel, by decide +kernel⟩
theorem jw_n_RX6_200 : jj_lkN RX6 200 TX4 5 "PlayPool" := List.mem_filter.mpr ⟨(by decide +kernel : Cond.fieldLinkNest RX6 200 (TX4 5).1 (TX4 5).2.1 (TX4 5).2.2.1 "PlayPool" ∈ lw_tbl), rfl⟩
theorem jw_c_X6_monthOf : Cond.code yX6_monthOf cX6_monthOf 1 (some .int) ∈ jj_gW := List.mem_filter.mpr ⟨by decide +kernel, rfl⟩
theorem jw_m_RX6_207 : Cond.methodLink RX6 207 yX6_monthOf ∈ jj_gW := List.mem_filter.mpr ⟨by decide +kernel, rfl⟩
theorem jw_s_X6_monthOf : Cond.static yX6_monthOf ∈ jj_gW := List.mem_filter.mpr ⟨by decide +kernel, rfl⟩
theorem jw_y_X6_monthOf : jj_yn yX6_monthOf 1 := ⟨by decide +kernel, by decide +kernel, by decide +kernel⟩
theorem jw_c_X6_closeMonth : Cond.code yX6_closeMonth cX6_closeMonth 2 (some .int) ∈ jj_gW := List.mem_filter.mpr ⟨by decide +kernel, rfl⟩
theorem jw_m_RX6_210 : Cond.methodLink RX6 210 yX6_closeMonth ∈ jj_gW := List.mem_filter.mpr ⟨by decide +kernel, rfl⟩
theorem jw_s_X6_closeMonth : Cond.instanceMethod yX6_closeMonth ∈ jj_gW := List.mem_filter.mpr ⟨by decide +kernel, rfl⟩
theorem jw_e_X6_closeMonth : Cond.selects yX6_closeMonth.cls yX6_closeMonth yX6_closeMonth ∈ jj_gW := List.mem_filter.mpr ⟨by decide +kernel, rfl⟩
theorem jw_y_X6_closeMonth : jj_yn yX6_closeMonth 0 := ⟨by decide +kernel, by decide +kernel, by decide +kernel⟩
theorem jw_n_RX6_214 : jj_lkN RX6 214 TX2 1 "PlayPool" := List.mem_filter.mpr ⟨(by decide +kernel : Cond.fieldLinkNest RX6 214 (TX2 1).1 (TX2 1).2.1 (TX2 1).2.2.1 "PlayPool" ∈ lw_tbl), rfl⟩
theorem jw_n_RX6_118 : jj_lkN RX6 118 TX2 2 "PlayPool" := List.mem_filter.mpr ⟨(by decide +kernel : Cond.fieldLinkNest RX6 118 (TX2 2).1 (TX2 2).2.1 (TX2 2).2.2.1 "PlayPool" ∈ lw_tbl), rfl⟩
theorem jw_c_X2_landsAllowing : Cond.code yX2_landsAllowing cX2_landsAllowing 5 (some .int) ∈ jj_gW := List.mem_filter.mpr ⟨by decide +kernel, rfl⟩
theorem jw_h_RX6_217 : Cond.methodLinkNest RX6 217 yX2_landsAllowing "PlayPool" ∈ jj_nW := List.mem_filter.mpr ⟨by decide +kernel, rfl⟩
theorem jw_s_X2_landsAllowing : Cond.instanceMethod yX2_landsAllowing ∈ jj_gW := List.mem_filter.mpr ⟨by decide +kernel, rfl⟩
theorem jw_e_X2_landsAllowing : Cond.selects yX2_landsAllowing.cls yX2_landsAllowing yX2_landsAllowing ∈ jj_gW := List.mem_filter.mpr ⟨by decide +kernel, rfl⟩
theorem jw_y_X2_landsAllowing : jj_yn yX2_landsAllowing 2 := ⟨by decide +kernel, by decide +kernel, by decide +kernel⟩
theorem jw_c_X4_countedOfTrack : Cond.code yX4_countedOfTrack cX4_countedOfTrack 4 (some .int) ∈ jj_gW := List.mem_filter.mpr ⟨by decide +kernel, rfl⟩
theorem jw_h_RX6_220 : Cond.methodLinkNest RX6 220 yX4_countedOfTrack "PlayPool" ∈ jj_nW := List.mem_filter.mpr ⟨by decide +kernel, rfl⟩
theorem jw_s_X4_countedOfTrack : Cond.instanceMethod yX4_countedOfTrack ∈ jj_gW := List.mem_filter.mpr ⟨by decide +kernel, rfl⟩
theorem jw_e_X4_countedOfTrack : Cond.selects yX4_countedOfTrack.cls yX4_countedOfTrack yX4_countedOfTrack ∈ jj_gW := List.mem_filter.mpr ⟨by decide +kernel, rfl⟩
theorem jw_y_X4_countedOfTrack : jj_yn yX4_countedOfTrack 1 := ⟨by decide +kernel, by decide +kernel, by decide +kernel⟩
theorem jw_n_RX6_169 : jj_lkN RX6 169 TX0 1 "PlayPool" := List.mem_filter.mpr ⟨(by decide +kernel : Cond.fieldLinkNest RX6 169 (TX0 1).1 (TX0 1).2.1 (TX0 1).2.2.1 "PlayPool" ∈ lw_tbl), rfl⟩
theorem jw_n_RX6_156 : jj_lkN RX6 156 TX0 2 "PlayPool" := List.mem_filter.mpr ⟨(by decide +kernel : Cond.fieldLinkNest RX6 156 (TX0 2).1 (TX0 2).2.1 (TX0 2).2.2.1 "PlayPool" ∈ lw_tbl), rfl⟩
theorem jw_n_RX6_225 : jj_lkN RX6 225 TX0 5 "PlayPool" := List.mem_filter.mpr ⟨(by decide +kernel : Cond.fieldLinkNest RX6 225 (TX0 5).1 (TX0 5).2.1 (TX0 5).2.2.1 "PlayPool" ∈ lw_tbl), rfl⟩
theorem jw_c_X4_playsOfListener : Cond.code yX4_playsOfListener cX4_playsOfListener 4 (some .int) ∈ jj_gW := List.mem_filter.mpr ⟨by decide +kernel, rfl⟩
theorem jw_h_RX6_228 : Cond.methodLinkNest RX6 228 yX4_playsOfListener "PlayPool" ∈ jj_nW := List.mem_filter.mpr ⟨by decide +kernel, rfl⟩
theorem jw_s_X4_playsOfListener : Cond.instanceMethod yX4_playsOfListener ∈ jj_gW := List.mem_filter.mpr ⟨by decide +kernel, rfl⟩
theorem jw_e_X4_playsOfListener : Cond.selects yX4_playsOfListener.cls yX4_playsOfListener yX4_playsOfListener ∈ jj_gW := List.mem_filter.mpr ⟨by decide +kernel, rfl⟩
theorem jw_y_X4_playsOfListener : jj_yn yX4_playsOfListener 1 := ⟨by decide +kernel, by decide +kernel, by decide +kernel⟩
theorem jw_n_RX6_231 : jj_lkN RX6 231 TX3 0 "PlayPool" := List.mem_filter.mpr ⟨(by decide +kernel : Cond.fieldLinkNest RX6 231 (TX3 0).1 (TX3 0).2.1 (TX3 0).2.2.1 "PlayPool" ∈ lw_tbl), rfl⟩
theorem jw_c_X6_sumOf : Cond.code yX6_sumOf cX6_sumOf 6 (some .int) ∈ jj_gW := List.mem_filter.mpr ⟨by decide +kernel, rfl⟩
theorem jw_m_RX6_234 : Cond.methodLink RX6 234 yX6_sumOf ∈ jj_gW := List.mem_filter.mpr ⟨by decide +kernel, rfl⟩
theorem jw_s_X6_sumOf : Cond.static yX6_sumOf ∈ jj_gW := List.mem_filter.mpr ⟨by decide +kernel, rfl⟩
theorem jw_y_X6_sumOf : jj_yn yX6_sumOf 1 := ⟨by decide +kernel, by decide +kernel, by decide +kernel⟩
theorem jw_n_RX6_238 : jj_lkN RX6 238 TX3 1 "PlayPool" := List.mem_filter.mpr ⟨(by decide +kernel : Cond.fieldLinkNest RX6 238 (TX3 1).1 (TX3 1).2.1 (TX3 1).2.2.1 "PlayPool" ∈ lw_tbl), rfl⟩
theorem jw_n_RX6_241 : jj_lkN RX6 241 TX0 4 "PlayPool" := List.mem_filter.mpr ⟨(by decide +kernel : Cond.fieldLinkNest RX6 241 (TX0 4).1 (TX0 4).2.1 (TX0 4).2.2.1 "PlayPool" ∈ lw_tbl), rfl⟩
theorem jw_n_RX6_249 : jj_lkN RX6 249 TX4 1 "PlayPool" := List.mem_filter.mpr ⟨(by decide +kernel : Cond.fieldLinkNest RX6 249 (TX4 1).1 (TX4 1).2.1 (TX4 1).2.2.1 "PlayPool" ∈ lw_tbl), rfl⟩
theorem jw_n_RX6_252 : jj_lkN RX6 252 TX4 2 "PlayPool" := List.mem_filter.mpr ⟨(by decide +kernel : Cond.fieldLinkNest RX6 252 (TX4 2).1 (TX4 2).2.1 (TX4 2).2.2.1 "PlayPool" ∈ lw_tbl), rfl⟩
theorem jw_n_RX6_255 : jj_lkN RX6 255 TX4 3 "PlayPool" := List.mem_filter.mpr ⟨(by decide +kernel : Cond.fieldLinkNest RX6 255 (TX4 3).1 (TX4 3).2.1 (TX4 3).2.2.1 "PlayPool" ∈ lw_tbl), rfl⟩
theorem jw_n_RX6_258 : jj_lkN RX6 258 TX4 4 "PlayPool" := List.mem_filter.mpr ⟨(by decide +kernel : Cond.fieldLinkNest RX6 258 (TX4 4).1 (TX4 4).2.1 (TX4 4).2.2.1 "PlayPool" ∈ lw_tbl), rfl⟩
theorem jw_n_RX6_261 : jj_lkN RX6 261 TX1 5 "PlayPool" := List.mem_filter.mpr ⟨(by decide +kernel : Cond.fieldLinkNest RX6 261 (TX1 5).1 (TX1 5).2.1 (TX1 5).2.2.1 "PlayPool" ∈ lw_tbl), rfl⟩
theorem jw_n_RX6_264 : jj_lkN RX6 264 TX1 6 "PlayPool" := List.mem_filter.mpr ⟨(by decide +kernel : Cond.fieldLinkNest RX6 264 (TX1 6).1 (TX1 6).2.1 (TX1 6).2.2.1 "PlayPool" ∈ lw_tbl), rfl⟩
theorem jw_n_RX6_135 : jj_lkN RX6 135 TX1 7 "PlayPool" := List.mem_filter.mpr ⟨(by decide +kernel : Cond.fieldLinkNest RX6 135 (TX1 7).1 (TX1 7).2.1 (TX1 7).2.2.1 "PlayPool" ∈ lw_tbl), rfl⟩
theorem jw_n_RX6_267 : jj_lkN RX6 267 TX1 8 "PlayPool" := List.mem_filter.mpr ⟨(by decide +kernel : Cond.fieldLinkNest RX6 267 (TX1 8).1 (TX1 8).2.1 (TX1 8).2.2.1 "PlayPool" ∈ lw_tbl), rfl⟩
theorem jw_c_X5_isInConflict : Cond.code yX5_isInConflict cX5_isInConflict 2 (some .boolean) ∈ jj_gW := List.mem_filter.mpr ⟨by decide +kernel, rfl⟩
theorem jw_h_RX6_270 : Cond.methodLinkNest RX6 270 yX5_isInConflict "PlayPool" ∈ jj_nW := List.mem_filter.mpr ⟨by decide +kernel, rfl⟩
theorem jw_s_X5_isInConflict : Cond.instanceMethod yX5_isInConflict ∈ jj_gW := List.mem_filter.mpr ⟨by decide +kernel, rfl⟩
theorem jw_e_X5_isInConflict : Cond.selects yX5_isInConflict.cls yX5_isInConflict yX5_isInConflict ∈ jj_gW := List.mem_filter.mpr ⟨by decide +kernel, rfl⟩
theorem jw_y_X5_isInConflict : jj_yn yX5_isInConflict 1 := ⟨by decide +kernel, by decide +kernel, by decide +kernel⟩
theorem jw_n_RX6_273 : jj_lkN RX6 273 TX1 4 "PlayPool" := List.mem_filter.mpr ⟨(by decide +kernel : Cond.fieldLinkNest RX6 273 (TX1 4).1 (TX1 4).2.1 (TX1 4).2.2.1 "PlayPool" ∈ lw_tbl), rfl⟩
theorem jw_n_RX6_276 : jj_lkN RX6 276 TX1 3 "PlayPool" := List.mem_filter.mpr ⟨(by decide +kernel : Cond.fieldLinkNest RX6 276 (TX1 3).1 (TX1 3).2.1 (TX1 3).2.2.1 "PlayPool" ∈ lw_tbl), rfl⟩
theorem jw_c_X2_tracksOf : Cond.code yX2_tracksOf cX2_tracksOf 4 (some .int) ∈ jj_gW := List.mem_filter.mpr ⟨by decide +kernel, rfl⟩
theorem jw_h_RX6_279 : Cond.methodLinkNest RX6 279 yX2_tracksOf "PlayPool" ∈ jj_nW := List.mem_filter.mpr ⟨by decide +kernel, rfl⟩
theorem jw_s_X2_tracksOf : Cond.instanceMethod yX2_tracksOf ∈ jj_gW := List.mem_filter.mpr ⟨by decide +kernel, rfl⟩
theorem jw_e_X2_tracksOf : Cond.selects yX2_tracksOf.cls yX2_tracksOf yX2_tracksOf ∈ jj_gW := List.mem_filter.mpr ⟨by decide +kernel, rfl⟩
theorem jw_y_X2_tracksOf : jj_yn yX2_tracksOf 1 := ⟨by decide +kernel, by decide +kernel, by decide +kernel⟩
theorem jw_c_X6_columnSum : Cond.code yX6_columnSum cX6_columnSum 4 (some .int) ∈ jj_gW := List.mem_filter.mpr ⟨by decide +kernel, rfl⟩
theorem jw_m_RX6_282 : Cond.methodLink RX6 282 yX6_columnSum ∈ jj_gW := List.mem_filter.mpr ⟨by decide +kernel, rfl⟩
theorem jw_s_X6_columnSum : Cond.static yX6_columnSum ∈ jj_gW := List.mem_filter.mpr ⟨by decide +kernel, rfl⟩
theorem jw_y_X6_columnSum : jj_yn yX6_columnSum 2 := ⟨by decide +kernel, by decide +kernel, by decide +kernel⟩
theorem jw_n_RX6_286 : jj_lkN RX6 286 TX1 2 "PlayPool" := List.mem_filter.mpr ⟨(by decide +kernel : Cond.fieldLinkNest RX6 286 (TX1 2).1 (TX1 2).2.1 (TX1 2).2.2.1 "PlayPool" ∈ lw_tbl), rfl⟩
theorem jw_c_X4_countWithReason : Cond.code yX4_countWithReason cX4_countWithReason 4 (some .int) ∈ jj_gW := List.mem_filter.mpr ⟨by decide +kernel, rfl⟩
theorem jw_h_RX6_289 : Cond.methodLinkNest RX6 289 yX4_countWithReason "PlayPool" ∈ jj_nW := List.mem_filter.mpr ⟨by decide +kernel, rfl⟩
theorem jw_s_X4_countWithReason : Cond.instanceMethod yX4_countWithReason ∈ jj_gW := List.mem_filter.mpr ⟨by decide +kernel, rfl⟩
theorem jw_e_X4_countWithReason : Cond.selects yX4_countWithReason.cls yX4_countWithReason yX4_countWithReason ∈ jj_gW := List.mem_filter.mpr ⟨by decide +kernel, rfl⟩
theorem jw_y_X4_countWithReason : jj_yn yX4_countWithReason 1 := ⟨by decide +kernel, by decide +kernel, by decide +kernel⟩
theorem jw_n_RX6_292 : jj_lkN RX6 292 TX1 0 "PlayPool" := List.mem_filter.mpr ⟨(by decide +kernel : Cond.fieldLinkNest RX6 292 (TX1 0).1 (TX1 0).2.1 (TX1 0).2.2.1 "PlayPool" ∈ lw_tbl), rfl⟩
theorem jw_n_RX6_295 : jj_lkN RX6 295 TX1 1 "PlayPool" := List.mem_filter.mpr ⟨(by decide +kernel : Cond.fieldLinkNest RX6 295 (TX1 1).1 (TX1 1).2.1 (TX1 1).2.2.1 "PlayPool" ∈ lw_tbl), rfl⟩
theorem jw_c_X6_needRule : Cond.code yX6_needRule cX6_needRule 1 none ∈ jj_gW := List.mem_filter.mpr ⟨by decide +kernel, rfl⟩
theorem jw_m_RX6_138 : Cond.methodLink RX6 138 yX6_needRule ∈ jj_gW := List.mem_filter.mpr ⟨by decide +kernel, rfl⟩
theorem jw_s_X6_needRule : Cond.static yX6_needRule ∈ jj_gW := List.mem_filter.mpr ⟨by decide +kernel, rfl⟩
theorem jw_y_X6_needRule : jj_yn yX6_needRule 1 := ⟨by decide +kernel, by decide +kernel, by decide +kernel⟩
theorem jw_c_X6_tryClosing : Cond.code yX6_tryClosing cX6_tryClosing 3 none ∈ jj_gW := List.mem_filter.mpr ⟨by decide +kernel, rfl⟩
theorem jw_m_RX6_316 : Cond.methodLink RX6 316 yX6_tryClosing ∈ jj_gW := List.mem_filter.mpr ⟨by decide +kernel, rfl⟩
theorem jw_s_X6_tryClosing : Cond.instanceMethod yX6_tryClosing ∈ jj_gW := List.mem_filter.mpr ⟨by decide +kernel, rfl⟩
theorem jw_e_X6_tryClosing : Cond.selects yX6_tryClosing.cls yX6_tryClosing yX6_tryClosing ∈ jj_gW := List.mem_filter.mpr ⟨by decide +kernel, rfl⟩
theorem jw_y_X6_tryClosing : jj_yn yX6_tryClosing 1 := ⟨by decide +kernel, by decide +kernel, by decide +kernel⟩
theorem jw_c_X6_gotInTrial : Cond.code yX6_gotInTrial cX6_gotInTrial 3 (some .int) ∈ jj_gW := List.mem_filter.mpr ⟨by decide +kernel, rfl⟩
theorem jw_m_RX6_319 : Cond.methodLink RX6 319 yX6_gotInTrial ∈ jj_gW := List.mem_filter.mpr ⟨by decide +kernel, rfl⟩
theorem jw_s_X6_gotInTrial : Cond.instanceMethod yX6_gotInTrial ∈ jj_gW := List.mem_filter.mpr ⟨by decide +kernel, rfl⟩
theorem jw_e_X6_gotInTrial : Cond.selects yX6_gotInTrial.cls yX6_gotInTrial yX6_gotInTrial ∈ jj_gW := List.mem_filter.mpr ⟨by decide +kernel, rfl⟩
theorem jw_y_X6_gotInTrial : jj_yn yX6_gotInTrial 2 := ⟨by decide +kernel, by decide +kernel, by decide +kernel⟩
theorem jw_c_X6_paidInTrial : Cond.code yX6_paidInTrial cX6_paidInTrial 3 (some .int) ∈ jj_gW := List.mem_filter.mpr ⟨by decide +kernel, rfl⟩
theorem jw_m_RX6_322 : Cond.methodLink RX6 322 yX6_paidInTrial ∈ jj_gW := List.mem_filter.mpr ⟨by decide +kernel, rfl⟩
theorem jw_s_X6_paidInTrial : Cond.instanceMethod yX6_paidInTrial ∈ jj_gW := List.mem_filter.mpr ⟨by decide +kernel, rfl⟩
theorem jw_e_X6_paidInTrial : Cond.selects yX6_paidInTrial.cls yX6_paidInTrial yX6_paidInTrial ∈ jj_gW := List.mem_filter.mpr ⟨by decide +kernel, rfl⟩
theorem jw_y_X6_paidInTrial : jj_yn yX6_paidInTrial 2 := ⟨by decide +kernel, by decide +kernel, by decide +kernel⟩
theorem jw_l_RX6_325 : Cond.constantLong RX6 325 9106 ∈ jj_gW := List.mem_filter.mpr ⟨by decide +kernel, rfl⟩
theorem jw_c_X6_digestOfTotals : Cond.code yX6_digestOfTotals cX6_digestOfTotals 6 (some .long) ∈ jj_gW := List.mem_filter.mpr ⟨by decide +kernel, rfl⟩
theorem jw_m_RX6_327 : Cond.methodLink RX6 327 yX6_digestOfTotals ∈ jj_gW := List.mem_filter.mpr ⟨by decide +kernel, rfl⟩
theorem jw_s_X6_digestOfTotals : Cond.instanceMethod yX6_digestOfTotals ∈ jj_gW := List.mem_filter.mpr ⟨by decide +kernel, rfl⟩
theorem jw_e_X6_digestOfTotals : Cond.selects yX6_digestOfTotals.cls yX6_digestOfTotals yX6_digestOfTotals ∈ jj_gW := List.mem_filter.mpr ⟨by decide +kernel, rfl⟩
theorem jw_y_X6_digestOfTotals : jj_yn yX6_digestOfTotals 1 := ⟨by decide +kernel, by decide +kernel, by decide +kernel⟩
theorem jw_c_X6_digestOfTracks : Cond.code yX6_digestOfTracks cX6_digestOfTracks 7 (some .long) ∈ jj_gW := List.mem_filter.mpr ⟨by decide +kernel, rfl⟩
theorem jw_m_RX6_331 : Cond.methodLink RX6 331 yX6_digestOfTracks ∈ jj_gW := List.mem_filter.mpr ⟨by decide +kernel, rfl⟩
theorem jw_s_X6_digestOfTracks : Cond.instanceMethod yX6_digestOfTracks ∈ jj_gW := List.mem_filter.mpr ⟨by decide +kernel, rfl⟩
theorem jw_e_X6_digestOfTracks : Cond.selects yX6_digestOfTracks.cls yX6_digestOfTracks yX6_digestOfTracks ∈ jj_gW := List.mem_filter.mpr ⟨by decide +kernel, rfl⟩
theorem jw_y_X6_digestOfTracks : jj_yn yX6_digestOfTracks 1 := ⟨by decide +kernel, by decide +kernel, by decide +kernel⟩
theorem jw_c_X6_digestOfListeners : Cond.code yX6_digestOfListeners cX6_digestOfListeners 7 (some .long) ∈ jj_gW := List.mem_filter.mpr ⟨by decide +kernel, rfl⟩
theorem jw_m_RX6_334 : Cond.methodLink RX6 334 yX6_digestOfListeners ∈ jj_gW := List.mem_filter.mpr ⟨by decide +kernel, rfl⟩
theorem jw_s_X6_digestOfListeners : Cond.instanceMethod yX6_digestOfListeners ∈ jj_gW := List.mem_filter.mpr ⟨by decide +kernel, rfl⟩
theorem jw_e_X6_digestOfListeners : Cond.selects yX6_digestOfListeners.cls yX6_digestOfListeners yX6_digestOfListeners ∈ jj_gW := List.mem_filter.mpr ⟨by decide +kernel, rfl⟩
theorem jw_y_X6_digestOfListeners : jj_yn yX6_digestOfListeners 1 := ⟨by decide +kernel, by decide +kernel, by decide +kernel⟩
theorem jw_c_X6_digestOfParties : Cond.code yX6_digestOfParties cX6_digestOfParties 7 (some .long) ∈ jj_gW := List.mem_filter.mpr ⟨by decide +kernel, rfl⟩
theorem jw_m_RX6_337 : Cond.methodLink RX6 337 yX6_digestOfParties ∈ jj_gW := List.mem_filter.mpr ⟨by decide +kernel, rfl⟩
theorem jw_s_X6_digestOfParties : Cond.instanceMethod yX6_digestOfParties ∈ jj_gW := List.mem_filter.mpr ⟨by decide +kernel, rfl⟩
theorem jw_e_X6_digestOfParties : Cond.selects yX6_digestOfParties.cls yX6_digestOfParties yX6_digestOfParties ∈ jj_gW := List.mem_filter.mpr ⟨by decide +kernel, rfl⟩
theorem jw_y_X6_digestOfParties : jj_yn yX6_digestOfParties 1 := ⟨by decide +kernel, by decide +kernel, by decide +kernel⟩
theorem jw_c_X6_digestOfRecordings : Cond.code yX6_digestOfRecordings cX6_digestOfRecordings 7 (some .long) ∈ jj_gW := List.mem_filter.mpr ⟨by decide +kernel, rfl⟩
theorem jw_m_RX6_340 : Cond.methodLink RX6 340 yX6_digestOfRecordings ∈ jj_gW := List.mem_filter.mpr ⟨by decide +kernel, rfl⟩
theorem jw_s_X6_digestOfRecordings : Cond.instanceMethod yX6_digestOfRecordings ∈ jj_gW := List.mem_filter.mpr ⟨by decide +kernel, rfl⟩
theorem jw_e_X6_digestOfRecordings : Cond.selects yX6_digestOfRecordings.cls yX6_digestOfRecordings yX6_digestOfRecordings ∈ jj_gW := List.mem_filter.mpr ⟨by decide +kernel, rfl⟩
theorem jw_y_X6_digestOfRecordings : jj_yn yX6_digestOfRecordings 1 := ⟨by decide +kernel, by decide +kernel, by decide +kernel⟩
theorem jw_c_X6_digestOfCharts : Cond.code yX6_digestOfCharts cX6_digestOfCharts 7 (some .long) ∈ jj_gW := List.mem_filter.mpr ⟨by decide +kernel, rfl⟩
theorem jw_m_RX6_343 : Cond.methodLink RX6 343 yX6_digestOfCharts ∈ jj_gW := List.mem_filter.mpr ⟨by decide +kernel, rfl⟩
theorem jw_s_X6_digestOfCharts : Cond.instanceMethod yX6_digestOfCharts ∈ jj_gW := List.mem_filter.mpr ⟨by decide +kernel, rfl⟩
theorem jw_e_X6_digestOfCharts : Cond.selects yX6_digestOfCharts.cls yX6_digestOfCharts yX6_digestOfCharts ∈ jj_gW := List.mem_filter.mpr ⟨by decide +kernel, rfl⟩
theorem jw_y_X6_digestOfCharts : jj_yn yX6_digestOfCharts 1 := ⟨by decide +kernel, by decide +kernel, by decide +kernel⟩
theorem jw_c_X3_hearersOfBoth : Cond.code yX3_hearersOfBoth cX3_hearersOfBoth 5 (some .int) ∈ jj_gW := List.mem_filter.mpr ⟨by decide +kernel, rfl⟩
theorem jw_h_RX6_310 : Cond.methodLinkNest RX6 310 yX3_hearersOfBoth "PlayPool" ∈ jj_nW := List.mem_filter.mpr ⟨by decide +kernel, rfl⟩
theorem jw_s_X3_hearersOfBoth : Cond.instanceMethod yX3_hearersOfBoth ∈ jj_gW := List.mem_filter.mpr ⟨by decide +kernel, rfl⟩
theorem jw_e_X3_hearersOfBoth : Cond.selects yX3_hearersOfBoth.cls yX3_hearersOfBoth yX3_hearersOfBoth ∈ jj_gW := List.mem_filter.mpr ⟨by decide +kernel, rfl⟩
theorem jw_y_X3_hearersOfBoth : jj_yn yX3_hearersOfBoth 2 := ⟨by decide +kernel, by decide +kernel, by decide +kernel⟩
theorem jw_c_X6_digestStep : Cond.code yX6_digestStep cX6_digestStep 4 (some .long) ∈ jj_gW := List.mem_filter.mpr ⟨by decide +kernel, rfl⟩
theorem jw_m_RX6_346 : Cond.methodLink RX6 346 yX6_digestStep ∈ jj_gW := List.mem_filter.mpr ⟨by decide +kernel, rfl⟩
theorem jw_s_X6_digestStep : Cond.static yX6_digestStep ∈ jj_gW := List.mem_filter.mpr ⟨by decide +kernel, rfl⟩
theorem jw_y_X6_digestStep : jj_yn yX6_digestStep 2 := ⟨by decide +kernel, by decide +kernel, by decide +kernel⟩
theorem jw_c_X6_digestOfPlays : Cond.code yX6_digestOfPlays cX6_digestOfPlays 6 (some .long) ∈ jj_gW := List.mem_filter.mpr ⟨by decide +kernel, rfl⟩
theorem jw_m_RX6_350 : Cond.methodLink RX6 350 yX6_digestOfPlays ∈ jj_gW := List.mem_filter.mpr ⟨by decide +kernel, rfl⟩
theorem jw_s_X6_digestOfPlays : Cond.instanceMethod yX6_digestOfPlays ∈ jj_gW := List.mem_filter.mpr ⟨by decide +kernel, rfl⟩
theorem jw_e_X6_digestOfPlays : Cond.selects yX6_digestOfPlays.cls yX6_digestOfPlays yX6_digestOfPlays ∈ jj_gW := List.mem_filter.mpr ⟨by decide +kernel, rfl⟩
theorem jw_y_X6_digestOfPlays : jj_yn yX6_digestOfPlays 1 := ⟨by decide +kernel, by decide +kernel, by decide +kernel⟩
theorem jw_c_X3_clear : Cond.code yX3_clear cX3_clear 1 none ∈ jj_gW := List.mem_filter.mpr ⟨by decide +kernel, rfl⟩
theorem jw_h_RX6_367 : Cond.methodLinkNest RX6 367 yX3_clear "PlayPool" ∈ jj_nW := List.mem_filter.mpr ⟨by decide +kernel, rfl⟩
theorem jw_s_X3_clear : Cond.instanceMethod yX3_clear ∈ jj_gW := List.mem_filter.mpr ⟨by decide +kernel, rfl⟩
theorem jw_e_X3_clear : Cond.selects yX3_clear.cls yX3_clear yX3_clear ∈ jj_gW := List.mem_filter.mpr ⟨by decide +kernel, rfl⟩
theorem jw_y_X3_clear : jj_yn yX3_clear 0 := ⟨by decide +kernel, by decide +kernel, by decide +kernel⟩
theorem jw_n_RX6_370 : jj_lkN RX6 370 TX4 6 "PlayPool" := List.mem_filter.mpr ⟨(by decide +kernel : Cond.fieldLinkNest RX6 370 (TX4 6).1 (TX4 6).2.1 (TX4 6).2.2.1 "PlayPool" ∈ lw_tbl), rfl⟩
theorem jw_c_X6_dayOf : Cond.code yX6_dayOf cX6_dayOf 1 (some .int) ∈ jj_gW := List.mem_filter.mpr ⟨by decide +kernel, rfl⟩
theorem jw_m_RX6_373 : Cond.methodLink RX6 373 yX6_dayOf ∈ jj_gW := List.mem_filter.mpr ⟨by decide +kernel, rfl⟩
theorem jw_s_X6_dayOf : Cond.static yX6_dayOf ∈ jj_gW := List.mem_filter.mpr ⟨by decide +kernel, rfl⟩
theorem jw_y_X6_dayOf : jj_yn yX6_dayOf 1 := ⟨by decide +kernel, by decide +kernel, by decide +kernel⟩
theorem jw_c_X3_startDay : Cond.code yX3_startDay cX3_startDay 1 none ∈ jj_gW := List.mem_filter.mpr ⟨by decide +kernel, rfl⟩
theorem jw_h_RX6_376 : Cond.methodLinkNest RX6 376 yX3_startDay "PlayPool" ∈ jj_nW := List.mem_filter.mpr ⟨by decide +kernel, rfl⟩
theorem jw_s_X3_startDay : Cond.instanceMethod yX3_startDay ∈ jj_gW := List.mem_filter.mpr ⟨by decide +kernel, rfl⟩
theorem jw_e_X3_startDay : Cond.selects yX3_startDay.cls yX3_startDay yX3_startDay ∈ jj_gW := List.mem_filter.mpr ⟨by decide +kernel, rfl⟩
theorem jw_y_X3_startDay : jj_yn yX3_startDay 0 := ⟨by decide +kernel, by decide +kernel, by decide +kernel⟩
theorem jw_c_X6_judged : Cond.code yX6_judged cX6_judged 6 (some .int) ∈ jj_gW := List.mem_filter.mpr ⟨by decide +kernel, rfl⟩
theorem jw_m_RX6_379 : Cond.methodLink RX6 379 yX6_judged ∈ jj_gW := List.mem_filter.mpr ⟨by decide +kernel, rfl⟩
theorem jw_s_X6_judged : Cond.instanceMethod yX6_judged ∈ jj_gW := List.mem_filter.mpr ⟨by decide +kernel, rfl⟩
theorem jw_e_X6_judged : Cond.selects yX6_judged.cls yX6_judged yX6_judged ∈ jj_gW := List.mem_filter.mpr ⟨by decide +kernel, rfl⟩
theorem jw_y_X6_judged : jj_yn yX6_judged 1 := ⟨by decide +kernel, by decide +kernel, by decide +kernel⟩
theorem jw_c_X3_add : Cond.code yX3_add cX3_add 4 none ∈ jj_gW := List.mem_filter.mpr ⟨by decide +kernel, rfl⟩
theorem jw_h_RX6_382 : Cond.methodLinkNest RX6 382 yX3_add "PlayPool" ∈ jj_nW := List.mem_filter.mpr ⟨by decide +kernel, rfl⟩
theorem jw_s_X3_add : Cond.instanceMethod yX3_add ∈ jj_gW := List.mem_filter.mpr ⟨by decide +kernel, rfl⟩
theorem jw_e_X3_add : Cond.selects yX3_add.cls yX3_add yX3_add ∈ jj_gW := List.mem_filter.mpr ⟨by decide +kernel, rfl⟩
theorem jw_y_X3_add : jj_yn yX3_add 3 := ⟨by decide +kernel, by decide +kernel, by decide +kernel⟩
theorem jw_c_X2_isAllowed : Cond.code yX2_isAllowed cX2_isAllowed 5 (some .boolean) ∈ jj_gW := List.mem_filter.mpr ⟨by decide +kernel, rfl⟩
theorem jw_h_RX6_172 : Cond.methodLinkNest RX6 172 yX2_isAllowed "PlayPool" ∈ jj_nW := List.mem_filter.mpr ⟨by decide +kernel, rfl⟩
theorem jw_s_X2_isAllowed : Cond.instanceMethod yX2_isAllowed ∈ jj_gW := List.mem_filter.mpr ⟨by decide +kernel, rfl⟩
theorem jw_e_X2_isAllowed : Cond.selects yX2_isAllowed.cls yX2_isAllowed yX2_isAllowed ∈ jj_gW := List.mem_filter.mpr ⟨by decide +kernel, rfl⟩
theorem jw_y_X2_isAllowed : jj_yn yX2_isAllowed 3 := ⟨by decide +kernel, by decide +kernel, by decide +kernel⟩
theorem jw_c_X2_isDownIn : Cond.code yX2_isDownIn cX2_isDownIn 3 (some .boolean) ∈ jj_gW := List.mem_filter.mpr ⟨by decide +kernel, rfl⟩
theorem jw_h_RX6_385 : Cond.methodLinkNest RX6 385 yX2_isDownIn "PlayPool" ∈ jj_nW := List.mem_filter.mpr ⟨by decide +kernel, rfl⟩
theorem jw_s_X2_isDownIn : Cond.instanceMethod yX2_isDownIn ∈ jj_gW := List.mem_filter.mpr ⟨by decide +kernel, rfl⟩
theorem jw_e_X2_isDownIn : Cond.selects yX2_isDownIn.cls yX2_isDownIn yX2_isDownIn ∈ jj_gW := List.mem_filter.mpr ⟨by decide +kernel, rfl⟩
theorem jw_y_X2_isDownIn : jj_yn yX2_isDownIn 2 := ⟨by decide +kernel, by decide +kernel, by decide +kernel⟩
theorem jw_n_RX6_388 : jj_lkN RX6 388 TX3 2 "PlayPool" := List.mem_filter.mpr ⟨(by decide +kernel : Cond.fieldLinkNest RX6 388 (TX3 2).1 (TX3 2).2.1 (TX3 2).2.2.1 "PlayPool" ∈ lw_tbl), rfl⟩
theorem jw_c_X1_close : Cond.code yX1_close cX1_close 6 none ∈ jj_gW := List.mem_filter.mpr ⟨by decide +kernel, rfl⟩
theorem jw_h_RX6_391 : Cond.methodLinkNest RX6 391 yX1_close "PlayPool" ∈ jj_nW := List.mem_filter.mpr ⟨by decide +kernel, rfl⟩
theorem jw_s_X1_close : Cond.instanceMethod yX1_close ∈ jj_gW := List.mem_filter.mpr ⟨by decide +kernel, rfl⟩
theorem jw_e_X1_close : Cond.selects yX1_close.cls yX1_close yX1_close ∈ jj_gW := List.mem_filter.mpr ⟨by decide +kernel, rfl⟩
theorem jw_y_X1_close : jj_yn yX1_close 4 := ⟨by decide +kernel, by decide +kernel, by decide +kernel⟩
theorem jw_c_X0_takeFees : Cond.code yX0_takeFees cX0_takeFees 2 none ∈ jj_gW := List.mem_filter.mpr ⟨by decide +kernel, rfl⟩
theorem jw_h_RX6_395 : Cond.methodLinkNest RX6 395 yX0_takeFees "PlayPool" ∈ jj_nW := List.mem_filter.mpr ⟨by decide +kernel, rfl⟩
theorem jw_s_X0_takeFees : Cond.instanceMethod yX0_takeFees ∈ jj_gW := List.mem_filter.mpr ⟨by decide +kernel, rfl⟩
theorem jw_e_X0_takeFees : Cond.selects yX0_takeFees.cls yX0_takeFees yX0_takeFees ∈ jj_gW := List.mem_filter.mpr ⟨by decide +kernel, rfl⟩
theorem jw_y_X0_takeFees : jj_yn yX0_takeFees 0 := ⟨by decide +kernel, by decide +kernel, by decide +kernel⟩
theorem jw_c_X6_trialBy : Cond.code yX6_trialBy cX6_trialBy 2 (some (.object "PlayPool$Books")) ∈ jj_gW := List.mem_filter.mpr ⟨by decide +kernel, rfl⟩
theorem jw_m_RX6_398 : Cond.methodLink RX6 398 yX6_trialBy ∈ jj_gW := List.mem_filter.mpr ⟨by decide +kernel, rfl⟩
theorem jw_s_X6_trialBy : Cond.instanceMethod yX6_trialBy ∈ jj_gW := List.mem_filter.mpr ⟨by decide +kernel, rfl⟩
theorem jw_e_X6_trialBy : Cond.selects yX6_trialBy.cls yX6_trialBy yX6_trialBy ∈ jj_gW := List.mem_filter.mpr ⟨by decide +kernel, rfl⟩
theorem jw_y_X6_trialBy : jj_yn yX6_trialBy 1 := ⟨by decide +kernel, by decide +kernel, by decide +kernel⟩
theorem jw_c_X1_takeOver : Cond.code yX1_takeOver cX1_takeOver 2 none ∈ jj_gW := List.mem_filter.mpr ⟨by decide +kernel, rfl⟩
theorem jw_h_RX6_402 : Cond.methodLinkNest RX6 402 yX1_takeOver "PlayPool" ∈ jj_nW := List.mem_filter.mpr ⟨by decide +kernel, rfl⟩
theorem jw_s_X1_takeOver : Cond.instanceMethod yX1_takeOver ∈ jj_gW := List.mem_filter.mpr ⟨by decide +kernel, rfl⟩
theorem jw_e_X1_takeOver : Cond.selects yX1_takeOver.cls yX1_takeOver yX1_takeOver ∈ jj_gW := List.mem_filter.mpr ⟨by decide +kernel, rfl⟩
theorem jw_y_X1_takeOver : jj_yn yX1_takeOver 1 := ⟨by decide +kernel, by decide +kernel, by decide +kernel⟩
theorem jw_c_X6_countPoints : Cond.code yX6_countPoints cX6_countPoints 4 none ∈ jj_gW := List.mem_filter.mpr ⟨by decide +kernel, rfl⟩
theorem jw_m_RX6_406 : Cond.methodLink RX6 406 yX6_countPoints ∈ jj_gW := List.mem_filter.mpr ⟨by decide +kernel, rfl⟩
theorem jw_s_X6_countPoints : Cond.instanceMethod yX6_countPoints ∈ jj_gW := List.mem_filter.mpr ⟨by decide +kernel, rfl⟩
theorem jw_e_X6_countPoints : Cond.selects yX6_countPoints.cls yX6_countPoints yX6_countPoints ∈ jj_gW := List.mem_filter.mpr ⟨by decide +kernel, rfl⟩
theorem jw_y_X6_countPoints : jj_yn yX6_countPoints 1 := ⟨by decide +kernel, by decide +kernel, by decide +kernel⟩
theorem jw_c_X6_placeOf : Cond.code yX6_placeOf cX6_placeOf 4 (some .int) ∈ jj_gW := List.mem_filter.mpr ⟨by decide +kernel, rfl⟩
theorem jw_m_RX6_409 : Cond.methodLink RX6 409 yX6_placeOf ∈ jj_gW := List.mem_filter.mpr ⟨by decide +kernel, rfl⟩
theorem jw_s_X6_placeOf : Cond.static yX6_placeOf ∈ jj_gW := List.mem_filter.mpr ⟨by decide +kernel, rfl⟩
theorem jw_y_X6_placeOf : jj_yn yX6_placeOf 2 := ⟨by decide +kernel, by decide +kernel, by decide +kernel⟩
theorem jw_c_J7_fill_53178 : Cond.code yJ7_fill_53178 cJ7_fill_53178 4 none ∈ jj_gW := List.mem_filter.mpr ⟨by decide +kernel, rfl⟩
theorem jw_i_RJ7 : Cond.initialized yJ7_fill_53178.cls ∈ jj_gW := List.mem_filter.mpr ⟨by decide +kernel, rfl⟩
theorem jw_m_RX6_413 : Cond.methodLink RX6 413 yJ7_fill_53178 ∈ jj_gW := List.mem_filter.mpr ⟨by decide +kernel, rfl⟩
theorem jw_s_J7_fill_53178 : Cond.static yJ7_fill_53178 ∈ jj_gW := List.mem_filter.mpr ⟨by decide +kernel, rfl⟩
theorem jw_y_J7_fill_53178 : jj_yn yJ7_fill_53178 2 := ⟨by decide +kernel, by decide +kernel, by decide +kernel⟩
theorem jw_c_X6_addTimes : Cond.code yX6_addTimes cX6_addTimes 4 none ∈ jj_gW := List.mem_filter.mpr ⟨by decide +kernel, rfl⟩
theorem jw_m_RX6_419 : Cond.methodLink RX6 419 yX6_addTimes ∈ jj_gW := List.mem_filter.mpr ⟨by decide +kernel, rfl⟩
theorem jw_s_X6_addTimes : Cond.static yX6_addTimes ∈ jj_gW := List.mem_filter.mpr ⟨by decide +kernel, rfl⟩
theorem jw_y_X6_addTimes : jj_yn yX6_addTimes 3 := ⟨by decide +kernel, by decide +kernel, by decide +kernel⟩
theorem jw_c_X6_isNewAndHearable : Cond.code yX6_isNewAndHearable cX6_isNewAndHearable 3 (some .boolean) ∈ jj_gW := List.mem_filter.mpr ⟨by decide +kernel, rfl⟩
theorem jw_m_RX6_423 : Cond.methodLink RX6 423 yX6_isNewAndHearable ∈ jj_gW := List.mem_filter.mpr ⟨by decide +kernel, rfl⟩
theorem jw_s_X6_isNewAndHearable : Cond.instanceMethod yX6_isNewAndHearable ∈ jj_gW := List.mem_filter.mpr ⟨by decide +kernel, rfl⟩
theorem jw_e_X6_isNewAndHearable : Cond.selects yX6_isNewAndHearable.cls yX6_isNewAndHearable yX6_isNewAndHearable ∈ jj_gW := List.mem_filter.mpr ⟨by decide +kernel, rfl⟩
theorem jw_y_X6_isNewAndHearable : jj_yn yX6_isNewAndHearable 2 := ⟨by decide +kernel, by decide +kernel, by decide +kernel⟩
theorem jw_c_X6_alikeToHeard : Cond.code yX6_alikeToHeard cX6_alikeToHeard 5 (some .int) ∈ jj_gW := List.mem_filter.mpr ⟨by decide +kernel, rfl⟩
theorem jw_m_RX6_426 : Cond.methodLink RX6 426 yX6_alikeToHeard ∈ jj_gW := List.mem_filter.mpr ⟨by decide +kernel, rfl⟩
theorem jw_s_X6_alikeToHeard : Cond.instanceMethod yX6_alikeToHeard ∈ jj_gW := List.mem_filter.mpr ⟨by decide +kernel, rfl⟩
theorem jw_e_X6_alikeToHeard : Cond.selects yX6_alikeToHeard.cls yX6_alikeToHeard yX6_alikeToHeard ∈ jj_gW := List.mem_filter.mpr ⟨by decide +kernel, rfl⟩
theorem jw_y_X6_alikeToHeard : jj_yn yX6_alikeToHeard 2 := ⟨by decide +kernel, by decide +kernel, by decide +kernel⟩
theorem jw_c_X2_isHearable : Cond.code yX2_isHearable cX2_isHearable 5 (some .boolean) ∈ jj_gW := List.mem_filter.mpr ⟨by decide +kernel, rfl⟩
theorem jw_h_RX6_429 : Cond.methodLinkNest RX6 429 yX2_isHearable "PlayPool" ∈ jj_nW := List.mem_filter.mpr ⟨by decide +kernel, rfl⟩
theorem jw_s_X2_isHearable : Cond.instanceMethod yX2_isHearable ∈ jj_gW := List.mem_filter.mpr ⟨by decide +kernel, rfl⟩
theorem jw_e_X2_isHearable : Cond.selects yX2_isHearable.cls yX2_isHearable yX2_isHearable ∈ jj_gW := List.mem_filter.mpr ⟨by decide +kernel, rfl⟩
theorem jw_y_X2_isHearable : jj_yn yX2_isHearable 3 := ⟨by decide +kernel, by decide +kernel, by decide +kernel⟩
theorem jw_l_RX6_432 : Cond.constantLong RX6 432 31 ∈ jj_gW := List.mem_filter.mpr ⟨by decide +kernel, rfl⟩
theorem jw_c_X6_many : Cond.code yX6_many cX6_many 2 (some .int) ∈ jj_gW := List.mem_filter.mpr ⟨by decide +kernel, rfl⟩
theorem jw_m_RX6_434 : Cond.methodLink RX6 434 yX6_many ∈ jj_gW := List.mem_filter.mpr ⟨by decide +kernel, rfl⟩
theorem jw_s_X6_many : Cond.instanceMethod yX6_many ∈ jj_gW := List.mem_filter.mpr ⟨by decide +kernel, rfl⟩
theorem jw_e_X6_many : Cond.selects yX6_many.cls yX6_many yX6_many ∈ jj_gW := List.mem_filter.mpr ⟨by decide +kernel, rfl⟩
theorem jw_y_X6_many : jj_yn yX6_many 1 := ⟨by decide +kernel, by decide +kernel, by decide +kernel⟩
theorem jw_c_X6_ofTrack : Cond.code yX6_ofTrack cX6_ofTrack 3 (some .int) ∈ jj_gW := List.mem_filter.mpr ⟨by decide +kernel, rfl⟩
theorem jw_m_RX6_437 : Cond.methodLink RX6 437 yX6_ofTrack ∈ jj_gW := List.mem_filter.mpr ⟨by decide +kernel, rfl⟩
theorem jw_s_X6_ofTrack : Cond.instanceMethod yX6_ofTrack ∈ jj_gW := List.mem_filter.mpr ⟨by decide +kernel, rfl⟩
theorem jw_e_X6_ofTrack : Cond.selects yX6_ofTrack.cls yX6_ofTrack yX6_ofTrack ∈ jj_gW := List.mem_filter.mpr ⟨by decide +kernel, rfl⟩
theorem jw_y_X6_ofTrack : jj_yn yX6_ofTrack 2 := ⟨by decide +kernel, by decide +kernel, by decide +kernel⟩
theorem jw_c_X6_ofListener : Cond.code yX6_ofListener cX6_ofListener 3 (some .int) ∈ jj_gW := List.mem_filter.mpr ⟨by decide +kernel, rfl⟩
theorem jw_m_RX6_440 : Cond.methodLink RX6 440 yX6_ofListener ∈ jj_gW := List.mem_filter.mpr ⟨by decide +kernel, rfl⟩
theorem jw_s_X6_ofListener : Cond.instanceMethod yX6_ofListener ∈ jj_gW := List.mem_filter.mpr ⟨by decide +kernel, rfl⟩
theorem jw_e_X6_ofListener : Cond.selects yX6_ofListener.cls yX6_ofListener yX6_ofListener ∈ jj_gW := List.mem_filter.mpr ⟨by decide +kernel, rfl⟩
theorem jw_y_X6_ofListener : jj_yn yX6_ofListener 2 := ⟨by decide +kernel, by decide +kernel, by decide +kernel⟩
theorem jw_c_X6_suggestion : Cond.code yX6_suggestion cX6_suggestion 8 (some .int) ∈ jj_gW := List.mem_filter.mpr ⟨by decide +kernel, rfl⟩
theorem jw_m_RX6_313 : Cond.methodLink RX6 313 yX6_suggestion ∈ jj_gW := List.mem_filter.mpr ⟨by decide +kernel, rfl⟩
theorem jw_s_X6_suggestion : Cond.instanceMethod yX6_suggestion ∈ jj_gW := List.mem_filter.mpr ⟨by decide +kernel, rfl⟩
theorem jw_e_X6_suggestion : Cond.selects yX6_suggestion.cls yX6_suggestion yX6_suggestion ∈ jj_gW := List.mem_filter.mpr ⟨by decide +kernel, rfl⟩
theorem jw_y_X6_suggestion : jj_yn yX6_suggestion 1 := ⟨by decide +kernel, by decide +kernel, by decide +kernel⟩
theorem jw_c_X6_ofParty : Cond.code yX6_ofParty cX6_ofParty 3 (some .int) ∈ jj_gW := List.mem_filter.mpr ⟨by decide +kernel, rfl⟩
theorem jw_m_RX6_443 : Cond.methodLink RX6 443 yX6_ofParty ∈ jj_gW := List.mem_filter.mpr ⟨by decide +kernel, rfl⟩
theorem jw_s_X6_ofParty : Cond.instanceMethod yX6_ofParty ∈ jj_gW := List.mem_filter.mpr ⟨by decide +kernel, rfl⟩
theorem jw_e_X6_ofParty : Cond.selects yX6_ofParty.cls yX6_ofParty yX6_ofParty ∈ jj_gW := List.mem_filter.mpr ⟨by decide +kernel, rfl⟩
theorem jw_y_X6_ofParty : jj_yn yX6_ofParty 2 := ⟨by decide +kernel, by decide +kernel, by decide +kernel⟩
theorem jw_c_X6_ofRecording : Cond.code yX6_ofRecording cX6_ofRecording 3 (some .int) ∈ jj_gW := List.mem_filter.mpr ⟨by decide +kernel, rfl⟩
theorem jw_m_RX6_446 : Cond.methodLink RX6 446 yX6_ofRecording ∈ jj_gW := List.mem_filter.mpr ⟨by decide +kernel, rfl⟩
theorem jw_s_X6_ofRecording : Cond.instanceMethod yX6_ofRecording ∈ jj_gW := List.mem_filter.mpr ⟨by decide +kernel, rfl⟩
theorem jw_e_X6_ofRecording : Cond.selects yX6_ofRecording.cls yX6_ofRecording yX6_ofRecording ∈ jj_gW := List.mem_filter.mpr ⟨by decide +kernel, rfl⟩
theorem jw_y_X6_ofRecording : jj_yn yX6_ofRecording 2 := ⟨by decide +kernel, by decide +kernel, by decide +kernel⟩
theorem jw_c_X6_charted : Cond.code yX6_charted cX6_charted 4 (some .int) ∈ jj_gW := List.mem_filter.mpr ⟨by decide +kernel, rfl⟩
theorem jw_m_RX6_305 : Cond.methodLink RX6 305 yX6_charted ∈ jj_gW := List.mem_filter.mpr ⟨by decide +kernel, rfl⟩
theorem jw_s_X6_charted : Cond.instanceMethod yX6_charted ∈ jj_gW := List.mem_filter.mpr ⟨by decide +kernel, rfl⟩
theorem jw_e_X6_charted : Cond.selects yX6_charted.cls yX6_charted yX6_charted ∈ jj_gW := List.mem_filter.mpr ⟨by decide +kernel, rfl⟩
theorem jw_y_X6_charted : jj_yn yX6_charted 2 := ⟨by decide +kernel, by decide +kernel, by decide +kernel⟩
theorem jw_c_J9_min_7cf53 : Cond.code yJ9_min_7cf53 cJ9_min_7cf53 2 (some .int) ∈ jj_gW := List.mem_filter.mpr ⟨by decide +kernel, rfl⟩
theorem jw_i_RJ9 : Cond.initialized yJ9_min_7cf53.cls ∈ jj_gW := List.mem_filter.mpr ⟨by decide +kernel, rfl⟩
theorem jw_m_RX6_449 : Cond.methodLink RX6 449 yJ9_min_7cf53 ∈ jj_gW := List.mem_filter.mpr ⟨by decide +kernel, rfl⟩
theorem jw_s_J9_min_7cf53 : Cond.static yJ9_min_7cf53 ∈ jj_gW := List.mem_filter.mpr ⟨by decide +kernel, rfl⟩
theorem jw_y_J9_min_7cf53 : jj_yn yJ9_min_7cf53 2 := ⟨by decide +kernel, by decide +kernel, by decide +kernel⟩
theorem jw_m_RX6_454 : Cond.methodLink RX6 454 arraycopyName ∈ jj_gW := List.mem_filter.mpr ⟨by decide +kernel, rfl⟩
theorem jw_an : Cond.native arraycopyName ∈ jj_gW := List.mem_filter.mpr ⟨by decide +kernel, rfl⟩
theorem jw_as : Cond.static arraycopyName ∈ jj_gW := List.mem_filter.mpr ⟨by decide +kernel, rfl⟩
theorem jw_ai : Cond.initialized "java/lang/System" ∈ jj_gW := List.mem_filter.mpr ⟨by decide +kernel, rfl⟩
theorem jw_m_RX0_3 : Cond.methodLink RX0 3 objectInit ∈ jj_gW := List.mem_filter.mpr ⟨by decide +kernel, rfl⟩
theorem jw_f_RX0_9 : jj_lkF RX0 9 TX0 0 := List.mem_filter.mpr ⟨(by decide +kernel : Cond.fieldLink RX0 9 (TX0 0).1 (TX0 0).2.1 (TX0 0).2.2.1 ∈ lw_tbl), rfl⟩
theorem jw_f_RX0_15 : jj_lkF RX0 15 TX0 1 := List.mem_filter.mpr ⟨(by decide +kernel : Cond.fieldLink RX0 15 (TX0 1).1 (TX0 1).2.1 (TX0 1).2.2.1 ∈ lw_tbl), rfl⟩
theorem jw_f_RX0_19 : jj_lkF RX0 19 TX0 2 := List.mem_filter.mpr ⟨(by decide +kernel : Cond.fieldLink RX0 19 (TX0 2).1 (TX0 2).2.1 (TX0 2).2.2.1 ∈ lw_tbl), rfl⟩
theorem jw_f_RX0_22 : jj_lkF RX0 22 TX0 3 := List.mem_filter.mpr ⟨(by decide +kernel : Cond.fieldLink RX0 22 (TX0 3).1 (TX0 3).2.1 (TX0 3).2.2.1 ∈ lw_tbl), rfl⟩
theorem jw_f_RX0_26 : jj_lkF RX0 26 TX0 4 := List.mem_filter.mpr ⟨(by decide +kernel : Cond.fieldLink RX0 26 (TX0 4).1 (TX0 4).2.1 (TX0 4).2.2.1 ∈ lw_tbl), rfl⟩
theorem jw_f_RX0_29 : jj_lkF RX0 29 TX0 5 := List.mem_filter.mpr ⟨(by decide +kernel : Cond.fieldLink RX0 29 (TX0 5).1 (TX0 5).2.1 (TX0 5).2.2.1 ∈ lw_tbl), rfl⟩
theorem jw_w_RX0_32 : Cond.classLink RX0 32 "[[I" ∈ jj_gW := List.mem_filter.mpr ⟨by decide +kernel, rfl⟩
theorem jw_f_RX0_34 : jj_lkF RX0 34 TX0 6 := List.mem_filter.mpr ⟨(by decide +kernel : Cond.fieldLink RX0 34 (TX0 6).1 (TX0 6).2.1 (TX0 6).2.2.1 ∈ lw_tbl), rfl⟩
theorem jw_c_X0_feeOf : Cond.code yX0_feeOf cX0_feeOf 2 (some .int) ∈ jj_gW := List.mem_filter.mpr ⟨by decide +kernel, rfl⟩
theorem jw_m_RX0_43 : Cond.methodLink RX0 43 yX0_feeOf ∈ jj_gW := List.mem_filter.mpr ⟨by decide +kernel, rfl⟩
theorem jw_s_X0_feeOf : Cond.instanceMethod yX0_feeOf ∈ jj_gW := List.mem_filter.mpr ⟨by decide +kernel, rfl⟩
theorem jw_e_X0_feeOf : Cond.selects yX0_feeOf.cls yX0_feeOf yX0_feeOf ∈ jj_gW := List.mem_filter.mpr ⟨by decide +kernel, rfl⟩
theorem jw_y_X0_feeOf : jj_yn yX0_feeOf 1 := ⟨by decide +kernel, by decide +kernel, by decide +kernel⟩
theorem jw_m_RX1_3 : Cond.methodLink RX1 3 objectInit ∈ jj_gW := List.mem_filter.mpr ⟨by decide +kernel, rfl⟩
theorem jw_f_RX1_9 : jj_lkF RX1 9 TX1 0 := List.mem_filter.mpr ⟨(by decide +kernel : Cond.fieldLink RX1 9 (TX1 0).1 (TX1 0).2.1 (TX1 0).2.2.1 ∈ lw_tbl), rfl⟩
theorem jw_f_RX1_15 : jj_lkF RX1 15 TX1 1 := List.mem_filter.mpr ⟨(by decide +kernel : Cond.fieldLink RX1 15 (TX1 1).1 (TX1 1).2.1 (TX1 1).2.2.1 ∈ lw_tbl), rfl⟩
theorem jw_f_RX1_18 : jj_lkF RX1 18 TX1 2 := List.mem_filter.mpr ⟨(by decide +kernel : Cond.fieldLink RX1 18 (TX1 2).1 (TX1 2).2.1 (TX1 2).2.2.1 ∈ lw_tbl), rfl⟩
theorem jw_f_RX1_22 : jj_lkF RX1 22 TX1 3 := List.mem_filter.mpr ⟨(by decide +kernel : Cond.fieldLink RX1 22 (TX1 3).1 (TX1 3).2.1 (TX1 3).2.2.1 ∈ lw_tbl), rfl⟩
theorem jw_f_RX1_25 : jj_lkF RX1 25 TX1 4 := List.mem_filter.mpr ⟨(by decide +kernel : Cond.fieldLink RX1 25 (TX1 4).1 (TX1 4).2.1 (TX1 4).2.2.1 ∈ lw_tbl), rfl⟩
theorem jw_f_RX1_28 : jj_lkF RX1 28 TX1 5 := List.mem_filter.mpr ⟨(by decide +kernel : Cond.fieldLink RX1 28 (TX1 5).1 (TX1 5).2.1 (TX1 5).2.2.1 ∈ lw_tbl), rfl⟩
theorem jw_f_RX1_31 : jj_lkF RX1 31 TX1 6 := List.mem_filter.mpr ⟨(by decide +kernel : Cond.fieldLink RX1 31 (TX1 6).1 (TX1 6).2.1 (TX1 6).2.2.1 ∈ lw_tbl), rfl⟩
theorem jw_f_RX1_34 : jj_lkF RX1 34 TX1 7 := List.mem_filter.mpr ⟨(by decide +kernel : Cond.fieldLink RX1 34 (TX1 7).1 (TX1 7).2.1 (TX1 7).2.2.1 ∈ lw_tbl), rfl⟩
theorem jw_f_RX1_37 : jj_lkF RX1 37 TX1 8 := List.mem_filter.mpr ⟨(by decide +kernel : Cond.fieldLink RX1 37 (TX1 8).1 (TX1 8).2.1 (TX1 8).2.2.1 ∈ lw_tbl), rfl⟩
theorem jw_f_RX1_40 : jj_lkF RX1 40 TX1 9 := List.mem_filter.mpr ⟨(by decide +kernel : Cond.fieldLink RX1 40 (TX1 9).1 (TX1 9).2.1 (TX1 9).2.2.1 ∈ lw_tbl), rfl⟩
theorem jw_f_RX1_43 : jj_lkF RX1 43 TX1 10 := List.mem_filter.mpr ⟨(by decide +kernel : Cond.fieldLink RX1 43 (TX1 10).1 (TX1 10).2.1 (TX1 10).2.2.1 ∈ lw_tbl), rfl⟩
theorem jw_f_RX1_46 : jj_lkF RX1 46 TX1 11 := List.mem_filter.mpr ⟨(by decide +kernel : Cond.fieldLink RX1 46 (TX1 11).1 (TX1 11).2.1 (TX1 11).2.2.1 ∈ lw_tbl), rfl⟩
theorem jw_c_X6_copyAll : Cond.code yX6_copyAll cX6_copyAll 2 none ∈ jj_gW := List.mem_filter.mpr ⟨by decide +kernel, rfl⟩
theorem jw_h_RX1_49 : Cond.methodLinkNest RX1 49 yX6_copyAll "PlayPool" ∈ jj_nW := List.mem_filter.mpr ⟨by decide +kernel, rfl⟩
theorem jw_s_X6_copyAll : Cond.static yX6_copyAll ∈ jj_gW := List.mem_filter.mpr ⟨by decide +kernel, rfl⟩
theorem jw_y_X6_copyAll : jj_yn yX6_copyAll 2 := ⟨by decide +kernel, by decide +kernel, by decide +kernel⟩
theorem jw_m_RX1_53 : Cond.methodLink RX1 53 yJ7_fill_53178 ∈ jj_gW := List.mem_filter.mpr ⟨by decide +kernel, rfl⟩
theorem jw_c_X1_takeHouseParts : Cond.code yX1_takeHouseParts cX1_takeHouseParts 3 none ∈ jj_gW := List.mem_filter.mpr ⟨by decide +kernel, rfl⟩
theorem jw_m_RX1_59 : Cond.methodLink RX1 59 yX1_takeHouseParts ∈ jj_gW := List.mem_filter.mpr ⟨by decide +kernel, rfl⟩
theorem jw_s_X1_takeHouseParts : Cond.instanceMethod yX1_takeHouseParts ∈ jj_gW := List.mem_filter.mpr ⟨by decide +kernel, rfl⟩
theorem jw_e_X1_takeHouseParts : Cond.selects yX1_takeHouseParts.cls yX1_takeHouseParts yX1_takeHouseParts ∈ jj_gW := List.mem_filter.mpr ⟨by decide +kernel, rfl⟩
theorem jw_y_X1_takeHouseParts : jj_yn yX1_takeHouseParts 1 := ⟨by decide +kernel, by decide +kernel, by decide +kernel⟩
theorem jw_c_X1_weighLand : Cond.code yX1_weighLand cX1_weighLand 5 none ∈ jj_gW := List.mem_filter.mpr ⟨by decide +kernel, rfl⟩
theorem jw_m_RX1_63 : Cond.methodLink RX1 63 yX1_weighLand ∈ jj_gW := List.mem_filter.mpr ⟨by decide +kernel, rfl⟩
theorem jw_s_X1_weighLand : Cond.instanceMethod yX1_weighLand ∈ jj_gW := List.mem_filter.mpr ⟨by decide +kernel, rfl⟩
theorem jw_e_X1_weighLand : Cond.selects yX1_weighLand.cls yX1_weighLand yX1_weighLand ∈ jj_gW := List.mem_filter.mpr ⟨by decide +kernel, rfl⟩
theorem jw_y_X1_weighLand : jj_yn yX1_weighLand 3 := ⟨by decide +kernel, by decide +kernel, by decide +kernel⟩
theorem jw_c_X1_poolOf : Cond.code yX1_poolOf cX1_poolOf 5 (some .int) ∈ jj_gW := List.mem_filter.mpr ⟨by decide +kernel, rfl⟩
theorem jw_m_RX1_67 : Cond.methodLink RX1 67 yX1_poolOf ∈ jj_gW := List.mem_filter.mpr ⟨by decide +kernel, rfl⟩
theorem jw_s_X1_poolOf : Cond.instanceMethod yX1_poolOf ∈ jj_gW := List.mem_filter.mpr ⟨by decide +kernel, rfl⟩
theorem jw_e_X1_poolOf : Cond.selects yX1_poolOf.cls yX1_poolOf yX1_poolOf ∈ jj_gW := List.mem_filter.mpr ⟨by decide +kernel, rfl⟩
theorem jw_y_X1_poolOf : jj_yn yX1_poolOf 2 := ⟨by decide +kernel, by decide +kernel, by decide +kernel⟩
theorem jw_c_X1_split : Cond.code yX1_split cX1_split 7 (some .int) ∈ jj_gW := List.mem_filter.mpr ⟨by decide +kernel, rfl⟩
theorem jw_m_RX1_71 : Cond.methodLink RX1 71 yX1_split ∈ jj_gW := List.mem_filter.mpr ⟨by decide +kernel, rfl⟩
theorem jw_s_X1_split : Cond.instanceMethod yX1_split ∈ jj_gW := List.mem_filter.mpr ⟨by decide +kernel, rfl⟩
theorem jw_e_X1_split : Cond.selects yX1_split.cls yX1_split yX1_split ∈ jj_gW := List.mem_filter.mpr ⟨by decide +kernel, rfl⟩
theorem jw_y_X1_split : jj_yn yX1_split 2 := ⟨by decide +kernel, by decide +kernel, by decide +kernel⟩
theorem jw_c_X1_splitByListener : Cond.code yX1_splitByListener cX1_splitByListener 5 none ∈ jj_gW := List.mem_filter.mpr ⟨by decide +kernel, rfl⟩
theorem jw_m_RX1_75 : Cond.methodLink RX1 75 yX1_splitByListener ∈ jj_gW := List.mem_filter.mpr ⟨by decide +kernel, rfl⟩
theorem jw_s_X1_splitByListener : Cond.instanceMethod yX1_splitByListener ∈ jj_gW := List.mem_filter.mpr ⟨by decide +kernel, rfl⟩
theorem jw_e_X1_splitByListener : Cond.selects yX1_splitByListener.cls yX1_splitByListener yX1_splitByListener ∈ jj_gW := List.mem_filter.mpr ⟨by decide +kernel, rfl⟩
theorem jw_y_X1_splitByListener : jj_yn yX1_splitByListener 3 := ⟨by decide +kernel, by decide +kernel, by decide +kernel⟩
theorem jw_c_X1_share : Cond.code yX1_share cX1_share 7 none ∈ jj_gW := List.mem_filter.mpr ⟨by decide +kernel, rfl⟩
theorem jw_m_RX1_78 : Cond.methodLink RX1 78 yX1_share ∈ jj_gW := List.mem_filter.mpr ⟨by decide +kernel, rfl⟩
theorem jw_s_X1_share : Cond.instanceMethod yX1_share ∈ jj_gW := List.mem_filter.mpr ⟨by decide +kernel, rfl⟩
theorem jw_e_X1_share : Cond.selects yX1_share.cls yX1_share yX1_share ∈ jj_gW := List.mem_filter.mpr ⟨by decide +kernel, rfl⟩
theorem jw_y_X1_share : jj_yn yX1_share 2 := ⟨by decide +kernel, by decide +kernel, by decide +kernel⟩
theorem jw_c_X1_recoup : Cond.code yX1_recoup cX1_recoup 3 none ∈ jj_gW := List.mem_filter.mpr ⟨by decide +kernel, rfl⟩
theorem jw_m_RX1_82 : Cond.methodLink RX1 82 yX1_recoup ∈ jj_gW := List.mem_filter.mpr ⟨by decide +kernel, rfl⟩
theorem jw_s_X1_recoup : Cond.instanceMethod yX1_recoup ∈ jj_gW := List.mem_filter.mpr ⟨by decide +kernel, rfl⟩
theorem jw_e_X1_recoup : Cond.selects yX1_recoup.cls yX1_recoup yX1_recoup ∈ jj_gW := List.mem_filter.mpr ⟨by decide +kernel, rfl⟩
theorem jw_y_X1_recoup : jj_yn yX1_recoup 1 := ⟨by decide +kernel, by decide +kernel, by decide +kernel⟩
theorem jw_c_X1_payOut : Cond.code yX1_payOut cX1_payOut 2 none ∈ jj_gW := List.mem_filter.mpr ⟨by decide +kernel, rfl⟩
theorem jw_m_RX1_86 : Cond.methodLink RX1 86 yX1_payOut ∈ jj_gW := List.mem_filter.mpr ⟨by decide +kernel, rfl⟩
theorem jw_s_X1_payOut : Cond.instanceMethod yX1_payOut ∈ jj_gW := List.mem_filter.mpr ⟨by decide +kernel, rfl⟩
theorem jw_e_X1_payOut : Cond.selects yX1_payOut.cls yX1_payOut yX1_payOut ∈ jj_gW := List.mem_filter.mpr ⟨by decide +kernel, rfl⟩
theorem jw_y_X1_payOut : jj_yn yX1_payOut 1 := ⟨by decide +kernel, by decide +kernel, by decide +kernel⟩
theorem jw_n_RX1_89 : jj_lkN RX1 89 TX0 0 "PlayPool" := List.mem_filter.mpr ⟨(by decide +kernel : Cond.fieldLinkNest RX1 89 (TX0 0).1 (TX0 0).2.1 (TX0 0).2.2.1 "PlayPool" ∈ lw_tbl), rfl⟩
theorem jw_h_RX1_94 : Cond.methodLinkNest RX1 94 yX0_feeOf "PlayPool" ∈ jj_nW := List.mem_filter.mpr ⟨by decide +kernel, rfl⟩
theorem jw_c_X0_poolPartOf : Cond.code yX0_poolPartOf cX0_poolPartOf 2 (some .int) ∈ jj_gW := List.mem_filter.mpr ⟨by decide +kernel, rfl⟩
theorem jw_h_RX1_98 : Cond.methodLinkNest RX1 98 yX0_poolPartOf "PlayPool" ∈ jj_nW := List.mem_filter.mpr ⟨by decide +kernel, rfl⟩
theorem jw_s_X0_poolPartOf : Cond.instanceMethod yX0_poolPartOf ∈ jj_gW := List.mem_filter.mpr ⟨by decide +kernel, rfl⟩
theorem jw_e_X0_poolPartOf : Cond.selects yX0_poolPartOf.cls yX0_poolPartOf yX0_poolPartOf ∈ jj_gW := List.mem_filter.mpr ⟨by decide +kernel, rfl⟩
theorem jw_y_X0_poolPartOf : jj_yn yX0_poolPartOf 1 := ⟨by decide +kernel, by decide +kernel, by decide +kernel⟩
theorem jw_n_RX1_101 : jj_lkN RX1 101 TX0 1 "PlayPool" := List.mem_filter.mpr ⟨(by decide +kernel : Cond.fieldLinkNest RX1 101 (TX0 1).1 (TX0 1).2.1 (TX0 1).2.2.1 "PlayPool" ∈ lw_tbl), rfl⟩
theorem jw_n_RX1_104 : jj_lkN RX1 104 TX3 1 "PlayPool" := List.mem_filter.mpr ⟨(by decide +kernel : Cond.fieldLinkNest RX1 104 (TX3 1).1 (TX3 1).2.1 (TX3 1).2.2.1 "PlayPool" ∈ lw_tbl), rfl⟩
theorem jw_h_RX1_110 : Cond.methodLinkNest RX1 110 yX6_addTimes "PlayPool" ∈ jj_nW := List.mem_filter.mpr ⟨by decide +kernel, rfl⟩
theorem jw_h_RX1_114 : Cond.methodLinkNest RX1 114 yX6_sumOf "PlayPool" ∈ jj_nW := List.mem_filter.mpr ⟨by decide +kernel, rfl⟩
theorem jw_h_RX1_118 : Cond.methodLinkNest RX1 118 yX6_placeOf "PlayPool" ∈ jj_nW := List.mem_filter.mpr ⟨by decide +kernel, rfl⟩
theorem jw_h_RX1_122 : Cond.methodLinkNest RX1 122 yX5_isInConflict "PlayPool" ∈ jj_nW := List.mem_filter.mpr ⟨by decide +kernel, rfl⟩
theorem jw_n_RX1_128 : jj_lkN RX1 128 TX5 0 "PlayPool" := List.mem_filter.mpr ⟨(by decide +kernel : Cond.fieldLinkNest RX1 128 (TX5 0).1 (TX5 0).2.1 (TX5 0).2.2.1 "PlayPool" ∈ lw_tbl), rfl⟩
theorem jw_m_RX1_131 : Cond.methodLink RX1 131 yJ9_min_7cf53 ∈ jj_gW := List.mem_filter.mpr ⟨by decide +kernel, rfl⟩
theorem jw_m_RX2_3 : Cond.methodLink RX2 3 objectInit ∈ jj_gW := List.mem_filter.mpr ⟨by decide +kernel, rfl⟩
theorem jw_f_RX2_9 : jj_lkF RX2 9 TX2 0 := List.mem_filter.mpr ⟨(by decide +kernel : Cond.fieldLink RX2 9 (TX2 0).1 (TX2 0).2.1 (TX2 0).2.2.1 ∈ lw_tbl), rfl⟩
theorem jw_f_RX2_15 : jj_lkF RX2 15 TX2 1 := List.mem_filter.mpr ⟨(by decide +kernel : Cond.fieldLink RX2 15 (TX2 1).1 (TX2 1).2.1 (TX2 1).2.2.1 ∈ lw_tbl), rfl⟩
theorem jw_f_RX2_19 : jj_lkF RX2 19 TX2 2 := List.mem_filter.mpr ⟨(by decide +kernel : Cond.fieldLink RX2 19 (TX2 2).1 (TX2 2).2.1 (TX2 2).2.2.1 ∈ lw_tbl), rfl⟩
theorem jw_f_RX2_22 : jj_lkF RX2 22 TX2 3 := List.mem_filter.mpr ⟨(by decide +kernel : Cond.fieldLink RX2 22 (TX2 3).1 (TX2 3).2.1 (TX2 3).2.2.1 ∈ lw_tbl), rfl⟩
theorem jw_f_RX2_25 : jj_lkF RX2 25 TX2 4 := List.mem_filter.mpr ⟨(by decide +kernel : Cond.fieldLink RX2 25 (TX2 4).1 (TX2 4).2.1 (TX2 4).2.2.1 ∈ lw_tbl), rfl⟩
theorem jw_f_RX2_28 : jj_lkF RX2 28 TX2 5 := List.mem_filter.mpr ⟨(by decide +kernel : Cond.fieldLink RX2 28 (TX2 5).1 (TX2 5).2.1 (TX2 5).2.2.1 ∈ lw_tbl), rfl⟩
theorem jw_f_RX2_31 : jj_lkF RX2 31 TX2 6 := List.mem_filter.mpr ⟨(by decide +kernel : Cond.fieldLink RX2 31 (TX2 6).1 (TX2 6).2.1 (TX2 6).2.2.1 ∈ lw_tbl), rfl⟩
theorem jw_f_RX2_34 : jj_lkF RX2 34 TX2 7 := List.mem_filter.mpr ⟨(by decide +kernel : Cond.fieldLink RX2 34 (TX2 7).1 (TX2 7).2.1 (TX2 7).2.2.1 ∈ lw_tbl), rfl⟩
theorem jw_c_X2_isDown : Cond.code yX2_isDown cX2_isDown 2 (some .boolean) ∈ jj_gW := List.mem_filter.mpr ⟨by decide +kernel, rfl⟩
theorem jw_m_RX2_37 : Cond.methodLink RX2 37 yX2_isDown ∈ jj_gW := List.mem_filter.mpr ⟨by decide +kernel, rfl⟩
theorem jw_s_X2_isDown : Cond.instanceMethod yX2_isDown ∈ jj_gW := List.mem_filter.mpr ⟨by decide +kernel, rfl⟩
theorem jw_e_X2_isDown : Cond.selects yX2_isDown.cls yX2_isDown yX2_isDown ∈ jj_gW := List.mem_filter.mpr ⟨by decide +kernel, rfl⟩
theorem jw_y_X2_isDown : jj_yn yX2_isDown 1 := ⟨by decide +kernel, by decide +kernel, by decide +kernel⟩
theorem jw_m_RX2_41 : Cond.methodLink RX2 41 yX2_isAllowed ∈ jj_gW := List.mem_filter.mpr ⟨by decide +kernel, rfl⟩
theorem jw_m_RX3_3 : Cond.methodLink RX3 3 objectInit ∈ jj_gW := List.mem_filter.mpr ⟨by decide +kernel, rfl⟩
theorem jw_w_RX3_9 : Cond.classLink RX3 9 "[[I" ∈ jj_gW := List.mem_filter.mpr ⟨by decide +kernel, rfl⟩
theorem jw_f_RX3_11 : jj_lkF RX3 11 TX3 0 := List.mem_filter.mpr ⟨(by decide +kernel : Cond.fieldLink RX3 11 (TX3 0).1 (TX3 0).2.1 (TX3 0).2.2.1 ∈ lw_tbl), rfl⟩
theorem jw_f_RX3_16 : jj_lkF RX3 16 TX3 1 := List.mem_filter.mpr ⟨(by decide +kernel : Cond.fieldLink RX3 16 (TX3 1).1 (TX3 1).2.1 (TX3 1).2.2.1 ∈ lw_tbl), rfl⟩
theorem jw_f_RX3_19 : jj_lkF RX3 19 TX3 2 := List.mem_filter.mpr ⟨(by decide +kernel : Cond.fieldLink RX3 19 (TX3 2).1 (TX3 2).2.1 (TX3 2).2.2.1 ∈ lw_tbl), rfl⟩
theorem jw_c_X6_clearRows : Cond.code yX6_clearRows cX6_clearRows 2 none ∈ jj_gW := List.mem_filter.mpr ⟨by decide +kernel, rfl⟩
theorem jw_h_RX3_22 : Cond.methodLinkNest RX3 22 yX6_clearRows "PlayPool" ∈ jj_nW := List.mem_filter.mpr ⟨by decide +kernel, rfl⟩
theorem jw_s_X6_clearRows : Cond.static yX6_clearRows ∈ jj_gW := List.mem_filter.mpr ⟨by decide +kernel, rfl⟩
theorem jw_y_X6_clearRows : jj_yn yX6_clearRows 1 := ⟨by decide +kernel, by decide +kernel, by decide +kernel⟩
theorem jw_m_RX4_3 : Cond.methodLink RX4 3 objectInit ∈ jj_gW := List.mem_filter.mpr ⟨by decide +kernel, rfl⟩
theorem jw_f_RX4_9 : jj_lkF RX4 9 TX4 0 := List.mem_filter.mpr ⟨(by decide +kernel : Cond.fieldLink RX4 9 (TX4 0).1 (TX4 0).2.1 (TX4 0).2.2.1 ∈ lw_tbl), rfl⟩
theorem jw_f_RX4_15 : jj_lkF RX4 15 TX4 1 := List.mem_filter.mpr ⟨(by decide +kernel : Cond.fieldLink RX4 15 (TX4 1).1 (TX4 1).2.1 (TX4 1).2.2.1 ∈ lw_tbl), rfl⟩
theorem jw_f_RX4_19 : jj_lkF RX4 19 TX4 2 := List.mem_filter.mpr ⟨(by decide +kernel : Cond.fieldLink RX4 19 (TX4 2).1 (TX4 2).2.1 (TX4 2).2.2.1 ∈ lw_tbl), rfl⟩
theorem jw_f_RX4_22 : jj_lkF RX4 22 TX4 3 := List.mem_filter.mpr ⟨(by decide +kernel : Cond.fieldLink RX4 22 (TX4 3).1 (TX4 3).2.1 (TX4 3).2.2.1 ∈ lw_tbl), rfl⟩
theorem jw_f_RX4_25 : jj_lkF RX4 25 TX4 4 := List.mem_filter.mpr ⟨(by decide +kernel : Cond.fieldLink RX4 25 (TX4 4).1 (TX4 4).2.1 (TX4 4).2.2.1 ∈ lw_tbl), rfl⟩
theorem jw_f_RX4_28 : jj_lkF RX4 28 TX4 5 := List.mem_filter.mpr ⟨(by decide +kernel : Cond.fieldLink RX4 28 (TX4 5).1 (TX4 5).2.1 (TX4 5).2.2.1 ∈ lw_tbl), rfl⟩
theorem jw_f_RX4_31 : jj_lkF RX4 31 TX4 6 := List.mem_filter.mpr ⟨(by decide +kernel : Cond.fieldLink RX4 31 (TX4 6).1 (TX4 6).2.1 (TX4 6).2.2.1 ∈ lw_tbl), rfl⟩
theorem jw_c_X4_putInOrder : Cond.code yX4_putInOrder cX4_putInOrder 3 none ∈ jj_gW := List.mem_filter.mpr ⟨by decide +kernel, rfl⟩
theorem jw_m_RX4_34 : Cond.methodLink RX4 34 yX4_putInOrder ∈ jj_gW := List.mem_filter.mpr ⟨by decide +kernel, rfl⟩
theorem jw_s_X4_putInOrder : Cond.instanceMethod yX4_putInOrder ∈ jj_gW := List.mem_filter.mpr ⟨by decide +kernel, rfl⟩
theorem jw_e_X4_putInOrder : Cond.selects yX4_putInOrder.cls yX4_putInOrder yX4_putInOrder ∈ jj_gW := List.mem_filter.mpr ⟨by decide +kernel, rfl⟩
theorem jw_y_X4_putInOrder : jj_yn yX4_putInOrder 1 := ⟨by decide +kernel, by decide +kernel, by decide +kernel⟩
theorem jw_m_RX5_3 : Cond.methodLink RX5 3 objectInit ∈ jj_gW := List.mem_filter.mpr ⟨by decide +kernel, rfl⟩
theorem jw_w_RX5_9 : Cond.classLink RX5 9 "[[I" ∈ jj_gW := List.mem_filter.mpr ⟨by decide +kernel, rfl⟩
theorem jw_f_RX5_11 : jj_lkF RX5 11 TX5 0 := List.mem_filter.mpr ⟨(by decide +kernel : Cond.fieldLink RX5 11 (TX5 0).1 (TX5 0).2.1 (TX5 0).2.2.1 ∈ lw_tbl), rfl⟩
theorem jw_h_RX5_16 : Cond.methodLinkNest RX5 16 yX6_sumOf "PlayPool" ∈ jj_nW := List.mem_filter.mpr ⟨by decide +kernel, rfl⟩
theorem jw_m_RX5_20 : Cond.methodLink RX5 20 yX5_claimsOf ∈ jj_gW := List.mem_filter.mpr ⟨by decide +kernel, rfl⟩
theorem jw_k_RL_7 : Cond.constant RL 7 2147483647 ∈ jj_gW := List.mem_filter.mpr ⟨by decide +kernel, rfl⟩
theorem jw_k_RL_8 : Cond.constant RL 8 790386105 ∈ jj_gW := List.mem_filter.mpr ⟨by decide +kernel, rfl⟩
theorem jw_c_L_cell : Cond.code yL_cell cL_cell 2 (some .int) ∈ jj_gW := List.mem_filter.mpr ⟨by decide +kernel, rfl⟩
theorem jw_i_RL : Cond.initialized yL_cell.cls ∈ jj_gW := List.mem_filter.mpr ⟨by decide +kernel, rfl⟩
theorem jw_m_RL_9 : Cond.methodLink RL 9 yL_cell ∈ jj_gW := List.mem_filter.mpr ⟨by decide +kernel, rfl⟩
theorem jw_s_L_cell : Cond.static yL_cell ∈ jj_gW := List.mem_filter.mpr ⟨by decide +kernel, rfl⟩
theorem jw_y_L_cell : jj_yn yL_cell 2 := ⟨by decide +kernel, by decide +kernel, by decide +kernel⟩
theorem jw_c_L_below : Cond.code yL_below cL_below 2 (some .int) ∈ jj_gW := List.mem_filter.mpr ⟨by decide +kernel, rfl⟩
theorem jw_m_RL_15 : Cond.methodLink RL 15 yL_below ∈ jj_gW := List.mem_filter.mpr ⟨by decide +kernel, rfl⟩
theorem jw_s_L_below : Cond.static yL_below ∈ jj_gW := List.mem_filter.mpr ⟨by decide +kernel, rfl⟩
theorem jw_y_L_below : jj_yn yL_below 2 := ⟨by decide +kernel, by decide +kernel, by decide +kernel⟩
theorem jw_c_X6_track : Cond.code yX6_track cX6_track 2 (some .int) ∈ jj_gW := List.mem_filter.mpr ⟨by decide +kernel, rfl⟩
theorem jw_m_RL_19 : Cond.methodLink RL 19 yX6_track ∈ jj_gW := List.mem_filter.mpr ⟨by decide +kernel, rfl⟩
theorem jw_s_X6_track : Cond.instanceMethod yX6_track ∈ jj_gW := List.mem_filter.mpr ⟨by decide +kernel, rfl⟩
theorem jw_e_X6_track : Cond.selects yX6_track.cls yX6_track yX6_track ∈ jj_gW := List.mem_filter.mpr ⟨by decide +kernel, rfl⟩
theorem jw_y_X6_track : jj_yn yX6_track 1 := ⟨by decide +kernel, by decide +kernel, by decide +kernel⟩
theorem jw_k_RL_25 : Cond.constant RL 25 40000 ∈ jj_gW := List.mem_filter.mpr ⟨by decide +kernel, rfl⟩
theorem jw_c_X6_window : Cond.code yX6_window cX6_window 5 (some .int) ∈ jj_gW := List.mem_filter.mpr ⟨by decide +kernel, rfl⟩
theorem jw_m_RL_26 : Cond.methodLink RL 26 yX6_window ∈ jj_gW := List.mem_filter.mpr ⟨by decide +kernel, rfl⟩
theorem jw_s_X6_window : Cond.instanceMethod yX6_window ∈ jj_gW := List.mem_filter.mpr ⟨by decide +kernel, rfl⟩
theorem jw_e_X6_window : Cond.selects yX6_window.cls yX6_window yX6_window ∈ jj_gW := List.mem_filter.mpr ⟨by decide +kernel, rfl⟩
theorem jw_y_X6_window : jj_yn yX6_window 4 := ⟨by decide +kernel, by decide +kernel, by decide +kernel⟩
theorem jw_c_X6_claim : Cond.code yX6_claim cX6_claim 4 (some .int) ∈ jj_gW := List.mem_filter.mpr ⟨by decide +kernel, rfl⟩
theorem jw_m_RL_30 : Cond.methodLink RL 30 yX6_claim ∈ jj_gW := List.mem_filter.mpr ⟨by decide +kernel, rfl⟩
theorem jw_s_X6_claim : Cond.instanceMethod yX6_claim ∈ jj_gW := List.mem_filter.mpr ⟨by decide +kernel, rfl⟩
theorem jw_e_X6_claim : Cond.selects yX6_claim.cls yX6_claim yX6_claim ∈ jj_gW := List.mem_filter.mpr ⟨by decide +kernel, rfl⟩
theorem jw_y_X6_claim : jj_yn yX6_claim 3 := ⟨by decide +kernel, by decide +kernel, by decide +kernel⟩
theorem jw_c_X6_listener : Cond.code yX6_listener cX6_listener 3 (some .int) ∈ jj_gW := List.mem_filter.mpr ⟨by decide +kernel, rfl⟩
theorem jw_m_RL_34 : Cond.methodLink RL 34 yX6_listener ∈ jj_gW := List.mem_filter.mpr ⟨by decide +kernel, rfl⟩
theorem jw_s_X6_listener : Cond.instanceMethod yX6_listener ∈ jj_gW := List.mem_filter.mpr ⟨by decide +kernel, rfl⟩
theorem jw_e_X6_listener : Cond.selects yX6_listener.cls yX6_listener yX6_listener ∈ jj_gW := List.mem_filter.mpr ⟨by decide +kernel, rfl⟩
theorem jw_y_X6_listener : jj_yn yX6_listener 2 := ⟨by decide +kernel, by decide +kernel, by decide +kernel⟩
theorem jw_c_X6_play : Cond.code yX6_play cX6_play 6 (some .int) ∈ jj_gW := List.mem_filter.mpr ⟨by decide +kernel, rfl⟩
theorem jw_m_RL_37 : Cond.methodLink RL 37 yX6_play ∈ jj_gW := List.mem_filter.mpr ⟨by decide +kernel, rfl⟩
theorem jw_s_X6_play : Cond.instanceMethod yX6_play ∈ jj_gW := List.mem_filter.mpr ⟨by decide +kernel, rfl⟩
theorem jw_e_X6_play : Cond.selects yX6_play.cls yX6_play yX6_play ∈ jj_gW := List.mem_filter.mpr ⟨by decide +kernel, rfl⟩
theorem jw_y_X6_play : jj_yn yX6_play 4 := ⟨by decide +kernel, by decide +kernel, by decide +kernel⟩
theorem jw_w_RL_20 : Cond.classLink RL 20 RX6 ∈ jj_gW := List.mem_filter.mpr ⟨by decide +kernel, rfl⟩
theorem jw_v_RX6 : Cond.instantiable RX6 11 ∈ jj_gW := List.mem_filter.mpr ⟨by decide +kernel, rfl⟩
theorem jw_ii_RX6 : Cond.initialized RX6 ∈ jj_gW := List.mem_filter.mpr ⟨by decide +kernel, rfl⟩
theorem jw_c_X6_init : Cond.code yX6_init cX6_init 1 none ∈ jj_gW := List.mem_filter.mpr ⟨by decide +kernel, rfl⟩
theorem jw_m_RL_42 : Cond.methodLink RL 42 yX6_init ∈ jj_gW := List.mem_filter.mpr ⟨by decide +kernel, rfl⟩
theorem jw_s_X6_init : Cond.instanceMethod yX6_init ∈ jj_gW := List.mem_filter.mpr ⟨by decide +kernel, rfl⟩
theorem jw_y_X6_init : jj_yn yX6_init 0 := ⟨by decide +kernel, by decide +kernel, by decide +kernel⟩
theorem jw_c_L_write : Cond.code yL_write cL_write 6 none ∈ jj_gW := List.mem_filter.mpr ⟨by decide +kernel, rfl⟩
theorem jw_m_RL_43 : Cond.methodLink RL 43 yL_write ∈ jj_gW := List.mem_filter.mpr ⟨by decide +kernel, rfl⟩
theorem jw_s_L_write : Cond.static yL_write ∈ jj_gW := List.mem_filter.mpr ⟨by decide +kernel, rfl⟩
theorem jw_y_L_write : jj_yn yL_write 3 := ⟨by decide +kernel, by decide +kernel, by decide +kernel⟩
theorem jw_m_RL_47 : Cond.methodLink RL 47 yX6_many ∈ jj_gW := List.mem_filter.mpr ⟨by decide +kernel, rfl⟩
theorem jw_k_RL_50 : Cond.constant RL 50 95000 ∈ jj_gW := List.mem_filter.mpr ⟨by decide +kernel, rfl⟩
theorem jw_c_X6_pass : Cond.code yX6_pass cX6_pass 5 (some .int) ∈ jj_gW := List.mem_filter.mpr ⟨by decide +kernel, rfl⟩
theorem jw_m_RL_51 : Cond.methodLink RL 51 yX6_pass ∈ jj_gW := List.mem_filter.mpr ⟨by decide +kernel, rfl⟩
theorem jw_s_X6_pass : Cond.instanceMethod yX6_pass ∈ jj_gW := List.mem_filter.mpr ⟨by decide +kernel, rfl⟩
theorem jw_e_X6_pass : Cond.selects yX6_pass.cls yX6_pass yX6_pass ∈ jj_gW := List.mem_filter.mpr ⟨by decide +kernel, rfl⟩
theorem jw_y_X6_pass : jj_yn yX6_pass 1 := ⟨by decide +kernel, by decide +kernel, by decide +kernel⟩
theorem jw_c_X6_flag : Cond.code yX6_flag cX6_flag 4 (some .boolean) ∈ jj_gW := List.mem_filter.mpr ⟨by decide +kernel, rfl⟩
theorem jw_m_RL_54 : Cond.methodLink RL 54 yX6_flag ∈ jj_gW := List.mem_filter.mpr ⟨by decide +kernel, rfl⟩
theorem jw_s_X6_flag : Cond.instanceMethod yX6_flag ∈ jj_gW := List.mem_filter.mpr ⟨by decide +kernel, rfl⟩
theorem jw_e_X6_flag : Cond.selects yX6_flag.cls yX6_flag yX6_flag ∈ jj_gW := List.mem_filter.mpr ⟨by decide +kernel, rfl⟩
theorem jw_y_X6_flag : jj_yn yX6_flag 2 := ⟨by decide +kernel, by decide +kernel, by decide +kernel⟩
theorem jw_c_L_hear : Cond.codeWith yL_hear cL_hear 6 (some .int) [(0, 9, 10, 40)] ∈ jj_gW := List.mem_filter.mpr ⟨by decide +kernel, rfl⟩
theorem jw_m_RL_58 : Cond.methodLink RL 58 yL_hear ∈ jj_gW := List.mem_filter.mpr ⟨by decide +kernel, rfl⟩
theorem jw_s_L_hear : Cond.static yL_hear ∈ jj_gW := List.mem_filter.mpr ⟨by decide +kernel, rfl⟩
theorem jw_y_L_hear : jj_yn yL_hear 5 := ⟨by decide +kernel, by decide +kernel, by decide +kernel⟩
theorem jw_m_RL_62 : Cond.methodLink RL 62 yX6_ofListener ∈ jj_gW := List.mem_filter.mpr ⟨by decide +kernel, rfl⟩
theorem jw_c_L_isSound : Cond.code yL_isSound cL_isSound 6 (some .boolean) ∈ jj_gW := List.mem_filter.mpr ⟨by decide +kernel, rfl⟩
theorem jw_m_RL_65 : Cond.methodLink RL 65 yL_isSound ∈ jj_gW := List.mem_filter.mpr ⟨by decide +kernel, rfl⟩
theorem jw_s_L_isSound : Cond.static yL_isSound ∈ jj_gW := List.mem_filter.mpr ⟨by decide +kernel, rfl⟩
theorem jw_y_L_isSound : jj_yn yL_isSound 2 := ⟨by decide +kernel, by decide +kernel, by decide +kernel⟩
theorem jw_c_X6_digest : Cond.code yX6_digest cX6_digest 3 (some .long) ∈ jj_gW := List.mem_filter.mpr ⟨by decide +kernel, rfl⟩
theorem jw_m_RL_69 : Cond.methodLink RL 69 yX6_digest ∈ jj_gW := List.mem_filter.mpr ⟨by decide +kernel, rfl⟩
theorem jw_s_X6_digest : Cond.instanceMethod yX6_digest ∈ jj_gW := List.mem_filter.mpr ⟨by decide +kernel, rfl⟩
theorem jw_e_X6_digest : Cond.selects yX6_digest.cls yX6_digest yX6_digest ∈ jj_gW := List.mem_filter.mpr ⟨by decide +kernel, rfl⟩
theorem jw_y_X6_digest : jj_yn yX6_digest 0 := ⟨by decide +kernel, by decide +kernel, by decide +kernel⟩
theorem jw_c_X6_wouldPay : Cond.code yX6_wouldPay cX6_wouldPay 3 (some .int) ∈ jj_gW := List.mem_filter.mpr ⟨by decide +kernel, rfl⟩
theorem jw_m_RL_73 : Cond.methodLink RL 73 yX6_wouldPay ∈ jj_gW := List.mem_filter.mpr ⟨by decide +kernel, rfl⟩
theorem jw_s_X6_wouldPay : Cond.instanceMethod yX6_wouldPay ∈ jj_gW := List.mem_filter.mpr ⟨by decide +kernel, rfl⟩
theorem jw_e_X6_wouldPay : Cond.selects yX6_wouldPay.cls yX6_wouldPay yX6_wouldPay ∈ jj_gW := List.mem_filter.mpr ⟨by decide +kernel, rfl⟩
theorem jw_y_X6_wouldPay : jj_yn yX6_wouldPay 2 := ⟨by decide +kernel, by decide +kernel, by decide +kernel⟩
theorem jw_c_X6_wouldGet : Cond.code yX6_wouldGet cX6_wouldGet 3 (some .int) ∈ jj_gW := List.mem_filter.mpr ⟨by decide +kernel, rfl⟩
theorem jw_m_RL_76 : Cond.methodLink RL 76 yX6_wouldGet ∈ jj_gW := List.mem_filter.mpr ⟨by decide +kernel, rfl⟩
theorem jw_s_X6_wouldGet : Cond.instanceMethod yX6_wouldGet ∈ jj_gW := List.mem_filter.mpr ⟨by decide +kernel, rfl⟩
theorem jw_e_X6_wouldGet : Cond.selects yX6_wouldGet.cls yX6_wouldGet yX6_wouldGet ∈ jj_gW := List.mem_filter.mpr ⟨by decide +kernel, rfl⟩
theorem jw_y_X6_wouldGet : jj_yn yX6_wouldGet 2 := ⟨by decide +kernel, by decide +kernel, by decide +kernel⟩
theorem jw_w_RL_79 : Cond.classLink RL 79 "[[I" ∈ jj_gW := List.mem_filter.mpr ⟨by decide +kernel, rfl⟩
theorem jw_c_X6_ofPlay : Cond.code yX6_ofPlay cX6_ofPlay 3 (some .int) ∈ jj_gW := List.mem_filter.mpr ⟨by decide +kernel, rfl⟩
theorem jw_m_RL_81 : Cond.methodLink RL 81 yX6_ofPlay ∈ jj_gW := List.mem_filter.mpr ⟨by decide +kernel, rfl⟩
theorem jw_s_X6_ofPlay : Cond.instanceMethod yX6_ofPlay ∈ jj_gW := List.mem_filter.mpr ⟨by decide +kernel, rfl⟩
theorem jw_e_X6_ofPlay : Cond.selects yX6_ofPlay.cls yX6_ofPlay yX6_ofPlay ∈ jj_gW := List.mem_filter.mpr ⟨by decide +kernel, rfl⟩
theorem jw_y_X6_ofPlay : jj_yn yX6_ofPlay 2 := ⟨by decide +kernel, by decide +kernel, by decide +kernel⟩
theorem jw_m_RL_84 : Cond.methodLink RL 84 yX6_ofTrack ∈ jj_gW := List.mem_filter.mpr ⟨by decide +kernel, rfl⟩
theorem jw_aI : Cond.arrayClass .int ∈ jj_gW := List.mem_filter.mpr ⟨by decide +kernel, rfl⟩
theorem jw_aZ : Cond.arrayClass .boolean ∈ jj_gW := List.mem_filter.mpr ⟨by decide +kernel, rfl⟩
theorem jw_ao : Cond.arrayOver (.array .int) ∈ jj_nW := List.mem_filter.mpr ⟨by decide +kernel, rfl⟩
def jj_lay0 : jj_Lay := [(6, 11, [some (some 1), some (some 8), some (some 20), some (some 35), some (some 42), some (some 70), some (some 81), some (some 92), some (some 103), none, none]), (2, 8, [none, some (some 2), some (some 3), none, some (some 4), some (some 5), some (some 6), some (some 7)]), (20, 14, []), (20, 14, []), (20, 30, []), (20, 30, []), (20, 30, []), (20, 30, []), (5, 1, [some (some 9)]), (22, 10, [some (some 10), some (some 11), some (some 12), some (some 13), some (some 14), some (some 15), some (some 16), some (some 17), some (some 18), some (some 19)]), (20, 5, []), (20, 5, []), (20, 5, []), (20, 5, []), (20, 5, []), (20, 5, []), (20, 5, []), (20, 5, []), (20, 5, []), (20, 5, []), (0, 7, [none, some (some 21), some (some 22), some (some 23), some (some 24), some (some 25), some (some 26)]), (20, 8, []), (20, 8, []), (21, 8, []), (20, 8, []), (20, 8, []), (22, 8, [some (some 27), some (some 28), some (some 29), some (some 30), some (some 31), some (some 32), some (some 33), some (some 34)]), (20, 3, []), (20, 3, []), (20, 3, []), (20, 3, []), (20, 3, []), (20, 3, []), (20, 3, []), (20, 3, []), (4, 7, [none, some (some 36), some (some 37), some (some 38), some (some 39), some (some 40), some (some 41)]), (20, 130, []), (20, 130, []), (20, 130, []), (20, 130, []), (20, 130, []), (20, 130, []), (3, 3, [some (some 43), some (some 52), some (some 61)]), (22, 8, [some (some 44), some (some 45), some (some 46), some (some 47), some (some 48), some (some 49), some (some 50), some (some 51)]), (20, 10, []), (20, 10, []), (20, 10, []), (20, 10, []), (20, 10, []), (20, 10, []), (20, 10, []), (20, 10, []), (22, 8, [some (some 53), some (some 54), some (some 55), some (some 56), some (some 57), some (some 58), some (some 59), some (some 60)]), (20, 10, []), (20, 10, []), (20, 10, []), (20, 10, []), (20, 10, []), (20, 10, []), (20, 10, []), (20, 10, []), (22, 8, [some (some 62), some (some 63), some (some 64), some (some 65), some (some 66), some (some 67), some (some 68), some (some 69)]), (20, 10, []), (20, 10, []), (20, 10, []), (20, 10, []), (20, 10, []), (20, 10, []), (20, 10, []), (20, 10, []), (1, 12, [none, none, some (some 71), some (some 72), some (some 73), some (some 74), some (some 75), some (some 76), some (some 77), some (some 78), some (some 79), some (some 80)]), (20, 4, []), (20, 10, []), (20, 10, []), (20, 5, []), (20, 5, []), (20, 5, []), (20, 5, []), (20, 10, []), (20, 10, []), (20, 10, []), (1, 12, [none, none, some (some 82), some (some 83), some (some 84), some (some 85), some (some 86), some (some 87), some (some 88), some (some 89), some (some 90), some (some 91)]), (20, 4, []), (20, 10, []), (20, 10, []), (20, 5, []), (20, 5, []), (20, 5, []), (20, 5, []), (20, 10, []), (20, 10, []), (20, 10, []), (1, 12, [none, none, some (some 93), some (some 94), some (some 95), some (some 96), some (some 97), some (some 98), some (some 99), some (some 100), some (some 101), some (some 102)]), (20, 4, []), (20, 10, []), (20, 10, []), (20, 5, []), (20, 5, []), (20, 5, []), (20, 5, []), (20, 10, []), (20, 10, []), (20, 10, []), (20, 10, [])]
/-- the first 104 cells are a PlayPool's -/
def jj_pp (lay : jj_Lay) : Prop := ∀ k, k < 104 → lay[k]? = jj_lay0[k]?
theorem jl_0 {lay : jj_Lay} (h : jj_pp lay) : lay[0]? = some (6, 11, [some (some 1), some (some 8), some (some 20), some (some 35), some (some 42), some (some 70), some (some 81), some (some 92), some (some 103), none, none]) := (h 0 (Nat.le_of_ble_eq_true rfl)).trans rfl
theorem jl_1 {lay : jj_Lay} (h : jj_pp lay) : lay[1]? = some (2, 8, [none, some (some 2), some (some 3), none, some (some 4), some (some 5), some (some 6), some (some 7)]) := (h 1 (Nat.le_of_ble_eq_true rfl)).trans rfl
theorem jl_2 {lay : jj_Lay} (h : jj_pp lay) : lay[2]? = some (20, 14, []) := (h 2 (Nat.le_of_ble_eq_true rfl)).trans rfl
theorem jl_3 {lay : jj_Lay} (h : jj_pp lay) : lay[3]? = some (20, 14, []) := (h 3 (Nat.le_of_ble_eq_true rfl)).trans rfl
theorem jl_4 {lay : jj_Lay} (h : jj_pp lay) : lay[4]? = some (20, 30, []) := (h 4 (Nat.le_of_ble_eq_true rfl)).trans rfl
theorem jl_5 {lay : jj_Lay} (h : jj_pp lay) : lay[5]? = some (20, 30, []) := (h 5 (Nat.le_of_ble_eq_true rfl)).trans rfl
theorem jl_6 {lay : jj_Lay} (h : jj_pp lay) : lay[6]? = some (20, 30, []) := (h 6 (Nat.le_of_ble_eq_true rfl)).trans rfl
theorem jl_7 {lay : jj_Lay} (h : jj_pp lay) : lay[7]? = some (20, 30, []) := (h 7 (Nat.le_of_ble_eq_true rfl)).trans rfl
theorem jl_8 {lay : jj_Lay} (h : jj_pp lay) : lay[8]? = some (5, 1, [some (some 9)]) := (h 8 (Nat.le_of_ble_eq_true rfl)).trans rfl
theorem jl_9 {lay : jj_Lay} (h : jj_pp lay) : lay[9]? = some (22, 10, [some (some 10), some (some 11), some (some 12), some (some 13), some (some 14), some (some 15), some (some 16), some (some 17), some (some 18), some (some 19)]) := (h 9 (Nat.le_of_ble_eq_true rfl)).trans rfl
theorem jl_10 {lay : jj_Lay} (h : jj_pp lay) : lay[10]? = some (20, 5, []) := (h 10 (Nat.le_of_ble_eq_true rfl)).trans rfl
theorem jl_11 {lay : jj_Lay} (h : jj_pp lay) : lay[11]? = some (20, 5, []) := (h 11 (Nat.le_of_ble_eq_true rfl)).trans rfl
theorem jl_12 {lay : jj_Lay} (h : jj_pp lay) : lay[12]? = some (20, 5, []) := (h 12 (Nat.le_of_ble_eq_true rfl)).trans rfl
theorem jl_13 {lay : jj_Lay} (h : jj_pp lay) : lay[13]? = some (20, 5, []) := (h 13 (Nat.le_of_ble_eq_true rfl)).trans rfl
theorem jl_14 {lay : jj_Lay} (h : jj_pp lay) : lay[14]? = some (20, 5, []) := (h 14 (Nat.le_of_ble_eq_true rfl)).trans rfl
theorem jl_15 {lay : jj_Lay} (h : jj_pp lay) : lay[15]? = some (20, 5, []) := (h 15 (Nat.le_of_ble_eq_true rfl)).trans rfl
theorem jl_16 {lay : jj_Lay} (h : jj_pp lay) : lay[16]? = some (20, 5, []) := (h 16 (Nat.le_of_ble_eq_true rfl)).trans rfl
theorem jl_17 {lay : jj_Lay} (h : jj_pp lay) : lay[17]? = some (20, 5, []) := (h 17 (Nat.le_of_ble_eq_true rfl)).trans rfl
theorem jl_18 {lay : jj_Lay} (h : jj_pp lay) : lay[18]? = some (20, 5, []) := (h 18 (Nat.le_of_ble_eq_true rfl)).trans rfl
theorem jl_19 {lay : jj_Lay} (h : jj_pp lay) : lay[19]? = some (20, 5, []) := (h 19 (Nat.le_of_ble_eq_true rfl)).trans rfl
theorem jl_20 {lay : jj_Lay} (h : jj_pp lay) : lay[20]? = some (0, 7, [none, some (some 21), some (some 22), some (some 23), some (some 24), some (some 25), some (some 26)]) := (h 20 (Nat.le_of_ble_eq_true rfl)).trans rfl
theorem jl_21 {lay : jj_Lay} (h : jj_pp lay) : lay[21]? = some (20, 8, []) := (h 21 (Nat.le_of_ble_eq_true rfl)).trans rfl
theorem jl_22 {lay : jj_Lay} (h : jj_pp lay) : lay[22]? = some (20, 8, []) := (h 22 (Nat.le_of_ble_eq_true rfl)).trans rfl
theorem jl_23 {lay : jj_Lay} (h : jj_pp lay) : lay[23]? = some (21, 8, []) := (h 23 (Nat.le_of_ble_eq_true rfl)).trans rfl
theorem jl_24 {lay : jj_Lay} (h : jj_pp lay) : lay[24]? = some (20, 8, []) := (h 24 (Nat.le_of_ble_eq_true rfl)).trans rfl
theorem jl_25 {lay : jj_Lay} (h : jj_pp lay) : lay[25]? = some (20, 8, []) := (h 25 (Nat.le_of_ble_eq_true rfl)).trans rfl
theorem jl_26 {lay : jj_Lay} (h : jj_pp lay) : lay[26]? = some (22, 8, [some (some 27), some (some 28), some (some 29), some (some 30), some (some 31), some (some 32), some (some 33), some (some 34)]) := (h 26 (Nat.le_of_ble_eq_true rfl)).trans rfl
theorem jl_27 {lay : jj_Lay} (h : jj_pp lay) : lay[27]? = some (20, 3, []) := (h 27 (Nat.le_of_ble_eq_true rfl)).trans rfl
theorem jl_28 {lay : jj_Lay} (h : jj_pp lay) : lay[28]? = some (20, 3, []) := (h 28 (Nat.le_of_ble_eq_true rfl)).trans rfl
theorem jl_29 {lay : jj_Lay} (h : jj_pp lay) : lay[29]? = some (20, 3, []) := (h 29 (Nat.le_of_ble_eq_true rfl)).trans rfl
theorem jl_30 {lay : jj_Lay} (h : jj_pp lay) : lay[30]? = some (20, 3, []) := (h 30 (Nat.le_of_ble_eq_true rfl)).trans rfl
theorem jl_31 {lay : jj_Lay} (h : jj_pp lay) : lay[31]? = some (20, 3, []) := (h 31 (Nat.le_of_ble_eq_true rfl)).trans rfl
theorem jl_32 {lay : jj_Lay} (h : jj_pp lay) : lay[32]? = some (20, 3, []) := (h 32 (Nat.le_of_ble_eq_true rfl)).trans rfl
theorem jl_33 {lay : jj_Lay} (h : jj_pp lay) : lay[33]? = some (20, 3, []) := (h 33 (Nat.le_of_ble_eq_true rfl)).trans rfl
theorem jl_34 {lay : jj_Lay} (h : jj_pp lay) : lay[34]? = some (20, 3, []) := (h 34 (Nat.le_of_ble_eq_true rfl)).trans rfl
theorem jl_35 {lay : jj_Lay} (h : jj_pp lay) : lay[35]? = some (4, 7, [none, some (some 36), some (some 37), some (some 38), some (some 39), some (some 40), some (some 41)]) := (h 35 (Nat.le_of_ble_eq_true rfl)).trans rfl
theorem jl_36 {lay : jj_Lay} (h : jj_pp lay) : lay[36]? = some (20, 130, []) := (h 36 (Nat.le_of_ble_eq_true rfl)).trans rfl
theorem jl_37 {lay : jj_Lay} (h : jj_pp lay) : lay[37]? = some (20, 130, []) := (h 37 (Nat.le_of_ble_eq_true rfl)).trans rfl
theorem jl_38 {lay : jj_Lay} (h : jj_pp lay) : lay[38]? = some (20, 130, []) := (h 38 (Nat.le_of_ble_eq_true rfl)).trans rfl
theorem jl_39 {lay : jj_Lay} (h : jj_pp lay) : lay[39]? = some (20, 130, []) := (h 39 (Nat.le_of_ble_eq_true rfl)).trans rfl
theorem jl_40 {lay : jj_Lay} (h : jj_pp lay) : lay[40]? = some (20, 130, []) := (h 40 (Nat.le_of_ble_eq_true rfl)).trans rfl
theorem jl_41 {lay : jj_Lay} (h : jj_pp lay) : lay[41]? = some (20, 130, []) := (h 41 (Nat.le_of_ble_eq_true rfl)).trans rfl
theorem jl_42 {lay : jj_Lay} (h : jj_pp lay) : lay[42]? = some (3, 3, [some (some 43), some (some 52), some (some 61)]) := (h 42 (Nat.le_of_ble_eq_true rfl)).trans rfl
theorem jl_43 {lay : jj_Lay} (h : jj_pp lay) : lay[43]? = some (22, 8, [some (some 44), some (some 45), some (some 46), some (some 47), some (some 48), some (some 49), some (some 50), some (some 51)]) := (h 43 (Nat.le_of_ble_eq_true rfl)).trans rfl
theorem jl_44 {lay : jj_Lay} (h : jj_pp lay) : lay[44]? = some (20, 10, []) := (h 44 (Nat.le_of_ble_eq_true rfl)).trans rfl
theorem jl_45 {lay : jj_Lay} (h : jj_pp lay) : lay[45]? = some (20, 10, []) := (h 45 (Nat.le_of_ble_eq_true rfl)).trans rfl
theorem jl_46 {lay : jj_Lay} (h : jj_pp lay) : lay[46]? = some (20, 10, []) := (h 46 (Nat.le_of_ble_eq_true rfl)).trans rfl
theorem jl_47 {lay : jj_Lay} (h : jj_pp lay) : lay[47]? = some (20, 10, []) := (h 47 (Nat.le_of_ble_eq_true rfl)).trans rfl
theorem jl_48 {lay : jj_Lay} (h : jj_pp lay) : lay[48]? = some (20, 10, []) := (h 48 (Nat.le_of_ble_eq_true rfl)).trans rfl
theorem jl_49 {lay : jj_Lay} (h : jj_pp lay) : lay[49]? = some (20, 10, []) := (h 49 (Nat.le_of_ble_eq_true rfl)).trans rfl
theorem jl_50 {lay : jj_Lay} (h : jj_pp lay) : lay[50]? = some (20, 10, []) := (h 50 (Nat.le_of_ble_eq_true rfl)).trans rfl
theorem jl_51 {lay : jj_Lay} (h : jj_pp lay) : lay[51]? = some (20, 10, []) := (h 51 (Nat.le_of_ble_eq_true rfl)).trans rfl
theorem jl_52 {lay : jj_Lay} (h : jj_pp lay) : lay[52]? = some (22, 8, [some (some 53), some (some 54), some (some 55), some (some 56), some (some 57), some (some 58), some (some 59), some (some 60)]) := (h 52 (Nat.le_of_ble_eq_true rfl)).trans rfl
theorem jl_53 {lay : jj_Lay} (h : jj_pp lay) : lay[53]? = some (20, 10, []) := (h 53 (Nat.le_of_ble_eq_true rfl)).trans rfl
theorem jl_54 {lay : jj_Lay} (h : jj_pp lay) : lay[54]? = some (20, 10, []) := (h 54 (Nat.le_of_ble_eq_true rfl)).trans rfl
theorem jl_55 {lay : jj_Lay} (h : jj_pp lay) : lay[55]? = some (20, 10, []) := (h 55 (Nat.le_of_ble_eq_true rfl)).trans rfl
theorem jl_56 {lay : jj_Lay} (h : jj_pp lay) : lay[56]? = some (20, 10, []) := (h 56 (Nat.le_of_ble_eq_true rfl)).trans rfl
theorem jl_57 {lay : jj_Lay} (h : jj_pp lay) : lay[57]? = some (20, 10, []) := (h 57 (Nat.le_of_ble_eq_true rfl)).trans rfl
theorem jl_58 {lay : jj_Lay} (h : jj_pp lay) : lay[58]? = some (20, 10, []) := (h 58 (Nat.le_of_ble_eq_true rfl)).trans rfl
theorem jl_59 {lay : jj_Lay} (h : jj_pp lay) : lay[59]? = some (20, 10, []) := (h 59 (Nat.le_of_ble_eq_true rfl)).trans rfl
theorem jl_60 {lay : jj_Lay} (h : jj_pp lay) : lay[60]? = some (20, 10, []) := (h 60 (Nat.le_of_ble_eq_true rfl)).trans rfl
theorem jl_61 {lay : jj_Lay} (h : jj_pp lay) : lay[61]? = some (22, 8, [some (some 62), some (some 63), some (some 64), some (some 65), some (some 66), some (some 67), some (some 68), some (some 69)]) := (h 61 (Nat.le_of_ble_eq_true rfl)).trans rfl
theorem jl_62 {lay : jj_Lay} (h : jj_pp lay) : lay[62]? = some (20, 10, []) := (h 62 (Nat.le_of_ble_eq_true rfl)).trans rfl
theorem jl_63 {lay : jj_Lay} (h : jj_pp lay) : lay[63]? = some (20, 10, []) := (h 63 (Nat.le_of_ble_eq_true rfl)).trans rfl
theorem jl_64 {lay : jj_Lay} (h : jj_pp lay) : lay[64]? = some (20, 10, []) := (h 64 (Nat.le_of_ble_eq_true rfl)).trans rfl
theorem jl_65 {lay : jj_Lay} (h : jj_pp lay) : lay[65]? = some (20, 10, []) := (h 65 (Nat.le_of_ble_eq_true rfl)).trans rfl
theorem jl_66 {lay : jj_Lay} (h : jj_pp lay) : lay[66]? = some (20, 10, []) := (h 66 (Nat.le_of_ble_eq_true rfl)).trans rfl
theorem jl_67 {lay : jj_Lay} (h : jj_pp lay) : lay[67]? = some (20, 10, []) := (h 67 (Nat.le_of_ble_eq_true rfl)).trans rfl
theorem jl_68 {lay : jj_Lay} (h : jj_pp lay) : lay[68]? = some (20, 10, []) := (h 68 (Nat.le_of_ble_eq_true rfl)).trans rfl
theorem jl_69 {lay : jj_Lay} (h : jj_pp lay) : lay[69]? = some (20, 10, []) := (h 69 (Nat.le_of_ble_eq_true rfl)).trans rfl
theorem jl_70 {lay : jj_Lay} (h : jj_pp lay) : lay[70]? = some (1, 12, [none, none, some (some 71), some (some 72), some (some 73), some (some 74), some (some 75), some (some 76), some (some 77), some (some 78), some (some 79), some (some 80)]) := (h 70 (Nat.le_of_ble_eq_true rfl)).trans rfl
theorem jl_71 {lay : jj_Lay} (h : jj_pp lay) : lay[71]? = some (20, 4, []) := (h 71 (Nat.le_of_ble_eq_true rfl)).trans rfl
theorem jl_72 {lay : jj_Lay} (h : jj_pp lay) : lay[72]? = some (20, 10, []) := (h 72 (Nat.le_of_ble_eq_true rfl)).trans rfl
theorem jl_73 {lay : jj_Lay} (h : jj_pp lay) : lay[73]? = some (20, 10, []) := (h 73 (Nat.le_of_ble_eq_true rfl)).trans rfl
theorem jl_74 {lay : jj_Lay} (h : jj_pp lay) : lay[74]? = some (20, 5, []) := (h 74 (Nat.le_of_ble_eq_true rfl)).trans rfl
theorem jl_75 {lay : jj_Lay} (h : jj_pp lay) : lay[75]? = some (20, 5, []) := (h 75 (Nat.le_of_ble_eq_true rfl)).trans rfl
theorem jl_76 {lay : jj_Lay} (h : jj_pp lay) : lay[76]? = some (20, 5, []) := (h 76 (Nat.le_of_ble_eq_true rfl)).trans rfl
theorem jl_77 {lay : jj_Lay} (h : jj_pp lay) : lay[77]? = some (20, 5, []) := (h 77 (Nat.le_of_ble_eq_true rfl)).trans rfl
theorem jl_78 {lay : jj_Lay} (h : jj_pp lay) : lay[78]? = some (20, 10, []) := (h 78 (Nat.le_of_ble_eq_true rfl)).trans rfl
theorem jl_79 {lay : jj_Lay} (h : jj_pp lay) : lay[79]? = some (20, 10, []) := (h 79 (Nat.le_of_ble_eq_true rfl)).trans rfl
theorem jl_80 {lay : jj_Lay} (h : jj_pp lay) : lay[80]? = some (20, 10, []) := (h 80 (Nat.le_of_ble_eq_true rfl)).trans rfl
theorem jl_81 {lay : jj_Lay} (h : jj_pp lay) : lay[81]? = some (1, 12, [none, none, some (some 82), some (some 83), some (some 84), some (some 85), some (some 86), some (some 87), some (some 88), some (some 89), some (some 90), some (some 91)]) := (h 81 (Nat.le_of_ble_eq_true rfl)).trans rfl
theorem jl_82 {lay : jj_Lay} (h : jj_pp lay) : lay[82]? = some (20, 4, []) := (h 82 (Nat.le_of_ble_eq_true rfl)).trans rfl
theorem jl_83 {lay : jj_Lay} (h : jj_pp lay) : lay[83]? = some (20, 10, []) := (h 83 (Nat.le_of_ble_eq_true rfl)).trans rfl
theorem jl_84 {lay : jj_Lay} (h : jj_pp lay) : lay[84]? = some (20, 10, []) := (h 84 (Nat.le_of_ble_eq_true rfl)).trans rfl
theorem jl_85 {lay : jj_Lay} (h : jj_pp lay) : lay[85]? = some (20, 5, []) := (h 85 (Nat.le_of_ble_eq_true rfl)).trans rfl
theorem jl_86 {lay : jj_Lay} (h : jj_pp lay) : lay[86]? = some (20, 5, []) := (h 86 (Nat.le_of_ble_eq_true rfl)).trans rfl
theorem jl_87 {lay : jj_Lay} (h : jj_pp lay) : lay[87]? = some (20, 5, []) := (h 87 (Nat.le_of_ble_eq_true rfl)).trans rfl
theorem jl_88 {lay : jj_Lay} (h : jj_pp lay) : lay[88]? = some (20, 5, []) := (h 88 (Nat.le_of_ble_eq_true rfl)).trans rfl
theorem jl_89 {lay : jj_Lay} (h : jj_pp lay) : lay[89]? = some (20, 10, []) := (h 89 (Nat.le_of_ble_eq_true rfl)).trans rfl
theorem jl_90 {lay : jj_Lay} (h : jj_pp lay) : lay[90]? = some (20, 10, []) := (h 90 (Nat.le_of_ble_eq_true rfl)).trans rfl
theorem jl_91 {lay : jj_Lay} (h : jj_pp lay) : lay[91]? = some (20, 10, []) := (h 91 (Nat.le_of_ble_eq_true rfl)).trans rfl
theorem jl_92 {lay : jj_Lay} (h : jj_pp lay) : lay[92]? = some (1, 12, [none, none, some (some 93), some (some 94), some (some 95), some (some 96), some (some 97), some (some 98), some (some 99), some (some 100), some (some 101), some (some 102)]) := (h 92 (Nat.le_of_ble_eq_true rfl)).trans rfl
theorem jl_93 {lay : jj_Lay} (h : jj_pp lay) : lay[93]? = some (20, 4, []) := (h 93 (Nat.le_of_ble_eq_true rfl)).trans rfl
theorem jl_94 {lay : jj_Lay} (h : jj_pp lay) : lay[94]? = some (20, 10, []) := (h 94 (Nat.le_of_ble_eq_true rfl)).trans rfl
theorem jl_95 {lay : jj_Lay} (h : jj_pp lay) : lay[95]? = some (20, 10, []) := (h 95 (Nat.le_of_ble_eq_true rfl)).trans rfl
theorem jl_96 {lay : jj_Lay} (h : jj_pp lay) : lay[96]? = some (20, 5, []) := (h 96 (Nat.le_of_ble_eq_true rfl)).trans rfl
theorem jl_97 {lay : jj_Lay} (h : jj_pp lay) : lay[97]? = some (20, 5, []) := (h 97 (Nat.le_of_ble_eq_true rfl)).trans rfl
theorem jl_98 {lay : jj_Lay} (h : jj_pp lay) : lay[98]? = some (20, 5, []) := (h 98 (Nat.le_of_ble_eq_true rfl)).trans rfl
theorem jl_99 {lay : jj_Lay} (h : jj_pp lay) : lay[99]? = some (20, 5, []) := (h 99 (Nat.le_of_ble_eq_true rfl)).trans rfl
theorem jl_100 {lay : jj_Lay} (h : jj_pp lay) : lay[100]? = some (20, 10, []) := (h 100 (Nat.le_of_ble_eq_true rfl)).trans rfl
theorem jl_101 {lay : jj_Lay} (h : jj_pp lay) : lay[101]? = some (20, 10, []) := (h 101 (Nat.le_of_ble_eq_true rfl)).trans rfl
theorem jl_102 {lay : jj_Lay} (h : jj_pp lay) : lay[102]? = some (20, 10, []) := (h 102 (Nat.le_of_ble_eq_true rfl)).trans rfl
theorem jl_103 {lay : jj_Lay} (h : jj_pp lay) : lay[103]? = some (20, 10, []) := (h 103 (Nat.le_of_ble_eq_true rfl)).trans rfl
end
section
/-! THE SMALL METHODS: sums, fills, copies, places; what a method needs. -/
set_option maxRecDepth 100000 in
set_option maxHeartbeats 4000000 in
theorem ct_X6_monthOf {lay : jj_Lay} {S : jj_Mem} {m : Nat} (hm : m < 2 ^ 31) : jj_CT yX6_monthOf (.code yX6_monthOf cX6_monthOf 1 (some .int)) none 0 0 [.int (nI m)] lay S (some (.int (nI (m / 14400)))) lay S := by
  refine jj_mkI RX6 .int (by decide) rfl (L := [some (.int (nI m))]) rfl rfl rfl ⟨5, [some (.int (nI m))], dX6_monthOf_5, ?_⟩
  refine js_iload_n 0 rfl dX6_monthOf_0 rfl ?_
  refine js_sipush (v := nI 14400) dX6_monthOf_1 (by decide) ?_
  refine jn_idiv (by omega) (by decide) (by omega) dX6_monthOf_4 ?_
  exact jj_refl
set_option maxRecDepth 100000 in
set_option maxHeartbeats 4000000 in
theorem ct_X6_dayOf {lay : jj_Lay} {S : jj_Mem} {m : Nat} (hm : m < 2 ^ 31) : jj_CT yX6_dayOf (.code yX6_dayOf cX6_dayOf 1 (some .int)) none 0 0 [.int (nI m)] lay S (some (.int (nI (m / 1440)))) lay S := by
  refine jj_mkI RX6 .int (by decide) rfl (L := [some (.int (nI m))]) rfl rfl rfl ⟨5, [some (.int (nI m))], dX6_dayOf_5, ?_⟩
  refine js_iload_n 0 rfl dX6_dayOf_0 rfl ?_
  refine js_sipush (v := nI 1440) dX6_dayOf_1 (by decide) ?_
  refine jn_idiv (by omega) (by decide) (by omega) dX6_dayOf_4 ?_
  exact jj_refl
set_option maxRecDepth 100000 in
set_option maxHeartbeats 4000000 in
theorem lp_X6_sumOf {lay : jj_Lay} {S : jj_Mem} {p n : Nat} {rs : List (Option (Option Nat))} {f : Nat → Nat} (hp : lay[p]? = some (20, n, rs)) (hn : n ≤ 200) (hf : ∀ j, j < n → S p j = some (nI (f j))) : ∀ (k e : Nat), e + k = n → jj_RR cX6_sumOf 6 RX6 yX6_sumOf.name none 0 0 lay.length (jj_sl lay) (10, [some (.ref p), some (.int (nI (jj_sm f e))), some (.ref p), some (.int (nI n)), some (.int (nI e)), none], [], lay, S) (some (.int (nI (jj_sm f n)))) .ireturn lay S := by
  intro k
  induction k with
  | zero =>
    intro e he
    refine ⟨34, [some (.ref p), some (.int (nI (jj_sm f e))), some (.ref p), some (.int (nI n)), some (.int (nI e)), none], dX6_sumOf_34, ?_⟩
    have he : e = n := by omega
    subst he
    refine js_iload dX6_sumOf_10 rfl ?_
    refine js_iload_n 3 rfl dX6_sumOf_12 rfl ?_
    refine jn_icmp_ge 33 (by omega) (by omega) dX6_sumOf_13 (by decide) (fun _ => ?_) (fun h9 => absurd h9 (by omega))
    refine js_iload_n 1 rfl dX6_sumOf_33 rfl ?_
    exact jj_refl
  | succ k ih =>
    intro e he
    refine jj_RRs ?_ (ih (e + 1) (by omega))
    refine js_iload dX6_sumOf_10 rfl ?_
    refine js_iload_n 3 rfl dX6_sumOf_12 rfl ?_
    refine jn_icmp_ge 33 (by omega) (by omega) dX6_sumOf_13 (by decide) (fun h9 => absurd h9 (by omega)) (fun _ => ?_)
    refine js_aload_n 2 rfl dX6_sumOf_16 rfl ?_
    refine js_iload dX6_sumOf_17 rfl ?_
    refine js_iald e rfl hp (by omega) (by omega) (hf e (by omega)) dX6_sumOf_19 ?_
    refine js_istore (L' := [some (.ref p), some (.int (nI (jj_sm f e))), some (.ref p), some (.int (nI n)), some (.int (nI e)), some (.int (nI (f e)))]) dX6_sumOf_20 rfl (Nat.le_of_ble_eq_true rfl) ?_
    refine js_iload_n 1 rfl dX6_sumOf_22 rfl ?_
    refine js_iload dX6_sumOf_23 rfl ?_
    refine jn_iadd dX6_sumOf_25 ?_
    refine js_istore_n (L' := [some (.ref p), some (.int (nI (((jj_sm f e)) + ((f e))))), some (.ref p), some (.int (nI n)), some (.int (nI e)), some (.int (nI (f e)))]) 1 rfl dX6_sumOf_26 rfl (Nat.le_of_ble_eq_true rfl) ?_
    refine js_iinc (v := nI (e + 1)) (L' := [some (.ref p), some (.int (nI (((jj_sm f e)) + ((f e))))), some (.ref p), some (.int (nI n)), some (.int (nI (e + 1))), some (.int (nI (f e)))]) dX6_sumOf_27 rfl (jj_inc _) rfl ?_
    refine js_goto 10 dX6_sumOf_30 (by decide) ?_
    refine js_fgL (L' := [some (.ref p), some (.int (nI (jj_sm f (e + 1)))), some (.ref p), some (.int (nI n)), some (.int (nI (e + 1))), none]) (by simp [jj_le, jj_sm]) ?_
    exact jj_refl
set_option maxRecDepth 100000 in
set_option maxHeartbeats 4000000 in
theorem ct_X6_sumOf {lay : jj_Lay} {S : jj_Mem} {p n : Nat} {rs : List (Option (Option Nat))} {f : Nat → Nat} (hp : lay[p]? = some (20, n, rs)) (hn : n ≤ 200) (hf : ∀ j, j < n → S p j = some (nI (f j))) : jj_CT yX6_sumOf (.code yX6_sumOf cX6_sumOf 6 (some .int)) none 0 0 [.ref p] lay S (some (.int (nI (jj_sm f n)))) lay S := by
  refine jj_mkI RX6 .int (by decide) rfl (L := [some (.ref p), none, none, none, none, none]) rfl rfl rfl ?_
  refine jj_RRs ?_ (lp_X6_sumOf (f := f) hp hn hf n 0 (by omega))
  refine js_iconst (v := nI 0) dX6_sumOf_0 (by decide) ?_
  refine js_istore_n (L' := [some (.ref p), some (.int (nI 0)), none, none, none, none]) 1 rfl dX6_sumOf_1 rfl (Nat.le_of_ble_eq_true rfl) ?_
  refine js_aload_n 0 rfl dX6_sumOf_2 rfl ?_
  refine js_astore_n (L' := [some (.ref p), some (.int (nI 0)), some (.ref p), none, none, none]) 2 rfl dX6_sumOf_3 rfl (Nat.le_of_ble_eq_true rfl) ?_
  refine js_aload_n 2 rfl dX6_sumOf_4 rfl ?_
  refine js_alen hp (Or.inl rfl) rfl dX6_sumOf_5 ?_
  refine js_istore_n (L' := [some (.ref p), some (.int (nI 0)), some (.ref p), some (.int (nI n)), none, none]) 3 rfl dX6_sumOf_6 rfl (Nat.le_of_ble_eq_true rfl) ?_
  refine js_iconst (v := nI 0) dX6_sumOf_7 (by decide) ?_
  refine js_istore (L' := [some (.ref p), some (.int (nI 0)), some (.ref p), some (.int (nI n)), some (.int (nI 0)), none]) dX6_sumOf_8 rfl (Nat.le_of_ble_eq_true rfl) ?_
  exact jj_refl
/-- a row of the memory anew, by numbers -/
def jj_row (S : jj_Mem) (p n : Nat) (h : Nat → Nat) : jj_Mem := fun q j => if q = p ∧ j < n then some (nI (h j)) else S q j
theorem jj_row_0 (S : jj_Mem) (p : Nat) (h : Nat → Nat) : jj_row S p 0 h = S := funext fun q => funext fun j => if_neg (fun w => by omega)
theorem jj_row_s (S : jj_Mem) (p n : Nat) (h : Nat → Nat) {x : Int32} (hx : x = nI (h n)) : jj_w (jj_row S p n h) p n x = jj_row S p (n + 1) h := by
  funext q j
  unfold jj_w jj_row
  by_cases c : q = p
  · by_cases d : j = n
    · rw [if_pos ⟨c, d⟩, if_pos ⟨c, by omega⟩, hx, d]
    · rw [if_neg (fun w => d w.2)]
      by_cases e : j < n
      · rw [if_pos ⟨c, e⟩, if_pos ⟨c, by omega⟩]
      · rw [if_neg (fun w => e w.2), if_neg (fun w => by omega)]
  · rw [if_neg (fun w => c w.1), if_neg (fun w => c w.1), if_neg (fun w => c w.1)]
theorem jj_row_at {S : jj_Mem} {p n : Nat} {h : Nat → Nat} {j : Nat} (hj : j < n) : jj_row S p n h p j = some (nI (h j)) := if_pos ⟨rfl, hj⟩
theorem jj_row_neP {S : jj_Mem} {p n : Nat} {h : Nat → Nat} {q j : Nat} (hq : q ≠ p) : jj_row S p n h q j = S q j := if_neg (fun w => hq w.1)
theorem jj_row_hi {S : jj_Mem} {p n : Nat} {h : Nat → Nat} {q j : Nat} (hj : n ≤ j) : jj_row S p n h q j = S q j := if_neg (fun w => by omega)
theorem jj_row_congr {S : jj_Mem} {p n : Nat} {h h' : Nat → Nat} (e : ∀ j, j < n → h j = h' j) : jj_row S p n h = jj_row S p n h' := by
  funext q j
  unfold jj_row
  by_cases c : q = p ∧ j < n
  · rw [if_pos c, if_pos c, e j c.2]
  · rw [if_neg c, if_neg c]
theorem jj_row_row {S : jj_Mem} {p n : Nat} {h h' : Nat → Nat} : jj_row (jj_row S p n h) p n h' = jj_row S p n h' := by
  funext q j
  unfold jj_row
  by_cases c : q = p ∧ j < n
  · rw [if_pos c, if_pos c]
  · rw [if_neg c, if_neg c, if_neg c]
theorem jj_cp_row {S : jj_Mem} {a b n : Nat} {h : Nat → Nat} (hh : ∀ j, j < n → S a j = some (nI (h j))) : jj_cp S a 0 b 0 n = jj_row S b n h := by
  funext q j
  unfold jj_cp jj_row
  by_cases c : q = b ∧ j < n
  · rw [if_pos ⟨c.1, by omega, by omega⟩, if_pos c, show 0 + (j - 0) = j by omega, hh j c.2]
  · rw [if_neg (fun w => c ⟨w.1, by omega⟩), if_neg c]
def jj_b (b : Bool) : Nat := if b then 1 else 0
theorem jw_minC : Cond.code Lib.Math.min.name Lib.Math.min.code 2 (some .int) ∈ jj_gW := List.mem_filter.mpr ⟨by decide +kernel, rfl⟩
theorem jw_minS : Cond.static Lib.Math.min.name ∈ jj_gW := List.mem_filter.mpr ⟨by decide +kernel, rfl⟩
theorem jw_minI : Cond.initialized "java/lang/Math" ∈ jj_gW := List.mem_filter.mpr ⟨by decide +kernel, rfl⟩
section JMIN
variable {cc : ByteArray} {nL : Nat} {own nm : String} {sx : jj_X} {fr lo nc sc : Nat} {cE : jj_C} {pc : Nat} {L : List (Option Value)} {st : List Value} {lay : jj_Lay} {S : jj_Mem}
theorem jn_min {ix a b : Nat} (ha : a < 2 ^ 31) (hb : b < 2 ^ 31) (hlk : Cond.methodLink own ix Lib.Math.min.name ∈ jj_gW) (hfr : 1 ≤ fr) (hlo : (st.map fun v => v.category).sum + 13 ≤ lo) (hnc : lay.length ≤ nc) (hsc : jj_sl lay ≤ sc) (hdg : decode cc pc = .ok (.invokestatic ix, 3)) (k : jj_R cc nL own nm sx fr lo nc sc (pc + 3, L, .int (nI (min a b)) :: st, lay, S) cE) : jj_R cc nL own nm sx fr lo nc sc (pc, L, .int (nI b) :: .int (nI a) :: st, lay, S) cE := by
  intro p l e R s m args below meth cd D g A al0 n0 s0 Q hC hf hl hc hs hE
  have hk := k p l e R s m args below meth cd D g A al0 n0 s0 Q hC hf hl hc hs hE
  intro al t H locs ls cells slots h1 h2 hR
  obtain ⟨hx, hb9, hml, hown, hnm, hts, hN, hK, hA, hX⟩ := hC
  obtain ⟨e1, e2, e3, e4, e5, e6, e7, e8, e9⟩ := hR
  have hcat : ((st.map (jj_v al)).map fun v => v.category).sum = (st.map fun v => v.category).sum := by
    rw [List.map_map]
    exact congrArg List.sum (List.map_congr_left fun v _ => jj_v_cat al v)
  have z1 : n0 + cells = lay.length := h1
  have z2 : s0 + slots = jj_sl lay := h2
  refine va_mmin hx hb9 (by rw [hml]; exact e5.1.symm) hown (hts _ hlk) (hts _ jw_minS) (hts _ jw_minI) (hts _ jw_minC) (by omega) (by rw [hcat]; omega) (by omega) (by omega) hdg ?_
  have e : (if nI b < nI a then nI b else nI a) = nI (min a b) := by
    by_cases c : b < a
    · rw [if_pos ((nI_ltI hb ha).mpr c), show min a b = b by omega]
    · rw [if_neg (fun w => c ((nI_ltI hb ha).mp w)), show min a b = a by omega]
  rw [e]
  exact hk al t H locs ls cells slots h1 h2 ⟨e1, e2, e3, e4, e5, e6, jj_ws_cons trivial (jj_ws_tl (jj_ws_tl e7)), e8, e9⟩
end JMIN
set_option maxRecDepth 100000 in
set_option maxHeartbeats 4000000 in
theorem lp_J7_fill_53178 {lay : jj_Lay} {S : jj_Mem} {p n c : Nat} {rs : List (Option (Option Nat))} (hp : lay[p]? = some (20, n, rs)) (hn : n ≤ 200) : ∀ (k e : Nat), e + k = n → jj_RR cJ7_fill_53178 4 RJ7 yJ7_fill_53178.name none 0 0 lay.length (jj_sl lay) (5, [some (.ref p), some (.int (nI c)), some (.int (nI e)), some (.int (nI n))], [], lay, (jj_row S p e (fun _ => c))) none .return_ lay (jj_row S p n (fun _ => c)) := by
  intro k
  induction k with
  | zero =>
    intro e he
    refine ⟨20, [some (.ref p), some (.int (nI c)), some (.int (nI e)), some (.int (nI n))], dJ7_fill_53178_20, ?_⟩
    have he : e = n := by omega
    subst he
    refine js_iload_n 2 rfl dJ7_fill_53178_5 rfl ?_
    refine js_iload_n 3 rfl dJ7_fill_53178_6 rfl ?_
    refine jn_icmp_ge 20 (by omega) (by omega) dJ7_fill_53178_7 (by decide) (fun _ => ?_) (fun h9 => absurd h9 (by omega))
    exact jj_refl
  | succ k ih =>
    intro e he
    refine jj_RRs ?_ (ih (e + 1) (by omega))
    refine js_iload_n 2 rfl dJ7_fill_53178_5 rfl ?_
    refine js_iload_n 3 rfl dJ7_fill_53178_6 rfl ?_
    refine jn_icmp_ge 20 (by omega) (by omega) dJ7_fill_53178_7 (by decide) (fun h9 => absurd h9 (by omega)) (fun _ => ?_)
    refine js_aload_n 0 rfl dJ7_fill_53178_10 rfl ?_
    refine js_iload_n 2 rfl dJ7_fill_53178_11 rfl ?_
    refine js_iload_n 1 rfl dJ7_fill_53178_12 rfl ?_
    refine js_iast e rfl hp (by omega) (by omega) dJ7_fill_53178_13 ?_
    rw [jj_row_s S p e (fun _ => c) rfl]
    refine js_iinc (v := nI (e + 1)) (L' := [some (.ref p), some (.int (nI c)), some (.int (nI (e + 1))), some (.int (nI n))]) dJ7_fill_53178_14 rfl (jj_inc _) rfl ?_
    refine js_goto 5 dJ7_fill_53178_17 (by decide) ?_
    exact jj_refl
set_option maxRecDepth 100000 in
set_option maxHeartbeats 4000000 in
theorem ct_J7_fill_53178 {lay : jj_Lay} {S : jj_Mem} {p n c : Nat} {rs : List (Option (Option Nat))} (hp : lay[p]? = some (20, n, rs)) (hn : n ≤ 200) : jj_CT yJ7_fill_53178 (.code yJ7_fill_53178 cJ7_fill_53178 4 none) none 0 0 [.ref p, .int (nI c)] lay S none lay (jj_row S p n (fun _ => c)) := by
  refine jj_mkV RJ7 (by decide) rfl (L := [some (.ref p), some (.int (nI c)), none, none]) rfl rfl ?_
  have h0 := lp_J7_fill_53178 (S := S) (c := c) hp hn n 0 (by omega)
  rw [jj_row_0] at h0
  refine jj_RRs ?_ h0
  refine js_iconst (v := nI 0) dJ7_fill_53178_0 (by decide) ?_
  refine js_istore_n (L' := [some (.ref p), some (.int (nI c)), some (.int (nI 0)), none]) 2 rfl dJ7_fill_53178_1 rfl (Nat.le_of_ble_eq_true rfl) ?_
  refine js_aload_n 0 rfl dJ7_fill_53178_2 rfl ?_
  refine js_alen hp (Or.inl rfl) rfl dJ7_fill_53178_3 ?_
  refine js_istore_n (L' := [some (.ref p), some (.int (nI c)), some (.int (nI 0)), some (.int (nI n))]) 3 rfl dJ7_fill_53178_4 rfl (Nat.le_of_ble_eq_true rfl) ?_
  exact jj_refl
set_option maxRecDepth 100000 in
set_option maxHeartbeats 4000000 in
theorem ct_X6_copyAll {lay : jj_Lay} {S : jj_Mem} {a b n : Nat} {ra rb : List (Option (Option Nat))} {h : Nat → Nat} (ha : lay[a]? = some (20, n, ra)) (hb : lay[b]? = some (20, n, rb)) (hn : n ≤ 200) (hh : ∀ j, j < n → S a j = some (nI (h j))) : jj_CT yX6_copyAll (.code yX6_copyAll cX6_copyAll 2 none) none 1 40 [.ref a, .ref b] lay S none lay (jj_row S b n h) := by
  rw [← jj_cp_row hh]
  refine jj_mkV RX6 (by decide) rfl (L := [some (.ref a), some (.ref b)]) rfl rfl ⟨14, [some (.ref a), some (.ref b)], dX6_copyAll_14, ?_⟩
  refine js_aload_n 0 rfl dX6_copyAll_0 rfl ?_
  refine js_iconst (v := nI 0) dX6_copyAll_1 (by decide) ?_
  refine js_aload_n 1 rfl dX6_copyAll_2 rfl ?_
  refine js_iconst (v := nI 0) dX6_copyAll_3 (by decide) ?_
  refine js_aload_n 0 rfl dX6_copyAll_4 rfl ?_
  refine js_alen ha (Or.inl rfl) rfl dX6_copyAll_5 ?_
  refine js_aload_n 1 rfl dX6_copyAll_6 rfl ?_
  refine js_alen hb (Or.inl rfl) rfl dX6_copyAll_7 ?_
  refine jn_min (by omega) (by omega) jw_m_RX6_449 (Nat.le_of_ble_eq_true rfl) (Nat.le_of_ble_eq_true rfl) (Nat.le_refl _) (Nat.le_refl _) dX6_copyAll_8 ?_
  refine js_top (y := nI n) (by rw [Nat.min_self]) ?_
  refine js_copyi 0 0 n rfl rfl rfl ha hb (by omega) (by omega) (by omega) (by omega) jw_m_RX6_454 jw_an jw_as jw_ai (Nat.le_of_ble_eq_true rfl) (Nat.le_of_ble_eq_true rfl) dX6_copyAll_11 ?_
  exact jj_refl
/-- n rows of ten behind p are 0 -/
def jj_cl (S : jj_Mem) (p n : Nat) : jj_Mem := fun q j => if p + 1 ≤ q ∧ q < p + 1 + n ∧ j < 10 then some (nI 0) else S q j
theorem jj_cl_0 (S : jj_Mem) (p : Nat) : jj_cl S p 0 = S := funext fun q => funext fun j => if_neg (fun w => by omega)
theorem jj_cl_s (S : jj_Mem) (p n : Nat) : jj_row (jj_cl S p n) (p + 1 + n) 10 (fun _ => 0) = jj_cl S p (n + 1) := by
  funext q j
  unfold jj_row jj_cl
  by_cases c : q = p + 1 + n ∧ j < 10
  · rw [if_pos c, if_pos (by omega)]
  · rw [if_neg c]
    by_cases d : p + 1 ≤ q ∧ q < p + 1 + n ∧ j < 10
    · rw [if_pos d, if_pos (by omega)]
    · rw [if_neg d, if_neg (by omega)]
set_option maxRecDepth 100000 in
set_option maxHeartbeats 4000000 in
theorem lp_X6_clearRows {lay : jj_Lay} {S : jj_Mem} {p n : Nat} {rs : List (Option (Option Nat))} (hp : lay[p]? = some (22, n, rs)) (hn : n ≤ 200) (hr : ∀ j, j < n → rs[j]? = some (some (some (p + 1 + j))) ∧ lay[p + 1 + j]? = some (20, 10, [])) : ∀ (k e : Nat), e + k = n → jj_RR cX6_clearRows 2 RX6 yX6_clearRows.name none 1 23 lay.length (jj_sl lay) (2, [some (.ref p), some (.int (nI e))], [], lay, (jj_cl S p e)) none .return_ lay (jj_cl S p n) := by
  intro k
  induction k with
  | zero =>
    intro e he
    refine ⟨21, [some (.ref p), some (.int (nI e))], dX6_clearRows_21, ?_⟩
    have he : e = n := by omega
    subst he
    refine js_iload_n 1 rfl dX6_clearRows_2 rfl ?_
    refine js_aload_n 0 rfl dX6_clearRows_3 rfl ?_
    refine js_alen hp (Or.inr (Or.inr rfl)) rfl dX6_clearRows_4 ?_
    refine jn_icmp_ge 21 (by omega) (by omega) dX6_clearRows_5 (by decide) (fun _ => ?_) (fun h9 => absurd h9 (by omega))
    exact jj_refl
  | succ k ih =>
    intro e he
    refine jj_RRs ?_ (ih (e + 1) (by omega))
    refine js_iload_n 1 rfl dX6_clearRows_2 rfl ?_
    refine js_aload_n 0 rfl dX6_clearRows_3 rfl ?_
    refine js_alen hp (Or.inr (Or.inr rfl)) rfl dX6_clearRows_4 ?_
    refine jn_icmp_ge 21 (by omega) (by omega) dX6_clearRows_5 (by decide) (fun h9 => absurd h9 (by omega)) (fun _ => ?_)
    refine js_aload_n 0 rfl dX6_clearRows_8 rfl ?_
    refine js_iload_n 1 rfl dX6_clearRows_9 rfl ?_
    refine js_aald e rfl hp (by omega) (by omega) (hr e (by omega)).1 dX6_clearRows_10 ?_
    refine js_iconst (v := nI 0) dX6_clearRows_11 (by decide) ?_
    refine js_callS (av := [.ref (p + 1 + e), .int (nI 0)]) (st := []) (ct_J7_fill_53178 (c := 0) (hr e (by omega)).2 (by omega)) (Or.inl rfl) jw_c_J7_fill_53178 jw_i_RJ7 jw_m_RX6_413 jw_s_J7_fill_53178 jw_y_J7_fill_53178 rfl ⟨(Nat.le_of_ble_eq_true rfl), (Nat.le_of_ble_eq_true rfl), (Nat.le_refl _), (Nat.le_refl _), (Nat.le_of_ble_eq_true rfl)⟩ dX6_clearRows_12 ?_
    refine js_st (st' := []) rfl ?_
    rw [jj_cl_s]
    refine js_iinc (v := nI (e + 1)) (L' := [some (.ref p), some (.int (nI (e + 1)))]) dX6_clearRows_15 rfl (jj_inc _) rfl ?_
    refine js_goto 2 dX6_clearRows_18 (by decide) ?_
    exact jj_refl
set_option maxRecDepth 100000 in
set_option maxHeartbeats 4000000 in
theorem ct_X6_clearRows {lay : jj_Lay} {S : jj_Mem} {p n : Nat} {rs : List (Option (Option Nat))} (hp : lay[p]? = some (22, n, rs)) (hn : n ≤ 200) (hr : ∀ j, j < n → rs[j]? = some (some (some (p + 1 + j))) ∧ lay[p + 1 + j]? = some (20, 10, [])) : jj_CT yX6_clearRows (.code yX6_clearRows cX6_clearRows 2 none) none 1 23 [.ref p] lay S none lay (jj_cl S p n) := by
  refine jj_mkV RX6 (by decide) rfl (L := [some (.ref p), none]) rfl rfl ?_
  have h0 := lp_X6_clearRows (S := S) hp hn hr n 0 (by omega)
  rw [jj_cl_0] at h0
  refine jj_RRs ?_ h0
  refine js_iconst (v := nI 0) dX6_clearRows_0 (by decide) ?_
  refine js_istore_n (L' := [some (.ref p), some (.int (nI 0))]) 1 rfl dX6_clearRows_1 rfl (Nat.le_of_ble_eq_true rfl) ?_
  exact jj_refl
set_option maxRecDepth 100000 in
set_option maxHeartbeats 4000000 in
theorem lp_X6_addTimes {lay : jj_Lay} {S : jj_Mem} {p q n c : Nat} {rs rt : List (Option (Option Nat))} {f g : Nat → Nat} (hp : lay[p]? = some (20, n, rs)) (hq : lay[q]? = some (20, n, rt)) (hn : n ≤ 200) (hpq : p ≠ q) (hf : ∀ j, j < n → S p j = some (nI (f j))) (hg : ∀ j, j < n → S q j = some (nI (g j))) : ∀ (k e : Nat), e + k = n → jj_RR cX6_addTimes 4 RX6 yX6_addTimes.name none 0 0 lay.length (jj_sl lay) (2, [some (.ref p), some (.ref q), some (.int (nI c)), some (.int (nI e))], [], lay, (jj_row S p e (fun j => f j + g j * c))) none .return_ lay (jj_row S p n (fun j => f j + g j * c)) := by
  intro k
  induction k with
  | zero =>
    intro e he
    refine ⟨31, [some (.ref p), some (.ref q), some (.int (nI c)), some (.int (nI e))], dX6_addTimes_31, ?_⟩
    have he : e = n := by omega
    subst he
    refine js_iload_n 3 rfl dX6_addTimes_2 rfl ?_
    refine js_aload_n 0 rfl dX6_addTimes_3 rfl ?_
    refine js_alen hp (Or.inl rfl) rfl dX6_addTimes_4 ?_
    refine jn_icmp_ge 31 (by omega) (by omega) dX6_addTimes_5 (by decide) (fun _ => ?_) (fun h9 => absurd h9 (by omega))
    exact jj_refl
  | succ k ih =>
    intro e he
    refine jj_RRs ?_ (ih (e + 1) (by omega))
    refine js_iload_n 3 rfl dX6_addTimes_2 rfl ?_
    refine js_aload_n 0 rfl dX6_addTimes_3 rfl ?_
    refine js_alen hp (Or.inl rfl) rfl dX6_addTimes_4 ?_
    refine jn_icmp_ge 31 (by omega) (by omega) dX6_addTimes_5 (by decide) (fun h9 => absurd h9 (by omega)) (fun _ => ?_)
    refine js_iload_n 3 rfl dX6_addTimes_8 rfl ?_
    refine js_aload_n 1 rfl dX6_addTimes_9 rfl ?_
    refine js_alen hq (Or.inl rfl) rfl dX6_addTimes_10 ?_
    refine jn_icmp_ge 31 (by omega) (by omega) dX6_addTimes_11 (by decide) (fun h9 => absurd h9 (by omega)) (fun _ => ?_)
    refine js_aload_n 0 rfl dX6_addTimes_14 rfl ?_
    refine js_iload_n 3 rfl dX6_addTimes_15 rfl ?_
    refine js_dup2 rfl rfl dX6_addTimes_16 ?_
    refine js_iald e rfl hp (by omega) (by omega) ((jj_row_hi (Nat.le_refl _)).trans (hf e (by omega))) dX6_addTimes_17 ?_
    refine js_aload_n 1 rfl dX6_addTimes_18 rfl ?_
    refine js_iload_n 3 rfl dX6_addTimes_19 rfl ?_
    refine js_iald e rfl hq (by omega) (by omega) ((jj_row_neP (Ne.symm hpq)).trans (hg e (by omega))) dX6_addTimes_20 ?_
    refine js_iload_n 2 rfl dX6_addTimes_21 rfl ?_
    refine jn_imul dX6_addTimes_22 ?_
    refine jn_iadd dX6_addTimes_23 ?_
    refine js_iast e rfl hp (by omega) (by omega) dX6_addTimes_24 ?_
    rw [jj_row_s S p e (fun j => f j + g j * c) rfl]
    refine js_iinc (v := nI (e + 1)) (L' := [some (.ref p), some (.ref q), some (.int (nI c)), some (.int (nI (e + 1)))]) dX6_addTimes_25 rfl (jj_inc _) rfl ?_
    refine js_goto 2 dX6_addTimes_28 (by decide) ?_
    exact jj_refl
set_option maxRecDepth 100000 in
set_option maxHeartbeats 4000000 in
theorem ct_X6_addTimes {lay : jj_Lay} {S : jj_Mem} {p q n c : Nat} {rs rt : List (Option (Option Nat))} {f g : Nat → Nat} (hp : lay[p]? = some (20, n, rs)) (hq : lay[q]? = some (20, n, rt)) (hn : n ≤ 200) (hpq : p ≠ q) (hf : ∀ j, j < n → S p j = some (nI (f j))) (hg : ∀ j, j < n → S q j = some (nI (g j))) : jj_CT yX6_addTimes (.code yX6_addTimes cX6_addTimes 4 none) none 0 0 [.ref p, .ref q, .int (nI c)] lay S none lay (jj_row S p n (fun j => f j + g j * c)) := by
  refine jj_mkV RX6 (by decide) rfl (L := [some (.ref p), some (.ref q), some (.int (nI c)), none]) rfl rfl ?_
  have h0 := lp_X6_addTimes (S := S) (c := c) hp hq hn hpq hf hg n 0 (by omega)
  rw [jj_row_0] at h0
  refine jj_RRs ?_ h0
  refine js_iconst (v := nI 0) dX6_addTimes_0 (by decide) ?_
  refine js_istore_n (L' := [some (.ref p), some (.ref q), some (.int (nI c)), some (.int (nI 0))]) 3 rfl dX6_addTimes_1 rfl (Nat.le_of_ble_eq_true rfl) ?_
  exact jj_refl
/-- the places ahead of place w among the first n -/
def jj_pl (f : Nat → Nat) (w : Nat) : Nat → Nat
  | 0 => 0
  | n + 1 => if f w < f n ∨ (f n = f w ∧ n < w) then jj_pl f w n + 1 else jj_pl f w n
set_option maxRecDepth 100000 in
set_option maxHeartbeats 4000000 in
theorem lp_X6_placeOf {lay : jj_Lay} {S : jj_Mem} {p n w : Nat} {rs : List (Option (Option Nat))} {f : Nat → Nat} (hp : lay[p]? = some (20, n, rs)) (hn : n ≤ 200) (hw : w < n) (hf : ∀ j, j < n → S p j = some (nI (f j))) (hb : ∀ j, j < n → f j < 2 ^ 31) : ∀ (k e : Nat), e + k = n → jj_RR cX6_placeOf 4 RX6 yX6_placeOf.name none 0 0 lay.length (jj_sl lay) (4, [some (.ref p), some (.int (nI w)), some (.int (nI (jj_pl f w e))), some (.int (nI e))], [], lay, S) (some (.int (nI (jj_pl f w n)))) .ireturn lay S := by
  intro k
  induction k with
  | zero =>
    intro e he
    refine ⟨53, [some (.ref p), some (.int (nI w)), some (.int (nI (jj_pl f w e))), some (.int (nI e))], dX6_placeOf_53, ?_⟩
    have he : e = n := by omega
    subst he
    have hw1 := hb w hw
    refine js_iload_n 1 rfl dX6_placeOf_4 rfl ?_
    refine jn_if_lt 52 (by omega) dX6_placeOf_5 (by decide) (fun h9 => absurd h9 (by omega)) (fun _ => ?_)
    refine js_iload_n 1 rfl dX6_placeOf_8 rfl ?_
    refine js_aload_n 0 rfl dX6_placeOf_9 rfl ?_
    refine js_alen hp (Or.inl rfl) rfl dX6_placeOf_10 ?_
    refine jn_icmp_ge 52 (by omega) (by omega) dX6_placeOf_11 (by decide) (fun h9 => absurd h9 (by omega)) (fun _ => ?_)
    refine js_iload_n 3 rfl dX6_placeOf_14 rfl ?_
    refine js_aload_n 0 rfl dX6_placeOf_15 rfl ?_
    refine js_alen hp (Or.inl rfl) rfl dX6_placeOf_16 ?_
    refine jn_icmp_ge 52 (by omega) (by omega) dX6_placeOf_17 (by decide) (fun _ => ?_) (fun h9 => absurd h9 (by omega))
    refine js_iload_n 2 rfl dX6_placeOf_52 rfl ?_
    exact jj_refl
  | succ k ih =>
    intro e he
    refine jj_RRs ?_ (ih (e + 1) (by omega))
    have hw1 := hb w hw
    have he1 := hb e (by omega)
    refine js_iload_n 1 rfl dX6_placeOf_4 rfl ?_
    refine jn_if_lt 52 (by omega) dX6_placeOf_5 (by decide) (fun h9 => absurd h9 (by omega)) (fun _ => ?_)
    refine js_iload_n 1 rfl dX6_placeOf_8 rfl ?_
    refine js_aload_n 0 rfl dX6_placeOf_9 rfl ?_
    refine js_alen hp (Or.inl rfl) rfl dX6_placeOf_10 ?_
    refine jn_icmp_ge 52 (by omega) (by omega) dX6_placeOf_11 (by decide) (fun h9 => absurd h9 (by omega)) (fun _ => ?_)
    refine js_iload_n 3 rfl dX6_placeOf_14 rfl ?_
    refine js_aload_n 0 rfl dX6_placeOf_15 rfl ?_
    refine js_alen hp (Or.inl rfl) rfl dX6_placeOf_16 ?_
    refine jn_icmp_ge 52 (by omega) (by omega) dX6_placeOf_17 (by decide) (fun h9 => absurd h9 (by omega)) (fun _ => ?_)
    refine js_aload_n 0 rfl dX6_placeOf_20 rfl ?_
    refine js_iload_n 3 rfl dX6_placeOf_21 rfl ?_
    refine js_iald e rfl hp (by omega) (by omega) (hf e (by omega)) dX6_placeOf_22 ?_
    refine js_aload_n 0 rfl dX6_placeOf_23 rfl ?_
    refine js_iload_n 1 rfl dX6_placeOf_24 rfl ?_
    refine js_iald w rfl hp (by omega) (by omega) (hf w (by omega)) dX6_placeOf_25 ?_
    refine jn_icmp_gt 43 (by omega) (by omega) dX6_placeOf_26 (by decide) (fun h5 => ?_) (fun h5 => ?_)
    · refine js_iinc (v := nI ((jj_pl f w e) + 1)) (L' := [some (.ref p), some (.int (nI w)), some (.int (nI ((jj_pl f w e) + 1))), some (.int (nI e))]) dX6_placeOf_43 rfl (jj_inc _) rfl ?_
      refine js_iinc (v := nI (e + 1)) (L' := [some (.ref p), some (.int (nI w)), some (.int (nI ((jj_pl f w e) + 1))), some (.int (nI (e + 1)))]) dX6_placeOf_46 rfl (jj_inc _) rfl ?_
      refine js_goto 4 dX6_placeOf_49 (by decide) ?_
      have h7 : jj_pl f w (e + 1) = jj_pl f w e + 1 := if_pos (by omega)
      rw [h7]
      exact jj_refl
    · refine js_aload_n 0 rfl dX6_placeOf_29 rfl ?_
      refine js_iload_n 3 rfl dX6_placeOf_30 rfl ?_
      refine js_iald e rfl hp (by omega) (by omega) (hf e (by omega)) dX6_placeOf_31 ?_
      refine js_aload_n 0 rfl dX6_placeOf_32 rfl ?_
      refine js_iload_n 1 rfl dX6_placeOf_33 rfl ?_
      refine js_iald w rfl hp (by omega) (by omega) (hf w (by omega)) dX6_placeOf_34 ?_
      refine jn_icmp_ne 46 (by omega) (by omega) dX6_placeOf_35 (by decide) (fun h6 => ?_) (fun h6 => ?_)
      · refine js_iinc (v := nI (e + 1)) (L' := [some (.ref p), some (.int (nI w)), some (.int (nI (jj_pl f w e))), some (.int (nI (e + 1)))]) dX6_placeOf_46 rfl (jj_inc _) rfl ?_
        refine js_goto 4 dX6_placeOf_49 (by decide) ?_
        have h7 : jj_pl f w (e + 1) = jj_pl f w e := if_neg (by omega)
        rw [h7]
        exact jj_refl
      · refine js_iload_n 3 rfl dX6_placeOf_38 rfl ?_
        refine js_iload_n 1 rfl dX6_placeOf_39 rfl ?_
        refine jn_icmp_ge 46 (by omega) (by omega) dX6_placeOf_40 (by decide) (fun h8 => ?_) (fun h8 => ?_)
        · refine js_iinc (v := nI (e + 1)) (L' := [some (.ref p), some (.int (nI w)), some (.int (nI (jj_pl f w e))), some (.int (nI (e + 1)))]) dX6_placeOf_46 rfl (jj_inc _) rfl ?_
          refine js_goto 4 dX6_placeOf_49 (by decide) ?_
          have h7 : jj_pl f w (e + 1) = jj_pl f w e := if_neg (by omega)
          rw [h7]
          exact jj_refl
        · refine js_iinc (v := nI ((jj_pl f w e) + 1)) (L' := [some (.ref p), some (.int (nI w)), some (.int (nI ((jj_pl f w e) + 1))), some (.int (nI e))]) dX6_placeOf_43 rfl (jj_inc _) rfl ?_
          refine js_iinc (v := nI (e + 1)) (L' := [some (.ref p), some (.int (nI w)), some (.int (nI ((jj_pl f w e) + 1))), some (.int (nI (e + 1)))]) dX6_placeOf_46 rfl (jj_inc _) rfl ?_
          refine js_goto 4 dX6_placeOf_49 (by decide) ?_
          have h7 : jj_pl f w (e + 1) = jj_pl f w e + 1 := if_pos (by omega)
          rw [h7]
          exact jj_refl
set_option maxRecDepth 100000 in
set_option maxHeartbeats 4000000 in
theorem ct_X6_placeOf {lay : jj_Lay} {S : jj_Mem} {p n w : Nat} {rs : List (Option (Option Nat))} {f : Nat → Nat} (hp : lay[p]? = some (20, n, rs)) (hn : n ≤ 200) (hw : w < n) (hf : ∀ j, j < n → S p j = some (nI (f j))) (hb : ∀ j, j < n → f j < 2 ^ 31) : jj_CT yX6_placeOf (.code yX6_placeOf cX6_placeOf 4 (some .int)) none 0 0 [.ref p, .int (nI w)] lay S (some (.int (nI (jj_pl f w n)))) lay S := by
  refine jj_mkI RX6 .int (by decide) rfl (L := [some (.ref p), some (.int (nI w)), none, none]) rfl rfl rfl ?_
  refine jj_RRs ?_ (lp_X6_placeOf (f := f) hp hn hw hf hb n 0 (by omega))
  refine js_iconst (v := nI 0) dX6_placeOf_0 (by decide) ?_
  refine js_istore_n (L' := [some (.ref p), some (.int (nI w)), some (.int (nI 0)), none]) 2 rfl dX6_placeOf_1 rfl (Nat.le_of_ble_eq_true rfl) ?_
  refine js_iconst (v := nI 0) dX6_placeOf_2 (by decide) ?_
  refine js_istore_n (L' := [some (.ref p), some (.int (nI w)), some (.int (nI 0)), some (.int (nI 0))]) 3 rfl dX6_placeOf_3 rfl (Nat.le_of_ble_eq_true rfl) ?_
  exact jj_refl
set_option maxRecDepth 100000 in
set_option maxHeartbeats 4000000 in
theorem lp_X6_columnSum {lay : jj_Lay} {S : jj_Mem} {p n w : Nat} {rs : List (Option (Option Nat))} {g : Nat → Nat → Nat} (hp : lay[p]? = some (22, n, rs)) (hn : n ≤ 200) (hr : ∀ j, j < n → rs[j]? = some (some (some (p + 1 + j))) ∧ lay[p + 1 + j]? = some (20, 10, [])) (hw : w < 10) (hg : ∀ j, j < n → S (p + 1 + j) w = some (nI (g j w))) : ∀ (k e : Nat), e + k = n → jj_RR cX6_columnSum 4 RX6 yX6_columnSum.name none 0 0 lay.length (jj_sl lay) (4, [some (.ref p), some (.int (nI w)), some (.int (nI (jj_sm (fun j => g j w) e))), some (.int (nI e))], [], lay, S) (some (.int (nI (jj_sm (fun j => g j w) n)))) .ireturn lay S := by
  intro k
  induction k with
  | zero =>
    intro e he
    refine ⟨37, [some (.ref p), some (.int (nI w)), some (.int (nI (jj_sm (fun j => g j w) e))), some (.int (nI e))], dX6_columnSum_37, ?_⟩
    have he : e = n := by omega
    subst he
    refine js_iload_n 3 rfl dX6_columnSum_4 rfl ?_
    refine js_aload_n 0 rfl dX6_columnSum_5 rfl ?_
    refine js_alen hp (Or.inr (Or.inr rfl)) rfl dX6_columnSum_6 ?_
    refine jn_icmp_ge 36 (by omega) (by omega) dX6_columnSum_7 (by decide) (fun _ => ?_) (fun h9 => absurd h9 (by omega))
    refine js_iload_n 2 rfl dX6_columnSum_36 rfl ?_
    exact jj_refl
  | succ k ih =>
    intro e he
    refine jj_RRs ?_ (ih (e + 1) (by omega))
    refine js_iload_n 3 rfl dX6_columnSum_4 rfl ?_
    refine js_aload_n 0 rfl dX6_columnSum_5 rfl ?_
    refine js_alen hp (Or.inr (Or.inr rfl)) rfl dX6_columnSum_6 ?_
    refine jn_icmp_ge 36 (by omega) (by omega) dX6_columnSum_7 (by decide) (fun h9 => absurd h9 (by omega)) (fun _ => ?_)
    refine js_iload_n 1 rfl dX6_columnSum_10 rfl ?_
    refine jn_if_lt 30 (by omega) dX6_columnSum_11 (by decide) (fun h9 => absurd h9 (by omega)) (fun _ => ?_)
    refine js_iload_n 1 rfl dX6_columnSum_14 rfl ?_
    refine js_aload_n 0 rfl dX6_columnSum_15 rfl ?_
    refine js_iload_n 3 rfl dX6_columnSum_16 rfl ?_
    refine js_aald e rfl hp (by omega) (by omega) (hr e (by omega)).1 dX6_columnSum_17 ?_
    refine js_alen (hr e (by omega)).2 (Or.inl rfl) rfl dX6_columnSum_18 ?_
    refine jn_icmp_ge 30 (by omega) (by omega) dX6_columnSum_19 (by decide) (fun h9 => absurd h9 (by omega)) (fun _ => ?_)
    refine js_iload_n 2 rfl dX6_columnSum_22 rfl ?_
    refine js_aload_n 0 rfl dX6_columnSum_23 rfl ?_
    refine js_iload_n 3 rfl dX6_columnSum_24 rfl ?_
    refine js_aald e rfl hp (by omega) (by omega) (hr e (by omega)).1 dX6_columnSum_25 ?_
    refine js_iload_n 1 rfl dX6_columnSum_26 rfl ?_
    refine js_iald w rfl (hr e (by omega)).2 (by omega) (by decide) (hg e (by omega)) dX6_columnSum_27 ?_
    refine jn_iadd dX6_columnSum_28 ?_
    refine js_istore_n (L' := [some (.ref p), some (.int (nI w)), some (.int (nI (((jj_sm (fun j => g j w) e)) + ((g e w))))), some (.int (nI e))]) 2 rfl dX6_columnSum_29 rfl (Nat.le_of_ble_eq_true rfl) ?_
    refine js_iinc (v := nI (e + 1)) (L' := [some (.ref p), some (.int (nI w)), some (.int (nI (((jj_sm (fun j => g j w) e)) + ((g e w))))), some (.int (nI (e + 1)))]) dX6_columnSum_30 rfl (jj_inc _) rfl ?_
    refine js_goto 4 dX6_columnSum_33 (by decide) ?_
    exact jj_refl
set_option maxRecDepth 100000 in
set_option maxHeartbeats 4000000 in
theorem ct_X6_columnSum {lay : jj_Lay} {S : jj_Mem} {p n w : Nat} {rs : List (Option (Option Nat))} {g : Nat → Nat → Nat} (hp : lay[p]? = some (22, n, rs)) (hn : n ≤ 200) (hr : ∀ j, j < n → rs[j]? = some (some (some (p + 1 + j))) ∧ lay[p + 1 + j]? = some (20, 10, [])) (hw : w < 10) (hg : ∀ j, j < n → S (p + 1 + j) w = some (nI (g j w))) : jj_CT yX6_columnSum (.code yX6_columnSum cX6_columnSum 4 (some .int)) none 0 0 [.ref p, .int (nI w)] lay S (some (.int (nI (jj_sm (fun j => g j w) n)))) lay S := by
  refine jj_mkI RX6 .int (by decide) rfl (L := [some (.ref p), some (.int (nI w)), none, none]) rfl rfl rfl ?_
  refine jj_RRs ?_ (lp_X6_columnSum (g := g) hp hn hr hw hg n 0 (by omega))
  refine js_iconst (v := nI 0) dX6_columnSum_0 (by decide) ?_
  refine js_istore_n (L' := [some (.ref p), some (.int (nI w)), some (.int (nI 0)), none]) 2 rfl dX6_columnSum_1 rfl (Nat.le_of_ble_eq_true rfl) ?_
  refine js_iconst (v := nI 0) dX6_columnSum_2 (by decide) ?_
  refine js_istore_n (L' := [some (.ref p), some (.int (nI w)), some (.int (nI 0)), some (.int (nI 0))]) 3 rfl dX6_columnSum_3 rfl (Nat.le_of_ble_eq_true rfl) ?_
  exact jj_refl
set_option maxRecDepth 100000 in
set_option maxHeartbeats 4000000 in
theorem ct_X6_needRecording {lay : jj_Lay} {S : jj_Mem} {a : Nat} (ha : a < 10) : jj_CT yX6_needRecording (.code yX6_needRecording cX6_needRecording 1 none) none 0 0 [.int (nI a)] lay S none lay S := by
  refine jj_mkV RX6 (by decide) rfl (L := [some (.int (nI a))]) rfl rfl ⟨21, [some (.int (nI a))], dX6_needRecording_21, ?_⟩
  refine js_iload_n 0 rfl dX6_needRecording_0 rfl ?_
  refine jn_if_lt 10 (by omega) dX6_needRecording_1 (by decide) (fun h9 => absurd h9 (by omega)) (fun _ => ?_)
  refine js_iload_n 0 rfl dX6_needRecording_4 rfl ?_
  refine js_bipush (v := nI 10) dX6_needRecording_5 (by decide) ?_
  refine jn_icmp_lt 21 (by omega) (by omega) dX6_needRecording_7 (by decide) (fun _ => ?_) (fun h9 => absurd h9 (by omega))
  exact jj_refl
set_option maxRecDepth 100000 in
set_option maxHeartbeats 4000000 in
theorem ct_X6_needParty {lay : jj_Lay} {S : jj_Mem} {a : Nat} (ha : a < 5) : jj_CT yX6_needParty (.code yX6_needParty cX6_needParty 1 none) none 0 0 [.int (nI a)] lay S none lay S := by
  refine jj_mkV RX6 (by decide) rfl (L := [some (.int (nI a))]) rfl rfl ⟨20, [some (.int (nI a))], dX6_needParty_20, ?_⟩
  refine js_iload_n 0 rfl dX6_needParty_0 rfl ?_
  refine jn_if_lt 9 (by omega) dX6_needParty_1 (by decide) (fun h9 => absurd h9 (by omega)) (fun _ => ?_)
  refine js_iload_n 0 rfl dX6_needParty_4 rfl ?_
  refine js_iconst (v := nI 5) dX6_needParty_5 (by decide) ?_
  refine jn_icmp_lt 20 (by omega) (by omega) dX6_needParty_6 (by decide) (fun _ => ?_) (fun h9 => absurd h9 (by omega))
  exact jj_refl
set_option maxRecDepth 100000 in
set_option maxHeartbeats 4000000 in
theorem ct_X6_needLand {lay : jj_Lay} {S : jj_Mem} {a : Nat} (ha : a < 4) : jj_CT yX6_needLand (.code yX6_needLand cX6_needLand 1 none) none 0 0 [.int (nI a)] lay S none lay S := by
  refine jj_mkV RX6 (by decide) rfl (L := [some (.int (nI a))]) rfl rfl ⟨20, [some (.int (nI a))], dX6_needLand_20, ?_⟩
  refine js_iload_n 0 rfl dX6_needLand_0 rfl ?_
  refine jn_if_lt 9 (by omega) dX6_needLand_1 (by decide) (fun h9 => absurd h9 (by omega)) (fun _ => ?_)
  refine js_iload_n 0 rfl dX6_needLand_4 rfl ?_
  refine js_iconst (v := nI 4) dX6_needLand_5 (by decide) ?_
  refine jn_icmp_lt 20 (by omega) (by omega) dX6_needLand_6 (by decide) (fun _ => ?_) (fun h9 => absurd h9 (by omega))
  exact jj_refl
set_option maxRecDepth 100000 in
set_option maxHeartbeats 4000000 in
theorem ct_X6_needPlan {lay : jj_Lay} {S : jj_Mem} {a : Nat} (ha : a < 3) : jj_CT yX6_needPlan (.code yX6_needPlan cX6_needPlan 1 none) none 0 0 [.int (nI a)] lay S none lay S := by
  refine jj_mkV RX6 (by decide) rfl (L := [some (.int (nI a))]) rfl rfl ⟨20, [some (.int (nI a))], dX6_needPlan_20, ?_⟩
  refine js_iload_n 0 rfl dX6_needPlan_0 rfl ?_
  refine jn_if_lt 9 (by omega) dX6_needPlan_1 (by decide) (fun h9 => absurd h9 (by omega)) (fun _ => ?_)
  refine js_iload_n 0 rfl dX6_needPlan_4 rfl ?_
  refine js_iconst (v := nI 3) dX6_needPlan_5 (by decide) ?_
  refine jn_icmp_lt 20 (by omega) (by omega) dX6_needPlan_6 (by decide) (fun _ => ?_) (fun h9 => absurd h9 (by omega))
  exact jj_refl
set_option maxRecDepth 100000 in
set_option maxHeartbeats 4000000 in
theorem ct_X6_needRule {lay : jj_Lay} {S : jj_Mem} {a : Nat} (ha : a < 2) : jj_CT yX6_needRule (.code yX6_needRule cX6_needRule 1 none) none 0 0 [.int (nI a)] lay S none lay S := by
  refine jj_mkV RX6 (by decide) rfl (L := [some (.int (nI a))]) rfl rfl ⟨20, [some (.int (nI a))], dX6_needRule_20, ?_⟩
  refine js_iload_n 0 rfl dX6_needRule_0 rfl ?_
  refine jn_if_lt 9 (by omega) dX6_needRule_1 (by decide) (fun h9 => absurd h9 (by omega)) (fun _ => ?_)
  refine js_iload_n 0 rfl dX6_needRule_4 rfl ?_
  refine js_iconst (v := nI 2) dX6_needRule_5 (by decide) ?_
  refine jn_icmp_lt 20 (by omega) (by omega) dX6_needRule_6 (by decide) (fun _ => ?_) (fun h9 => absurd h9 (by omega))
  exact jj_refl
set_option maxRecDepth 100000 in
set_option maxHeartbeats 4000000 in
theorem ct_X6_needTrack {lay : jj_Lay} {S : jj_Mem} {a n : Nat} (hB : jj_pp lay) (ha : a < n) (hn : n < 2 ^ 31) (hS : S 1 0 = some (nI n)) : jj_CT yX6_needTrack (.code yX6_needTrack cX6_needTrack 2 none) none 0 0 [.ref 0, .int (nI a)] lay S none lay S := by
  refine jj_mkV RX6 (by decide) rfl (L := [some (.ref 0), some (.int (nI a))]) rfl rfl ⟨26, [some (.ref 0), some (.int (nI a))], dX6_needTrack_26, ?_⟩
  refine js_iload_n 1 rfl dX6_needTrack_0 rfl ?_
  refine jn_if_lt 15 (by omega) dX6_needTrack_1 (by decide) (fun h9 => absurd h9 (by omega)) (fun _ => ?_)
  refine js_iload_n 1 rfl dX6_needTrack_4 rfl ?_
  refine js_aload_n 0 rfl dX6_needTrack_5 rfl ?_
  refine js_getr 0 jw_f_RX6_12 (jl_0 hB) rfl (Nat.le_of_ble_eq_true rfl) rfl dX6_needTrack_6 ?_
  refine js_getNi 0 jw_n_RX6_72 (jl_1 hB) rfl (Nat.le_of_ble_eq_true rfl) rfl (hS) dX6_needTrack_9 ?_
  refine jn_icmp_lt 26 (by omega) (by omega) dX6_needTrack_12 (by decide) (fun _ => ?_) (fun h9 => absurd h9 (by omega))
  exact jj_refl
set_option maxRecDepth 100000 in
set_option maxHeartbeats 4000000 in
theorem ct_X6_needListener {lay : jj_Lay} {S : jj_Mem} {a n : Nat} (hB : jj_pp lay) (ha : a < n) (hn : n < 2 ^ 31) (hS : S 20 0 = some (nI n)) : jj_CT yX6_needListener (.code yX6_needListener cX6_needListener 2 none) none 0 0 [.ref 0, .int (nI a)] lay S none lay S := by
  refine jj_mkV RX6 (by decide) rfl (L := [some (.ref 0), some (.int (nI a))]) rfl rfl ⟨26, [some (.ref 0), some (.int (nI a))], dX6_needListener_26, ?_⟩
  refine js_iload_n 1 rfl dX6_needListener_0 rfl ?_
  refine jn_if_lt 15 (by omega) dX6_needListener_1 (by decide) (fun h9 => absurd h9 (by omega)) (fun _ => ?_)
  refine js_iload_n 1 rfl dX6_needListener_4 rfl ?_
  refine js_aload_n 0 rfl dX6_needListener_5 rfl ?_
  refine js_getr 2 jw_f_RX6_26 (jl_0 hB) rfl (Nat.le_of_ble_eq_true rfl) rfl dX6_needListener_6 ?_
  refine js_getNi 0 jw_n_RX6_144 (jl_20 hB) rfl (Nat.le_of_ble_eq_true rfl) rfl (hS) dX6_needListener_9 ?_
  refine jn_icmp_lt 26 (by omega) (by omega) dX6_needListener_12 (by decide) (fun _ => ?_) (fun h9 => absurd h9 (by omega))
  exact jj_refl
set_option maxRecDepth 100000 in
set_option maxHeartbeats 4000000 in
theorem ct_X6_isClosed {lay : jj_Lay} {S : jj_Mem} {m t : Nat} (hB : jj_pp lay) (hm : m < 2 ^ 31) (ht : t < 2 ^ 31) (hS : S 0 9 = some (nI t)) : jj_CT yX6_isClosed (.code yX6_isClosed cX6_isClosed 2 (some .boolean)) none 1 20 [.ref 0, .int (nI m)] lay S (some (.int (nI (jj_b (decide (m / 14400 < t / 14400)))))) lay S := by
  by_cases h : m / 14400 < t / 14400
  · rw [show jj_b (decide (m / 14400 < t / 14400)) = 1 by simp [jj_b, h]]
    refine jj_mkI RX6 .boolean (by decide) rfl (L := [some (.ref 0), some (.int (nI m))]) rfl rfl rfl ⟨19, [some (.ref 0), some (.int (nI m))], dX6_isClosed_19, ?_⟩
    refine js_iload_n 1 rfl dX6_isClosed_0 rfl ?_
    refine js_callS (av := [.int (nI m)]) (st := []) (ct_X6_monthOf hm) (Or.inl rfl) jw_c_X6_monthOf jw_i_RX6 jw_m_RX6_207 jw_s_X6_monthOf jw_y_X6_monthOf rfl ⟨(Nat.le_of_ble_eq_true rfl), (Nat.le_of_ble_eq_true rfl), (Nat.le_refl _), (Nat.le_refl _), (Nat.le_of_ble_eq_true rfl)⟩ dX6_isClosed_1 ?_
    refine js_st (st' := [.int (nI (m / 14400))]) rfl ?_
    refine js_aload_n 0 rfl dX6_isClosed_4 rfl ?_
    refine js_geti 9 jw_f_RX6_61 (jl_0 hB) rfl (Nat.le_of_ble_eq_true rfl) rfl (hS) dX6_isClosed_5 ?_
    refine js_callS (av := [.int (nI t)]) (st := [.int (nI (m / 14400))]) (ct_X6_monthOf ht) (Or.inl rfl) jw_c_X6_monthOf jw_i_RX6 jw_m_RX6_207 jw_s_X6_monthOf jw_y_X6_monthOf rfl ⟨(Nat.le_of_ble_eq_true rfl), (Nat.le_of_ble_eq_true rfl), (Nat.le_refl _), (Nat.le_refl _), (Nat.le_of_ble_eq_true rfl)⟩ dX6_isClosed_8 ?_
    refine js_st (st' := [.int (nI (t / 14400)), .int (nI (m / 14400))]) rfl ?_
    refine jn_icmp_ge 18 (by omega) (by omega) dX6_isClosed_11 (by decide) (fun h9 => absurd h9 (by omega)) (fun _ => ?_)
    refine js_iconst (v := nI 1) dX6_isClosed_14 (by decide) ?_
    refine js_goto 19 dX6_isClosed_15 (by decide) ?_
    exact jj_refl
  · rw [show jj_b (decide (m / 14400 < t / 14400)) = 0 by simp [jj_b, h]]
    refine jj_mkI RX6 .boolean (by decide) rfl (L := [some (.ref 0), some (.int (nI m))]) rfl rfl rfl ⟨19, [some (.ref 0), some (.int (nI m))], dX6_isClosed_19, ?_⟩
    refine js_iload_n 1 rfl dX6_isClosed_0 rfl ?_
    refine js_callS (av := [.int (nI m)]) (st := []) (ct_X6_monthOf hm) (Or.inl rfl) jw_c_X6_monthOf jw_i_RX6 jw_m_RX6_207 jw_s_X6_monthOf jw_y_X6_monthOf rfl ⟨(Nat.le_of_ble_eq_true rfl), (Nat.le_of_ble_eq_true rfl), (Nat.le_refl _), (Nat.le_refl _), (Nat.le_of_ble_eq_true rfl)⟩ dX6_isClosed_1 ?_
    refine js_st (st' := [.int (nI (m / 14400))]) rfl ?_
    refine js_aload_n 0 rfl dX6_isClosed_4 rfl ?_
    refine js_geti 9 jw_f_RX6_61 (jl_0 hB) rfl (Nat.le_of_ble_eq_true rfl) rfl (hS) dX6_isClosed_5 ?_
    refine js_callS (av := [.int (nI t)]) (st := [.int (nI (m / 14400))]) (ct_X6_monthOf ht) (Or.inl rfl) jw_c_X6_monthOf jw_i_RX6 jw_m_RX6_207 jw_s_X6_monthOf jw_y_X6_monthOf rfl ⟨(Nat.le_of_ble_eq_true rfl), (Nat.le_of_ble_eq_true rfl), (Nat.le_refl _), (Nat.le_refl _), (Nat.le_of_ble_eq_true rfl)⟩ dX6_isClosed_8 ?_
    refine js_st (st' := [.int (nI (t / 14400)), .int (nI (m / 14400))]) rfl ?_
    refine jn_icmp_ge 18 (by omega) (by omega) dX6_isClosed_11 (by decide) (fun _ => ?_) (fun h9 => absurd h9 (by omega))
    refine js_iconst (v := nI 0) dX6_isClosed_18 (by decide) ?_
    exact jj_refl
end
section
/-! NUMBERS: a split goes out whole. -/
/-- how many below n -/
def jj_ct (P : Nat → Bool) : Nat → Nat
  | 0 => 0
  | n + 1 => jj_ct P n + jj_b (P n)
theorem jj_ct_le {P Q : Nat → Bool} : ∀ {n : Nat}, (∀ j, j < n → P j = true → Q j = true) → jj_ct P n ≤ jj_ct Q n
  | 0, _ => Nat.le_refl _
  | n + 1, h => by
    have h1 := jj_ct_le (P := P) (Q := Q) (n := n) (fun j hj => h j (by omega))
    have h2 := h n (by omega)
    show jj_ct P n + jj_b (P n) ≤ jj_ct Q n + jj_b (Q n)
    cases hp : P n <;> cases hq : Q n <;> simp [jj_b] <;> first | omega | (rw [hp, hq] at h2; simp at h2)
theorem jj_ct_lt {P Q : Nat → Bool} {i : Nat} (hi : P i = false) (hq : Q i = true) : ∀ {n : Nat}, i < n → (∀ j, j < n → P j = true → Q j = true) → jj_ct P n < jj_ct Q n
  | 0, h, _ => absurd h (by omega)
  | n + 1, h, hh => by
    show jj_ct P n + jj_b (P n) < jj_ct Q n + jj_b (Q n)
    by_cases e : i = n
    · subst e
      have h1 := jj_ct_le (P := P) (Q := Q) (n := i) (fun j hj => hh j (by omega))
      rw [hi, hq]
      simp [jj_b]
      omega
    · have h1 := jj_ct_lt hi hq (n := n) (by omega) (fun j hj => hh j (by omega))
      have h2 := hh n (by omega)
      cases hp : P n <;> cases hq : Q n <;> simp [jj_b] <;> first | omega | (rw [hp, hq] at h2; simp at h2)
theorem jj_ct_max (P : Nat → Bool) : ∀ n : Nat, jj_ct P n ≤ n
  | 0 => Nat.le_refl _
  | n + 1 => by
    have := jj_ct_max P n
    show jj_ct P n + jj_b (P n) ≤ n + 1
    cases P n <;> simp [jj_b] <;> omega
theorem jj_ct_all {P : Nat → Bool} : ∀ {n : Nat}, (∀ j, j < n → P j = true) → jj_ct P n = n
  | 0, _ => rfl
  | n + 1, h => by
    show jj_ct P n + jj_b (P n) = n + 1
    rw [jj_ct_all (fun j hj => h j (by omega)), h n (by omega)]
    rfl
theorem jj_ct_one {P : Nat → Bool} : ∀ {n : Nat}, (∀ i j, i < n → j < n → P i = true → P j = true → i = j) → jj_ct P n ≤ 1
  | 0, _ => by show 0 ≤ 1; omega
  | n + 1, h => by
    show jj_ct P n + jj_b (P n) ≤ 1
    cases hp : P n with
    | false => have := jj_ct_one (P := P) (n := n) (fun i j hi hj => h i j (by omega) (by omega)); simp [jj_b]; exact this
    | true =>
      have h0 : jj_ct P n = jj_ct (fun _ => false) n := Nat.le_antisymm (jj_ct_le (fun j hj hq => by have := h j n (by omega) (by omega) hq hp; omega)) (jj_ct_le (fun j hj hq => by cases hq))
      have h1 : ∀ k : Nat, jj_ct (fun _ => false) k = 0 := fun k => by
        induction k with
        | zero => rfl
        | succ k ih => show jj_ct (fun _ => false) k + 0 = 0; rw [ih]
      rw [h0, h1]
      simp [jj_b]
theorem jj_ct_split {r : Nat → Nat} {L : Nat} : ∀ n : Nat, jj_ct (fun j => decide (r j < L + 1)) n = jj_ct (fun j => decide (r j < L)) n + jj_ct (fun j => decide (r j = L)) n
  | 0 => rfl
  | n + 1 => by
    show jj_ct _ n + jj_b (decide (r n < L + 1)) = (jj_ct _ n + jj_b (decide (r n < L))) + (jj_ct _ n + jj_b (decide (r n = L)))
    rw [jj_ct_split n]
    by_cases a : r n < L
    · have b : r n < L + 1 := by omega
      have c : ¬ r n = L := by omega
      simp [jj_b, a, b, c]; omega
    · by_cases c : r n = L
      · simp [jj_b, c]; omega
      · have b : ¬ r n < L + 1 := by omega
        simp [jj_b, a, b, c]
/-- an injection of n places into n: L of them lie below L -/
theorem jj_ct_perm {r : Nat → Nat} {n : Nat} (hr : ∀ j, j < n → r j < n) (hi : ∀ i j, i < n → j < n → r i = r j → i = j) {L : Nat} (hL : L ≤ n) : jj_ct (fun j => decide (r j < L)) n = L := by
  have h1 : ∀ L, jj_ct (fun j => decide (r j = L)) n ≤ 1 := fun L => jj_ct_one (fun i j a b p q => hi i j a b (by simp at p q; omega))
  have h2 : ∀ L, jj_ct (fun j => decide (r j < L)) n ≤ L := fun L => by
    induction L with
    | zero => exact Nat.le_trans (jj_ct_le (Q := fun _ => false) (fun j _ h => by simp at h)) (by
        have h1 : ∀ k : Nat, jj_ct (fun _ => false) k = 0 := fun k => by
          induction k with
          | zero => rfl
          | succ k ih => show jj_ct (fun _ => false) k + 0 = 0; rw [ih]
        rw [h1]; omega)
    | succ L ih => have := h1 L; rw [jj_ct_split]; omega
  have h3 : ∀ d, d ≤ n → jj_ct (fun j => decide (r j < n)) n ≤ jj_ct (fun j => decide (r j < n - d)) n + d := fun d => by
    induction d with
    | zero => intro _; exact Nat.le_refl _
    | succ d ih =>
      intro hd
      have h4 := ih (by omega)
      have h5 := jj_ct_split (r := r) (L := n - (d + 1)) n
      rw [show n - (d + 1) + 1 = n - d by omega] at h5
      have h6 := h1 (n - (d + 1))
      omega
  have h4 := h3 (n - L) (by omega)
  rw [jj_ct_all (fun j hj => by simp [hr j hj]), show n - (n - L) = L by omega] at h4
  have := h2 L
  omega
/-- s is ahead of w -/
def jj_ah (f : Nat → Nat) (w s : Nat) : Bool := decide (f w < f s ∨ (f s = f w ∧ s < w))
theorem jj_pl_ct (f : Nat → Nat) (w : Nat) : ∀ n : Nat, jj_pl f w n = jj_ct (jj_ah f w) n
  | 0 => rfl
  | n + 1 => by
    show (if f w < f n ∨ (f n = f w ∧ n < w) then jj_pl f w n + 1 else jj_pl f w n) = jj_ct (jj_ah f w) n + jj_b (jj_ah f w n)
    rw [jj_pl_ct f w n]
    by_cases h : f w < f n ∨ (f n = f w ∧ n < w)
    · rw [if_pos h]; simp [jj_b, jj_ah, h]
    · rw [if_neg h]; simp [jj_b, jj_ah, h]
theorem jj_pl_lt {f : Nat → Nat} {n w : Nat} (hw : w < n) : jj_pl f w n < n := by
  rw [jj_pl_ct]
  have h := jj_ct_lt (P := jj_ah f w) (Q := fun _ => true) (i := w) (by simp [jj_ah]) rfl hw (fun _ _ _ => rfl)
  rw [jj_ct_all (P := fun _ => true) (fun _ _ => rfl)] at h
  exact h
theorem jj_pl_inj {f : Nat → Nat} {n i j : Nat} (hi : i < n) (hj : j < n) (h : jj_pl f i n = jj_pl f j n) : i = j := by
  rw [jj_pl_ct, jj_pl_ct] at h
  have key : ∀ a b, a < n → jj_ah f b a = true → jj_ct (jj_ah f a) n < jj_ct (jj_ah f b) n := fun a b ha hab =>
    jj_ct_lt (i := a) (by simp [jj_ah]) hab ha (fun s _ hs => by
      simp only [jj_ah, decide_eq_true_eq] at hs hab ⊢
      omega)
  by_cases e : i = j
  · exact e
  · have : jj_ah f j i = true ∨ jj_ah f i j = true := by
      simp only [jj_ah, decide_eq_true_eq]
      omega
    rcases this with q | q
    · have := key i j hi q; omega
    · have := key j i hj q; omega
theorem jj_sm_b (P : Nat → Bool) : ∀ n : Nat, jj_sm (fun j => jj_b (P j)) n = jj_ct P n
  | 0 => rfl
  | n + 1 => by show jj_sm _ n + _ = _; rw [jj_sm_b P n]; rfl
/-- one each for the first L places -/
theorem jj_bonus {f : Nat → Nat} {n L : Nat} (hL : L ≤ n) : jj_sm (fun j => jj_b (decide (jj_pl f j n < L))) n = L := by
  rw [jj_sm_b]
  exact jj_ct_perm (r := fun j => jj_pl f j n) (fun j hj => jj_pl_lt hj) (fun i j hi hj h => jj_pl_inj hi hj h) hL
theorem jj_shares {a W : Nat} {w : Nat → Nat} (hW : 0 < W) : ∀ n : Nat, jj_sm (fun j => a * w j / W) n * W + jj_sm (fun j => a * w j % W) n = a * jj_sm w n
  | 0 => by show 0 * W + 0 = a * 0; rw [Nat.zero_mul, Nat.mul_zero]
  | n + 1 => by
    have h := jj_shares (a := a) (w := w) hW n
    show (jj_sm _ n + a * w n / W) * W + (jj_sm _ n + a * w n % W) = a * (jj_sm w n + w n)
    have h2 := Nat.div_add_mod (a * w n) W
    rw [Nat.add_mul, Nat.mul_add, ← h]
    rw [Nat.mul_comm W] at h2
    omega
theorem jj_sm_const (c : Nat) : ∀ n : Nat, jj_sm (fun _ => c) n = n * c
  | 0 => by rw [Nat.zero_mul]; rfl
  | n + 1 => by show jj_sm _ n + c = (n + 1) * c; rw [jj_sm_const c n, Nat.succ_mul]
/-- what is left of the division is no more than the places -/
theorem jj_left {a W n : Nat} {w : Nat → Nat} (hW : 0 < W) (hs : jj_sm w n = W) : jj_sm (fun j => a * w j / W) n ≤ a ∧ a - jj_sm (fun j => a * w j / W) n ≤ n := by
  have h := jj_shares (a := a) (w := w) hW n
  rw [hs] at h
  have h1 : jj_sm (fun j => a * w j / W) n ≤ a := Nat.le_of_mul_le_mul_right (by omega) hW
  refine ⟨h1, ?_⟩
  have h2 : jj_sm (fun j => a * w j % W) n ≤ n * W := by
    rw [← jj_sm_const W n]
    exact jj_sm_le (fun j _ => Nat.le_of_lt (Nat.mod_lt _ hW))
  have h3 : (a - jj_sm (fun j => a * w j / W) n) * W ≤ n * W := by
    rw [Nat.sub_mul]
    omega
  exact Nat.le_of_mul_le_mul_right h3 hW
/-- what each gets -/
def jj_g2 (g w : Nat → Nat) (a W : Nat) (j : Nat) : Nat := g j + a * w j / W + jj_b (decide (jj_pl (fun k => a * w k % W) j 10 < a - jj_sm (fun k => a * w k / W) 10))
theorem jj_g2_sum {g w : Nat → Nat} {a W : Nat} (hW : 0 < W) (hs : jj_sm w 10 = W) : jj_sm (jj_g2 g w a W) 10 = jj_sm g 10 + a := by
  obtain ⟨h1, h2⟩ := jj_left (a := a) hW hs
  have h3 := jj_bonus (f := fun k => a * w k % W) h2
  have h4 : jj_sm (jj_g2 g w a W) 10 = jj_sm (fun j => g j + a * w j / W) 10 + jj_sm (fun j => jj_b (decide (jj_pl (fun k => a * w k % W) j 10 < a - jj_sm (fun k => a * w k / W) 10))) 10 := jj_sm_add (fun j => g j + a * w j / W) _ 10
  rw [h4, jj_sm_add g (fun j => a * w j / W) 10, h3]
  omega
theorem jj_parts {a : Nat} {c : Nat → Nat} {n : Nat} (h : jj_sm c n ≤ 100) : jj_sm (fun j => a * c j / 100) n ≤ a := by
  have h1 := jj_shares (a := a) (w := c) (W := 100) (by omega) n
  have h2 : a * jj_sm c n ≤ a * 100 := Nat.mul_le_mul_left a h
  omega
end
section
/-! THE BOOKS, piece by piece. b: the place of a Books object, 70, 81 or 92. -/
def jj_bkr (b : Nat) : List (Option (Option Nat)) := [none, none, some (some (b + 1)), some (some (b + 2)), some (some (b + 3)), some (some (b + 4)), some (some (b + 5)), some (some (b + 6)), some (some (b + 7)), some (some (b + 8)), some (some (b + 9)), some (some (b + 10))]
def jj_bk (lay : jj_Lay) (b : Nat) : Prop := 70 ≤ b ∧ lay[b]? = some (1, 12, jj_bkr b) ∧ lay[b + 1]? = some (20, 4, []) ∧ lay[b + 2]? = some (20, 10, []) ∧ lay[b + 3]? = some (20, 10, []) ∧ lay[b + 4]? = some (20, 5, []) ∧ lay[b + 5]? = some (20, 5, []) ∧ lay[b + 6]? = some (20, 5, []) ∧ lay[b + 7]? = some (20, 5, []) ∧ lay[b + 8]? = some (20, 10, []) ∧ lay[b + 9]? = some (20, 10, []) ∧ lay[b + 10]? = some (20, 10, [])
theorem jk_b {lay : jj_Lay} {b : Nat} (h : jj_bk lay b) : 70 ≤ b := h.1
theorem jk_0 {lay : jj_Lay} {b : Nat} (h : jj_bk lay b) : lay[b]? = some (1, 12, [none, none, some (some (b + 1)), some (some (b + 2)), some (some (b + 3)), some (some (b + 4)), some (some (b + 5)), some (some (b + 6)), some (some (b + 7)), some (some (b + 8)), some (some (b + 9)), some (some (b + 10))]) := h.2.1
theorem jk_1 {lay : jj_Lay} {b : Nat} (h : jj_bk lay b) : lay[b + 1]? = some (20, 4, []) := h.2.2.1
theorem jk_2 {lay : jj_Lay} {b : Nat} (h : jj_bk lay b) : lay[b + 2]? = some (20, 10, []) := h.2.2.2.1
theorem jk_3 {lay : jj_Lay} {b : Nat} (h : jj_bk lay b) : lay[b + 3]? = some (20, 10, []) := h.2.2.2.2.1
theorem jk_4 {lay : jj_Lay} {b : Nat} (h : jj_bk lay b) : lay[b + 4]? = some (20, 5, []) := h.2.2.2.2.2.1
theorem jk_5 {lay : jj_Lay} {b : Nat} (h : jj_bk lay b) : lay[b + 5]? = some (20, 5, []) := h.2.2.2.2.2.2.1
theorem jk_6 {lay : jj_Lay} {b : Nat} (h : jj_bk lay b) : lay[b + 6]? = some (20, 5, []) := h.2.2.2.2.2.2.2.1
theorem jk_7 {lay : jj_Lay} {b : Nat} (h : jj_bk lay b) : lay[b + 7]? = some (20, 5, []) := h.2.2.2.2.2.2.2.2.1
theorem jk_8 {lay : jj_Lay} {b : Nat} (h : jj_bk lay b) : lay[b + 8]? = some (20, 10, []) := h.2.2.2.2.2.2.2.2.2.1
theorem jk_9 {lay : jj_Lay} {b : Nat} (h : jj_bk lay b) : lay[b + 9]? = some (20, 10, []) := h.2.2.2.2.2.2.2.2.2.2.1
theorem jk_10 {lay : jj_Lay} {b : Nat} (h : jj_bk lay b) : lay[b + 10]? = some (20, 10, []) := h.2.2.2.2.2.2.2.2.2.2.2
theorem jj_bk_70 {lay : jj_Lay} (h : jj_pp lay) : jj_bk lay 70 := ⟨by decide, jl_70 h, jl_71 h, jl_72 h, jl_73 h, jl_74 h, jl_75 h, jl_76 h, jl_77 h, jl_78 h, jl_79 h, jl_80 h⟩
theorem jj_bk_81 {lay : jj_Lay} (h : jj_pp lay) : jj_bk lay 81 := ⟨by decide, jl_81 h, jl_82 h, jl_83 h, jl_84 h, jl_85 h, jl_86 h, jl_87 h, jl_88 h, jl_89 h, jl_90 h, jl_91 h⟩
theorem jj_bk_92 {lay : jj_Lay} (h : jj_pp lay) : jj_bk lay 92 := ⟨by decide, jl_92 h, jl_93 h, jl_94 h, jl_95 h, jl_96 h, jl_97 h, jl_98 h, jl_99 h, jl_100 h, jl_101 h, jl_102 h⟩
def jj_fee (v : Nat) : Nat := if v = 0 then 200 else if v = 1 then 1000 else 500
def jj_pool (v : Nat) : Nat := jj_fee v * 7 / 10
theorem jj_fee_le (v : Nat) : jj_fee v ≤ 1000 := by unfold jj_fee; split <;> first | omega | (split <;> omega)
theorem jj_pool_le (v : Nat) : jj_pool v ≤ jj_fee v := by unfold jj_pool; have := jj_fee_le v; omega
theorem jj_pool_le2 (v : Nat) : jj_pool v ≤ 700 := by unfold jj_pool; have := jj_fee_le v; omega
/-- the listeners: how many, their lands and plans -/
def jj_au (S : jj_Mem) (cnt : Nat) (ld pl : Nat → Nat) : Prop := cnt ≤ 8 ∧ S 20 0 = some (nI cnt) ∧ (∀ j, j < cnt → S 21 j = some (nI (ld j)) ∧ ld j < 4) ∧ (∀ j, j < cnt → S 22 j = some (nI (pl j)) ∧ pl j < 3)
/-- the counts of the month -/
def jj_im (S : jj_Mem) (cnt : Nat) (im : Nat → Nat → Nat) : Prop := ∀ l, l < cnt → ∀ j, j < 10 → S (53 + l) j = some (nI (im l j))
/-- the claims -/
def jj_cm (S : jj_Mem) (cl : Nat → Nat → Nat) : Prop := ∀ r, r < 10 → ∀ q, q < 5 → S (10 + r) q = some (nI (cl r q)) ∧ cl r q ≤ 100
theorem jj_au_mono {S S' : jj_Mem} {cnt : Nat} {ld pl : Nat → Nat} (h : jj_au S cnt ld pl) (e : ∀ q, q < 70 → ∀ j, S' q j = S q j) : jj_au S' cnt ld pl := by
  obtain ⟨h1, h2, h3, h4⟩ := h
  exact ⟨h1, (e 20 (by omega) 0).trans h2, fun j hj => ⟨(e 21 (by omega) j).trans (h3 j hj).1, (h3 j hj).2⟩, fun j hj => ⟨(e 22 (by omega) j).trans (h4 j hj).1, (h4 j hj).2⟩⟩
theorem jj_im_mono {S S' : jj_Mem} {cnt : Nat} {im : Nat → Nat → Nat} (hc : cnt ≤ 8) (h : jj_im S cnt im) (e : ∀ q, q < 70 → ∀ j, S' q j = S q j) : jj_im S' cnt im := fun l hl j hj => (e (53 + l) (by omega) j).trans (h l hl j hj)
theorem jj_cm_mono {S S' : jj_Mem} {cl : Nat → Nat → Nat} (h : jj_cm S cl) (e : ∀ q, q < 70 → ∀ j, S' q j = S q j) : jj_cm S' cl := fun a ha j hj => ⟨(e (10 + a) (by omega) j).trans (h a ha j hj).1, (h a ha j hj).2⟩

theorem jl_im {lay : jj_Lay} (h : jj_pp lay) : ∀ l, l < 8 → lay[53 + l]? = some (20, 10, []) := fun l hl => by
  match l, hl with
  | 0, _ => exact jl_53 h
  | 1, _ => exact jl_54 h
  | 2, _ => exact jl_55 h
  | 3, _ => exact jl_56 h
  | 4, _ => exact jl_57 h
  | 5, _ => exact jl_58 h
  | 6, _ => exact jl_59 h
  | 7, _ => exact jl_60 h
  | k + 8, hl => omega
theorem jl_ev {lay : jj_Lay} (h : jj_pp lay) : ∀ l, l < 8 → lay[44 + l]? = some (20, 10, []) := fun l hl => by
  match l, hl with
  | 0, _ => exact jl_44 h
  | 1, _ => exact jl_45 h
  | 2, _ => exact jl_46 h
  | 3, _ => exact jl_47 h
  | 4, _ => exact jl_48 h
  | 5, _ => exact jl_49 h
  | 6, _ => exact jl_50 h
  | 7, _ => exact jl_51 h
  | k + 8, hl => omega
theorem jl_od {lay : jj_Lay} (h : jj_pp lay) : ∀ l, l < 8 → lay[62 + l]? = some (20, 10, []) := fun l hl => by
  match l, hl with
  | 0, _ => exact jl_62 h
  | 1, _ => exact jl_63 h
  | 2, _ => exact jl_64 h
  | 3, _ => exact jl_65 h
  | 4, _ => exact jl_66 h
  | 5, _ => exact jl_67 h
  | 6, _ => exact jl_68 h
  | 7, _ => exact jl_69 h
  | k + 8, hl => omega
theorem jl_cl {lay : jj_Lay} (h : jj_pp lay) : ∀ l, l < 10 → lay[10 + l]? = some (20, 5, []) := fun l hl => by
  match l, hl with
  | 0, _ => exact jl_10 h
  | 1, _ => exact jl_11 h
  | 2, _ => exact jl_12 h
  | 3, _ => exact jl_13 h
  | 4, _ => exact jl_14 h
  | 5, _ => exact jl_15 h
  | 6, _ => exact jl_16 h
  | 7, _ => exact jl_17 h
  | 8, _ => exact jl_18 h
  | 9, _ => exact jl_19 h
  | k + 10, hl => omega
theorem jr_im : ∀ l, l < 8 → ([some (some 53), some (some 54), some (some 55), some (some 56), some (some 57), some (some 58), some (some 59), some (some 60)] : List (Option (Option Nat)))[l]? = some (some (some (53 + l))) := fun l hl => by
  match l, hl with
  | 0, _ => rfl
  | 1, _ => rfl
  | 2, _ => rfl
  | 3, _ => rfl
  | 4, _ => rfl
  | 5, _ => rfl
  | 6, _ => rfl
  | 7, _ => rfl
  | k + 8, hl => omega
theorem jr_ev : ∀ l, l < 8 → ([some (some 44), some (some 45), some (some 46), some (some 47), some (some 48), some (some 49), some (some 50), some (some 51)] : List (Option (Option Nat)))[l]? = some (some (some (44 + l))) := fun l hl => by
  match l, hl with
  | 0, _ => rfl
  | 1, _ => rfl
  | 2, _ => rfl
  | 3, _ => rfl
  | 4, _ => rfl
  | 5, _ => rfl
  | 6, _ => rfl
  | 7, _ => rfl
  | k + 8, hl => omega
theorem jr_od : ∀ l, l < 8 → ([some (some 62), some (some 63), some (some 64), some (some 65), some (some 66), some (some 67), some (some 68), some (some 69)] : List (Option (Option Nat)))[l]? = some (some (some (62 + l))) := fun l hl => by
  match l, hl with
  | 0, _ => rfl
  | 1, _ => rfl
  | 2, _ => rfl
  | 3, _ => rfl
  | 4, _ => rfl
  | 5, _ => rfl
  | 6, _ => rfl
  | 7, _ => rfl
  | k + 8, hl => omega
theorem jr_cl : ∀ l, l < 10 → ([some (some 10), some (some 11), some (some 12), some (some 13), some (some 14), some (some 15), some (some 16), some (some 17), some (some 18), some (some 19)] : List (Option (Option Nat)))[l]? = some (some (some (10 + l))) := fun l hl => by
  match l, hl with
  | 0, _ => rfl
  | 1, _ => rfl
  | 2, _ => rfl
  | 3, _ => rfl
  | 4, _ => rfl
  | 5, _ => rfl
  | 6, _ => rfl
  | 7, _ => rfl
  | 8, _ => rfl
  | 9, _ => rfl
  | k + 10, hl => omega
set_option maxRecDepth 100000 in
set_option maxHeartbeats 4000000 in
theorem ct_X0_feeOf {lay : jj_Lay} {S : jj_Mem} {l v : Nat} (hB : jj_pp lay) (hl : l < 8) (hv : v < 3) (hS : S 22 l = some (nI v)) : jj_CT yX0_feeOf (.code yX0_feeOf cX0_feeOf 2 (some .int)) none 0 0 [.ref 20, .int (nI l)] lay S (some (.int (nI (jj_fee v)))) lay S := by
  refine jj_mkI RX0 .int (by decide) rfl (L := [some (.ref 20), some (.int (nI l))]) rfl rfl rfl ?_
  rcases (show v = 0 ∨ v = 1 ∨ v = 2 by omega) with rfl | rfl | rfl
  · refine ⟨35, [some (.ref 20), some (.int (nI l))], dX0_feeOf_35, ?_⟩
    refine js_aload_n 0 rfl dX0_feeOf_0 rfl ?_
    refine js_getr 2 jw_f_RX0_19 (jl_20 hB) rfl (Nat.le_of_ble_eq_true rfl) rfl dX0_feeOf_1 ?_
    refine js_iload_n 1 rfl dX0_feeOf_4 rfl ?_
    refine js_iald l rfl (jl_22 hB) (by omega) (by decide) (hS) dX0_feeOf_5 ?_
    refine js_lookup 32 dX0_feeOf_6 (by decide) (off := 26) (by decide) (by decide) ?_
    refine js_sipush (v := nI 200) dX0_feeOf_32 (by decide) ?_
    exact jj_refl
  · refine ⟨39, [some (.ref 20), some (.int (nI l))], dX0_feeOf_39, ?_⟩
    refine js_aload_n 0 rfl dX0_feeOf_0 rfl ?_
    refine js_getr 2 jw_f_RX0_19 (jl_20 hB) rfl (Nat.le_of_ble_eq_true rfl) rfl dX0_feeOf_1 ?_
    refine js_iload_n 1 rfl dX0_feeOf_4 rfl ?_
    refine js_iald l rfl (jl_22 hB) (by omega) (by decide) (hS) dX0_feeOf_5 ?_
    refine js_lookup 36 dX0_feeOf_6 (by decide) (off := 30) (by decide) (by decide) ?_
    refine js_sipush (v := nI 1000) dX0_feeOf_36 (by decide) ?_
    exact jj_refl
  · refine ⟨43, [some (.ref 20), some (.int (nI l))], dX0_feeOf_43, ?_⟩
    refine js_aload_n 0 rfl dX0_feeOf_0 rfl ?_
    refine js_getr 2 jw_f_RX0_19 (jl_20 hB) rfl (Nat.le_of_ble_eq_true rfl) rfl dX0_feeOf_1 ?_
    refine js_iload_n 1 rfl dX0_feeOf_4 rfl ?_
    refine js_iald l rfl (jl_22 hB) (by omega) (by decide) (hS) dX0_feeOf_5 ?_
    refine js_lookup 40 dX0_feeOf_6 (by decide) (off := 34) (by decide) (by decide) ?_
    refine js_sipush (v := nI 500) dX0_feeOf_40 (by decide) ?_
    exact jj_refl
set_option maxRecDepth 100000 in
set_option maxHeartbeats 4000000 in
theorem ct_X0_poolPartOf {lay : jj_Lay} {S : jj_Mem} {l v : Nat} (hB : jj_pp lay) (hl : l < 8) (hv : v < 3) (hS : S 22 l = some (nI v)) : jj_CT yX0_poolPartOf (.code yX0_poolPartOf cX0_poolPartOf 2 (some .int)) none 1 21 [.ref 20, .int (nI l)] lay S (some (.int (nI (jj_pool v)))) lay S := by
  refine jj_mkI RX0 .int (by decide) rfl (L := [some (.ref 20), some (.int (nI l))]) rfl rfl rfl ⟨11, [some (.ref 20), some (.int (nI l))], dX0_poolPartOf_11, ?_⟩
  refine js_aload_n 0 rfl dX0_poolPartOf_0 rfl ?_
  refine js_iload_n 1 rfl dX0_poolPartOf_1 rfl ?_
  refine js_callV (av := [.int (nI l)]) (st := []) (b := 20) (ct_X0_feeOf hB hl hv hS) (Or.inl rfl) jw_c_X0_feeOf jw_i_RX0 jw_m_RX0_43 jw_s_X0_feeOf jw_e_X0_feeOf (jl_20 hB) rfl jw_y_X0_feeOf rfl ⟨(Nat.le_of_ble_eq_true rfl), (Nat.le_of_ble_eq_true rfl), (Nat.le_refl _), (Nat.le_refl _), (Nat.le_of_ble_eq_true rfl)⟩ dX0_poolPartOf_2 ?_
  refine js_st (st' := [.int (nI (jj_fee v))]) rfl ?_
  have hfe := jj_fee_le v
  refine js_bipush (v := nI 7) dX0_poolPartOf_5 (by decide) ?_
  refine jn_imul dX0_poolPartOf_7 ?_
  refine js_bipush (v := nI 10) dX0_poolPartOf_8 (by decide) ?_
  refine jn_idiv (by omega) (by omega) (by omega) dX0_poolPartOf_10 ?_
  exact jj_refl
set_option maxRecDepth 100000 in
set_option maxHeartbeats 4000000 in
theorem lp_X0_takeFees {lay : jj_Lay} {S : jj_Mem} (hB : jj_pp lay) {cnt : Nat} {ld pl : Nat → Nat} (hau : jj_au S cnt ld pl) {pe : Nat → Nat} (hpe : ∀ j, j < cnt → S 24 j = some (nI (pe j))) : ∀ (k e : Nat), e + k = cnt → jj_RR cX0_takeFees 2 RX0 yX0_takeFees.name none 1 21 lay.length (jj_sl lay) (2, [some (.ref 20), some (.int (nI e))], [], lay, (jj_row S 24 e (fun j => pe j + jj_fee (pl j)))) none .return_ lay (jj_row S 24 cnt (fun j => pe j + jj_fee (pl j))) := by
  intro k
  induction k with
  | zero =>
    intro e he
    refine ⟨30, [some (.ref 20), some (.int (nI e))], dX0_takeFees_30, ?_⟩
    have he : e = cnt := by omega
    subst he
    have hc8 := hau.1
    refine js_iload_n 1 rfl dX0_takeFees_2 rfl ?_
    refine js_aload_n 0 rfl dX0_takeFees_3 rfl ?_
    refine js_geti 0 jw_f_RX0_9 (jl_20 hB) rfl (Nat.le_of_ble_eq_true rfl) rfl ((jj_row_neP (by decide)).trans hau.2.1) dX0_takeFees_4 ?_
    refine jn_icmp_ge 30 (by omega) (by omega) dX0_takeFees_7 (by decide) (fun _ => ?_) (fun h9 => absurd h9 (by omega))
    exact jj_refl
  | succ k ih =>
    intro e he
    refine jj_RRs ?_ (ih (e + 1) (by omega))
    have hc8 := hau.1
    refine js_iload_n 1 rfl dX0_takeFees_2 rfl ?_
    refine js_aload_n 0 rfl dX0_takeFees_3 rfl ?_
    refine js_geti 0 jw_f_RX0_9 (jl_20 hB) rfl (Nat.le_of_ble_eq_true rfl) rfl ((jj_row_neP (by decide)).trans hau.2.1) dX0_takeFees_4 ?_
    refine jn_icmp_ge 30 (by omega) (by omega) dX0_takeFees_7 (by decide) (fun h9 => absurd h9 (by omega)) (fun _ => ?_)
    refine js_aload_n 0 rfl dX0_takeFees_10 rfl ?_
    refine js_getr 4 jw_f_RX0_26 (jl_20 hB) rfl (Nat.le_of_ble_eq_true rfl) rfl dX0_takeFees_11 ?_
    refine js_iload_n 1 rfl dX0_takeFees_14 rfl ?_
    refine js_dup2 rfl rfl dX0_takeFees_15 ?_
    refine js_iald e rfl (jl_24 hB) (by omega) (by decide) ((jj_row_hi (Nat.le_refl _)).trans (hpe e (by omega))) dX0_takeFees_16 ?_
    refine js_aload_n 0 rfl dX0_takeFees_17 rfl ?_
    refine js_iload_n 1 rfl dX0_takeFees_18 rfl ?_
    refine js_callV (av := [.int (nI e)]) (st := [.int (nI (pe e)), .int (nI e), .ref 24]) (b := 20) (ct_X0_feeOf hB (by omega) (hau.2.2.2 e (by omega)).2 ((jj_row_neP (by decide)).trans (hau.2.2.2 e (by omega)).1)) (Or.inl rfl) jw_c_X0_feeOf jw_i_RX0 jw_m_RX0_43 jw_s_X0_feeOf jw_e_X0_feeOf (jl_20 hB) rfl jw_y_X0_feeOf rfl ⟨(Nat.le_of_ble_eq_true rfl), (Nat.le_of_ble_eq_true rfl), (Nat.le_refl _), (Nat.le_refl _), (Nat.le_of_ble_eq_true rfl)⟩ dX0_takeFees_19 ?_
    refine js_st (st' := [.int (nI (jj_fee (pl e))), .int (nI (pe e)), .int (nI e), .ref 24]) rfl ?_
    refine jn_iadd dX0_takeFees_22 ?_
    refine js_iast e rfl (jl_24 hB) (by omega) (by decide) dX0_takeFees_23 ?_
    rw [jj_row_s S 24 e (fun j => pe j + jj_fee (pl j)) rfl]
    refine js_iinc (v := nI (e + 1)) (L' := [some (.ref 20), some (.int (nI (e + 1)))]) dX0_takeFees_24 rfl (jj_inc _) rfl ?_
    refine js_goto 2 dX0_takeFees_27 (by decide) ?_
    exact jj_refl
set_option maxRecDepth 100000 in
set_option maxHeartbeats 4000000 in
theorem ct_X0_takeFees {lay : jj_Lay} {S : jj_Mem} (hB : jj_pp lay) {cnt : Nat} {ld pl : Nat → Nat} (hau : jj_au S cnt ld pl) {pe : Nat → Nat} (hpe : ∀ j, j < cnt → S 24 j = some (nI (pe j))) : jj_CT yX0_takeFees (.code yX0_takeFees cX0_takeFees 2 none) none 1 21 [.ref 20] lay S none lay (jj_row S 24 cnt (fun j => pe j + jj_fee (pl j))) := by
  refine jj_mkV RX0 (by decide) rfl (L := [some (.ref 20), none]) rfl rfl ?_
  have h0 := lp_X0_takeFees (S := S) hB hau hpe cnt 0 (by omega)
  rw [jj_row_0] at h0
  refine jj_RRs ?_ h0
  refine js_iconst (v := nI 0) dX0_takeFees_0 (by decide) ?_
  refine js_istore_n (L' := [some (.ref 20), some (.int (nI 0))]) 1 rfl dX0_takeFees_1 rfl (Nat.le_of_ble_eq_true rfl) ?_
  exact jj_refl
theorem jj_w_w (S : jj_Mem) (p i : Nat) (x y : Int32) : jj_w (jj_w S p i x) p i y = jj_w S p i y := by
  funext q j
  unfold jj_w
  by_cases c : q = p ∧ j = i
  · rw [if_pos c, if_pos c]
  · rw [if_neg c, if_neg c, if_neg c]
theorem jj_w_self {S : jj_Mem} {p i : Nat} {x : Int32} (h : S p i = some x) : jj_w S p i x = S := by
  funext q j
  unfold jj_w
  by_cases c : q = p ∧ j = i
  · rw [if_pos c, c.1, c.2, h]
  · rw [if_neg c]
set_option maxRecDepth 100000 in
set_option maxHeartbeats 4000000 in
theorem lp_X1_takeHouseParts {lay : jj_Lay} {S : jj_Mem} (hB : jj_pp lay) {cnt : Nat} {ld pl : Nat → Nat} (hau : jj_au S cnt ld pl) {b h : Nat} (hK : jj_bk lay b) : ∀ (k e : Nat), e + k = cnt → jj_RR cX1_takeHouseParts 3 RX1 yX1_takeHouseParts.name none 2 42 lay.length (jj_sl lay) (2, [some (.ref b), some (.ref 20), some (.int (nI e))], [], lay, (jj_w S b 0 (nI (h + (jj_sm (fun l => jj_fee (pl l) - jj_pool (pl l)) e))))) none .return_ lay (jj_w S b 0 (nI (h + (jj_sm (fun l => jj_fee (pl l) - jj_pool (pl l)) cnt)))) := by
  intro k
  induction k with
  | zero =>
    intro e he
    refine ⟨36, [some (.ref b), some (.ref 20), some (.int (nI e))], dX1_takeHouseParts_36, ?_⟩
    have he : e = cnt := by omega
    subst he
    have hc8 := hau.1
    have hb := jk_b hK
    refine js_iload_n 2 rfl dX1_takeHouseParts_2 rfl ?_
    refine js_aload_n 1 rfl dX1_takeHouseParts_3 rfl ?_
    refine js_getNi 0 jw_n_RX1_89 (jl_20 hB) rfl (Nat.le_of_ble_eq_true rfl) rfl ((jj_w_neP (by omega)).trans hau.2.1) dX1_takeHouseParts_4 ?_
    refine jn_icmp_ge 36 (by omega) (by omega) dX1_takeHouseParts_7 (by decide) (fun _ => ?_) (fun h9 => absurd h9 (by omega))
    exact jj_refl
  | succ k ih =>
    intro e he
    refine jj_RRs ?_ (ih (e + 1) (by omega))
    have hc8 := hau.1
    have hb := jk_b hK
    refine js_iload_n 2 rfl dX1_takeHouseParts_2 rfl ?_
    refine js_aload_n 1 rfl dX1_takeHouseParts_3 rfl ?_
    refine js_getNi 0 jw_n_RX1_89 (jl_20 hB) rfl (Nat.le_of_ble_eq_true rfl) rfl ((jj_w_neP (by omega)).trans hau.2.1) dX1_takeHouseParts_4 ?_
    refine jn_icmp_ge 36 (by omega) (by omega) dX1_takeHouseParts_7 (by decide) (fun h9 => absurd h9 (by omega)) (fun _ => ?_)
    refine js_aload_n 0 rfl dX1_takeHouseParts_10 rfl ?_
    refine js_dup rfl dX1_takeHouseParts_11 ?_
    refine js_geti 0 jw_f_RX1_9 (jk_0 hK) rfl (Nat.le_of_ble_eq_true rfl) rfl (jj_w_at _ _ _ _) dX1_takeHouseParts_12 ?_
    refine js_aload_n 1 rfl dX1_takeHouseParts_15 rfl ?_
    refine js_iload_n 2 rfl dX1_takeHouseParts_16 rfl ?_
    refine js_callVN (av := [.int (nI e)]) (st := [.int (nI (h + (jj_sm (fun l => jj_fee (pl l) - jj_pool (pl l)) e))), .ref b]) (b := 20) (ct_X0_feeOf hB (by omega) (hau.2.2.2 e (by omega)).2 ((jj_w_neP (by omega)).trans (hau.2.2.2 e (by omega)).1)) (Or.inl rfl) jw_c_X0_feeOf jw_i_RX0 jw_h_RX1_94 jw_s_X0_feeOf jw_e_X0_feeOf (jl_20 hB) rfl jw_y_X0_feeOf rfl ⟨(Nat.le_of_ble_eq_true rfl), (Nat.le_of_ble_eq_true rfl), (Nat.le_refl _), (Nat.le_refl _), (Nat.le_of_ble_eq_true rfl)⟩ dX1_takeHouseParts_17 ?_
    refine js_st (st' := [.int (nI (jj_fee (pl e))), .int (nI (h + (jj_sm (fun l => jj_fee (pl l) - jj_pool (pl l)) e))), .ref b]) rfl ?_
    refine js_aload_n 1 rfl dX1_takeHouseParts_20 rfl ?_
    refine js_iload_n 2 rfl dX1_takeHouseParts_21 rfl ?_
    refine js_callVN (av := [.int (nI e)]) (st := [.int (nI (jj_fee (pl e))), .int (nI (h + (jj_sm (fun l => jj_fee (pl l) - jj_pool (pl l)) e))), .ref b]) (b := 20) (ct_X0_poolPartOf hB (by omega) (hau.2.2.2 e (by omega)).2 ((jj_w_neP (by omega)).trans (hau.2.2.2 e (by omega)).1)) (Or.inl rfl) jw_c_X0_poolPartOf jw_i_RX0 jw_h_RX1_98 jw_s_X0_poolPartOf jw_e_X0_poolPartOf (jl_20 hB) rfl jw_y_X0_poolPartOf rfl ⟨(Nat.le_of_ble_eq_true rfl), (Nat.le_of_ble_eq_true rfl), (Nat.le_refl _), (Nat.le_refl _), (Nat.le_of_ble_eq_true rfl)⟩ dX1_takeHouseParts_22 ?_
    refine js_st (st' := [.int (nI (jj_pool (pl e))), .int (nI (jj_fee (pl e))), .int (nI (h + (jj_sm (fun l => jj_fee (pl l) - jj_pool (pl l)) e))), .ref b]) rfl ?_
    refine jn_isub (jj_pool_le _) dX1_takeHouseParts_25 ?_
    refine jn_iadd dX1_takeHouseParts_26 ?_
    refine js_put 0 jw_f_RX1_9 (jk_0 hK) rfl (Nat.le_of_ble_eq_true rfl) rfl rfl (by decide +kernel) dX1_takeHouseParts_27 ?_
    have h7 : h + (jj_sm (fun l => jj_fee (pl l) - jj_pool (pl l)) e) + (jj_fee (pl e) - jj_pool (pl e)) = h + (jj_sm (fun l => jj_fee (pl l) - jj_pool (pl l)) (e + 1)) := Nat.add_assoc _ _ _
    rw [jj_w_w, h7]
    refine js_iinc (v := nI (e + 1)) (L' := [some (.ref b), some (.ref 20), some (.int (nI (e + 1)))]) dX1_takeHouseParts_30 rfl (jj_inc _) rfl ?_
    refine js_goto 2 dX1_takeHouseParts_33 (by decide) ?_
    exact jj_refl
set_option maxRecDepth 100000 in
set_option maxHeartbeats 4000000 in
theorem ct_X1_takeHouseParts {lay : jj_Lay} {S : jj_Mem} (hB : jj_pp lay) {cnt : Nat} {ld pl : Nat → Nat} (hau : jj_au S cnt ld pl) {b h : Nat} (hK : jj_bk lay b) (hh : S b 0 = some (nI h)) : jj_CT yX1_takeHouseParts (.code yX1_takeHouseParts cX1_takeHouseParts 3 none) none 2 42 [.ref b, .ref 20] lay S none lay (jj_w S b 0 (nI (h + (jj_sm (fun l => jj_fee (pl l) - jj_pool (pl l)) cnt)))) := by
  refine jj_mkV RX1 (by decide) rfl (L := [some (.ref b), some (.ref 20), none]) rfl rfl ?_
  have h0 := lp_X1_takeHouseParts (S := S) (h := h) hB hau hK cnt 0 (by omega)
  rw [show h + jj_sm (fun l => jj_fee (pl l) - jj_pool (pl l)) 0 = h from rfl, jj_w_self hh] at h0
  refine jj_RRs ?_ h0
  refine js_iconst (v := nI 0) dX1_takeHouseParts_0 (by decide) ?_
  refine js_istore_n (L' := [some (.ref b), some (.ref 20), some (.int (nI 0))]) 2 rfl dX1_takeHouseParts_1 rfl (Nat.le_of_ble_eq_true rfl) ?_
  exact jj_refl
def jj_wg (ld : Nat → Nat) (im : Nat → Nat → Nat) (land cnt j : Nat) : Nat := jj_sm (fun l => if ld l = land then im l j else 0) cnt
set_option maxRecDepth 100000 in
set_option maxHeartbeats 4000000 in
theorem lp_X1_weighLand {lay : jj_Lay} {S : jj_Mem} (hB : jj_pp lay) {cnt : Nat} {ld pl : Nat → Nat} (hau : jj_au S cnt ld pl) {b land : Nat} {im : Nat → Nat → Nat} (hK : jj_bk lay b) (hla : land < 4) (him : jj_im S cnt im) : ∀ (k e : Nat), e + k = cnt → jj_RR cX1_weighLand 5 RX1 yX1_weighLand.name none 1 23 lay.length (jj_sl lay) (11, [some (.ref b), some (.int (nI land)), some (.ref 20), some (.ref 42), some (.int (nI e))], [], lay, (jj_row S (b + 9) 10 (jj_wg ld im land e))) none .return_ lay (jj_row S (b + 9) 10 (jj_wg ld im land cnt)) := by
  intro k
  induction k with
  | zero =>
    intro e he
    refine ⟨52, [some (.ref b), some (.int (nI land)), some (.ref 20), some (.ref 42), some (.int (nI e))], dX1_weighLand_52, ?_⟩
    have he : e = cnt := by omega
    subst he
    have hc8 := hau.1
    have hb := jk_b hK
    refine js_iload dX1_weighLand_11 rfl ?_
    refine js_aload_n 2 rfl dX1_weighLand_13 rfl ?_
    refine js_getNi 0 jw_n_RX1_89 (jl_20 hB) rfl (Nat.le_of_ble_eq_true rfl) rfl ((jj_row_neP (by omega)).trans hau.2.1) dX1_weighLand_14 ?_
    refine jn_icmp_ge 52 (by omega) (by omega) dX1_weighLand_17 (by decide) (fun _ => ?_) (fun h9 => absurd h9 (by omega))
    exact jj_refl
  | succ k ih =>
    intro e he
    refine jj_RRs ?_ (ih (e + 1) (by omega))
    have hc8 := hau.1
    have hb := jk_b hK
    refine js_iload dX1_weighLand_11 rfl ?_
    refine js_aload_n 2 rfl dX1_weighLand_13 rfl ?_
    refine js_getNi 0 jw_n_RX1_89 (jl_20 hB) rfl (Nat.le_of_ble_eq_true rfl) rfl ((jj_row_neP (by omega)).trans hau.2.1) dX1_weighLand_14 ?_
    refine jn_icmp_ge 52 (by omega) (by omega) dX1_weighLand_17 (by decide) (fun h9 => absurd h9 (by omega)) (fun _ => ?_)
    have hl1 := (hau.2.2.1 e (by omega)).2
    refine js_aload_n 2 rfl dX1_weighLand_20 rfl ?_
    refine js_getNr 1 jw_n_RX1_101 (jl_20 hB) rfl (Nat.le_of_ble_eq_true rfl) rfl dX1_weighLand_21 ?_
    refine js_iload dX1_weighLand_24 rfl ?_
    refine js_iald e rfl (jl_21 hB) (by omega) (by decide) ((jj_row_neP (by omega)).trans (hau.2.2.1 e (by omega)).1) dX1_weighLand_26 ?_
    refine js_iload_n 1 rfl dX1_weighLand_27 rfl ?_
    refine jn_icmp_ne 46 (by omega) (by omega) dX1_weighLand_28 (by decide) (fun h5 => ?_) (fun h5 => ?_)
    · have h7 : jj_wg ld im land (e + 1) = jj_wg ld im land e := funext fun j => by unfold jj_wg; show jj_sm _ e + (if ld e = land then im e j else 0) = _; rw [if_neg (by omega), Nat.add_zero]
      rw [h7]
      refine js_iinc (v := nI (e + 1)) (L' := [some (.ref b), some (.int (nI land)), some (.ref 20), some (.ref 42), some (.int (nI (e + 1)))]) dX1_weighLand_46 rfl (jj_inc _) rfl ?_
      refine js_goto 11 dX1_weighLand_49 (by decide) ?_
      exact jj_refl
    · refine js_aload_n 0 rfl dX1_weighLand_31 rfl ?_
      refine js_getr 10 jw_f_RX1_43 (jk_0 hK) rfl (Nat.le_of_ble_eq_true rfl) rfl dX1_weighLand_32 ?_
      refine js_aload_n 3 rfl dX1_weighLand_35 rfl ?_
      refine js_getNr 1 jw_n_RX1_104 (jl_42 hB) rfl (Nat.le_of_ble_eq_true rfl) rfl dX1_weighLand_36 ?_
      refine js_iload dX1_weighLand_39 rfl ?_
      refine js_aald e rfl (jl_52 hB) (by omega) (by decide) (jr_im e (by omega)) dX1_weighLand_41 ?_
      refine js_iconst (v := nI 1) dX1_weighLand_42 (by decide) ?_
      refine js_callSN (av := [.ref (b + 9), .ref (53 + e), .int (nI 1)]) (st := []) (ct_X6_addTimes (c := 1) (jk_9 hK) (jl_im hB e (by omega)) (by omega) (by omega) (fun j hj => jj_row_at hj) (fun j hj => (jj_row_neP (by omega)).trans (him e (by omega) j hj))) (Or.inl rfl) jw_c_X6_addTimes jw_i_RX6 jw_h_RX1_110 jw_s_X6_addTimes jw_y_X6_addTimes rfl ⟨(Nat.le_of_ble_eq_true rfl), (Nat.le_of_ble_eq_true rfl), (Nat.le_refl _), (Nat.le_refl _), (Nat.le_of_ble_eq_true rfl)⟩ dX1_weighLand_43 ?_
      refine js_st (st' := []) rfl ?_
      have h7 : (fun j => jj_wg ld im land e j + im e j * 1) = jj_wg ld im land (e + 1) := funext fun j => by show _ = jj_sm _ e + (if ld e = land then im e j else 0); rw [if_pos (by omega), Nat.mul_one]; rfl
      rw [jj_row_row, h7]
      refine js_iinc (v := nI (e + 1)) (L' := [some (.ref b), some (.int (nI land)), some (.ref 20), some (.ref 42), some (.int (nI (e + 1)))]) dX1_weighLand_46 rfl (jj_inc _) rfl ?_
      refine js_goto 11 dX1_weighLand_49 (by decide) ?_
      exact jj_refl
set_option maxRecDepth 100000 in
set_option maxHeartbeats 4000000 in
theorem ct_X1_weighLand {lay : jj_Lay} {S : jj_Mem} (hB : jj_pp lay) {cnt : Nat} {ld pl : Nat → Nat} (hau : jj_au S cnt ld pl) {b land : Nat} {im : Nat → Nat → Nat} (hK : jj_bk lay b) (hla : land < 4) (him : jj_im S cnt im) : jj_CT yX1_weighLand (.code yX1_weighLand cX1_weighLand 5 none) none 1 23 [.ref b, .int (nI land), .ref 20, .ref 42] lay S none lay (jj_row S (b + 9) 10 (jj_wg ld im land cnt)) := by
  refine jj_mkV RX1 (by decide) rfl (L := [some (.ref b), some (.int (nI land)), some (.ref 20), some (.ref 42), none]) rfl rfl ?_
  have h0 := lp_X1_weighLand (S := S) (land := land) hB hau hK hla him cnt 0 (by omega)
  refine jj_RRs ?_ h0
  refine js_aload_n 0 rfl dX1_weighLand_0 rfl ?_
  refine js_getr 10 jw_f_RX1_43 (jk_0 hK) rfl (Nat.le_of_ble_eq_true rfl) rfl dX1_weighLand_1 ?_
  refine js_iconst (v := nI 0) dX1_weighLand_4 (by decide) ?_
  refine js_callS (av := [.ref (b + 9), .int (nI 0)]) (st := []) (ct_J7_fill_53178 (c := 0) (jk_9 hK) (by omega)) (Or.inl rfl) jw_c_J7_fill_53178 jw_i_RJ7 jw_m_RX1_53 jw_s_J7_fill_53178 jw_y_J7_fill_53178 rfl ⟨(Nat.le_of_ble_eq_true rfl), (Nat.le_of_ble_eq_true rfl), (Nat.le_refl _), (Nat.le_refl _), (Nat.le_of_ble_eq_true rfl)⟩ dX1_weighLand_5 ?_
  refine js_st (st' := []) rfl ?_
  refine js_iconst (v := nI 0) dX1_weighLand_8 (by decide) ?_
  refine js_istore (L' := [some (.ref b), some (.int (nI land)), some (.ref 20), some (.ref 42), some (.int (nI 0))]) dX1_weighLand_9 rfl (Nat.le_of_ble_eq_true rfl) ?_
  exact jj_refl
def jj_po (ld pl : Nat → Nat) (land cnt : Nat) : Nat := jj_sm (fun l => if ld l = land then jj_pool (pl l) else 0) cnt
set_option maxRecDepth 100000 in
set_option maxHeartbeats 4000000 in
theorem lp_X1_poolOf {lay : jj_Lay} {S : jj_Mem} (hB : jj_pp lay) {cnt : Nat} {ld pl : Nat → Nat} (hau : jj_au S cnt ld pl) {b land : Nat} (hla : land < 4) : ∀ (k e : Nat), e + k = cnt → jj_RR cX1_poolOf 5 RX1 yX1_poolOf.name none 2 42 lay.length (jj_sl lay) (5, [some (.ref b), some (.int (nI land)), some (.ref 20), some (.int (nI (jj_po ld pl land e))), some (.int (nI e))], [], lay, S) (some (.int (nI (jj_po ld pl land cnt)))) .ireturn lay S := by
  intro k
  induction k with
  | zero =>
    intro e he
    refine ⟨41, [some (.ref b), some (.int (nI land)), some (.ref 20), some (.int (nI (jj_po ld pl land e))), some (.int (nI e))], dX1_poolOf_41, ?_⟩
    have he : e = cnt := by omega
    subst he
    have hc8 := hau.1
    refine js_iload dX1_poolOf_5 rfl ?_
    refine js_aload_n 2 rfl dX1_poolOf_7 rfl ?_
    refine js_getNi 0 jw_n_RX1_89 (jl_20 hB) rfl (Nat.le_of_ble_eq_true rfl) rfl (hau.2.1) dX1_poolOf_8 ?_
    refine jn_icmp_ge 40 (by omega) (by omega) dX1_poolOf_11 (by decide) (fun _ => ?_) (fun h9 => absurd h9 (by omega))
    refine js_iload_n 3 rfl dX1_poolOf_40 rfl ?_
    exact jj_refl
  | succ k ih =>
    intro e he
    refine jj_RRs ?_ (ih (e + 1) (by omega))
    have hc8 := hau.1
    have hl1 := (hau.2.2.1 e (by omega)).2
    refine js_iload dX1_poolOf_5 rfl ?_
    refine js_aload_n 2 rfl dX1_poolOf_7 rfl ?_
    refine js_getNi 0 jw_n_RX1_89 (jl_20 hB) rfl (Nat.le_of_ble_eq_true rfl) rfl (hau.2.1) dX1_poolOf_8 ?_
    refine jn_icmp_ge 40 (by omega) (by omega) dX1_poolOf_11 (by decide) (fun h9 => absurd h9 (by omega)) (fun _ => ?_)
    refine js_aload_n 2 rfl dX1_poolOf_14 rfl ?_
    refine js_getNr 1 jw_n_RX1_101 (jl_20 hB) rfl (Nat.le_of_ble_eq_true rfl) rfl dX1_poolOf_15 ?_
    refine js_iload dX1_poolOf_18 rfl ?_
    refine js_iald e rfl (jl_21 hB) (by omega) (by decide) ((hau.2.2.1 e (by omega)).1) dX1_poolOf_20 ?_
    refine js_iload_n 1 rfl dX1_poolOf_21 rfl ?_
    refine jn_icmp_ne 34 (by omega) (by omega) dX1_poolOf_22 (by decide) (fun h5 => ?_) (fun h5 => ?_)
    · have h7 : jj_po ld pl land (e + 1) = jj_po ld pl land e := by unfold jj_po; show jj_sm _ e + (if ld e = land then jj_pool (pl e) else 0) = _; rw [if_neg (by omega), Nat.add_zero]
      rw [h7]
      refine js_iinc (v := nI (e + 1)) (L' := [some (.ref b), some (.int (nI land)), some (.ref 20), some (.int (nI (jj_po ld pl land e))), some (.int (nI (e + 1)))]) dX1_poolOf_34 rfl (jj_inc _) rfl ?_
      refine js_goto 5 dX1_poolOf_37 (by decide) ?_
      exact jj_refl
    · have h7 : jj_po ld pl land (e + 1) = jj_po ld pl land e + jj_pool (pl e) := by show jj_sm _ e + (if ld e = land then jj_pool (pl e) else 0) = _; rw [if_pos (by omega)]; rfl
      rw [h7]
      refine js_iload_n 3 rfl dX1_poolOf_25 rfl ?_
      refine js_aload_n 2 rfl dX1_poolOf_26 rfl ?_
      refine js_iload dX1_poolOf_27 rfl ?_
      refine js_callVN (av := [.int (nI e)]) (st := [.int (nI (jj_po ld pl land e))]) (b := 20) (ct_X0_poolPartOf hB (by omega) (hau.2.2.2 e (by omega)).2 (hau.2.2.2 e (by omega)).1) (Or.inl rfl) jw_c_X0_poolPartOf jw_i_RX0 jw_h_RX1_98 jw_s_X0_poolPartOf jw_e_X0_poolPartOf (jl_20 hB) rfl jw_y_X0_poolPartOf rfl ⟨(Nat.le_of_ble_eq_true rfl), (Nat.le_of_ble_eq_true rfl), (Nat.le_refl _), (Nat.le_refl _), (Nat.le_of_ble_eq_true rfl)⟩ dX1_poolOf_29 ?_
      refine js_st (st' := [.int (nI (jj_pool (pl e))), .int (nI (jj_po ld pl land e))]) rfl ?_
      refine jn_iadd dX1_poolOf_32 ?_
      refine js_istore_n (L' := [some (.ref b), some (.int (nI land)), some (.ref 20), some (.int (nI (((jj_po ld pl land e)) + ((jj_pool (pl e)))))), some (.int (nI e))]) 3 rfl dX1_poolOf_33 rfl (Nat.le_of_ble_eq_true rfl) ?_
      refine js_iinc (v := nI (e + 1)) (L' := [some (.ref b), some (.int (nI land)), some (.ref 20), some (.int (nI (((jj_po ld pl land e)) + ((jj_pool (pl e)))))), some (.int (nI (e + 1)))]) dX1_poolOf_34 rfl (jj_inc _) rfl ?_
      refine js_goto 5 dX1_poolOf_37 (by decide) ?_
      exact jj_refl
set_option maxRecDepth 100000 in
set_option maxHeartbeats 4000000 in
theorem ct_X1_poolOf {lay : jj_Lay} {S : jj_Mem} (hB : jj_pp lay) {cnt : Nat} {ld pl : Nat → Nat} (hau : jj_au S cnt ld pl) {b land : Nat} (hla : land < 4) : jj_CT yX1_poolOf (.code yX1_poolOf cX1_poolOf 5 (some .int)) none 2 42 [.ref b, .int (nI land), .ref 20] lay S (some (.int (nI (jj_po ld pl land cnt)))) lay S := by
  refine jj_mkI RX1 .int (by decide) rfl (L := [some (.ref b), some (.int (nI land)), some (.ref 20), none, none]) rfl rfl rfl ?_
  refine jj_RRs ?_ (lp_X1_poolOf (b := b) hB hau hla cnt 0 (by omega))
  refine js_iconst (v := nI 0) dX1_poolOf_0 (by decide) ?_
  refine js_istore_n (L' := [some (.ref b), some (.int (nI land)), some (.ref 20), some (.int (nI 0)), none]) 3 rfl dX1_poolOf_1 rfl (Nat.le_of_ble_eq_true rfl) ?_
  refine js_iconst (v := nI 0) dX1_poolOf_2 (by decide) ?_
  refine js_istore (L' := [some (.ref b), some (.int (nI land)), some (.ref 20), some (.int (nI 0)), some (.int (nI 0))]) dX1_poolOf_3 rfl (Nat.le_of_ble_eq_true rfl) ?_
  exact jj_refl
end
section
/-! SPLIT, SHARE, RECOUP, PAY. -/
theorem jj_w_row_comm {S : jj_Mem} {p p' n i : Nat} {h' : Nat → Nat} {x : Int32} (hp : p ≠ p') : jj_w (jj_row S p' n h') p i x = jj_row (jj_w S p i x) p' n h' := by
  funext q j
  unfold jj_w jj_row
  by_cases c : q = p' ∧ j < n
  · rw [if_neg (fun w => hp (w.1.symm.trans c.1)), if_pos c, if_pos c]
  · rw [if_neg c, if_neg c]
theorem jj_row2_s {S : jj_Mem} {p p' e : Nat} {h h' : Nat → Nat} (hp : p ≠ p') {x y : Int32} (hx : x = nI (h e)) (hy : y = nI (h' e)) : jj_w (jj_w (jj_row (jj_row S p e h) p' e h') p e x) p' e y = jj_row (jj_row S p (e + 1) h) p' (e + 1) h' := by
  rw [jj_w_row_comm hp, jj_row_s S p e h hx, jj_row_s _ p' e h' hy]
theorem jj_row_comm {S : jj_Mem} {p p' n n' : Nat} {h h' : Nat → Nat} (hp : p ≠ p') : jj_row (jj_row S p n h) p' n' h' = jj_row (jj_row S p' n' h') p n h := by
  funext q j
  unfold jj_row
  by_cases c : q = p' ∧ j < n'
  · rw [if_pos c, if_neg (fun w => hp (w.1.symm.trans c.1)), if_pos c]
  · rw [if_neg c, if_neg c]
theorem jj_w_row {S : jj_Mem} {p n i y : Nat} {h : Nat → Nat} (hi : i < n) {x : Int32} (hx : x = nI y) : jj_w (jj_row S p n h) p i x = jj_row S p n (jj_up h i y) := by
  funext q j
  unfold jj_w jj_row jj_up
  by_cases c : q = p ∧ j = i
  · rw [if_pos c, if_pos ⟨c.1, by omega⟩, if_pos c.2, hx]
  · rw [if_neg c]
    by_cases d : q = p ∧ j < n
    · rw [if_pos d, if_pos d, if_neg (fun w => c ⟨d.1, w⟩)]
    · rw [if_neg d, if_neg d]
theorem jj_ife {A B : Nat → Nat} {e : Nat} (h : A e = B e) (j : Nat) : (if j < e then A j else B j) = (if j < e + 1 then A j else B j) := by
  by_cases c : j = e
  · rw [c, if_neg (by omega), if_pos (by omega), h]
  · by_cases d : j < e
    · rw [if_pos d, if_pos (by omega)]
    · rw [if_neg d, if_neg (by omega)]
theorem jj_ifu {A B : Nat → Nat} {e y : Nat} (h : A e = y) (j : Nat) : jj_up (fun j => if j < e then A j else B j) e y j = (if j < e + 1 then A j else B j) := by
  unfold jj_up
  by_cases c : j = e
  · rw [if_pos c, c, if_pos (by omega), h]
  · rw [if_neg c]
    show (if j < e then A j else B j) = _
    by_cases d : j < e
    · rw [if_pos d, if_pos (by omega)]
    · rw [if_neg d, if_neg (by omega)]
set_option maxRecDepth 100000 in
set_option maxHeartbeats 4000000 in
theorem ct_X5_claimsOf {lay : jj_Lay} {S : jj_Mem} {u : Nat} {cl : Nat → Nat → Nat} (hB : jj_pp lay) (hu : u < 10) (hcm : jj_cm S cl) : jj_CT yX5_claimsOf (.code yX5_claimsOf cX5_claimsOf 2 (some .int)) none 1 25 [.ref 8, .int (nI u)] lay S (some (.int (nI (jj_sm (fun q => cl u q) 5)))) lay S := by
  refine jj_mkI RX5 .int (by decide) rfl (L := [some (.ref 8), some (.int (nI u))]) rfl rfl rfl ⟨9, [some (.ref 8), some (.int (nI u))], dX5_claimsOf_9, ?_⟩
  refine js_aload_n 0 rfl dX5_claimsOf_0 rfl ?_
  refine js_getr 0 jw_f_RX5_11 (jl_8 hB) rfl (Nat.le_of_ble_eq_true rfl) rfl dX5_claimsOf_1 ?_
  refine js_iload_n 1 rfl dX5_claimsOf_4 rfl ?_
  refine js_aald u rfl (jl_9 hB) (by omega) (by decide) (jr_cl u hu) dX5_claimsOf_5 ?_
  refine js_callSN (av := [.ref (10 + u)]) (st := []) (ct_X6_sumOf (f := fun q => cl u q) (jl_cl hB u hu) (by omega) (fun j hj => (hcm u hu j hj).1)) (Or.inl rfl) jw_c_X6_sumOf jw_i_RX6 jw_h_RX5_16 jw_s_X6_sumOf jw_y_X6_sumOf rfl ⟨(Nat.le_of_ble_eq_true rfl), (Nat.le_of_ble_eq_true rfl), (Nat.le_refl _), (Nat.le_refl _), (Nat.le_of_ble_eq_true rfl)⟩ dX5_claimsOf_6 ?_
  refine js_st (st' := [.int (nI (jj_sm (fun q => cl u q) 5))]) rfl ?_
  exact jj_refl
theorem jj_cm_sm {S : jj_Mem} {cl : Nat → Nat → Nat} (h : jj_cm S cl) {u : Nat} (hu : u < 10) : jj_sm (fun q => cl u q) 5 ≤ 500 := by
  have h1 := jj_sm_le (f := fun q => cl u q) (g := fun _ => 100) (n := 5) (fun j hj => (h u hu j hj).2)
  rw [jj_sm_const] at h1
  omega
set_option maxRecDepth 100000 in
set_option maxHeartbeats 4000000 in
theorem ct_X5_isInConflict {lay : jj_Lay} {S : jj_Mem} {u : Nat} {cl : Nat → Nat → Nat} (hB : jj_pp lay) (hu : u < 10) (hcm : jj_cm S cl) : jj_CT yX5_isInConflict (.code yX5_isInConflict cX5_isInConflict 2 (some .boolean)) none 2 46 [.ref 8, .int (nI u)] lay S (some (.int (nI (jj_b (decide (100 < jj_sm (fun q => cl u q) 5)))))) lay S := by
  have h5 := jj_cm_sm hcm hu
  by_cases h : 100 < jj_sm (fun q => cl u q) 5
  · rw [show jj_b (decide (100 < jj_sm (fun q => cl u q) 5)) = 1 by simp [jj_b, h]]
    refine jj_mkI RX5 .boolean (by decide) rfl (L := [some (.ref 8), some (.int (nI u))]) rfl rfl rfl ⟨15, [some (.ref 8), some (.int (nI u))], dX5_isInConflict_15, ?_⟩
    refine js_aload_n 0 rfl dX5_isInConflict_0 rfl ?_
    refine js_iload_n 1 rfl dX5_isInConflict_1 rfl ?_
    refine js_callV (av := [.int (nI u)]) (st := []) (b := 8) (ct_X5_claimsOf hB hu hcm) (Or.inl rfl) jw_c_X5_claimsOf jw_i_RX5 jw_m_RX5_20 jw_s_X5_claimsOf jw_e_X5_claimsOf (jl_8 hB) rfl jw_y_X5_claimsOf rfl ⟨(Nat.le_of_ble_eq_true rfl), (Nat.le_of_ble_eq_true rfl), (Nat.le_refl _), (Nat.le_refl _), (Nat.le_of_ble_eq_true rfl)⟩ dX5_isInConflict_2 ?_
    refine js_st (st' := [.int (nI (jj_sm (fun q => cl u q) 5))]) rfl ?_
    refine js_bipush (v := nI 100) dX5_isInConflict_5 (by decide) ?_
    refine jn_icmp_le 14 (by omega) (by omega) dX5_isInConflict_7 (by decide) (fun h9 => absurd h9 (by omega)) (fun _ => ?_)
    refine js_iconst (v := nI 1) dX5_isInConflict_10 (by decide) ?_
    refine js_goto 15 dX5_isInConflict_11 (by decide) ?_
    exact jj_refl
  · rw [show jj_b (decide (100 < jj_sm (fun q => cl u q) 5)) = 0 by simp [jj_b, h]]
    refine jj_mkI RX5 .boolean (by decide) rfl (L := [some (.ref 8), some (.int (nI u))]) rfl rfl rfl ⟨15, [some (.ref 8), some (.int (nI u))], dX5_isInConflict_15, ?_⟩
    refine js_aload_n 0 rfl dX5_isInConflict_0 rfl ?_
    refine js_iload_n 1 rfl dX5_isInConflict_1 rfl ?_
    refine js_callV (av := [.int (nI u)]) (st := []) (b := 8) (ct_X5_claimsOf hB hu hcm) (Or.inl rfl) jw_c_X5_claimsOf jw_i_RX5 jw_m_RX5_20 jw_s_X5_claimsOf jw_e_X5_claimsOf (jl_8 hB) rfl jw_y_X5_claimsOf rfl ⟨(Nat.le_of_ble_eq_true rfl), (Nat.le_of_ble_eq_true rfl), (Nat.le_refl _), (Nat.le_refl _), (Nat.le_of_ble_eq_true rfl)⟩ dX5_isInConflict_2 ?_
    refine js_st (st' := [.int (nI (jj_sm (fun q => cl u q) 5))]) rfl ?_
    refine js_bipush (v := nI 100) dX5_isInConflict_5 (by decide) ?_
    refine jn_icmp_le 14 (by omega) (by omega) dX5_isInConflict_7 (by decide) (fun _ => ?_) (fun h9 => absurd h9 (by omega))
    refine js_iconst (v := nI 0) dX5_isInConflict_14 (by decide) ?_
    exact jj_refl
set_option maxRecDepth 100000 in
set_option maxHeartbeats 4000000 in
theorem lp_X1_split {lay : jj_Lay} {S : jj_Mem} {b q a W : Nat} {g w : Nat → Nat} (hK : jj_bk lay b) (hq : lay[q]? = some (20, 10, [])) (hq8 : q ≠ b + 8) (hq10 : q ≠ b + 10) (hg : ∀ j, j < 10 → S (b + 8) j = some (nI (g j))) (hw : ∀ j, j < 10 → S q j = some (nI (w j))) (hs : jj_sm w 10 = W) (hW : 0 < W) (hW2 : W < 1000000) (ha : a < 2 ^ 31) (ham : ∀ j, j < 10 → a * w j < 2 ^ 31) : ∀ (k e : Nat), e + k = 10 → jj_R cX1_split 7 RX1 yX1_split.name none 1 25 lay.length (jj_sl lay) (17, [some (.ref b), some (.int (nI a)), some (.ref q), some (.int (nI W)), some (.int (nI (a - jj_sm (fun j => a * w j / W) e))), some (.int (nI e)), none], [], lay, (jj_row (jj_row S (b + 8) e (fun j => g j + a * w j / W)) (b + 10) e (fun j => a * w j % W))) (75, [some (.ref b), some (.int (nI a)), some (.ref q), some (.int (nI W)), some (.int (nI (a - jj_sm (fun j => a * w j / W) 10))), some (.int (nI 0)), none], [], lay, (jj_row (jj_row S (b + 8) 10 (fun j => g j + a * w j / W)) (b + 10) 10 (fun j => a * w j % W))) := by
  intro k
  induction k with
  | zero =>
    intro e he
    have he : e = 10 := by omega
    subst he
    refine js_iload dX1_split_17 rfl ?_
    refine js_bipush (v := nI 10) dX1_split_19 (by decide) ?_
    refine jn_icmp_ge 72 (by omega) (by omega) dX1_split_21 (by decide) (fun _ => ?_) (fun h9 => absurd h9 (by omega))
    refine js_iconst (v := nI 0) dX1_split_72 (by decide) ?_
    refine js_istore (L' := [some (.ref b), some (.int (nI a)), some (.ref q), some (.int (nI W)), some (.int (nI (a - jj_sm (fun j => a * w j / W) 10))), some (.int (nI 0)), none]) dX1_split_73 rfl (Nat.le_of_ble_eq_true rfl) ?_
    exact jj_refl
  | succ k ih =>
    intro e he
    refine jj_tr ?_ (ih (e + 1) (by omega))
    refine js_iload dX1_split_17 rfl ?_
    refine js_bipush (v := nI 10) dX1_split_19 (by decide) ?_
    refine jn_icmp_ge 72 (by omega) (by omega) dX1_split_21 (by decide) (fun h9 => absurd h9 (by omega)) (fun _ => ?_)
    have hm := ham e (by omega)
    have hl := Nat.le_trans (jj_sm_mono (f := (fun j => a * w j / W)) (show e + 1 ≤ 10 by omega)) (jj_left (a := a) hW hs).1
    have hl2 : jj_sm (fun j => a * w j / W) (e + 1) = jj_sm (fun j => a * w j / W) e + a * w e / W := rfl
    refine js_iload_n 1 rfl dX1_split_24 rfl ?_
    refine js_aload_n 2 rfl dX1_split_25 rfl ?_
    refine js_iload dX1_split_26 rfl ?_
    refine js_iald e rfl hq (by omega) (by decide) ((jj_row_neP hq10).trans ((jj_row_neP hq8).trans (hw e (by omega)))) dX1_split_28 ?_
    refine jn_imul dX1_split_29 ?_
    refine js_istore (L' := [some (.ref b), some (.int (nI a)), some (.ref q), some (.int (nI W)), some (.int (nI (a - jj_sm (fun j => a * w j / W) e))), some (.int (nI e)), some (.int (nI (a * ((w e)))))]) dX1_split_30 rfl (Nat.le_of_ble_eq_true rfl) ?_
    refine js_aload_n 0 rfl dX1_split_32 rfl ?_
    refine js_getr 9 jw_f_RX1_40 (jk_0 hK) rfl (Nat.le_of_ble_eq_true rfl) rfl dX1_split_33 ?_
    refine js_iload dX1_split_36 rfl ?_
    refine js_dup2 rfl rfl dX1_split_38 ?_
    refine js_iald e rfl (jk_8 hK) (by omega) (by decide) ((jj_row_neP (by omega)).trans ((jj_row_hi (Nat.le_refl _)).trans (hg e (by omega)))) dX1_split_39 ?_
    refine js_iload dX1_split_40 rfl ?_
    refine js_iload_n 3 rfl dX1_split_42 rfl ?_
    refine jn_idiv (by omega) (by omega) (by omega) dX1_split_43 ?_
    refine jn_iadd dX1_split_44 ?_
    refine js_iast e rfl (jk_8 hK) (by omega) (by decide) dX1_split_45 ?_
    refine js_aload_n 0 rfl dX1_split_46 rfl ?_
    refine js_getr 11 jw_f_RX1_46 (jk_0 hK) rfl (Nat.le_of_ble_eq_true rfl) rfl dX1_split_47 ?_
    refine js_iload dX1_split_50 rfl ?_
    refine js_iload dX1_split_52 rfl ?_
    refine js_iload_n 3 rfl dX1_split_54 rfl ?_
    refine jn_irem (by omega) (by omega) (by omega) dX1_split_55 ?_
    refine js_iast e rfl (jk_10 hK) (by omega) (by decide) dX1_split_56 ?_
    rw [jj_row2_s (h := (fun j => g j + a * w j / W)) (h' := (fun j => a * w j % W)) (show b + 8 ≠ b + 10 by omega) rfl rfl]
    refine js_iload dX1_split_57 rfl ?_
    refine js_iload dX1_split_59 rfl ?_
    refine js_iload_n 3 rfl dX1_split_61 rfl ?_
    refine jn_idiv (by omega) (by omega) (by omega) dX1_split_62 ?_
    refine jn_isub (by omega) dX1_split_63 ?_
    rw [Nat.sub_sub]
    refine js_istore (L' := [some (.ref b), some (.int (nI a)), some (.ref q), some (.int (nI W)), some (.int (nI (a - (jj_sm (fun j => a * w j / W) e + a * w e / W)))), some (.int (nI e)), some (.int (nI (a * ((w e)))))]) dX1_split_64 rfl (Nat.le_of_ble_eq_true rfl) ?_
    refine js_iinc (v := nI (e + 1)) (L' := [some (.ref b), some (.int (nI a)), some (.ref q), some (.int (nI W)), some (.int (nI (a - (jj_sm (fun j => a * w j / W) e + a * w e / W)))), some (.int (nI (e + 1))), some (.int (nI (a * ((w e)))))]) dX1_split_66 rfl (jj_inc _) rfl ?_
    refine js_goto 17 dX1_split_69 (by decide) ?_
    refine js_fgL (L' := [some (.ref b), some (.int (nI a)), some (.ref q), some (.int (nI W)), some (.int (nI (a - jj_sm (fun j => a * w j / W) (e + 1)))), some (.int (nI (e + 1))), none]) (by simp [jj_le, jj_sm]) ?_
    exact jj_refl
set_option maxRecDepth 100000 in
set_option maxHeartbeats 4000000 in
theorem lq_X1_split {lay : jj_Lay} {S : jj_Mem} {b q a W : Nat} {g w : Nat → Nat} (hK : jj_bk lay b) (hq : lay[q]? = some (20, 10, [])) (hq8 : q ≠ b + 8) (hq10 : q ≠ b + 10) (hg : ∀ j, j < 10 → S (b + 8) j = some (nI (g j))) (hw : ∀ j, j < 10 → S q j = some (nI (w j))) (hs : jj_sm w 10 = W) (hW : 0 < W) (hW2 : W < 1000000) (ha : a < 2 ^ 31) (ham : ∀ j, j < 10 → a * w j < 2 ^ 31) : ∀ (k e : Nat), e + k = 10 → jj_RR cX1_split 7 RX1 yX1_split.name none 1 25 lay.length (jj_sl lay) (75, [some (.ref b), some (.int (nI a)), some (.ref q), some (.int (nI W)), some (.int (nI (a - jj_sm (fun j => a * w j / W) 10))), some (.int (nI e)), none], [], lay, (jj_row (jj_row S (b + 10) 10 (fun j => a * w j % W)) (b + 8) 10 (fun j => if j < e then jj_g2 g w a W j else g j + a * w j / W))) (some (.int (nI 0))) .ireturn lay (jj_row (jj_row S (b + 10) 10 (fun j => a * w j % W)) (b + 8) 10 (jj_g2 g w a W)) := by
  intro k
  induction k with
  | zero =>
    intro e he
    have he : e = 10 := by omega
    subst he
    rw [show (jj_row (jj_row S (b + 10) 10 (fun j => a * w j % W)) (b + 8) 10 (fun j => if j < 10 then jj_g2 g w a W j else g j + a * w j / W)) = (jj_row (jj_row S (b + 10) 10 (fun j => a * w j % W)) (b + 8) 10 (jj_g2 g w a W)) from jj_row_congr (fun j hj => if_pos hj)]
    refine ⟨114, [some (.ref b), some (.int (nI a)), some (.ref q), some (.int (nI W)), some (.int (nI (a - jj_sm (fun j => a * w j / W) 10))), some (.int (nI 10)), none], dX1_split_114, ?_⟩
    refine js_iload dX1_split_75 rfl ?_
    refine js_bipush (v := nI 10) dX1_split_77 (by decide) ?_
    refine jn_icmp_ge 113 (by omega) (by omega) dX1_split_79 (by decide) (fun _ => ?_) (fun h9 => absurd h9 (by omega))
    refine js_iconst (v := nI 0) dX1_split_113 (by decide) ?_
    exact jj_refl
  | succ k ih =>
    intro e he
    refine jj_RRs ?_ (ih (e + 1) (by omega))
    refine js_iload dX1_split_75 rfl ?_
    refine js_bipush (v := nI 10) dX1_split_77 (by decide) ?_
    refine jn_icmp_ge 113 (by omega) (by omega) dX1_split_79 (by decide) (fun h9 => absurd h9 (by omega)) (fun _ => ?_)
    refine js_aload_n 0 rfl dX1_split_82 rfl ?_
    refine js_getr 11 jw_f_RX1_46 (jk_0 hK) rfl (Nat.le_of_ble_eq_true rfl) rfl dX1_split_83 ?_
    refine js_iload dX1_split_86 rfl ?_
    refine js_callSN (av := [.ref (b + 10), .int (nI e)]) (st := []) (ct_X6_placeOf (f := (fun j => a * w j % W)) (jk_10 hK) (by omega) (by omega) (fun j hj => (jj_row_neP (by omega)).trans (jj_row_at hj)) (fun j hj => Nat.lt_of_le_of_lt (Nat.mod_le _ _) (ham j hj))) (Or.inl rfl) jw_c_X6_placeOf jw_i_RX6 jw_h_RX1_118 jw_s_X6_placeOf jw_y_X6_placeOf rfl ⟨(Nat.le_of_ble_eq_true rfl), (Nat.le_of_ble_eq_true rfl), (Nat.le_refl _), (Nat.le_refl _), (Nat.le_of_ble_eq_true rfl)⟩ dX1_split_88 ?_
    refine js_st (st' := [.int (nI (jj_pl (fun j => a * w j % W) e 10))]) rfl ?_
    have hp1 := jj_pl_lt (f := (fun j => a * w j % W)) (n := 10) (w := e) (by omega)
    refine js_iload dX1_split_91 rfl ?_
    refine jn_icmp_ge 107 (by omega) (by omega) dX1_split_93 (by decide) (fun h5 => ?_) (fun h5 => ?_)
    · have hg2 : jj_g2 g w a W e = g e + a * w e / W + 0 := by unfold jj_g2; rw [show jj_b (decide (jj_pl (fun j => a * w j % W) e 10 < a - jj_sm (fun j => a * w j / W) 10)) = 0 by simp [jj_b]; omega]
      rw [show (jj_row (jj_row S (b + 10) 10 (fun j => a * w j % W)) (b + 8) 10 (fun j => if j < e then jj_g2 g w a W j else g j + a * w j / W)) = (jj_row (jj_row S (b + 10) 10 (fun j => a * w j % W)) (b + 8) 10 (fun j => if j < (e + 1) then jj_g2 g w a W j else g j + a * w j / W)) from jj_row_congr (fun j hj => jj_ife (A := jj_g2 g w a W) (B := (fun j => g j + a * w j / W)) hg2 j)]
      refine js_iinc (v := nI (e + 1)) (L' := [some (.ref b), some (.int (nI a)), some (.ref q), some (.int (nI W)), some (.int (nI (a - jj_sm (fun j => a * w j / W) 10))), some (.int (nI (e + 1))), none]) dX1_split_107 rfl (jj_inc _) rfl ?_
      refine js_goto 75 dX1_split_110 (by decide) ?_
      exact jj_refl
    · have hg2 : jj_g2 g w a W e = g e + a * w e / W + 1 := by unfold jj_g2; rw [show jj_b (decide (jj_pl (fun j => a * w j % W) e 10 < a - jj_sm (fun j => a * w j / W) 10)) = 1 by simp [jj_b]; omega]
      refine js_aload_n 0 rfl dX1_split_96 rfl ?_
      refine js_getr 9 jw_f_RX1_40 (jk_0 hK) rfl (Nat.le_of_ble_eq_true rfl) rfl dX1_split_97 ?_
      refine js_iload dX1_split_100 rfl ?_
      refine js_dup2 rfl rfl dX1_split_102 ?_
      refine js_iald e rfl (jk_8 hK) (by omega) (by decide) ((jj_row_at (by omega)).trans (by rw [if_neg (by omega)])) dX1_split_103 ?_
      refine js_iconst (v := nI 1) dX1_split_104 (by decide) ?_
      refine jn_iadd dX1_split_105 ?_
      refine js_iast e rfl (jk_8 hK) (by omega) (by decide) dX1_split_106 ?_
      rw [jj_w_row (y := g e + a * w e / W + 1) (by omega) rfl]
      rw [show jj_row (jj_row S (b + 10) 10 (fun j => a * w j % W)) (b + 8) 10 (jj_up (fun j => if j < e then jj_g2 g w a W j else g j + a * w j / W) e (g e + a * w e / W + 1)) = (jj_row (jj_row S (b + 10) 10 (fun j => a * w j % W)) (b + 8) 10 (fun j => if j < (e + 1) then jj_g2 g w a W j else g j + a * w j / W)) from jj_row_congr (fun j hj => jj_ifu hg2 j)]
      refine js_iinc (v := nI (e + 1)) (L' := [some (.ref b), some (.int (nI a)), some (.ref q), some (.int (nI W)), some (.int (nI (a - jj_sm (fun j => a * w j / W) 10))), some (.int (nI (e + 1))), none]) dX1_split_107 rfl (jj_inc _) rfl ?_
      refine js_goto 75 dX1_split_110 (by decide) ?_
      exact jj_refl
set_option maxRecDepth 100000 in
set_option maxHeartbeats 4000000 in
theorem ct_X1_split {lay : jj_Lay} {S : jj_Mem} {b q a W : Nat} {g w : Nat → Nat} (hK : jj_bk lay b) (hq : lay[q]? = some (20, 10, [])) (hq8 : q ≠ b + 8) (hq10 : q ≠ b + 10) (hg : ∀ j, j < 10 → S (b + 8) j = some (nI (g j))) (hw : ∀ j, j < 10 → S q j = some (nI (w j))) (hs : jj_sm w 10 = W) (hW : 0 < W) (hW2 : W < 1000000) (ha : a < 2 ^ 31) (ham : ∀ j, j < 10 → a * w j < 2 ^ 31) : jj_CT yX1_split (.code yX1_split cX1_split 7 (some .int)) none 1 25 [.ref b, .int (nI a), .ref q] lay S (some (.int (nI 0))) lay (jj_row (jj_row S (b + 10) 10 (fun j => a * w j % W)) (b + 8) 10 (jj_g2 g w a W)) := by
  refine jj_mkI RX1 .int (by decide) rfl (L := [some (.ref b), some (.int (nI a)), some (.ref q), none, none, none, none]) rfl rfl rfl ?_
  have h1 := lp_X1_split (S := S) hK hq hq8 hq10 hg hw hs hW hW2 ha ham 10 0 (by omega)
  have h2 := lq_X1_split (S := S) hK hq hq8 hq10 hg hw hs hW hW2 ha ham 10 0 (by omega)
  rw [jj_row_0, jj_row_0] at h1
  have h0 : (jj_row (jj_row S (b + 10) 10 (fun j => a * w j % W)) (b + 8) 10 (fun j => if j < 0 then jj_g2 g w a W j else g j + a * w j / W)) = (jj_row (jj_row S (b + 8) 10 (fun j => g j + a * w j / W)) (b + 10) 10 (fun j => a * w j % W)) := by
    rw [jj_row_comm (show b + 8 ≠ b + 10 by omega)]
    exact jj_row_congr (fun j hj => if_neg (by omega))
  rw [h0] at h2
  refine jj_RRs (jj_tr ?_ h1) h2
  refine js_aload_n 2 rfl dX1_split_0 rfl ?_
  refine js_callSN (av := [.ref q]) (st := []) (ct_X6_sumOf (f := w) hq (by omega) hw) (Or.inl rfl) jw_c_X6_sumOf jw_i_RX6 jw_h_RX1_114 jw_s_X6_sumOf jw_y_X6_sumOf rfl ⟨(Nat.le_of_ble_eq_true rfl), (Nat.le_of_ble_eq_true rfl), (Nat.le_refl _), (Nat.le_refl _), (Nat.le_of_ble_eq_true rfl)⟩ dX1_split_1 ?_
  refine js_st (st' := [.int (nI (jj_sm w 10))]) rfl ?_
  refine js_top (y := nI W) (by rw [hs]) ?_
  refine js_istore_n (L' := [some (.ref b), some (.int (nI a)), some (.ref q), some (.int (nI W)), none, none, none]) 3 rfl dX1_split_4 rfl (Nat.le_of_ble_eq_true rfl) ?_
  refine js_iload_n 3 rfl dX1_split_5 rfl ?_
  refine jn_if_gt 11 (by omega) dX1_split_6 (by decide) (fun _ => ?_) (fun h9 => absurd h9 (by omega))
  refine js_iload_n 1 rfl dX1_split_11 rfl ?_
  refine js_istore (L' := [some (.ref b), some (.int (nI a)), some (.ref q), some (.int (nI W)), some (.int (nI a)), none, none]) dX1_split_12 rfl (Nat.le_of_ble_eq_true rfl) ?_
  refine js_iconst (v := nI 0) dX1_split_14 (by decide) ?_
  refine js_istore (L' := [some (.ref b), some (.int (nI a)), some (.ref q), some (.int (nI W)), some (.int (nI a)), some (.int (nI 0)), none]) dX1_split_15 rfl (Nat.le_of_ble_eq_true rfl) ?_
  exact jj_refl
set_option maxRecDepth 100000 in
set_option maxHeartbeats 4000000 in
theorem ct_X1_split_0 {lay : jj_Lay} {S : jj_Mem} {b q a : Nat} {w : Nat → Nat} (hq : lay[q]? = some (20, 10, [])) (hw : ∀ j, j < 10 → S q j = some (nI (w j))) (hs : jj_sm w 10 = 0) : jj_CT yX1_split (.code yX1_split cX1_split 7 (some .int)) none 1 25 [.ref b, .int (nI a), .ref q] lay S (some (.int (nI a))) lay S := by
  refine jj_mkI RX1 .int (by decide) rfl (L := [some (.ref b), some (.int (nI a)), some (.ref q), none, none, none, none]) rfl rfl rfl ⟨10, [some (.ref b), some (.int (nI a)), some (.ref q), some (.int (nI 0)), none, none, none], dX1_split_10, ?_⟩
  refine js_aload_n 2 rfl dX1_split_0 rfl ?_
  refine js_callSN (av := [.ref q]) (st := []) (ct_X6_sumOf (f := w) hq (by omega) hw) (Or.inl rfl) jw_c_X6_sumOf jw_i_RX6 jw_h_RX1_114 jw_s_X6_sumOf jw_y_X6_sumOf rfl ⟨(Nat.le_of_ble_eq_true rfl), (Nat.le_of_ble_eq_true rfl), (Nat.le_refl _), (Nat.le_refl _), (Nat.le_of_ble_eq_true rfl)⟩ dX1_split_1 ?_
  refine js_st (st' := [.int (nI (jj_sm w 10))]) rfl ?_
  refine js_top (y := nI 0) (by rw [hs]) ?_
  refine js_istore_n (L' := [some (.ref b), some (.int (nI a)), some (.ref q), some (.int (nI 0)), none, none, none]) 3 rfl dX1_split_4 rfl (Nat.le_of_ble_eq_true rfl) ?_
  refine js_iload_n 3 rfl dX1_split_5 rfl ?_
  refine jn_if_gt 11 (by omega) dX1_split_6 (by decide) (fun h9 => absurd h9 (by omega)) (fun _ => ?_)
  refine js_iload_n 1 rfl dX1_split_9 rfl ?_
  exact jj_refl
/-- a split, both ways -/
theorem ct_X1_split_x {lay : jj_Lay} {S : jj_Mem} {b q a : Nat} {g w : Nat → Nat} (hK : jj_bk lay b) (hq : lay[q]? = some (20, 10, [])) (hq8 : q ≠ b + 8) (hq10 : q ≠ b + 10) (hg : ∀ j, j < 10 → S (b + 8) j = some (nI (g j))) (hw : ∀ j, j < 10 → S q j = some (nI (w j))) (hw2 : jj_sm w 10 ≤ 1000) (ha : a ≤ 1000000) :
    ∃ (rv : Nat) (g' : Nat → Nat) (S' : jj_Mem), jj_CT yX1_split (.code yX1_split cX1_split 7 (some .int)) none 1 25 [.ref b, .int (nI a), .ref q] lay S (some (.int (nI rv))) lay S' ∧ (∀ j, j < 10 → S' (b + 8) j = some (nI (g' j))) ∧ rv + jj_sm g' 10 = a + jj_sm g 10 ∧ (∀ j, g j ≤ g' j) ∧ (∀ p, p ≠ b + 8 → p ≠ b + 10 → ∀ j, S' p j = S p j) := by
  by_cases h0 : jj_sm w 10 = 0
  · exact ⟨a, g, S, ct_X1_split_0 hq hw h0, hg, rfl, fun _ => Nat.le_refl _, fun _ _ _ _ => rfl⟩
  · refine ⟨0, jj_g2 g w a (jj_sm w 10), _, ct_X1_split (W := jj_sm w 10) hK hq hq8 hq10 hg hw rfl (by omega) (by omega) (by omega) (fun j hj => ?_), fun j hj => jj_row_at hj, ?_, fun j => ?_, fun p h8 h10 j => (jj_row_neP h8).trans (jj_row_neP h10)⟩
    · have h1 := jj_sm_at (f := w) hj
      have h2 : a * w j ≤ 1000000 * 1000 := Nat.mul_le_mul ha (by omega)
      omega
    · rw [jj_g2_sum (by omega) rfl]; omega
    · exact Nat.le_trans (Nat.le_add_right _ _) (Nat.le_add_right _ _)
end
section
/-! SPLIT BY LISTENER; SHARE; RECOUP; PAY OUT. -/
theorem jj_row_upd {S : jj_Mem} {p i n : Nat} {f : Nat → Nat} {y : Nat} (h : ∀ j, j < n → S p j = some (nI (f j))) : ∀ j, j < n → jj_w S p i (nI y) p j = some (nI (jj_up f i y j)) := fun j hj => by
  unfold jj_w jj_up
  by_cases c : j = i
  · rw [if_pos ⟨rfl, c⟩, if_pos c]
  · rw [if_neg (fun w => c w.2), if_neg c, h j hj]
set_option maxRecDepth 100000 in
set_option maxHeartbeats 4000000 in
theorem lp_X1_splitByListener {lay : jj_Lay} (hB : jj_pp lay) {cnt : Nat} {ld pl : Nat → Nat} {b land : Nat} {im : Nat → Nat → Nat} (hK : jj_bk lay b) (hla : land < 4) (him2 : ∀ l, l < cnt → jj_sm (im l) 10 ≤ 1000) : ∀ (k e : Nat), e + k = cnt → ∀ (S : jj_Mem) (ca g : Nat → Nat), jj_au S cnt ld pl → jj_im S cnt im → (∀ j, j < 4 → S (b + 1) j = some (nI (ca j))) → (∀ j, j < 10 → S (b + 8) j = some (nI (g j))) → ∃ (ca' g' : Nat → Nat) (S' : jj_Mem), jj_RR cX1_splitByListener 5 RX1 yX1_splitByListener.name none 2 51 lay.length (jj_sl lay) (3, [some (.ref b), some (.int (nI land)), some (.ref 20), some (.ref 42), some (.int (nI e))], [], lay, S) none .return_ lay S' ∧ (∀ j, j < 4 → S' (b + 1) j = some (nI (ca' j))) ∧ (∀ j, j < 10 → S' (b + 8) j = some (nI (g' j))) ∧ (∀ j, j ≠ land → ca' j = ca j) ∧ ca' land + jj_sm g' 10 + jj_po ld pl land e = ca land + jj_sm g 10 + jj_po ld pl land cnt ∧ (∀ j, g j ≤ g' j) ∧ (∀ p, p ≠ b + 1 → p ≠ b + 8 → p ≠ b + 10 → ∀ j, S' p j = S p j) := by
  intro k
  induction k with
  | zero =>
    intro e he S ca g hau him hca hg
    have he : e = cnt := by omega
    subst he
    refine ⟨ca, g, S, ⟨55, [some (.ref b), some (.int (nI land)), some (.ref 20), some (.ref 42), some (.int (nI e))], dX1_splitByListener_55, ?_⟩, hca, hg, fun _ _ => rfl, rfl, fun _ => Nat.le_refl _, fun _ _ _ _ _ => rfl⟩
    have hc8 := hau.1
    have hb := jk_b hK
    refine js_iload dX1_splitByListener_3 rfl ?_
    refine js_aload_n 2 rfl dX1_splitByListener_5 rfl ?_
    refine js_getNi 0 jw_n_RX1_89 (jl_20 hB) rfl (Nat.le_of_ble_eq_true rfl) rfl (hau.2.1) dX1_splitByListener_6 ?_
    refine jn_icmp_ge 55 (by omega) (by omega) dX1_splitByListener_9 (by decide) (fun _ => ?_) (fun h9 => absurd h9 (by omega))
    exact jj_refl
  | succ k ih =>
    intro e he S ca g hau him hca hg
    have hc8 := hau.1
    have hb := jk_b hK
    have hl1 := (hau.2.2.1 e (by omega)).2
    have hpl := jj_pool_le2 (pl e)
    by_cases h5 : ld e = land
    · have h7 : jj_po ld pl land (e + 1) = jj_po ld pl land e + jj_pool (pl e) := by show jj_sm _ e + (if ld e = land then jj_pool (pl e) else 0) = _; rw [if_pos (by omega)]; rfl
      obtain ⟨rv, g1, S1, hct, q1, q2, q3, q4⟩ := ct_X1_split_x (lay := lay) (S := S) (b := b) (q := 53 + e) (a := jj_pool (pl e)) (g := g) (w := im e) hK (jl_im hB e (by omega)) (by omega) (by omega) hg (him e (by omega)) (him2 e (by omega)) (by omega)
      obtain ⟨ca', g', S', hR, p1, p2, p3, p4, p5, p6⟩ := ih (e + 1) (by omega) (jj_w S1 (b + 1) land (nI (ca land + rv))) (jj_up ca land (ca land + rv)) g1
        (jj_au_mono hau (fun p hp j => (jj_w_neP (by omega)).trans (q4 p (by omega) (by omega) j))) (jj_im_mono hc8 him (fun p hp j => (jj_w_neP (by omega)).trans (q4 p (by omega) (by omega) j)))
        (jj_row_upd (fun j hj => (q4 (b + 1) (by omega) (by omega) j).trans (hca j hj))) (fun j hj => (jj_w_neP (by omega)).trans (q1 j hj))
      refine ⟨ca', g', S', jj_RRs ?_ hR, p1, p2, fun j hj => (p3 j hj).trans (jj_up_ne ca hj), ?_, fun j => Nat.le_trans (q3 j) (p5 j), fun p h1 h8 h10 j => (p6 p h1 h8 h10 j).trans ((jj_w_neP h1).trans (q4 p h8 h10 j))⟩
      · refine js_iload dX1_splitByListener_3 rfl ?_
        refine js_aload_n 2 rfl dX1_splitByListener_5 rfl ?_
        refine js_getNi 0 jw_n_RX1_89 (jl_20 hB) rfl (Nat.le_of_ble_eq_true rfl) rfl (hau.2.1) dX1_splitByListener_6 ?_
        refine jn_icmp_ge 55 (by omega) (by omega) dX1_splitByListener_9 (by decide) (fun h9 => absurd h9 (by omega)) (fun _ => ?_)
        refine js_aload_n 2 rfl dX1_splitByListener_12 rfl ?_
        refine js_getNr 1 jw_n_RX1_101 (jl_20 hB) rfl (Nat.le_of_ble_eq_true rfl) rfl dX1_splitByListener_13 ?_
        refine js_iload dX1_splitByListener_16 rfl ?_
        refine js_iald e rfl (jl_21 hB) (by omega) (by decide) ((hau.2.2.1 e (by omega)).1) dX1_splitByListener_18 ?_
        refine js_iload_n 1 rfl dX1_splitByListener_19 rfl ?_
        refine jn_icmp_ne 49 (by omega) (by omega) dX1_splitByListener_20 (by decide) (fun h9 => absurd h9 (by omega)) (fun _ => ?_)
        refine js_aload_n 0 rfl dX1_splitByListener_23 rfl ?_
        refine js_getr 2 jw_f_RX1_18 (jk_0 hK) rfl (Nat.le_of_ble_eq_true rfl) rfl dX1_splitByListener_24 ?_
        refine js_iload_n 1 rfl dX1_splitByListener_27 rfl ?_
        refine js_dup2 rfl rfl dX1_splitByListener_28 ?_
        refine js_iald land rfl (jk_1 hK) (by omega) (by decide) (hca land (by omega)) dX1_splitByListener_29 ?_
        refine js_aload_n 0 rfl dX1_splitByListener_30 rfl ?_
        refine js_aload_n 2 rfl dX1_splitByListener_31 rfl ?_
        refine js_iload dX1_splitByListener_32 rfl ?_
        refine js_callVN (av := [.int (nI e)]) (st := [.ref b, .int (nI (ca land)), .int (nI land), .ref (b + 1)]) (b := 20) (ct_X0_poolPartOf hB (by omega) (hau.2.2.2 e (by omega)).2 (hau.2.2.2 e (by omega)).1) (Or.inl rfl) jw_c_X0_poolPartOf jw_i_RX0 jw_h_RX1_98 jw_s_X0_poolPartOf jw_e_X0_poolPartOf (jl_20 hB) rfl jw_y_X0_poolPartOf rfl ⟨(Nat.le_of_ble_eq_true rfl), (Nat.le_of_ble_eq_true rfl), (Nat.le_refl _), (Nat.le_refl _), (Nat.le_of_ble_eq_true rfl)⟩ dX1_splitByListener_34 ?_
        refine js_st (st' := [.int (nI (jj_pool (pl e))), .ref b, .int (nI (ca land)), .int (nI land), .ref (b + 1)]) rfl ?_
        refine js_aload_n 3 rfl dX1_splitByListener_37 rfl ?_
        refine js_getNr 1 jw_n_RX1_104 (jl_42 hB) rfl (Nat.le_of_ble_eq_true rfl) rfl dX1_splitByListener_38 ?_
        refine js_iload dX1_splitByListener_41 rfl ?_
        refine js_aald e rfl (jl_52 hB) (by omega) (by decide) (jr_im e (by omega)) dX1_splitByListener_43 ?_
        refine js_callV (av := [.int (nI (jj_pool (pl e))), .ref (53 + e)]) (st := [.int (nI (ca land)), .int (nI land), .ref (b + 1)]) (b := b) hct (Or.inl rfl) jw_c_X1_split jw_i_RX1 jw_m_RX1_71 jw_s_X1_split jw_e_X1_split (jk_0 hK) rfl jw_y_X1_split rfl ⟨(Nat.le_of_ble_eq_true rfl), (Nat.le_of_ble_eq_true rfl), (Nat.le_refl _), (Nat.le_refl _), (Nat.le_of_ble_eq_true rfl)⟩ dX1_splitByListener_44 ?_
        refine js_st (st' := [.int (nI rv), .int (nI (ca land)), .int (nI land), .ref (b + 1)]) rfl ?_
        refine jn_iadd dX1_splitByListener_47 ?_
        refine js_iast land rfl (jk_1 hK) (by omega) (by decide) dX1_splitByListener_48 ?_
        refine js_iinc (v := nI (e + 1)) (L' := [some (.ref b), some (.int (nI land)), some (.ref 20), some (.ref 42), some (.int (nI (e + 1)))]) dX1_splitByListener_49 rfl (jj_inc _) rfl ?_
        refine js_goto 3 dX1_splitByListener_52 (by decide) ?_
        exact jj_refl
      · rw [h7, jj_up_at] at p4
        omega
    · have h7 : jj_po ld pl land (e + 1) = jj_po ld pl land e := by unfold jj_po; show jj_sm _ e + (if ld e = land then jj_pool (pl e) else 0) = _; rw [if_neg (by omega), Nat.add_zero]
      obtain ⟨ca', g', S', hR, p1, p2, p3, p4, p5, p6⟩ := ih (e + 1) (by omega) S ca g hau him hca hg
      rw [h7] at p4
      refine ⟨ca', g', S', jj_RRs ?_ hR, p1, p2, p3, p4, p5, p6⟩
      refine js_iload dX1_splitByListener_3 rfl ?_
      refine js_aload_n 2 rfl dX1_splitByListener_5 rfl ?_
      refine js_getNi 0 jw_n_RX1_89 (jl_20 hB) rfl (Nat.le_of_ble_eq_true rfl) rfl (hau.2.1) dX1_splitByListener_6 ?_
      refine jn_icmp_ge 55 (by omega) (by omega) dX1_splitByListener_9 (by decide) (fun h9 => absurd h9 (by omega)) (fun _ => ?_)
      refine js_aload_n 2 rfl dX1_splitByListener_12 rfl ?_
      refine js_getNr 1 jw_n_RX1_101 (jl_20 hB) rfl (Nat.le_of_ble_eq_true rfl) rfl dX1_splitByListener_13 ?_
      refine js_iload dX1_splitByListener_16 rfl ?_
      refine js_iald e rfl (jl_21 hB) (by omega) (by decide) ((hau.2.2.1 e (by omega)).1) dX1_splitByListener_18 ?_
      refine js_iload_n 1 rfl dX1_splitByListener_19 rfl ?_
      refine jn_icmp_ne 49 (by omega) (by omega) dX1_splitByListener_20 (by decide) (fun _ => ?_) (fun h9 => absurd h9 (by omega))
      refine js_iinc (v := nI (e + 1)) (L' := [some (.ref b), some (.int (nI land)), some (.ref 20), some (.ref 42), some (.int (nI (e + 1)))]) dX1_splitByListener_49 rfl (jj_inc _) rfl ?_
      refine js_goto 3 dX1_splitByListener_52 (by decide) ?_
      exact jj_refl
set_option maxRecDepth 100000 in
set_option maxHeartbeats 4000000 in
theorem ct_X1_splitByListener {lay : jj_Lay} (hB : jj_pp lay) {cnt : Nat} {ld pl : Nat → Nat} {b land : Nat} {im : Nat → Nat → Nat} (hK : jj_bk lay b) (hla : land < 4) (him2 : ∀ l, l < cnt → jj_sm (im l) 10 ≤ 1000) {S : jj_Mem} {ca g : Nat → Nat} (hau : jj_au S cnt ld pl) (him : jj_im S cnt im) (hca : ∀ j, j < 4 → S (b + 1) j = some (nI (ca j))) (hg : ∀ j, j < 10 → S (b + 8) j = some (nI (g j))) :
    ∃ (ca' g' : Nat → Nat) (S' : jj_Mem), jj_CT yX1_splitByListener (.code yX1_splitByListener cX1_splitByListener 5 none) none 2 51 [.ref b, .int (nI land), .ref 20, .ref 42] lay S none lay S' ∧ (∀ j, j < 4 → S' (b + 1) j = some (nI (ca' j))) ∧ (∀ j, j < 10 → S' (b + 8) j = some (nI (g' j))) ∧ (∀ j, j ≠ land → ca' j = ca j) ∧ ca' land + jj_sm g' 10 + jj_po ld pl land 0 = ca land + jj_sm g 10 + jj_po ld pl land cnt ∧ (∀ j, g j ≤ g' j) ∧ (∀ p, p ≠ b + 1 → p ≠ b + 8 → p ≠ b + 10 → ∀ j, S' p j = S p j) := by
  obtain ⟨ca', g', S', hR, h⟩ := lp_X1_splitByListener hB hK hla him2 cnt 0 (by omega) S ca g hau him hca hg
  refine ⟨ca', g', S', ?_, h⟩
  refine jj_mkV RX1 (by decide) rfl (L := [some (.ref b), some (.int (nI land)), some (.ref 20), some (.ref 42), none]) rfl rfl ?_
  refine jj_RRs ?_ hR
  refine js_iconst (v := nI 0) dX1_splitByListener_0 (by decide) ?_
  refine js_istore (L' := [some (.ref b), some (.int (nI land)), some (.ref 20), some (.ref 42), some (.int (nI 0))]) dX1_splitByListener_1 rfl (Nat.le_of_ble_eq_true rfl) ?_
  exact jj_refl
set_option maxRecDepth 100000 in
set_option maxHeartbeats 4000000 in
theorem ct_X1_share_c {lay : jj_Lay} {S : jj_Mem} (hB : jj_pp lay) {b u : Nat} {cl : Nat → Nat → Nat} {g he du : Nat → Nat} {x : Nat} (hK : jj_bk lay b) (hu : u < 10) (hcm : jj_cm S cl) (hg : ∀ j, j < 10 → S (b + 8) j = some (nI (g j))) (hhe : ∀ j, j < 10 → S (b + 3) j = some (nI (he j))) (hdu : ∀ j, j < 5 → S (b + 4) j = some (nI (du j))) (hx : S b 1 = some (nI x)) (ha : g u + he u ≤ 1000000) (hc : 100 < jj_sm (fun q => cl u q) 5) : jj_CT yX1_share (.code yX1_share cX1_share 7 none) none 3 67 [.ref b, .int (nI u), .ref 8] lay S none lay (jj_w S (b + 3) u (nI (g u + he u))) := by
  have hb := jk_b hK
  refine jj_mkV RX1 (by decide) rfl (L := [some (.ref b), some (.int (nI u)), some (.ref 8), none, none, none, none]) rfl rfl ⟨29, [some (.ref b), some (.int (nI u)), some (.ref 8), some (.int (nI (((g u)) + ((he u))))), none, none, none], dX1_share_29, ?_⟩
  refine js_aload_n 0 rfl dX1_share_0 rfl ?_
  refine js_getr 9 jw_f_RX1_40 (jk_0 hK) rfl (Nat.le_of_ble_eq_true rfl) rfl dX1_share_1 ?_
  refine js_iload_n 1 rfl dX1_share_4 rfl ?_
  refine js_iald u rfl (jk_8 hK) (by omega) (by decide) (hg u (by omega)) dX1_share_5 ?_
  refine js_aload_n 0 rfl dX1_share_6 rfl ?_
  refine js_getr 4 jw_f_RX1_25 (jk_0 hK) rfl (Nat.le_of_ble_eq_true rfl) rfl dX1_share_7 ?_
  refine js_iload_n 1 rfl dX1_share_10 rfl ?_
  refine js_iald u rfl (jk_3 hK) (by omega) (by decide) (hhe u (by omega)) dX1_share_11 ?_
  refine jn_iadd dX1_share_12 ?_
  refine js_istore_n (L' := [some (.ref b), some (.int (nI u)), some (.ref 8), some (.int (nI (((g u)) + ((he u))))), none, none, none]) 3 rfl dX1_share_13 rfl (Nat.le_of_ble_eq_true rfl) ?_
  refine js_aload_n 2 rfl dX1_share_14 rfl ?_
  refine js_iload_n 1 rfl dX1_share_15 rfl ?_
  refine js_callVN (av := [.int (nI u)]) (st := []) (b := 8) (ct_X5_isInConflict hB hu hcm) (Or.inl rfl) jw_c_X5_isInConflict jw_i_RX5 jw_h_RX1_122 jw_s_X5_isInConflict jw_e_X5_isInConflict (jl_8 hB) rfl jw_y_X5_isInConflict rfl ⟨(Nat.le_of_ble_eq_true rfl), (Nat.le_of_ble_eq_true rfl), (Nat.le_refl _), (Nat.le_refl _), (Nat.le_of_ble_eq_true rfl)⟩ dX1_share_16 ?_
  refine js_st (st' := [.int (nI (jj_b (decide (100 < jj_sm (fun q => cl u q) 5))))]) rfl ?_
  refine js_top (y := nI 1) (by simp [jj_b, hc]) ?_
  refine jn_if_eq 30 (by omega) dX1_share_19 (by decide) (fun h9 => absurd h9 (by omega)) (fun _ => ?_)
  refine js_aload_n 0 rfl dX1_share_22 rfl ?_
  refine js_getr 4 jw_f_RX1_25 (jk_0 hK) rfl (Nat.le_of_ble_eq_true rfl) rfl dX1_share_23 ?_
  refine js_iload_n 1 rfl dX1_share_26 rfl ?_
  refine js_iload_n 3 rfl dX1_share_27 rfl ?_
  refine js_iast u rfl (jk_3 hK) (by omega) (by decide) dX1_share_28 ?_
  exact jj_refl
set_option maxRecDepth 100000 in
set_option maxHeartbeats 4000000 in
theorem lp_X1_share {lay : jj_Lay} {S : jj_Mem} (hB : jj_pp lay) {b u : Nat} {cl : Nat → Nat → Nat} {g he du : Nat → Nat} {x : Nat} (hK : jj_bk lay b) (hu : u < 10) (hcm : jj_cm S cl) (hg : ∀ j, j < 10 → S (b + 8) j = some (nI (g j))) (hhe : ∀ j, j < 10 → S (b + 3) j = some (nI (he j))) (hdu : ∀ j, j < 5 → S (b + 4) j = some (nI (du j))) (hx : S b 1 = some (nI x)) (ha : g u + he u ≤ 1000000) (hc : jj_sm (fun q => cl u q) 5 ≤ 100) : ∀ (k e : Nat), e + k = 5 → jj_RR cX1_share 7 RX1 yX1_share.name none 3 67 lay.length (jj_sl lay) (43, [some (.ref b), some (.int (nI u)), some (.ref 8), some (.int (nI (g u + he u))), some (.int (nI (g u + he u - jj_sm (fun j => (g u + he u) * cl u j / 100) e))), some (.int (nI e)), none], [], lay, (jj_row (jj_w S (b + 3) u (nI 0)) (b + 4) e (fun j => du j + (g u + he u) * cl u j / 100))) none .return_ lay (jj_w (jj_row (jj_w S (b + 3) u (nI 0)) (b + 4) 5 (fun j => du j + (g u + he u) * cl u j / 100)) b 1 (nI (x + (g u + he u - jj_sm (fun j => (g u + he u) * cl u j / 100) 5)))) := by
  intro k
  induction k with
  | zero =>
    intro e he5
    have he5 : e = 5 := by omega
    subst he5
    refine ⟨101, [some (.ref b), some (.int (nI u)), some (.ref 8), some (.int (nI (g u + he u))), some (.int (nI (g u + he u - jj_sm (fun j => (g u + he u) * cl u j / 100) 5))), some (.int (nI 5)), none], dX1_share_101, ?_⟩
    have hb := jk_b hK
    refine js_iload dX1_share_43 rfl ?_
    refine js_iconst (v := nI 5) dX1_share_45 (by decide) ?_
    refine jn_icmp_ge 90 (by omega) (by omega) dX1_share_46 (by decide) (fun _ => ?_) (fun h9 => absurd h9 (by omega))
    refine js_aload_n 0 rfl dX1_share_90 rfl ?_
    refine js_dup rfl dX1_share_91 ?_
    refine js_geti 1 jw_f_RX1_15 (jk_0 hK) rfl (Nat.le_of_ble_eq_true rfl) rfl ((jj_row_neP (by omega)).trans ((jj_w_neP (by omega)).trans hx)) dX1_share_92 ?_
    refine js_iload dX1_share_95 rfl ?_
    refine jn_iadd dX1_share_97 ?_
    refine js_put 1 jw_f_RX1_15 (jk_0 hK) rfl (Nat.le_of_ble_eq_true rfl) rfl rfl (by decide +kernel) dX1_share_98 ?_
    exact jj_refl
  | succ k ih =>
    intro e he5
    refine jj_RRs ?_ (ih (e + 1) (by omega))
    have hl := Nat.le_trans (jj_sm_mono (f := (fun j => (g u + he u) * cl u j / 100)) (show e + 1 ≤ 5 by omega)) (jj_parts (a := g u + he u) hc)
    have hl2 : jj_sm (fun j => (g u + he u) * cl u j / 100) (e + 1) = jj_sm (fun j => (g u + he u) * cl u j / 100) e + (g u + he u) * cl u e / 100 := rfl
    have hm : (g u + he u) * cl u e ≤ 1000000 * 100 := Nat.mul_le_mul ha (hcm u hu e (by omega)).2
    have hb := jk_b hK
    refine js_iload dX1_share_43 rfl ?_
    refine js_iconst (v := nI 5) dX1_share_45 (by decide) ?_
    refine jn_icmp_ge 90 (by omega) (by omega) dX1_share_46 (by decide) (fun h9 => absurd h9 (by omega)) (fun _ => ?_)
    refine js_iload_n 3 rfl dX1_share_49 rfl ?_
    refine js_aload_n 2 rfl dX1_share_50 rfl ?_
    refine js_getNr 0 jw_n_RX1_128 (jl_8 hB) rfl (Nat.le_of_ble_eq_true rfl) rfl dX1_share_51 ?_
    refine js_iload_n 1 rfl dX1_share_54 rfl ?_
    refine js_aald u rfl (jl_9 hB) (by omega) (by decide) (jr_cl u hu) dX1_share_55 ?_
    refine js_iload dX1_share_56 rfl ?_
    refine js_iald e rfl (jl_cl hB u hu) (by omega) (by decide) ((jj_row_neP (by omega)).trans ((jj_w_neP (by omega)).trans (hcm u hu e (by omega)).1)) dX1_share_58 ?_
    refine jn_imul dX1_share_59 ?_
    refine js_bipush (v := nI 100) dX1_share_60 (by decide) ?_
    refine jn_idiv (by omega) (by omega) (by omega) dX1_share_62 ?_
    refine js_istore (L' := [some (.ref b), some (.int (nI u)), some (.ref 8), some (.int (nI (g u + he u))), some (.int (nI (g u + he u - jj_sm (fun j => (g u + he u) * cl u j / 100) e))), some (.int (nI e)), some (.int (nI (((((g u + he u)) * ((cl u e)))) / 100)))]) dX1_share_63 rfl (Nat.le_of_ble_eq_true rfl) ?_
    refine js_aload_n 0 rfl dX1_share_65 rfl ?_
    refine js_getr 5 jw_f_RX1_28 (jk_0 hK) rfl (Nat.le_of_ble_eq_true rfl) rfl dX1_share_66 ?_
    refine js_iload dX1_share_69 rfl ?_
    refine js_dup2 rfl rfl dX1_share_71 ?_
    refine js_iald e rfl (jk_4 hK) (by omega) (by decide) ((jj_row_hi (Nat.le_refl _)).trans ((jj_w_neP (by omega)).trans (hdu e (by omega)))) dX1_share_72 ?_
    refine js_iload dX1_share_73 rfl ?_
    refine jn_iadd dX1_share_75 ?_
    refine js_iast e rfl (jk_4 hK) (by omega) (by decide) dX1_share_76 ?_
    rw [jj_row_s (jj_w S (b + 3) u (nI 0)) (b + 4) e (fun j => du j + (g u + he u) * cl u j / 100) rfl]
    refine js_iload dX1_share_77 rfl ?_
    refine js_iload dX1_share_79 rfl ?_
    refine jn_isub (by omega) dX1_share_81 ?_
    rw [Nat.sub_sub]
    refine js_istore (L' := [some (.ref b), some (.int (nI u)), some (.ref 8), some (.int (nI (g u + he u))), some (.int (nI (g u + he u - (jj_sm (fun j => (g u + he u) * cl u j / 100) e + (g u + he u) * cl u e / 100)))), some (.int (nI e)), some (.int (nI (((((g u + he u)) * ((cl u e)))) / 100)))]) dX1_share_82 rfl (Nat.le_of_ble_eq_true rfl) ?_
    refine js_iinc (v := nI (e + 1)) (L' := [some (.ref b), some (.int (nI u)), some (.ref 8), some (.int (nI (g u + he u))), some (.int (nI (g u + he u - (jj_sm (fun j => (g u + he u) * cl u j / 100) e + (g u + he u) * cl u e / 100)))), some (.int (nI (e + 1))), some (.int (nI (((((g u + he u)) * ((cl u e)))) / 100)))]) dX1_share_84 rfl (jj_inc _) rfl ?_
    refine js_goto 43 dX1_share_87 (by decide) ?_
    refine js_fgL (L' := [some (.ref b), some (.int (nI u)), some (.ref 8), some (.int (nI (g u + he u))), some (.int (nI (g u + he u - jj_sm (fun j => (g u + he u) * cl u j / 100) (e + 1)))), some (.int (nI (e + 1))), none]) (by simp [jj_le, jj_sm]) ?_
    exact jj_refl
set_option maxRecDepth 100000 in
set_option maxHeartbeats 4000000 in
theorem ct_X1_share_n {lay : jj_Lay} {S : jj_Mem} (hB : jj_pp lay) {b u : Nat} {cl : Nat → Nat → Nat} {g he du : Nat → Nat} {x : Nat} (hK : jj_bk lay b) (hu : u < 10) (hcm : jj_cm S cl) (hg : ∀ j, j < 10 → S (b + 8) j = some (nI (g j))) (hhe : ∀ j, j < 10 → S (b + 3) j = some (nI (he j))) (hdu : ∀ j, j < 5 → S (b + 4) j = some (nI (du j))) (hx : S b 1 = some (nI x)) (ha : g u + he u ≤ 1000000) (hc : jj_sm (fun q => cl u q) 5 ≤ 100) : jj_CT yX1_share (.code yX1_share cX1_share 7 none) none 3 67 [.ref b, .int (nI u), .ref 8] lay S none lay (jj_w (jj_row (jj_w S (b + 3) u (nI 0)) (b + 4) 5 (fun j => du j + (g u + he u) * cl u j / 100)) b 1 (nI (x + (g u + he u - jj_sm (fun j => (g u + he u) * cl u j / 100) 5)))) := by
  have hb := jk_b hK
  refine jj_mkV RX1 (by decide) rfl (L := [some (.ref b), some (.int (nI u)), some (.ref 8), none, none, none, none]) rfl rfl ?_
  have h0 := lp_X1_share (S := S) hB hK hu hcm hg hhe hdu hx ha hc 5 0 (by omega)
  rw [jj_row_0] at h0
  refine jj_RRs ?_ h0
  refine js_aload_n 0 rfl dX1_share_0 rfl ?_
  refine js_getr 9 jw_f_RX1_40 (jk_0 hK) rfl (Nat.le_of_ble_eq_true rfl) rfl dX1_share_1 ?_
  refine js_iload_n 1 rfl dX1_share_4 rfl ?_
  refine js_iald u rfl (jk_8 hK) (by omega) (by decide) (hg u (by omega)) dX1_share_5 ?_
  refine js_aload_n 0 rfl dX1_share_6 rfl ?_
  refine js_getr 4 jw_f_RX1_25 (jk_0 hK) rfl (Nat.le_of_ble_eq_true rfl) rfl dX1_share_7 ?_
  refine js_iload_n 1 rfl dX1_share_10 rfl ?_
  refine js_iald u rfl (jk_3 hK) (by omega) (by decide) (hhe u (by omega)) dX1_share_11 ?_
  refine jn_iadd dX1_share_12 ?_
  refine js_istore_n (L' := [some (.ref b), some (.int (nI u)), some (.ref 8), some (.int (nI (((g u)) + ((he u))))), none, none, none]) 3 rfl dX1_share_13 rfl (Nat.le_of_ble_eq_true rfl) ?_
  refine js_aload_n 2 rfl dX1_share_14 rfl ?_
  refine js_iload_n 1 rfl dX1_share_15 rfl ?_
  refine js_callVN (av := [.int (nI u)]) (st := []) (b := 8) (ct_X5_isInConflict hB hu hcm) (Or.inl rfl) jw_c_X5_isInConflict jw_i_RX5 jw_h_RX1_122 jw_s_X5_isInConflict jw_e_X5_isInConflict (jl_8 hB) rfl jw_y_X5_isInConflict rfl ⟨(Nat.le_of_ble_eq_true rfl), (Nat.le_of_ble_eq_true rfl), (Nat.le_refl _), (Nat.le_refl _), (Nat.le_of_ble_eq_true rfl)⟩ dX1_share_16 ?_
  refine js_st (st' := [.int (nI (jj_b (decide (100 < jj_sm (fun q => cl u q) 5))))]) rfl ?_
  refine js_top (y := nI 0) (by rw [show decide (100 < jj_sm (fun q => cl u q) 5) = false from decide_eq_false (by omega)]; rfl) ?_
  refine jn_if_eq 30 (by omega) dX1_share_19 (by decide) (fun _ => ?_) (fun h9 => absurd h9 (by omega))
  refine js_aload_n 0 rfl dX1_share_30 rfl ?_
  refine js_getr 4 jw_f_RX1_25 (jk_0 hK) rfl (Nat.le_of_ble_eq_true rfl) rfl dX1_share_31 ?_
  refine js_iload_n 1 rfl dX1_share_34 rfl ?_
  refine js_iconst (v := nI 0) dX1_share_35 (by decide) ?_
  refine js_iast u rfl (jk_3 hK) (by omega) (by decide) dX1_share_36 ?_
  refine js_iload_n 3 rfl dX1_share_37 rfl ?_
  refine js_istore (L' := [some (.ref b), some (.int (nI u)), some (.ref 8), some (.int (nI (((g u)) + ((he u))))), some (.int (nI (((g u)) + ((he u))))), none, none]) dX1_share_38 rfl (Nat.le_of_ble_eq_true rfl) ?_
  refine js_iconst (v := nI 0) dX1_share_40 (by decide) ?_
  refine js_istore (L' := [some (.ref b), some (.int (nI u)), some (.ref 8), some (.int (nI (((g u)) + ((he u))))), some (.int (nI (((g u)) + ((he u))))), some (.int (nI 0)), none]) dX1_share_41 rfl (Nat.le_of_ble_eq_true rfl) ?_
  exact jj_refl
/-- sharing, both ways -/
theorem ct_X1_share {lay : jj_Lay} {S : jj_Mem} (hB : jj_pp lay) {b u : Nat} {cl : Nat → Nat → Nat} {g he du : Nat → Nat} {x : Nat} (hK : jj_bk lay b) (hu : u < 10) (hcm : jj_cm S cl) (hg : ∀ j, j < 10 → S (b + 8) j = some (nI (g j))) (hhe : ∀ j, j < 10 → S (b + 3) j = some (nI (he j))) (hdu : ∀ j, j < 5 → S (b + 4) j = some (nI (du j))) (hx : S b 1 = some (nI x)) (ha : g u + he u ≤ 1000000) :
    ∃ (he' du' : Nat → Nat) (x' : Nat) (S' : jj_Mem), jj_CT yX1_share (.code yX1_share cX1_share 7 none) none 3 67 [.ref b, .int (nI u), .ref 8] lay S none lay S' ∧ (∀ j, j < 10 → S' (b + 3) j = some (nI (he' j))) ∧ (∀ j, j < 5 → S' (b + 4) j = some (nI (du' j))) ∧ S' b 1 = some (nI x') ∧ x' + jj_sm he' 10 + jj_sm du' 5 = x + jj_sm he 10 + jj_sm du 5 + g u ∧ (∀ j, j ≠ u → he' j = he j) ∧ S' b 0 = S b 0 ∧ (∀ p, p ≠ b → p ≠ b + 3 → p ≠ b + 4 → ∀ j, S' p j = S p j) := by
  have hb := jk_b hK
  by_cases hc : jj_sm (fun q => cl u q) 5 ≤ 100
  · have h1 := jj_parts (a := g u + he u) hc
    have h2 := jj_sm_up (f := he) (i := u) (x := 0) (n := 10) hu
    have h3 := jj_sm_add du (fun j => (g u + he u) * cl u j / 100) 5
    refine ⟨jj_up he u 0, (fun j => du j + (g u + he u) * cl u j / 100), x + (g u + he u - jj_sm (fun j => (g u + he u) * cl u j / 100) 5), (jj_w (jj_row (jj_w S (b + 3) u (nI 0)) (b + 4) 5 (fun j => du j + (g u + he u) * cl u j / 100)) b 1 (nI (x + (g u + he u - jj_sm (fun j => (g u + he u) * cl u j / 100) 5)))), ct_X1_share_n hB hK hu hcm hg hhe hdu hx ha hc, fun j hj => (jj_w_neP (by omega)).trans ((jj_row_neP (by omega)).trans (jj_row_upd hhe j hj)), fun j hj => (jj_w_neP (by omega)).trans (jj_row_at hj), jj_w_at _ _ _ _, ?_, fun j hj => jj_up_ne he hj, (jj_w_neI (by omega)).trans ((jj_row_neP (by omega)).trans (jj_w_neP (by omega))), fun p h0 h3 h4 j => (jj_w_neP h0).trans ((jj_row_neP h4).trans (jj_w_neP h3))⟩
    omega
  · have h2 := jj_sm_up (f := he) (i := u) (x := g u + he u) (n := 10) hu
    refine ⟨jj_up he u (g u + he u), du, x, _, ct_X1_share_c hB hK hu hcm hg hhe hdu hx ha (by omega), fun j hj => jj_row_upd hhe j hj, fun j hj => (jj_w_neP (by omega)).trans (hdu j hj), (jj_w_neP (by omega)).trans hx, ?_, fun j hj => jj_up_ne he hj, jj_w_neP (by omega), fun p h0 h3 h4 j => jj_w_neP h3⟩
    omega
set_option maxRecDepth 100000 in
set_option maxHeartbeats 4000000 in
theorem ct_X1_recoup_e {lay : jj_Lay} {S : jj_Mem} {b u : Nat} {du ad re : Nat → Nat} (hK : jj_bk lay b) (hu : u < 5) (hdu : ∀ j, j < 5 → S (b + 4) j = some (nI (du j))) (had : ∀ j, j < 5 → S (b + 6) j = some (nI (ad j))) (hre : ∀ j, j < 5 → S (b + 7) j = some (nI (re j))) (h1 : du u < 2 ^ 31) (h2 : ad u < 2 ^ 31) : jj_CT yX1_recoup (.code yX1_recoup cX1_recoup 3 none) none 1 21 [.ref b, .int (nI u)] lay S none lay (jj_w (jj_w (jj_w S (b + 4) u (nI (((du u)) - ((min ((du u)) ((ad u))))))) (b + 6) u (nI (((ad u)) - ((min ((du u)) ((ad u))))))) (b + 7) u (nI (((re u)) + ((min ((du u)) ((ad u))))))) := by
  have hb := jk_b hK
  refine jj_mkV RX1 (by decide) rfl (L := [some (.ref b), some (.int (nI u)), none]) rfl rfl ⟨46, [some (.ref b), some (.int (nI u)), some (.int (nI (min ((du u)) ((ad u)))))], dX1_recoup_46, ?_⟩
  refine js_aload_n 0 rfl dX1_recoup_0 rfl ?_
  refine js_getr 5 jw_f_RX1_28 (jk_0 hK) rfl (Nat.le_of_ble_eq_true rfl) rfl dX1_recoup_1 ?_
  refine js_iload_n 1 rfl dX1_recoup_4 rfl ?_
  refine js_iald u rfl (jk_4 hK) (by omega) (by decide) (hdu u (by omega)) dX1_recoup_5 ?_
  refine js_aload_n 0 rfl dX1_recoup_6 rfl ?_
  refine js_getr 7 jw_f_RX1_34 (jk_0 hK) rfl (Nat.le_of_ble_eq_true rfl) rfl dX1_recoup_7 ?_
  refine js_iload_n 1 rfl dX1_recoup_10 rfl ?_
  refine js_iald u rfl (jk_6 hK) (by omega) (by decide) (had u (by omega)) dX1_recoup_11 ?_
  refine jn_min (by omega) (by omega) jw_m_RX1_131 (Nat.le_of_ble_eq_true rfl) (Nat.le_of_ble_eq_true rfl) (Nat.le_refl _) (Nat.le_refl _) dX1_recoup_12 ?_
  refine js_istore_n (L' := [some (.ref b), some (.int (nI u)), some (.int (nI (min ((du u)) ((ad u)))))]) 2 rfl dX1_recoup_15 rfl (Nat.le_of_ble_eq_true rfl) ?_
  refine js_aload_n 0 rfl dX1_recoup_16 rfl ?_
  refine js_getr 5 jw_f_RX1_28 (jk_0 hK) rfl (Nat.le_of_ble_eq_true rfl) rfl dX1_recoup_17 ?_
  refine js_iload_n 1 rfl dX1_recoup_20 rfl ?_
  refine js_dup2 rfl rfl dX1_recoup_21 ?_
  refine js_iald u rfl (jk_4 hK) (by omega) (by decide) (hdu u (by omega)) dX1_recoup_22 ?_
  refine js_iload_n 2 rfl dX1_recoup_23 rfl ?_
  refine jn_isub (by omega) dX1_recoup_24 ?_
  refine js_iast u rfl (jk_4 hK) (by omega) (by decide) dX1_recoup_25 ?_
  refine js_aload_n 0 rfl dX1_recoup_26 rfl ?_
  refine js_getr 7 jw_f_RX1_34 (jk_0 hK) rfl (Nat.le_of_ble_eq_true rfl) rfl dX1_recoup_27 ?_
  refine js_iload_n 1 rfl dX1_recoup_30 rfl ?_
  refine js_dup2 rfl rfl dX1_recoup_31 ?_
  refine js_iald u rfl (jk_6 hK) (by omega) (by decide) ((jj_w_neP (by omega)).trans (had u (by omega))) dX1_recoup_32 ?_
  refine js_iload_n 2 rfl dX1_recoup_33 rfl ?_
  refine jn_isub (by omega) dX1_recoup_34 ?_
  refine js_iast u rfl (jk_6 hK) (by omega) (by decide) dX1_recoup_35 ?_
  refine js_aload_n 0 rfl dX1_recoup_36 rfl ?_
  refine js_getr 8 jw_f_RX1_37 (jk_0 hK) rfl (Nat.le_of_ble_eq_true rfl) rfl dX1_recoup_37 ?_
  refine js_iload_n 1 rfl dX1_recoup_40 rfl ?_
  refine js_dup2 rfl rfl dX1_recoup_41 ?_
  refine js_iald u rfl (jk_7 hK) (by omega) (by decide) ((jj_w_neP (by omega)).trans ((jj_w_neP (by omega)).trans (hre u (by omega)))) dX1_recoup_42 ?_
  refine js_iload_n 2 rfl dX1_recoup_43 rfl ?_
  refine jn_iadd dX1_recoup_44 ?_
  refine js_iast u rfl (jk_7 hK) (by omega) (by decide) dX1_recoup_45 ?_
  exact jj_refl
theorem ct_X1_recoup {lay : jj_Lay} {S : jj_Mem} {b u : Nat} {du ad re : Nat → Nat} (hK : jj_bk lay b) (hu : u < 5) (hdu : ∀ j, j < 5 → S (b + 4) j = some (nI (du j))) (had : ∀ j, j < 5 → S (b + 6) j = some (nI (ad j))) (hre : ∀ j, j < 5 → S (b + 7) j = some (nI (re j))) (h1 : du u < 2 ^ 31) (h2 : ad u < 2 ^ 31) :
    ∃ (du' ad' re' : Nat → Nat) (S' : jj_Mem), jj_CT yX1_recoup (.code yX1_recoup cX1_recoup 3 none) none 1 21 [.ref b, .int (nI u)] lay S none lay S' ∧ (∀ j, j < 5 → S' (b + 4) j = some (nI (du' j))) ∧ (∀ j, j < 5 → S' (b + 6) j = some (nI (ad' j))) ∧ (∀ j, j < 5 → S' (b + 7) j = some (nI (re' j))) ∧ jj_sm du' 5 + jj_sm re' 5 = jj_sm du 5 + jj_sm re 5 ∧ (∀ j, ad' j ≤ ad j) ∧ (∀ p, p ≠ b + 4 → p ≠ b + 6 → p ≠ b + 7 → ∀ j, S' p j = S p j) := by
  have hb := jk_b hK
  have q1 := jj_sm_up (f := du) (i := u) (x := du u - min (du u) (ad u)) (n := 5) hu
  have q2 := jj_sm_up (f := re) (i := u) (x := re u + min (du u) (ad u)) (n := 5) hu
  refine ⟨jj_up du u (du u - min (du u) (ad u)), jj_up ad u (ad u - min (du u) (ad u)), jj_up re u (re u + min (du u) (ad u)), _, ct_X1_recoup_e hK hu hdu had hre h1 h2, fun j hj => (jj_w_neP (by omega)).trans ((jj_w_neP (by omega)).trans (jj_row_upd hdu j hj)), fun j hj => (jj_w_neP (by omega)).trans (jj_row_upd (fun j hj => (jj_w_neP (by omega)).trans (had j hj)) j hj), fun j hj => jj_row_upd (fun j hj => (jj_w_neP (by omega)).trans ((jj_w_neP (by omega)).trans (hre j hj))) j hj, by omega, fun j => ?_, fun p h4 h6 h7 j => (jj_w_neP h7).trans ((jj_w_neP h6).trans (jj_w_neP h4))⟩
  unfold jj_up
  by_cases c : j = u
  · rw [if_pos c, c]; omega
  · rw [if_neg c]; exact Nat.le_refl _
set_option maxRecDepth 100000 in
set_option maxHeartbeats 4000000 in
theorem ct_X1_payOut {lay : jj_Lay} {S : jj_Mem} {b u : Nat} {du pa : Nat → Nat} (hK : jj_bk lay b) (hu : u < 5) (hdu : ∀ j, j < 5 → S (b + 4) j = some (nI (du j))) (hpa : ∀ j, j < 5 → S (b + 5) j = some (nI (pa j))) (h1 : du u < 2 ^ 31) :
    ∃ (du' pa' : Nat → Nat) (S' : jj_Mem), jj_CT yX1_payOut (.code yX1_payOut cX1_payOut 2 none) none 0 0 [.ref b, .int (nI u)] lay S none lay S' ∧ (∀ j, j < 5 → S' (b + 4) j = some (nI (du' j))) ∧ (∀ j, j < 5 → S' (b + 5) j = some (nI (pa' j))) ∧ jj_sm du' 5 + jj_sm pa' 5 = jj_sm du 5 + jj_sm pa 5 ∧ (∀ j, pa j ≤ pa' j) ∧ (∀ p, p ≠ b + 4 → p ≠ b + 5 → ∀ j, S' p j = S p j) := by
  have hb := jk_b hK
  by_cases hc : du u < 500
  · refine ⟨du, pa, S, ?_, hdu, hpa, rfl, fun _ => Nat.le_refl _, fun _ _ _ _ => rfl⟩
    refine jj_mkV RX1 (by decide) rfl (L := [some (.ref b), some (.int (nI u))]) rfl rfl ⟨34, [some (.ref b), some (.int (nI u))], dX1_payOut_34, ?_⟩
    refine js_aload_n 0 rfl dX1_payOut_0 rfl ?_
    refine js_getr 5 jw_f_RX1_28 (jk_0 hK) rfl (Nat.le_of_ble_eq_true rfl) rfl dX1_payOut_1 ?_
    refine js_iload_n 1 rfl dX1_payOut_4 rfl ?_
    refine js_iald u rfl (jk_4 hK) (by omega) (by decide) (hdu u (by omega)) dX1_payOut_5 ?_
    refine js_sipush (v := nI 500) dX1_payOut_6 (by decide) ?_
    refine jn_icmp_lt 34 (by omega) (by omega) dX1_payOut_9 (by decide) (fun _ => ?_) (fun h9 => absurd h9 (by omega))
    exact jj_refl
  · have q1 := jj_sm_up (f := du) (i := u) (x := 0) (n := 5) hu
    have q2 := jj_sm_up (f := pa) (i := u) (x := pa u + du u) (n := 5) hu
    refine ⟨jj_up du u 0, jj_up pa u (pa u + du u), (jj_w (jj_w S (b + 5) u (nI (((pa u)) + ((du u))))) (b + 4) u (nI 0)), ?_, fun j hj => jj_row_upd (fun j hj => (jj_w_neP (by omega)).trans (hdu j hj)) j hj, fun j hj => (jj_w_neP (by omega)).trans (jj_row_upd hpa j hj), by omega, fun j => ?_, fun p h4 h5 j => (jj_w_neP h4).trans (jj_w_neP h5)⟩
    · refine jj_mkV RX1 (by decide) rfl (L := [some (.ref b), some (.int (nI u))]) rfl rfl ⟨34, [some (.ref b), some (.int (nI u))], dX1_payOut_34, ?_⟩
      refine js_aload_n 0 rfl dX1_payOut_0 rfl ?_
      refine js_getr 5 jw_f_RX1_28 (jk_0 hK) rfl (Nat.le_of_ble_eq_true rfl) rfl dX1_payOut_1 ?_
      refine js_iload_n 1 rfl dX1_payOut_4 rfl ?_
      refine js_iald u rfl (jk_4 hK) (by omega) (by decide) (hdu u (by omega)) dX1_payOut_5 ?_
      refine js_sipush (v := nI 500) dX1_payOut_6 (by decide) ?_
      refine jn_icmp_lt 34 (by omega) (by omega) dX1_payOut_9 (by decide) (fun h9 => absurd h9 (by omega)) (fun _ => ?_)
      refine js_aload_n 0 rfl dX1_payOut_12 rfl ?_
      refine js_getr 6 jw_f_RX1_31 (jk_0 hK) rfl (Nat.le_of_ble_eq_true rfl) rfl dX1_payOut_13 ?_
      refine js_iload_n 1 rfl dX1_payOut_16 rfl ?_
      refine js_dup2 rfl rfl dX1_payOut_17 ?_
      refine js_iald u rfl (jk_5 hK) (by omega) (by decide) (hpa u (by omega)) dX1_payOut_18 ?_
      refine js_aload_n 0 rfl dX1_payOut_19 rfl ?_
      refine js_getr 5 jw_f_RX1_28 (jk_0 hK) rfl (Nat.le_of_ble_eq_true rfl) rfl dX1_payOut_20 ?_
      refine js_iload_n 1 rfl dX1_payOut_23 rfl ?_
      refine js_iald u rfl (jk_4 hK) (by omega) (by decide) (hdu u (by omega)) dX1_payOut_24 ?_
      refine jn_iadd dX1_payOut_25 ?_
      refine js_iast u rfl (jk_5 hK) (by omega) (by decide) dX1_payOut_26 ?_
      refine js_aload_n 0 rfl dX1_payOut_27 rfl ?_
      refine js_getr 5 jw_f_RX1_28 (jk_0 hK) rfl (Nat.le_of_ble_eq_true rfl) rfl dX1_payOut_28 ?_
      refine js_iload_n 1 rfl dX1_payOut_31 rfl ?_
      refine js_iconst (v := nI 0) dX1_payOut_32 (by decide) ?_
      refine js_iast u rfl (jk_4 hK) (by omega) (by decide) dX1_payOut_33 ?_
      exact jj_refl
    · unfold jj_up
      by_cases c : j = u
      · rw [if_pos c, c]; omega
      · rw [if_neg c]; exact Nat.le_refl _
end
section
/-! CLOSING A MONTH. -/
theorem jj_sm_zero : ∀ n : Nat, jj_sm (fun _ => 0) n = 0 := fun n => by rw [jj_sm_const, Nat.mul_zero]
theorem jj_sm_pick {f : Nat → Nat} {k : Nat} : ∀ n : Nat, k < n → jj_sm (fun j => if k = j then f j else 0) n = f k
  | 0, h => absurd h (by omega)
  | n + 1, h => by
    show jj_sm _ n + (if k = n then f n else 0) = f k
    by_cases e : k = n
    · subst e
      rw [if_pos rfl, jj_sm_congr (g := fun _ => 0) (fun j hj => if_neg (by omega)), jj_sm_zero]
      omega
    · rw [if_neg e, jj_sm_pick n (by omega)]
      rfl
/-- land by land, or at once -/
theorem jj_lands {ld v : Nat → Nat} : ∀ cnt : Nat, (∀ l, l < cnt → ld l < 4) → jj_sm (fun land => jj_sm (fun l => if ld l = land then v l else 0) cnt) 4 = jj_sm v cnt
  | 0, _ => jj_sm_zero 4
  | n + 1, h => by
    have h1 := jj_lands (v := v) n (fun l hl => h l (by omega))
    have h2 : jj_sm (fun land => jj_sm (fun l => if ld l = land then v l else 0) (n + 1)) 4 = jj_sm (fun land => jj_sm (fun l => if ld l = land then v l else 0) n) 4 + jj_sm (fun land => if ld n = land then v n else 0) 4 := jj_sm_add _ _ 4
    rw [h2, h1, jj_sm_pick (f := fun _ => v n) 4 (h n (by omega))]
    rfl
theorem jj_swap (f : Nat → Nat → Nat) (m : Nat) : ∀ n : Nat, jj_sm (fun j => jj_sm (fun l => f l j) m) n = jj_sm (fun l => jj_sm (f l) n) m
  | 0 => (jj_sm_zero m).symm
  | n + 1 => by
    show jj_sm _ n + jj_sm (fun l => f l n) m = _
    rw [jj_swap f m n]
    exact (jj_sm_add (fun l => jj_sm (f l) n) (fun l => f l n) m).symm
theorem jj_wg_le {ld : Nat → Nat} {im : Nat → Nat → Nat} {land cnt : Nat} : jj_sm (jj_wg ld im land cnt) 10 ≤ jj_sm (fun l => jj_sm (im l) 10) cnt := by
  have h : jj_sm (jj_wg ld im land cnt) 10 = jj_sm (fun l => jj_sm (fun j => if ld l = land then im l j else 0) 10) cnt := jj_swap (fun l j => if ld l = land then im l j else 0) cnt 10
  rw [h]
  refine jj_sm_le (fun l _ => jj_sm_le (fun j _ => ?_))
  by_cases c : ld l = land
  · rw [if_pos c]; exact Nat.le_refl _
  · rw [if_neg c]; exact Nat.zero_le _
/-- what a Books object holds -/
def jj_bs (S : jj_Mem) (b h x : Nat) (ca ge he du pa ad re : Nat → Nat) : Prop :=
  S b 0 = some (nI h) ∧ S b 1 = some (nI x) ∧ (∀ j, j < 4 → S (b + 1) j = some (nI (ca j))) ∧ (∀ j, j < 10 → S (b + 2) j = some (nI (ge j))) ∧ (∀ j, j < 10 → S (b + 3) j = some (nI (he j))) ∧ (∀ j, j < 5 → S (b + 4) j = some (nI (du j))) ∧ (∀ j, j < 5 → S (b + 5) j = some (nI (pa j))) ∧ (∀ j, j < 5 → S (b + 6) j = some (nI (ad j))) ∧ (∀ j, j < 5 → S (b + 7) j = some (nI (re j)))
def jj_tot (h x : Nat) (ca he du pa re : Nat → Nat) : Nat := h + x + jj_sm ca 4 + jj_sm he 10 + jj_sm du 5 + jj_sm pa 5 + jj_sm re 5
set_option maxRecDepth 100000 in
set_option maxHeartbeats 4000000 in
theorem la_X1_close {lay : jj_Lay} (hB : jj_pp lay) {cnt : Nat} {ld pl : Nat → Nat} {b rule : Nat} {im : Nat → Nat → Nat} (hK : jj_bk lay b) (hrule : rule < 2) (him2 : ∀ l, l < cnt → jj_sm (im l) 10 ≤ 1000) (him3 : jj_sm (fun l => jj_sm (im l) 10) cnt ≤ 1000) {B : Nat} (hBd : B ≤ 1000000) : ∀ (k e : Nat), e + k = 4 → ∀ (S : jj_Mem) (ca g : Nat → Nat), jj_au S cnt ld pl → jj_im S cnt im → (∀ j, j < 4 → S (b + 1) j = some (nI (ca j))) → (∀ j, j < 10 → S (b + 8) j = some (nI (g j))) → jj_sm ca 4 + jj_sm g 10 + jj_sm (fun land => jj_po ld pl land cnt) 4 ≤ B + jj_sm (fun land => jj_po ld pl land cnt) e →
    ∃ (ca' g' : Nat → Nat) (S' : jj_Mem), jj_R cX1_close 6 RX1 yX1_close.name none 4 93 lay.length (jj_sl lay) (16, [some (.ref b), some (.int (nI rule)), some (.ref 20), some (.ref 42), some (.ref 8), some (.int (nI e))], [], lay, S) (103, [some (.ref b), some (.int (nI rule)), some (.ref 20), some (.ref 42), some (.ref 8), some (.int (nI 4))], [], lay, S') ∧ (∀ j, j < 4 → S' (b + 1) j = some (nI (ca' j))) ∧ (∀ j, j < 10 → S' (b + 8) j = some (nI (g' j))) ∧ jj_sm ca' 4 + jj_sm g' 10 + jj_sm (fun land => jj_po ld pl land cnt) e = jj_sm ca 4 + jj_sm g 10 + jj_sm (fun land => jj_po ld pl land cnt) 4 ∧ (∀ p, p ≠ b + 1 → p ≠ b + 8 → p ≠ b + 9 → p ≠ b + 10 → ∀ j, S' p j = S p j) := by
  intro k
  induction k with
  | zero =>
    intro e he S ca g hau him hca hg hbd
    have he : e = 4 := by omega
    subst he
    refine ⟨ca, g, S, ?_, hca, hg, rfl, fun _ _ _ _ _ _ => rfl⟩
    refine js_iload dX1_close_16 rfl ?_
    refine js_iconst (v := nI 4) dX1_close_18 (by decide) ?_
    refine jn_icmp_ge 103 (by omega) (by omega) dX1_close_19 (by decide) (fun _ => ?_) (fun h9 => absurd h9 (by omega))
    exact jj_refl
  | succ k ih =>
    intro e he S ca g hau him hca hg hbd
    have hb := jk_b hK
    have hc8 := hau.1
    have he4 : e < 4 := by omega
    have hpo : jj_sm (fun land => jj_po ld pl land cnt) (e + 1) = jj_sm (fun land => jj_po ld pl land cnt) e + jj_po ld pl e cnt := rfl
    have hpm := jj_sm_mono (f := (fun land => jj_po ld pl land cnt)) (show e + 1 ≤ 4 by omega)
    have hcl := jj_sm_at (f := ca) he4
    have hwl := jj_wg_le (ld := ld) (im := im) (land := e) (cnt := cnt)
    have hau1 : jj_au (jj_row S (b + 9) 10 (jj_wg ld im e cnt)) cnt ld pl := jj_au_mono hau (fun p hp j => jj_row_neP (by omega))
    by_cases h0 : rule = 0
    · obtain ⟨rv, g1, S1, hct, q1, q2, q3, q4⟩ := ct_X1_split_x (lay := lay) (S := jj_row S (b + 9) 10 (jj_wg ld im e cnt)) (b := b) (q := b + 9) (a := ca e + jj_po ld pl e cnt) (g := g) (w := jj_wg ld im e cnt) hK (jk_9 hK) (by omega) (by omega) (fun j hj => (jj_row_neP (by omega)).trans (hg j hj)) (fun j hj => jj_row_at hj) (by omega) (by omega)
      have hf1 : ∀ p, p ≠ b + 1 → p ≠ b + 8 → p ≠ b + 9 → p ≠ b + 10 → ∀ j, jj_w S1 (b + 1) e (nI rv) p j = S p j := fun p h1 h8 h9 h10 j => (jj_w_neP h1).trans ((q4 p h8 h10 j).trans (jj_row_neP h9))
      have hsu := jj_sm_up (f := ca) (i := e) (x := rv) (n := 4) he4
      obtain ⟨ca', g', S', hR, p1, p2, p3, p4⟩ := ih (e + 1) (by omega) (jj_w S1 (b + 1) e (nI rv)) (jj_up ca e rv) g1 (jj_au_mono hau (fun p hp j => hf1 p (by omega) (by omega) (by omega) (by omega) j)) (jj_im_mono hc8 him (fun p hp j => hf1 p (by omega) (by omega) (by omega) (by omega) j))
        (jj_row_upd (fun j hj => (q4 (b + 1) (by omega) (by omega) j).trans ((jj_row_neP (by omega)).trans (hca j hj)))) (fun j hj => (jj_w_neP (by omega)).trans (q1 j hj)) (by omega)
      refine ⟨ca', g', S', jj_tr ?_ hR, p1, p2, by omega, fun p h1 h8 h9 h10 j => (p4 p h1 h8 h9 h10 j).trans (hf1 p h1 h8 h9 h10 j)⟩
      refine js_iload dX1_close_16 rfl ?_
      refine js_iconst (v := nI 4) dX1_close_18 (by decide) ?_
      refine jn_icmp_ge 103 (by omega) (by omega) dX1_close_19 (by decide) (fun h9 => absurd h9 (by omega)) (fun _ => ?_)
      refine js_aload_n 0 rfl dX1_close_22 rfl ?_
      refine js_iload dX1_close_23 rfl ?_
      refine js_aload_n 2 rfl dX1_close_25 rfl ?_
      refine js_aload_n 3 rfl dX1_close_26 rfl ?_
      refine js_callV (av := [.int (nI e), .ref 20, .ref 42]) (st := []) (b := b) (ct_X1_weighLand hB hau hK he4 him) (Or.inl rfl) jw_c_X1_weighLand jw_i_RX1 jw_m_RX1_63 jw_s_X1_weighLand jw_e_X1_weighLand (jk_0 hK) rfl jw_y_X1_weighLand rfl ⟨(Nat.le_of_ble_eq_true rfl), (Nat.le_of_ble_eq_true rfl), (Nat.le_refl _), (Nat.le_refl _), (Nat.le_of_ble_eq_true rfl)⟩ dX1_close_27 ?_
      refine js_st (st' := []) rfl ?_
      refine js_iload_n 1 rfl dX1_close_30 rfl ?_
      refine jn_if_ne 67 (by omega) dX1_close_31 (by decide) (fun h9 => absurd h9 (by omega)) (fun _ => ?_)
      refine js_aload_n 0 rfl dX1_close_34 rfl ?_
      refine js_getr 2 jw_f_RX1_18 (jk_0 hK) rfl (Nat.le_of_ble_eq_true rfl) rfl dX1_close_35 ?_
      refine js_iload dX1_close_38 rfl ?_
      refine js_aload_n 0 rfl dX1_close_40 rfl ?_
      refine js_aload_n 0 rfl dX1_close_41 rfl ?_
      refine js_getr 2 jw_f_RX1_18 (jk_0 hK) rfl (Nat.le_of_ble_eq_true rfl) rfl dX1_close_42 ?_
      refine js_iload dX1_close_45 rfl ?_
      refine js_iald e rfl (jk_1 hK) (by omega) (by decide) ((jj_row_neP (by omega)).trans (hca e (by omega))) dX1_close_47 ?_
      refine js_aload_n 0 rfl dX1_close_48 rfl ?_
      refine js_iload dX1_close_49 rfl ?_
      refine js_aload_n 2 rfl dX1_close_51 rfl ?_
      refine js_callV (av := [.int (nI e), .ref 20]) (st := [.int (nI (ca e)), .ref b, .int (nI e), .ref (b + 1)]) (b := b) (ct_X1_poolOf (b := b) hB (jj_au_mono hau (fun p hp j => jj_row_neP (by omega))) he4) (Or.inl rfl) jw_c_X1_poolOf jw_i_RX1 jw_m_RX1_67 jw_s_X1_poolOf jw_e_X1_poolOf (jk_0 hK) rfl jw_y_X1_poolOf rfl ⟨(Nat.le_of_ble_eq_true rfl), (Nat.le_of_ble_eq_true rfl), (Nat.le_refl _), (Nat.le_refl _), (Nat.le_of_ble_eq_true rfl)⟩ dX1_close_52 ?_
      refine js_st (st' := [.int (nI (jj_po ld pl e cnt)), .int (nI (ca e)), .ref b, .int (nI e), .ref (b + 1)]) rfl ?_
      refine jn_iadd dX1_close_55 ?_
      refine js_aload_n 0 rfl dX1_close_56 rfl ?_
      refine js_getr 10 jw_f_RX1_43 (jk_0 hK) rfl (Nat.le_of_ble_eq_true rfl) rfl dX1_close_57 ?_
      refine js_callV (av := [.int (nI (((ca e)) + ((jj_po ld pl e cnt)))), .ref (b + 9)]) (st := [.int (nI e), .ref (b + 1)]) (b := b) hct (Or.inl rfl) jw_c_X1_split jw_i_RX1 jw_m_RX1_71 jw_s_X1_split jw_e_X1_split (jk_0 hK) rfl jw_y_X1_split rfl ⟨(Nat.le_of_ble_eq_true rfl), (Nat.le_of_ble_eq_true rfl), (Nat.le_refl _), (Nat.le_refl _), (Nat.le_of_ble_eq_true rfl)⟩ dX1_close_60 ?_
      refine js_st (st' := [.int (nI rv), .int (nI e), .ref (b + 1)]) rfl ?_
      refine js_iast e rfl (jk_1 hK) (by omega) (by decide) dX1_close_63 ?_
      refine js_goto 97 dX1_close_64 (by decide) ?_
      refine js_iinc (v := nI (e + 1)) (L' := [some (.ref b), some (.int (nI rule)), some (.ref 20), some (.ref 42), some (.ref 8), some (.int (nI (e + 1)))]) dX1_close_97 rfl (jj_inc _) rfl ?_
      refine js_goto 16 dX1_close_100 (by decide) ?_
      exact jj_refl
    · obtain ⟨rv, g1, S1, hct, q1, q2, q3, q4⟩ := ct_X1_split_x (lay := lay) (S := jj_row S (b + 9) 10 (jj_wg ld im e cnt)) (b := b) (q := b + 9) (a := ca e) (g := g) (w := jj_wg ld im e cnt) hK (jk_9 hK) (by omega) (by omega) (fun j hj => (jj_row_neP (by omega)).trans (hg j hj)) (fun j hj => jj_row_at hj) (by omega) (by omega)
      have hf1 : ∀ p, p ≠ b + 1 → p ≠ b + 8 → p ≠ b + 9 → p ≠ b + 10 → ∀ j, jj_w S1 (b + 1) e (nI rv) p j = S p j := fun p h1 h8 h9 h10 j => (jj_w_neP h1).trans ((q4 p h8 h10 j).trans (jj_row_neP h9))
      have hsu := jj_sm_up (f := ca) (i := e) (x := rv) (n := 4) he4
      obtain ⟨ca2, g2, S2, hct2, r1, r2, r3, r4, r5, r6⟩ := ct_X1_splitByListener (lay := lay) (land := e) hB hK he4 him2 (S := jj_w S1 (b + 1) e (nI rv)) (ca := jj_up ca e rv) (g := g1) (jj_au_mono hau (fun p hp j => hf1 p (by omega) (by omega) (by omega) (by omega) j)) (jj_im_mono hc8 him (fun p hp j => hf1 p (by omega) (by omega) (by omega) (by omega) j))
        (jj_row_upd (fun j hj => (q4 (b + 1) (by omega) (by omega) j).trans ((jj_row_neP (by omega)).trans (hca j hj)))) (fun j hj => (jj_w_neP (by omega)).trans (q1 j hj))
      have hf2 : ∀ p, p ≠ b + 1 → p ≠ b + 8 → p ≠ b + 9 → p ≠ b + 10 → ∀ j, S2 p j = S p j := fun p h1 h8 h9 h10 j => (r6 p h1 h8 h10 j).trans (hf1 p h1 h8 h9 h10 j)
      have hz : jj_po ld pl e 0 = 0 := rfl
      have hs2 : jj_sm ca2 4 + jj_up ca e rv e = jj_sm (jj_up ca e rv) 4 + ca2 e := by
        have t1 := jj_sm_up (f := jj_up ca e rv) (i := e) (x := ca2 e) (n := 4) he4
        have t2 : jj_sm (jj_up (jj_up ca e rv) e (ca2 e)) 4 = jj_sm ca2 4 := jj_sm_congr (fun j hj => by
          unfold jj_up
          by_cases c : j = e
          · rw [if_pos c, c]
          · rw [if_neg c]; exact (r3 j c).symm)
        omega
      rw [jj_up_at] at hs2 r4
      obtain ⟨ca', g', S', hR, p1, p2, p3, p4⟩ := ih (e + 1) (by omega) S2 ca2 g2 (jj_au_mono hau (fun p hp j => hf2 p (by omega) (by omega) (by omega) (by omega) j)) (jj_im_mono hc8 him (fun p hp j => hf2 p (by omega) (by omega) (by omega) (by omega) j)) r1 r2 (by omega)
      refine ⟨ca', g', S', jj_tr ?_ hR, p1, p2, by omega, fun p h1 h8 h9 h10 j => (p4 p h1 h8 h9 h10 j).trans (hf2 p h1 h8 h9 h10 j)⟩
      refine js_iload dX1_close_16 rfl ?_
      refine js_iconst (v := nI 4) dX1_close_18 (by decide) ?_
      refine jn_icmp_ge 103 (by omega) (by omega) dX1_close_19 (by decide) (fun h9 => absurd h9 (by omega)) (fun _ => ?_)
      refine js_aload_n 0 rfl dX1_close_22 rfl ?_
      refine js_iload dX1_close_23 rfl ?_
      refine js_aload_n 2 rfl dX1_close_25 rfl ?_
      refine js_aload_n 3 rfl dX1_close_26 rfl ?_
      refine js_callV (av := [.int (nI e), .ref 20, .ref 42]) (st := []) (b := b) (ct_X1_weighLand hB hau hK he4 him) (Or.inl rfl) jw_c_X1_weighLand jw_i_RX1 jw_m_RX1_63 jw_s_X1_weighLand jw_e_X1_weighLand (jk_0 hK) rfl jw_y_X1_weighLand rfl ⟨(Nat.le_of_ble_eq_true rfl), (Nat.le_of_ble_eq_true rfl), (Nat.le_refl _), (Nat.le_refl _), (Nat.le_of_ble_eq_true rfl)⟩ dX1_close_27 ?_
      refine js_st (st' := []) rfl ?_
      refine js_iload_n 1 rfl dX1_close_30 rfl ?_
      refine jn_if_ne 67 (by omega) dX1_close_31 (by decide) (fun _ => ?_) (fun h9 => absurd h9 (by omega))
      refine js_aload_n 0 rfl dX1_close_67 rfl ?_
      refine js_getr 2 jw_f_RX1_18 (jk_0 hK) rfl (Nat.le_of_ble_eq_true rfl) rfl dX1_close_68 ?_
      refine js_iload dX1_close_71 rfl ?_
      refine js_aload_n 0 rfl dX1_close_73 rfl ?_
      refine js_aload_n 0 rfl dX1_close_74 rfl ?_
      refine js_getr 2 jw_f_RX1_18 (jk_0 hK) rfl (Nat.le_of_ble_eq_true rfl) rfl dX1_close_75 ?_
      refine js_iload dX1_close_78 rfl ?_
      refine js_iald e rfl (jk_1 hK) (by omega) (by decide) ((jj_row_neP (by omega)).trans (hca e (by omega))) dX1_close_80 ?_
      refine js_aload_n 0 rfl dX1_close_81 rfl ?_
      refine js_getr 10 jw_f_RX1_43 (jk_0 hK) rfl (Nat.le_of_ble_eq_true rfl) rfl dX1_close_82 ?_
      refine js_callV (av := [.int (nI (ca e)), .ref (b + 9)]) (st := [.int (nI e), .ref (b + 1)]) (b := b) hct (Or.inl rfl) jw_c_X1_split jw_i_RX1 jw_m_RX1_71 jw_s_X1_split jw_e_X1_split (jk_0 hK) rfl jw_y_X1_split rfl ⟨(Nat.le_of_ble_eq_true rfl), (Nat.le_of_ble_eq_true rfl), (Nat.le_refl _), (Nat.le_refl _), (Nat.le_of_ble_eq_true rfl)⟩ dX1_close_85 ?_
      refine js_st (st' := [.int (nI rv), .int (nI e), .ref (b + 1)]) rfl ?_
      refine js_iast e rfl (jk_1 hK) (by omega) (by decide) dX1_close_88 ?_
      refine js_aload_n 0 rfl dX1_close_89 rfl ?_
      refine js_iload dX1_close_90 rfl ?_
      refine js_aload_n 2 rfl dX1_close_92 rfl ?_
      refine js_aload_n 3 rfl dX1_close_93 rfl ?_
      refine js_callV (av := [.int (nI e), .ref 20, .ref 42]) (st := []) (b := b) hct2 (Or.inl rfl) jw_c_X1_splitByListener jw_i_RX1 jw_m_RX1_75 jw_s_X1_splitByListener jw_e_X1_splitByListener (jk_0 hK) rfl jw_y_X1_splitByListener rfl ⟨(Nat.le_of_ble_eq_true rfl), (Nat.le_of_ble_eq_true rfl), (Nat.le_refl _), (Nat.le_refl _), (Nat.le_of_ble_eq_true rfl)⟩ dX1_close_94 ?_
      refine js_st (st' := []) rfl ?_
      refine js_iinc (v := nI (e + 1)) (L' := [some (.ref b), some (.int (nI rule)), some (.ref 20), some (.ref 42), some (.ref 8), some (.int (nI (e + 1)))]) dX1_close_97 rfl (jj_inc _) rfl ?_
      refine js_goto 16 dX1_close_100 (by decide) ?_
      exact jj_refl
set_option maxRecDepth 100000 in
set_option maxHeartbeats 4000000 in
theorem lb_X1_close {lay : jj_Lay} (hB : jj_pp lay) {b rule : Nat} {cl : Nat → Nat → Nat} (hK : jj_bk lay b) {g : Nat → Nat} : ∀ (k e : Nat), e + k = 10 → ∀ (S : jj_Mem) (x : Nat) (ge he du : Nat → Nat), jj_cm S cl → (∀ j, j < 10 → S (b + 8) j = some (nI (g j))) → (∀ j, j < 10 → S (b + 2) j = some (nI (ge j))) → (∀ j, j < 10 → S (b + 3) j = some (nI (he j))) → (∀ j, j < 5 → S (b + 4) j = some (nI (du j))) → S b 1 = some (nI x) → (∀ j, e ≤ j → j < 10 → g j + he j ≤ 1000000) →
    ∃ (x' : Nat) (ge' he' du' : Nat → Nat) (S' : jj_Mem), jj_R cX1_close 6 RX1 yX1_close.name none 4 93 lay.length (jj_sl lay) (106, [some (.ref b), some (.int (nI rule)), some (.ref 20), some (.ref 42), some (.ref 8), some (.int (nI e))], [], lay, S) (144, [some (.ref b), some (.int (nI rule)), some (.ref 20), some (.ref 42), some (.ref 8), some (.int (nI 10))], [], lay, S') ∧ (∀ j, j < 10 → S' (b + 2) j = some (nI (ge' j))) ∧ (∀ j, j < 10 → S' (b + 3) j = some (nI (he' j))) ∧ (∀ j, j < 5 → S' (b + 4) j = some (nI (du' j))) ∧ S' b 1 = some (nI x') ∧ x' + jj_sm he' 10 + jj_sm du' 5 + jj_sm g e = x + jj_sm he 10 + jj_sm du 5 + jj_sm g 10 ∧ (∀ j, j < 10 → ge' j = ge j + (if e ≤ j then g j else 0)) ∧ S' b 0 = S b 0 ∧ (∀ p, p ≠ b → p ≠ b + 2 → p ≠ b + 3 → p ≠ b + 4 → ∀ j, S' p j = S p j) := by
  intro k
  induction k with
  | zero =>
    intro e he9 S x ge he du hcm hg hge hhe hdu hx hbd
    have he9 : e = 10 := by omega
    subst he9
    refine ⟨x, ge, he, du, S, ?_, hge, hhe, hdu, hx, rfl, fun j hj => by rw [if_neg (by omega), Nat.add_zero], rfl, fun _ _ _ _ _ _ => rfl⟩
    refine js_iload dX1_close_106 rfl ?_
    refine js_bipush (v := nI 10) dX1_close_108 (by decide) ?_
    refine jn_icmp_ge 144 (by omega) (by omega) dX1_close_110 (by decide) (fun _ => ?_) (fun h9 => absurd h9 (by omega))
    exact jj_refl
  | succ k ih =>
    intro e he9 S x ge he du hcm hg hge hhe hdu hx hbd
    have hb := jk_b hK
    have h10 : e < 10 := by omega
    obtain ⟨he1, du1, x1, S1, hct, q1, q2, q3, q4, q5, q6, q7⟩ := ct_X1_share (lay := lay) (S := jj_w S (b + 2) e (nI (ge e + g e))) (u := e) (cl := cl) (g := g) (he := he) (du := du) (x := x) hB hK h10 (jj_cm_mono hcm (fun p hp j => jj_w_neP (by omega))) (fun j hj => (jj_w_neP (by omega)).trans (hg j hj)) (fun j hj => (jj_w_neP (by omega)).trans (hhe j hj)) (fun j hj => (jj_w_neP (by omega)).trans (hdu j hj)) ((jj_w_neP (by omega)).trans hx) (hbd e (Nat.le_refl _) h10)
    have hf : ∀ p, p ≠ b → p ≠ b + 2 → p ≠ b + 3 → p ≠ b + 4 → ∀ j, S1 p j = S p j := fun p h0 h2 h3 h4 j => (q7 p h0 h3 h4 j).trans (jj_w_neP h2)
    obtain ⟨x', ge', he', du', S', hR, p1, p2, p3, p4, p5, p6, p7, p8⟩ := ih (e + 1) (by omega) S1 x1 (jj_up ge e (ge e + g e)) he1 du1 (jj_cm_mono hcm (fun p hp j => hf p (by omega) (by omega) (by omega) (by omega) j)) (fun j hj => (hf (b + 8) (by omega) (by omega) (by omega) (by omega) j).trans (hg j hj)) (fun j hj => (q7 (b + 2) (by omega) (by omega) (by omega) j).trans (jj_row_upd hge j hj)) q1 q2 q3 (fun j h1 h2 => by rw [q5 j (by omega)]; exact hbd j (by omega) h2)
    have hse : jj_sm g (e + 1) = jj_sm g e + g e := rfl
    refine ⟨x', ge', he', du', S', jj_tr ?_ hR, p1, p2, p3, p4, by omega, fun j hj => ?_, p7.trans (q6.trans (jj_w_neP (by omega))), fun p h0 h2 h3 h4 j => (p8 p h0 h2 h3 h4 j).trans (hf p h0 h2 h3 h4 j)⟩
    · refine js_iload dX1_close_106 rfl ?_
      refine js_bipush (v := nI 10) dX1_close_108 (by decide) ?_
      refine jn_icmp_ge 144 (by omega) (by omega) dX1_close_110 (by decide) (fun h9 => absurd h9 (by omega)) (fun _ => ?_)
      refine js_aload_n 0 rfl dX1_close_113 rfl ?_
      refine js_getr 3 jw_f_RX1_22 (jk_0 hK) rfl (Nat.le_of_ble_eq_true rfl) rfl dX1_close_114 ?_
      refine js_iload dX1_close_117 rfl ?_
      refine js_dup2 rfl rfl dX1_close_119 ?_
      refine js_iald e rfl (jk_2 hK) (by omega) (by decide) (hge e (by omega)) dX1_close_120 ?_
      refine js_aload_n 0 rfl dX1_close_121 rfl ?_
      refine js_getr 9 jw_f_RX1_40 (jk_0 hK) rfl (Nat.le_of_ble_eq_true rfl) rfl dX1_close_122 ?_
      refine js_iload dX1_close_125 rfl ?_
      refine js_iald e rfl (jk_8 hK) (by omega) (by decide) (hg e (by omega)) dX1_close_127 ?_
      refine jn_iadd dX1_close_128 ?_
      refine js_iast e rfl (jk_2 hK) (by omega) (by decide) dX1_close_129 ?_
      refine js_aload_n 0 rfl dX1_close_130 rfl ?_
      refine js_iload dX1_close_131 rfl ?_
      refine js_aload dX1_close_133 rfl ?_
      refine js_callV (av := [.int (nI e), .ref 8]) (st := []) (b := b) hct (Or.inl rfl) jw_c_X1_share jw_i_RX1 jw_m_RX1_78 jw_s_X1_share jw_e_X1_share (jk_0 hK) rfl jw_y_X1_share rfl ⟨(Nat.le_of_ble_eq_true rfl), (Nat.le_of_ble_eq_true rfl), (Nat.le_refl _), (Nat.le_refl _), (Nat.le_of_ble_eq_true rfl)⟩ dX1_close_135 ?_
      refine js_st (st' := []) rfl ?_
      refine js_iinc (v := nI (e + 1)) (L' := [some (.ref b), some (.int (nI rule)), some (.ref 20), some (.ref 42), some (.ref 8), some (.int (nI (e + 1)))]) dX1_close_138 rfl (jj_inc _) rfl ?_
      refine js_goto 106 dX1_close_141 (by decide) ?_
      exact jj_refl
    · rw [p6 j hj]
      by_cases c : j = e
      · rw [c, jj_up_at, if_neg (by omega), if_pos (Nat.le_refl _), Nat.add_zero]
      · rw [jj_up_ne ge c]
        by_cases d : e ≤ j
        · rw [if_pos d, if_pos (by omega)]
        · rw [if_neg d, if_neg (by omega)]
set_option maxRecDepth 100000 in
set_option maxHeartbeats 4000000 in
theorem lc_X1_close {lay : jj_Lay} {b rule : Nat} (hK : jj_bk lay b) : ∀ (k e : Nat), e + k = 5 → ∀ (S : jj_Mem) (du pa ad re : Nat → Nat), (∀ j, j < 5 → S (b + 4) j = some (nI (du j))) → (∀ j, j < 5 → S (b + 5) j = some (nI (pa j))) → (∀ j, j < 5 → S (b + 6) j = some (nI (ad j))) → (∀ j, j < 5 → S (b + 7) j = some (nI (re j))) → (∀ j, j < 5 → ad j < 2 ^ 31) → jj_sm du 5 + jj_sm pa 5 + jj_sm re 5 ≤ 1000000 →
    ∃ (du' pa' ad' re' : Nat → Nat) (S' : jj_Mem), jj_RR cX1_close 6 RX1 yX1_close.name none 4 93 lay.length (jj_sl lay) (147, [some (.ref b), some (.int (nI rule)), some (.ref 20), some (.ref 42), some (.ref 8), some (.int (nI e))], [], lay, S) none .return_ lay S' ∧ (∀ j, j < 5 → S' (b + 4) j = some (nI (du' j))) ∧ (∀ j, j < 5 → S' (b + 5) j = some (nI (pa' j))) ∧ (∀ j, j < 5 → S' (b + 6) j = some (nI (ad' j))) ∧ (∀ j, j < 5 → S' (b + 7) j = some (nI (re' j))) ∧ jj_sm du' 5 + jj_sm pa' 5 + jj_sm re' 5 = jj_sm du 5 + jj_sm pa 5 + jj_sm re 5 ∧ (∀ j, pa j ≤ pa' j) ∧ (∀ j, ad' j ≤ ad j) ∧ (∀ p, p ≠ b + 4 → p ≠ b + 5 → p ≠ b + 6 → p ≠ b + 7 → ∀ j, S' p j = S p j) := by
  intro k
  induction k with
  | zero =>
    intro e he S du pa ad re hdu hpa had hre hb1 hb2
    have he : e = 5 := by omega
    subst he
    refine ⟨du, pa, ad, re, S, ⟨171, [some (.ref b), some (.int (nI rule)), some (.ref 20), some (.ref 42), some (.ref 8), some (.int (nI 5))], dX1_close_171, ?_⟩, hdu, hpa, had, hre, rfl, fun _ => Nat.le_refl _, fun _ => Nat.le_refl _, fun _ _ _ _ _ _ => rfl⟩
    refine js_iload dX1_close_147 rfl ?_
    refine js_iconst (v := nI 5) dX1_close_149 (by decide) ?_
    refine jn_icmp_ge 171 (by omega) (by omega) dX1_close_150 (by decide) (fun _ => ?_) (fun h9 => absurd h9 (by omega))
    exact jj_refl
  | succ k ih =>
    intro e he S du pa ad re hdu hpa had hre hb1 hb2
    have hb := jk_b hK
    have h5 : e < 5 := by omega
    have hd1 := jj_sm_at (f := du) h5
    obtain ⟨du1, ad1, re1, S1, hct, q1, q2, q3, q4, q5, q6⟩ := ct_X1_recoup (lay := lay) (S := S) (u := e) hK h5 hdu had hre (by omega) (hb1 e h5)
    have hd2 := jj_sm_at (f := du1) h5
    obtain ⟨du2, pa2, S2, hct2, r1, r2, r3, r4, r5⟩ := ct_X1_payOut (lay := lay) (S := S1) (u := e) hK h5 q1 (fun j hj => (q6 (b + 5) (by omega) (by omega) (by omega) j).trans (hpa j hj)) (by omega)
    obtain ⟨du', pa', ad', re', S', hR, p1, p2, p3, p4, p5, p6, p7, p8⟩ := ih (e + 1) (by omega) S2 du2 pa2 ad1 re1 r1 r2 (fun j hj => (r5 (b + 6) (by omega) (by omega) j).trans (q2 j hj)) (fun j hj => (r5 (b + 7) (by omega) (by omega) j).trans (q3 j hj)) (fun j hj => Nat.lt_of_le_of_lt (q5 j) (hb1 j hj)) (by omega)
    refine ⟨du', pa', ad', re', S', jj_RRs ?_ hR, p1, p2, p3, p4, by omega, fun j => Nat.le_trans (r4 j) (p6 j), fun j => Nat.le_trans (p7 j) (q5 j), fun p h4 h5 h6 h7 j => (p8 p h4 h5 h6 h7 j).trans ((r5 p h4 h5 j).trans (q6 p h4 h6 h7 j))⟩
    refine js_iload dX1_close_147 rfl ?_
    refine js_iconst (v := nI 5) dX1_close_149 (by decide) ?_
    refine jn_icmp_ge 171 (by omega) (by omega) dX1_close_150 (by decide) (fun h9 => absurd h9 (by omega)) (fun _ => ?_)
    refine js_aload_n 0 rfl dX1_close_153 rfl ?_
    refine js_iload dX1_close_154 rfl ?_
    refine js_callV (av := [.int (nI e)]) (st := []) (b := b) hct (Or.inl rfl) jw_c_X1_recoup jw_i_RX1 jw_m_RX1_82 jw_s_X1_recoup jw_e_X1_recoup (jk_0 hK) rfl jw_y_X1_recoup rfl ⟨(Nat.le_of_ble_eq_true rfl), (Nat.le_of_ble_eq_true rfl), (Nat.le_refl _), (Nat.le_refl _), (Nat.le_of_ble_eq_true rfl)⟩ dX1_close_156 ?_
    refine js_st (st' := []) rfl ?_
    refine js_aload_n 0 rfl dX1_close_159 rfl ?_
    refine js_iload dX1_close_160 rfl ?_
    refine js_callV (av := [.int (nI e)]) (st := []) (b := b) hct2 (Or.inl rfl) jw_c_X1_payOut jw_i_RX1 jw_m_RX1_86 jw_s_X1_payOut jw_e_X1_payOut (jk_0 hK) rfl jw_y_X1_payOut rfl ⟨(Nat.le_of_ble_eq_true rfl), (Nat.le_of_ble_eq_true rfl), (Nat.le_refl _), (Nat.le_refl _), (Nat.le_of_ble_eq_true rfl)⟩ dX1_close_162 ?_
    refine js_st (st' := []) rfl ?_
    refine js_iinc (v := nI (e + 1)) (L' := [some (.ref b), some (.int (nI rule)), some (.ref 20), some (.ref 42), some (.ref 8), some (.int (nI (e + 1)))]) dX1_close_165 rfl (jj_inc _) rfl ?_
    refine js_goto 147 dX1_close_168 (by decide) ?_
    exact jj_refl
set_option maxRecDepth 100000 in
set_option maxHeartbeats 4000000 in
theorem ct_X1_close {lay : jj_Lay} {S : jj_Mem} (hB : jj_pp lay) {cnt : Nat} {ld pl : Nat → Nat} {b rule : Nat} {im cl : Nat → Nat → Nat} (hK : jj_bk lay b) {h x : Nat} {ca ge he du pa ad re : Nat → Nat} (hrule : rule < 2) (hau : jj_au S cnt ld pl) (him : jj_im S cnt im) (hcm : jj_cm S cl) (him2 : ∀ l, l < cnt → jj_sm (im l) 10 ≤ 1000) (him3 : jj_sm (fun l => jj_sm (im l) 10) cnt ≤ 1000) (hbs : jj_bs S b h x ca ge he du pa ad re) (had9 : ∀ j, j < 5 → ad j < 2 ^ 31) (hT : jj_tot h x ca he du pa re + jj_sm (fun l => jj_fee (pl l)) cnt ≤ 1000000) :
    ∃ (h' x' : Nat) (ca' ge' he' du' pa' ad' re' : Nat → Nat) (S' : jj_Mem), jj_CT yX1_close (.code yX1_close cX1_close 6 none) none 4 93 [.ref b, .int (nI rule), .ref 20, .ref 42, .ref 8] lay S none lay S' ∧ jj_bs S' b h' x' ca' ge' he' du' pa' ad' re' ∧ jj_tot h' x' ca' he' du' pa' re' = jj_tot h x ca he du pa re + jj_sm (fun l => jj_fee (pl l)) cnt ∧ (∀ j, j < 10 → ge j ≤ ge' j ∧ ge' j ≤ ge j + 1000000) ∧ (∀ j, pa j ≤ pa' j) ∧ (∀ j, ad' j ≤ ad j) ∧ (∀ p, p < b ∨ b + 10 < p → ∀ j, S' p j = S p j) := by
  obtain ⟨b0, b1, b2, b3, b4, b5, b6, b7, b8⟩ := hbs
  have hb := jk_b hK
  have hc8 := hau.1
  have hfp : jj_sm (fun l => jj_fee (pl l) - jj_pool (pl l)) cnt + jj_sm (fun l => jj_pool (pl l)) cnt = jj_sm (fun l => jj_fee (pl l)) cnt := by
    rw [← jj_sm_add]
    exact jj_sm_congr (fun l _ => by have := jj_pool_le (pl l); omega)
  have hpo : jj_sm (fun land => jj_po ld pl land cnt) 4 = jj_sm (fun l => jj_pool (pl l)) cnt := jj_lands cnt (fun l hl => (hau.2.2.1 l hl).2)
  unfold jj_tot at hT
  have hct1 := ct_X1_takeHouseParts (lay := lay) (S := jj_row S (b + 8) 10 (fun _ => 0)) (b := b) (h := h) hB (jj_au_mono hau (fun p hp j => jj_row_neP (by omega))) hK ((jj_row_neP (by omega)).trans b0)
  obtain ⟨h1, hh1⟩ : ∃ h1, h1 = h + jj_sm (fun l => jj_fee (pl l) - jj_pool (pl l)) cnt := ⟨_, rfl⟩
  rw [← hh1] at hct1
  obtain ⟨S1, hS1⟩ : ∃ S1, S1 = jj_w (jj_row S (b + 8) 10 (fun _ => 0)) b 0 (nI h1) := ⟨_, rfl⟩
  rw [← hS1] at hct1
  have f1 : ∀ p, p ≠ b → p ≠ b + 8 → ∀ j, S1 p j = S p j := fun p h0 h8 j => by rw [hS1]; exact (jj_w_neP h0).trans (jj_row_neP h8)
  have f10 : S1 b 0 = some (nI h1) := by rw [hS1]; exact jj_w_at _ _ _ _
  have f11 : S1 b 1 = some (nI x) := by rw [hS1]; exact (jj_w_neI (by omega)).trans ((jj_row_neP (by omega)).trans b1)
  obtain ⟨ca', g', S2, hR2, p1, p2, p3, p4⟩ := la_X1_close (lay := lay) hB hK hrule him2 him3 (B := 1000000) (Nat.le_refl _) 4 0 (by omega) S1 ca (fun _ => 0) (jj_au_mono hau (fun p hp j => f1 p (by omega) (by omega) j)) (jj_im_mono hc8 him (fun p hp j => f1 p (by omega) (by omega) j)) (fun j hj => (f1 (b + 1) (by omega) (by omega) j).trans (b2 j hj)) (fun j hj => by rw [hS1]; exact (jj_w_neP (by omega)).trans (jj_row_at hj)) (by rw [jj_sm_zero]; omega)
  have hz0 : jj_sm (fun land => jj_po ld pl land cnt) 0 = 0 := rfl
  rw [jj_sm_zero] at p3
  have f2 : ∀ p, p < b ∨ (b + 1 < p ∧ p < b + 8) ∨ b + 10 < p → ∀ j, S2 p j = S p j := fun p hp j => (p4 p (by omega) (by omega) (by omega) (by omega) j).trans (f1 p (by omega) (by omega) j)
  have hghe : ∀ j, 0 ≤ j → j < 10 → g' j + he j ≤ 1000000 := fun j _ hj => by
    have := jj_sm_at (f := g') hj
    have := jj_sm_at (f := he) hj
    omega
  obtain ⟨x', ge', he', du1, S3, hR3, q1, q2, q3, q4, q5, q6, q7, q8⟩ := lb_X1_close (lay := lay) (rule := rule) (cl := cl) hB hK (g := g') 10 0 (by omega) S2 x ge he du (jj_cm_mono hcm (fun p hp j => f2 p (by omega) j)) p2 (fun j hj => (f2 (b + 2) (by omega) j).trans (b3 j hj)) (fun j hj => (f2 (b + 3) (by omega) j).trans (b4 j hj)) (fun j hj => (f2 (b + 4) (by omega) j).trans (b5 j hj)) ((p4 b (by omega) (by omega) (by omega) (by omega) 1).trans f11) hghe
  have hz1 : jj_sm g' 0 = 0 := rfl
  have f3 : ∀ p, p < b ∨ (b + 4 < p ∧ p < b + 8) ∨ b + 10 < p → ∀ j, S3 p j = S p j := fun p hp j => (q8 p (by omega) (by omega) (by omega) (by omega) j).trans (f2 p (by omega) j)
  obtain ⟨du', pa', ad', re', S4, hR4, r1, r2, r3, r4, r5, r6, r7, r8⟩ := lc_X1_close (lay := lay) (rule := rule) hK 5 0 (by omega) S3 du1 pa ad re q3 (fun j hj => (f3 (b + 5) (by omega) j).trans (b6 j hj)) (fun j hj => (f3 (b + 6) (by omega) j).trans (b7 j hj)) (fun j hj => (f3 (b + 7) (by omega) j).trans (b8 j hj)) had9 (by omega)
  refine ⟨h1, x', ca', ge', he', du', pa', ad', re', S4, ?_, ⟨?_, ?_, ?_, ?_, ?_, r1, r2, r3, r4⟩, ?_, ?_, r6, r7, ?_⟩
  · refine jj_mkV RX1 (by decide) rfl (L := [some (.ref b), some (.int (nI rule)), some (.ref 20), some (.ref 42), some (.ref 8), none]) rfl rfl ?_
    refine jj_RRs (jj_tr (jj_tr ?_ hR2) (jj_tr (jj_tr ?_ hR3) ?_)) hR4
    · refine js_aload_n 0 rfl dX1_close_0 rfl ?_
      refine js_getr 9 jw_f_RX1_40 (jk_0 hK) rfl (Nat.le_of_ble_eq_true rfl) rfl dX1_close_1 ?_
      refine js_iconst (v := nI 0) dX1_close_4 (by decide) ?_
      refine js_callS (av := [.ref (b + 8), .int (nI 0)]) (st := []) (ct_J7_fill_53178 (c := 0) (jk_8 hK) (by omega)) (Or.inl rfl) jw_c_J7_fill_53178 jw_i_RJ7 jw_m_RX1_53 jw_s_J7_fill_53178 jw_y_J7_fill_53178 rfl ⟨(Nat.le_of_ble_eq_true rfl), (Nat.le_of_ble_eq_true rfl), (Nat.le_refl _), (Nat.le_refl _), (Nat.le_of_ble_eq_true rfl)⟩ dX1_close_5 ?_
      refine js_st (st' := []) rfl ?_
      refine js_aload_n 0 rfl dX1_close_8 rfl ?_
      refine js_aload_n 2 rfl dX1_close_9 rfl ?_
      refine js_callV (av := [.ref 20]) (st := []) (b := b) hct1 (Or.inl rfl) jw_c_X1_takeHouseParts jw_i_RX1 jw_m_RX1_59 jw_s_X1_takeHouseParts jw_e_X1_takeHouseParts (jk_0 hK) rfl jw_y_X1_takeHouseParts rfl ⟨(Nat.le_of_ble_eq_true rfl), (Nat.le_of_ble_eq_true rfl), (Nat.le_refl _), (Nat.le_refl _), (Nat.le_of_ble_eq_true rfl)⟩ dX1_close_10 ?_
      refine js_st (st' := []) rfl ?_
      refine js_iconst (v := nI 0) dX1_close_13 (by decide) ?_
      refine js_istore (L' := [some (.ref b), some (.int (nI rule)), some (.ref 20), some (.ref 42), some (.ref 8), some (.int (nI 0))]) dX1_close_14 rfl (Nat.le_of_ble_eq_true rfl) ?_
      exact jj_refl
    · refine js_iconst (v := nI 0) dX1_close_103 (by decide) ?_
      refine js_istore (L' := [some (.ref b), some (.int (nI rule)), some (.ref 20), some (.ref 42), some (.ref 8), some (.int (nI 0))]) dX1_close_104 rfl (Nat.le_of_ble_eq_true rfl) ?_
      exact jj_refl
    · refine js_iconst (v := nI 0) dX1_close_144 (by decide) ?_
      refine js_istore (L' := [some (.ref b), some (.int (nI rule)), some (.ref 20), some (.ref 42), some (.ref 8), some (.int (nI 0))]) dX1_close_145 rfl (Nat.le_of_ble_eq_true rfl) ?_
      exact jj_refl
  · exact (r8 b (by omega) (by omega) (by omega) (by omega) 0).trans (q7.trans ((p4 b (by omega) (by omega) (by omega) (by omega) 0).trans f10))
  · exact (r8 b (by omega) (by omega) (by omega) (by omega) 1).trans q4
  · exact fun j hj => (r8 (b + 1) (by omega) (by omega) (by omega) (by omega) j).trans ((q8 (b + 1) (by omega) (by omega) (by omega) (by omega) j).trans (p1 j hj))
  · exact fun j hj => (r8 (b + 2) (by omega) (by omega) (by omega) (by omega) j).trans (q1 j hj)
  · exact fun j hj => (r8 (b + 3) (by omega) (by omega) (by omega) (by omega) j).trans (q2 j hj)
  · unfold jj_tot; omega
  · intro j hj
    have h9 := q6 j hj
    rw [if_pos (Nat.zero_le _)] at h9
    have := jj_sm_at (f := g') hj
    omega
  · exact fun p hp j => (r8 p (by omega) (by omega) (by omega) (by omega) j).trans (f3 p (by omega) j)
end
section
/-! TRIALS, and the closing of the month. -/
set_option maxRecDepth 100000 in
set_option maxHeartbeats 4000000 in
theorem ct_X1_takeOver {lay : jj_Lay} {S : jj_Mem} (hB : jj_pp lay) {b : Nat} {h x : Nat} {ca ge he du pa ad re : Nat → Nat} (hK : jj_bk lay b) (hb81 : 81 ≤ b) (hbs : jj_bs S 70 h x ca ge he du pa ad re) :
    ∃ S', jj_CT yX1_takeOver (.code yX1_takeOver cX1_takeOver 2 none) none 2 61 [.ref b, .ref 70] lay S none lay S' ∧ jj_bs S' b h x ca ge he du pa ad re ∧ (∀ p, p < b ∨ b + 10 < p → ∀ j, S' p j = S p j) := by
  obtain ⟨h0, h1, hca, hge, hhe, hdu, hpa, had, hre⟩ := hbs
  refine ⟨(jj_row (jj_row (jj_row (jj_row (jj_row (jj_row (jj_row (jj_w (jj_w S b 0 (nI h)) b 1 (nI x)) (b + 1) 4 ca) (b + 2) 10 ge) (b + 3) 10 he) (b + 4) 5 du) (b + 5) 5 pa) (b + 6) 5 ad) (b + 7) 5 re), ?_, ⟨(jj_row_neP (by omega)).trans ((jj_row_neP (by omega)).trans ((jj_row_neP (by omega)).trans ((jj_row_neP (by omega)).trans ((jj_row_neP (by omega)).trans ((jj_row_neP (by omega)).trans ((jj_row_neP (by omega)).trans ((jj_w_neI (by omega)).trans (jj_w_at _ _ _ _)))))))), (jj_row_neP (by omega)).trans ((jj_row_neP (by omega)).trans ((jj_row_neP (by omega)).trans ((jj_row_neP (by omega)).trans ((jj_row_neP (by omega)).trans ((jj_row_neP (by omega)).trans ((jj_row_neP (by omega)).trans (jj_w_at _ _ _ _))))))), fun j hj => (jj_row_neP (by omega)).trans ((jj_row_neP (by omega)).trans ((jj_row_neP (by omega)).trans ((jj_row_neP (by omega)).trans ((jj_row_neP (by omega)).trans ((jj_row_neP (by omega)).trans (jj_row_at hj)))))), fun j hj => (jj_row_neP (by omega)).trans ((jj_row_neP (by omega)).trans ((jj_row_neP (by omega)).trans ((jj_row_neP (by omega)).trans ((jj_row_neP (by omega)).trans (jj_row_at hj))))), fun j hj => (jj_row_neP (by omega)).trans ((jj_row_neP (by omega)).trans ((jj_row_neP (by omega)).trans ((jj_row_neP (by omega)).trans (jj_row_at hj)))), fun j hj => (jj_row_neP (by omega)).trans ((jj_row_neP (by omega)).trans ((jj_row_neP (by omega)).trans (jj_row_at hj))), fun j hj => (jj_row_neP (by omega)).trans ((jj_row_neP (by omega)).trans (jj_row_at hj)), fun j hj => (jj_row_neP (by omega)).trans (jj_row_at hj), fun j hj => jj_row_at hj⟩, fun p hp j => (jj_row_neP (by omega)).trans ((jj_row_neP (by omega)).trans ((jj_row_neP (by omega)).trans ((jj_row_neP (by omega)).trans ((jj_row_neP (by omega)).trans ((jj_row_neP (by omega)).trans ((jj_row_neP (by omega)).trans ((jj_w_neP (by omega)).trans (jj_w_neP (by omega)))))))))⟩
  refine jj_mkV RX1 (by decide) rfl (L := [some (.ref b), some (.ref 70)]) rfl rfl ⟨93, [some (.ref b), some (.ref 70)], dX1_takeOver_93, ?_⟩
  refine js_aload_n 0 rfl dX1_takeOver_0 rfl ?_
  refine js_aload_n 1 rfl dX1_takeOver_1 rfl ?_
  refine js_geti 0 jw_f_RX1_9 (jl_70 hB) rfl (Nat.le_of_ble_eq_true rfl) rfl (h0) dX1_takeOver_2 ?_
  refine js_put 0 jw_f_RX1_9 (jk_0 hK) rfl (Nat.le_of_ble_eq_true rfl) rfl rfl (by decide +kernel) dX1_takeOver_5 ?_
  refine js_aload_n 0 rfl dX1_takeOver_8 rfl ?_
  refine js_aload_n 1 rfl dX1_takeOver_9 rfl ?_
  refine js_geti 1 jw_f_RX1_15 (jl_70 hB) rfl (Nat.le_of_ble_eq_true rfl) rfl ((jj_w_neP (by omega)).trans (h1)) dX1_takeOver_10 ?_
  refine js_put 1 jw_f_RX1_15 (jk_0 hK) rfl (Nat.le_of_ble_eq_true rfl) rfl rfl (by decide +kernel) dX1_takeOver_13 ?_
  refine js_aload_n 1 rfl dX1_takeOver_16 rfl ?_
  refine js_getr 2 jw_f_RX1_18 (jl_70 hB) rfl (Nat.le_of_ble_eq_true rfl) rfl dX1_takeOver_17 ?_
  refine js_aload_n 0 rfl dX1_takeOver_20 rfl ?_
  refine js_getr 2 jw_f_RX1_18 (jk_0 hK) rfl (Nat.le_of_ble_eq_true rfl) rfl dX1_takeOver_21 ?_
  refine js_callSN (av := [.ref 71, .ref (b + 1)]) (st := []) (ct_X6_copyAll (h := ca) (jl_71 hB) (jk_1 hK) (by omega) (fun j hj => (jj_w_neP (by omega)).trans ((jj_w_neP (by omega)).trans (hca j hj)))) (Or.inl rfl) jw_c_X6_copyAll jw_i_RX6 jw_h_RX1_49 jw_s_X6_copyAll jw_y_X6_copyAll rfl ⟨(Nat.le_of_ble_eq_true rfl), (Nat.le_of_ble_eq_true rfl), (Nat.le_refl _), (Nat.le_refl _), (Nat.le_of_ble_eq_true rfl)⟩ dX1_takeOver_24 ?_
  refine js_st (st' := []) rfl ?_
  refine js_aload_n 1 rfl dX1_takeOver_27 rfl ?_
  refine js_getr 3 jw_f_RX1_22 (jl_70 hB) rfl (Nat.le_of_ble_eq_true rfl) rfl dX1_takeOver_28 ?_
  refine js_aload_n 0 rfl dX1_takeOver_31 rfl ?_
  refine js_getr 3 jw_f_RX1_22 (jk_0 hK) rfl (Nat.le_of_ble_eq_true rfl) rfl dX1_takeOver_32 ?_
  refine js_callSN (av := [.ref 72, .ref (b + 2)]) (st := []) (ct_X6_copyAll (h := ge) (jl_72 hB) (jk_2 hK) (by omega) (fun j hj => (jj_row_neP (by omega)).trans ((jj_w_neP (by omega)).trans ((jj_w_neP (by omega)).trans (hge j hj))))) (Or.inl rfl) jw_c_X6_copyAll jw_i_RX6 jw_h_RX1_49 jw_s_X6_copyAll jw_y_X6_copyAll rfl ⟨(Nat.le_of_ble_eq_true rfl), (Nat.le_of_ble_eq_true rfl), (Nat.le_refl _), (Nat.le_refl _), (Nat.le_of_ble_eq_true rfl)⟩ dX1_takeOver_35 ?_
  refine js_st (st' := []) rfl ?_
  refine js_aload_n 1 rfl dX1_takeOver_38 rfl ?_
  refine js_getr 4 jw_f_RX1_25 (jl_70 hB) rfl (Nat.le_of_ble_eq_true rfl) rfl dX1_takeOver_39 ?_
  refine js_aload_n 0 rfl dX1_takeOver_42 rfl ?_
  refine js_getr 4 jw_f_RX1_25 (jk_0 hK) rfl (Nat.le_of_ble_eq_true rfl) rfl dX1_takeOver_43 ?_
  refine js_callSN (av := [.ref 73, .ref (b + 3)]) (st := []) (ct_X6_copyAll (h := he) (jl_73 hB) (jk_3 hK) (by omega) (fun j hj => (jj_row_neP (by omega)).trans ((jj_row_neP (by omega)).trans ((jj_w_neP (by omega)).trans ((jj_w_neP (by omega)).trans (hhe j hj)))))) (Or.inl rfl) jw_c_X6_copyAll jw_i_RX6 jw_h_RX1_49 jw_s_X6_copyAll jw_y_X6_copyAll rfl ⟨(Nat.le_of_ble_eq_true rfl), (Nat.le_of_ble_eq_true rfl), (Nat.le_refl _), (Nat.le_refl _), (Nat.le_of_ble_eq_true rfl)⟩ dX1_takeOver_46 ?_
  refine js_st (st' := []) rfl ?_
  refine js_aload_n 1 rfl dX1_takeOver_49 rfl ?_
  refine js_getr 5 jw_f_RX1_28 (jl_70 hB) rfl (Nat.le_of_ble_eq_true rfl) rfl dX1_takeOver_50 ?_
  refine js_aload_n 0 rfl dX1_takeOver_53 rfl ?_
  refine js_getr 5 jw_f_RX1_28 (jk_0 hK) rfl (Nat.le_of_ble_eq_true rfl) rfl dX1_takeOver_54 ?_
  refine js_callSN (av := [.ref 74, .ref (b + 4)]) (st := []) (ct_X6_copyAll (h := du) (jl_74 hB) (jk_4 hK) (by omega) (fun j hj => (jj_row_neP (by omega)).trans ((jj_row_neP (by omega)).trans ((jj_row_neP (by omega)).trans ((jj_w_neP (by omega)).trans ((jj_w_neP (by omega)).trans (hdu j hj))))))) (Or.inl rfl) jw_c_X6_copyAll jw_i_RX6 jw_h_RX1_49 jw_s_X6_copyAll jw_y_X6_copyAll rfl ⟨(Nat.le_of_ble_eq_true rfl), (Nat.le_of_ble_eq_true rfl), (Nat.le_refl _), (Nat.le_refl _), (Nat.le_of_ble_eq_true rfl)⟩ dX1_takeOver_57 ?_
  refine js_st (st' := []) rfl ?_
  refine js_aload_n 1 rfl dX1_takeOver_60 rfl ?_
  refine js_getr 6 jw_f_RX1_31 (jl_70 hB) rfl (Nat.le_of_ble_eq_true rfl) rfl dX1_takeOver_61 ?_
  refine js_aload_n 0 rfl dX1_takeOver_64 rfl ?_
  refine js_getr 6 jw_f_RX1_31 (jk_0 hK) rfl (Nat.le_of_ble_eq_true rfl) rfl dX1_takeOver_65 ?_
  refine js_callSN (av := [.ref 75, .ref (b + 5)]) (st := []) (ct_X6_copyAll (h := pa) (jl_75 hB) (jk_5 hK) (by omega) (fun j hj => (jj_row_neP (by omega)).trans ((jj_row_neP (by omega)).trans ((jj_row_neP (by omega)).trans ((jj_row_neP (by omega)).trans ((jj_w_neP (by omega)).trans ((jj_w_neP (by omega)).trans (hpa j hj)))))))) (Or.inl rfl) jw_c_X6_copyAll jw_i_RX6 jw_h_RX1_49 jw_s_X6_copyAll jw_y_X6_copyAll rfl ⟨(Nat.le_of_ble_eq_true rfl), (Nat.le_of_ble_eq_true rfl), (Nat.le_refl _), (Nat.le_refl _), (Nat.le_of_ble_eq_true rfl)⟩ dX1_takeOver_68 ?_
  refine js_st (st' := []) rfl ?_
  refine js_aload_n 1 rfl dX1_takeOver_71 rfl ?_
  refine js_getr 7 jw_f_RX1_34 (jl_70 hB) rfl (Nat.le_of_ble_eq_true rfl) rfl dX1_takeOver_72 ?_
  refine js_aload_n 0 rfl dX1_takeOver_75 rfl ?_
  refine js_getr 7 jw_f_RX1_34 (jk_0 hK) rfl (Nat.le_of_ble_eq_true rfl) rfl dX1_takeOver_76 ?_
  refine js_callSN (av := [.ref 76, .ref (b + 6)]) (st := []) (ct_X6_copyAll (h := ad) (jl_76 hB) (jk_6 hK) (by omega) (fun j hj => (jj_row_neP (by omega)).trans ((jj_row_neP (by omega)).trans ((jj_row_neP (by omega)).trans ((jj_row_neP (by omega)).trans ((jj_row_neP (by omega)).trans ((jj_w_neP (by omega)).trans ((jj_w_neP (by omega)).trans (had j hj))))))))) (Or.inl rfl) jw_c_X6_copyAll jw_i_RX6 jw_h_RX1_49 jw_s_X6_copyAll jw_y_X6_copyAll rfl ⟨(Nat.le_of_ble_eq_true rfl), (Nat.le_of_ble_eq_true rfl), (Nat.le_refl _), (Nat.le_refl _), (Nat.le_of_ble_eq_true rfl)⟩ dX1_takeOver_79 ?_
  refine js_st (st' := []) rfl ?_
  refine js_aload_n 1 rfl dX1_takeOver_82 rfl ?_
  refine js_getr 8 jw_f_RX1_37 (jl_70 hB) rfl (Nat.le_of_ble_eq_true rfl) rfl dX1_takeOver_83 ?_
  refine js_aload_n 0 rfl dX1_takeOver_86 rfl ?_
  refine js_getr 8 jw_f_RX1_37 (jk_0 hK) rfl (Nat.le_of_ble_eq_true rfl) rfl dX1_takeOver_87 ?_
  refine js_callSN (av := [.ref 77, .ref (b + 7)]) (st := []) (ct_X6_copyAll (h := re) (jl_77 hB) (jk_7 hK) (by omega) (fun j hj => (jj_row_neP (by omega)).trans ((jj_row_neP (by omega)).trans ((jj_row_neP (by omega)).trans ((jj_row_neP (by omega)).trans ((jj_row_neP (by omega)).trans ((jj_row_neP (by omega)).trans ((jj_w_neP (by omega)).trans ((jj_w_neP (by omega)).trans (hre j hj)))))))))) (Or.inl rfl) jw_c_X6_copyAll jw_i_RX6 jw_h_RX1_49 jw_s_X6_copyAll jw_y_X6_copyAll rfl ⟨(Nat.le_of_ble_eq_true rfl), (Nat.le_of_ble_eq_true rfl), (Nat.le_refl _), (Nat.le_refl _), (Nat.le_of_ble_eq_true rfl)⟩ dX1_takeOver_90 ?_
  refine js_st (st' := []) rfl ?_
  exact jj_refl
def jj_tb (rule : Nat) : Nat := if rule = 0 then 81 else 92
theorem jj_tb_bk {lay : jj_Lay} (h : jj_pp lay) (rule : Nat) : jj_bk lay (jj_tb rule) := by
  unfold jj_tb
  by_cases c : rule = 0
  · rw [if_pos c]; exact jj_bk_81 h
  · rw [if_neg c]; exact jj_bk_92 h
theorem jj_tb_or (rule : Nat) : jj_tb rule = 81 ∨ jj_tb rule = 92 := by
  unfold jj_tb
  by_cases c : rule = 0
  · rw [if_pos c]; exact Or.inl rfl
  · rw [if_neg c]; exact Or.inr rfl
theorem jj_pp_len {lay : jj_Lay} (h : jj_pp lay) : 103 < lay.length := (List.getElem?_eq_some_iff.mp (jl_103 h)).1
set_option maxRecDepth 100000 in
set_option maxHeartbeats 4000000 in
theorem ct_X6_trialBy {lay : jj_Lay} {S : jj_Mem} {rule : Nat} (hB : jj_pp lay) (hr : rule < 2) : jj_CT yX6_trialBy (.code yX6_trialBy cX6_trialBy 2 (some (.object "PlayPool$Books"))) none 0 0 [.ref 0, .int (nI rule)] lay S (some (.ref (jj_tb rule))) lay S := by
  by_cases hc : rule = 0
  · rw [show jj_tb rule = 81 from if_pos hc]
    refine jj_mk (pc' := 15) (L' := [some (.ref 0), some (.int (nI rule))]) RX6 (by decide) rfl (L := [some (.ref 0), some (.int (nI rule))]) rfl rfl ⟨⟨.object "PlayPool$Books", rfl, Or.inl ⟨_, rfl⟩⟩, rfl⟩ dX6_trialBy_15 (Nat.le_refl _) (Nat.le_refl _) id (fun _ _ w h => by cases h; show _ < lay.length; have := jj_pp_len hB; omega) ?_
    refine js_iload_n 1 rfl dX6_trialBy_0 rfl ?_
    refine jn_if_ne 11 (by omega) dX6_trialBy_1 (by decide) (fun h9 => absurd h9 (by omega)) (fun _ => ?_)
    refine js_aload_n 0 rfl dX6_trialBy_4 rfl ?_
    refine js_getr 6 jw_f_RX6_51 (jl_0 hB) rfl (Nat.le_of_ble_eq_true rfl) rfl dX6_trialBy_5 ?_
    refine js_goto 15 dX6_trialBy_8 (by decide) ?_
    exact jj_refl
  · rw [show jj_tb rule = 92 from if_neg hc]
    refine jj_mk (pc' := 15) (L' := [some (.ref 0), some (.int (nI rule))]) RX6 (by decide) rfl (L := [some (.ref 0), some (.int (nI rule))]) rfl rfl ⟨⟨.object "PlayPool$Books", rfl, Or.inl ⟨_, rfl⟩⟩, rfl⟩ dX6_trialBy_15 (Nat.le_refl _) (Nat.le_refl _) id (fun _ _ w h => by cases h; show _ < lay.length; have := jj_pp_len hB; omega) ?_
    refine js_iload_n 1 rfl dX6_trialBy_0 rfl ?_
    refine jn_if_ne 11 (by omega) dX6_trialBy_1 (by decide) (fun _ => ?_) (fun h9 => absurd h9 (by omega))
    refine js_aload_n 0 rfl dX6_trialBy_11 rfl ?_
    refine js_getr 7 jw_f_RX6_54 (jl_0 hB) rfl (Nat.le_of_ble_eq_true rfl) rfl dX6_trialBy_12 ?_
    exact jj_refl
set_option maxRecDepth 100000 in
set_option maxHeartbeats 4000000 in
theorem ct_X6_tryClosing {lay : jj_Lay} {S : jj_Mem} {rule : Nat} (hB : jj_pp lay) (hr : rule < 2) {cnt : Nat} {ld pl : Nat → Nat} {im cl : Nat → Nat → Nat} {h x : Nat} {ca ge he du pa ad re : Nat → Nat} (hau : jj_au S cnt ld pl) (him : jj_im S cnt im) (hcm : jj_cm S cl) (him2 : ∀ l, l < cnt → jj_sm (im l) 10 ≤ 1000) (him3 : jj_sm (fun l => jj_sm (im l) 10) cnt ≤ 1000) (hbs : jj_bs S 70 h x ca ge he du pa ad re) (had9 : ∀ j, j < 5 → ad j < 2 ^ 31) (hT : jj_tot h x ca he du pa re + jj_sm (fun l => jj_fee (pl l)) cnt ≤ 1000000) :
    ∃ (h' x' : Nat) (ca' ge' he' du' pa' ad' re' : Nat → Nat) (S' : jj_Mem), jj_CT yX6_tryClosing (.code yX6_tryClosing cX6_tryClosing 3 none) none 5 118 [.ref 0, .int (nI rule)] lay S none lay S' ∧ jj_bs S' (jj_tb rule) h' x' ca' ge' he' du' pa' ad' re' ∧ jj_tot h' x' ca' he' du' pa' re' = jj_tot h x ca he du pa re + jj_sm (fun l => jj_fee (pl l)) cnt ∧ (∀ j, j < 10 → ge j ≤ ge' j ∧ ge' j ≤ ge j + 1000000) ∧ (∀ j, pa j ≤ pa' j) ∧ (∀ p, p < jj_tb rule ∨ jj_tb rule + 10 < p → ∀ j, S' p j = S p j) := by
  have hbb := jj_tb_or rule
  obtain ⟨S1, hct1, hbs1, f1⟩ := ct_X1_takeOver (lay := lay) hB (jj_tb_bk hB rule) (by omega) hbs
  obtain ⟨h', x', ca', ge', he', du', pa', ad', re', S2, hct2, q1, q2, q3, q4, q5, q6⟩ := ct_X1_close (lay := lay) (S := S1) (b := jj_tb rule) (rule := rule) hB (jj_tb_bk hB rule) hr (jj_au_mono hau (fun p hp j => f1 p (by omega) j)) (jj_im_mono hau.1 him (fun p hp j => f1 p (by omega) j)) (jj_cm_mono hcm (fun p hp j => f1 p (by omega) j)) him2 him3 hbs1 had9 hT
  refine ⟨h', x', ca', ge', he', du', pa', ad', re', S2, ?_, q1, q2, q3, q4, fun p hp j => (q6 p hp j).trans (f1 p hp j)⟩
  refine jj_mkV RX6 (by decide) rfl (L := [some (.ref 0), some (.int (nI rule)), none]) rfl rfl ⟨31, [some (.ref 0), some (.int (nI rule)), some (.ref (jj_tb rule))], dX6_tryClosing_31, ?_⟩
  refine js_aload_n 0 rfl dX6_tryClosing_0 rfl ?_
  refine js_iload_n 1 rfl dX6_tryClosing_1 rfl ?_
  refine js_callV (av := [.int (nI rule)]) (st := []) (b := 0) (ct_X6_trialBy hB hr) (Or.inl rfl) jw_c_X6_trialBy jw_i_RX6 jw_m_RX6_398 jw_s_X6_trialBy jw_e_X6_trialBy (jl_0 hB) rfl jw_y_X6_trialBy rfl ⟨(Nat.le_of_ble_eq_true rfl), (Nat.le_of_ble_eq_true rfl), (Nat.le_refl _), (Nat.le_refl _), (Nat.le_of_ble_eq_true rfl)⟩ dX6_tryClosing_2 ?_
  refine js_st (st' := [.ref ((jj_tb rule))]) rfl ?_
  refine js_astore_n (L' := [some (.ref 0), some (.int (nI rule)), some (.ref (jj_tb rule))]) 2 rfl dX6_tryClosing_5 rfl (Nat.le_of_ble_eq_true rfl) ?_
  refine js_aload_n 2 rfl dX6_tryClosing_6 rfl ?_
  refine js_aload_n 0 rfl dX6_tryClosing_7 rfl ?_
  refine js_getr 5 jw_f_RX6_47 (jl_0 hB) rfl (Nat.le_of_ble_eq_true rfl) rfl dX6_tryClosing_8 ?_
  refine js_callVN (av := [.ref 70]) (st := []) (b := (jj_tb rule)) hct1 (Or.inl rfl) jw_c_X1_takeOver jw_i_RX1 jw_h_RX6_402 jw_s_X1_takeOver jw_e_X1_takeOver (jk_0 (jj_tb_bk hB rule)) rfl jw_y_X1_takeOver rfl ⟨(Nat.le_of_ble_eq_true rfl), (Nat.le_of_ble_eq_true rfl), (Nat.le_refl _), (Nat.le_refl _), (Nat.le_of_ble_eq_true rfl)⟩ dX6_tryClosing_11 ?_
  refine js_st (st' := []) rfl ?_
  refine js_aload_n 2 rfl dX6_tryClosing_14 rfl ?_
  refine js_iload_n 1 rfl dX6_tryClosing_15 rfl ?_
  refine js_aload_n 0 rfl dX6_tryClosing_16 rfl ?_
  refine js_getr 2 jw_f_RX6_26 (jl_0 hB) rfl (Nat.le_of_ble_eq_true rfl) rfl dX6_tryClosing_17 ?_
  refine js_aload_n 0 rfl dX6_tryClosing_20 rfl ?_
  refine js_getr 4 jw_f_RX6_40 (jl_0 hB) rfl (Nat.le_of_ble_eq_true rfl) rfl dX6_tryClosing_21 ?_
  refine js_aload_n 0 rfl dX6_tryClosing_24 rfl ?_
  refine js_getr 1 jw_f_RX6_19 (jl_0 hB) rfl (Nat.le_of_ble_eq_true rfl) rfl dX6_tryClosing_25 ?_
  refine js_callVN (av := [.int (nI rule), .ref 20, .ref 42, .ref 8]) (st := []) (b := (jj_tb rule)) hct2 (Or.inl rfl) jw_c_X1_close jw_i_RX1 jw_h_RX6_391 jw_s_X1_close jw_e_X1_close (jk_0 (jj_tb_bk hB rule)) rfl jw_y_X1_close rfl ⟨(Nat.le_of_ble_eq_true rfl), (Nat.le_of_ble_eq_true rfl), (Nat.le_refl _), (Nat.le_refl _), (Nat.le_of_ble_eq_true rfl)⟩ dX6_tryClosing_28 ?_
  refine js_st (st' := []) rfl ?_
  exact jj_refl
set_option maxRecDepth 100000 in
set_option maxHeartbeats 4000000 in
theorem ct_X6_gotInTrial {lay : jj_Lay} {S : jj_Mem} {u rule : Nat} {ge ge' : Nat → Nat} (hB : jj_pp lay) (hr : rule < 2) (hu : u < 10) (h1 : S 72 u = some (nI (ge u))) (h2 : S (jj_tb rule + 2) u = some (nI (ge' u))) (hle : ge u ≤ ge' u) : jj_CT yX6_gotInTrial (.code yX6_gotInTrial cX6_gotInTrial 3 (some .int)) none 1 21 [.ref 0, .int (nI u), .int (nI rule)] lay S (some (.int (nI (ge' u - ge u)))) lay S := by
  refine jj_mkI RX6 .int (by decide) rfl (L := [some (.ref 0), some (.int (nI u)), some (.int (nI rule))]) rfl rfl rfl ⟨20, [some (.ref 0), some (.int (nI u)), some (.int (nI rule))], dX6_gotInTrial_20, ?_⟩
  refine js_aload_n 0 rfl dX6_gotInTrial_0 rfl ?_
  refine js_iload_n 2 rfl dX6_gotInTrial_1 rfl ?_
  refine js_callV (av := [.int (nI rule)]) (st := []) (b := 0) (ct_X6_trialBy hB hr) (Or.inl rfl) jw_c_X6_trialBy jw_i_RX6 jw_m_RX6_398 jw_s_X6_trialBy jw_e_X6_trialBy (jl_0 hB) rfl jw_y_X6_trialBy rfl ⟨(Nat.le_of_ble_eq_true rfl), (Nat.le_of_ble_eq_true rfl), (Nat.le_refl _), (Nat.le_refl _), (Nat.le_of_ble_eq_true rfl)⟩ dX6_gotInTrial_2 ?_
  refine js_st (st' := [.ref (jj_tb rule)]) rfl ?_
  refine js_getNr 3 jw_n_RX6_276 (jk_0 (jj_tb_bk hB rule)) rfl (Nat.le_of_ble_eq_true rfl) rfl dX6_gotInTrial_5 ?_
  refine js_iload_n 1 rfl dX6_gotInTrial_8 rfl ?_
  refine js_iald u rfl (jk_2 (jj_tb_bk hB rule)) (by omega) (by decide) (h2) dX6_gotInTrial_9 ?_
  refine js_aload_n 0 rfl dX6_gotInTrial_10 rfl ?_
  refine js_getr 5 jw_f_RX6_47 (jl_0 hB) rfl (Nat.le_of_ble_eq_true rfl) rfl dX6_gotInTrial_11 ?_
  refine js_getNr 3 jw_n_RX6_276 (jl_70 hB) rfl (Nat.le_of_ble_eq_true rfl) rfl dX6_gotInTrial_14 ?_
  refine js_iload_n 1 rfl dX6_gotInTrial_17 rfl ?_
  refine js_iald u rfl (jl_72 hB) (by omega) (by decide) (h1) dX6_gotInTrial_18 ?_
  refine jn_isub hle dX6_gotInTrial_19 ?_
  exact jj_refl
set_option maxRecDepth 100000 in
set_option maxHeartbeats 4000000 in
theorem ct_X6_paidInTrial {lay : jj_Lay} {S : jj_Mem} {u rule : Nat} {pa pa' : Nat → Nat} (hB : jj_pp lay) (hr : rule < 2) (hu : u < 5) (h1 : S 75 u = some (nI (pa u))) (h2 : S (jj_tb rule + 5) u = some (nI (pa' u))) (hle : pa u ≤ pa' u) : jj_CT yX6_paidInTrial (.code yX6_paidInTrial cX6_paidInTrial 3 (some .int)) none 1 21 [.ref 0, .int (nI u), .int (nI rule)] lay S (some (.int (nI (pa' u - pa u)))) lay S := by
  refine jj_mkI RX6 .int (by decide) rfl (L := [some (.ref 0), some (.int (nI u)), some (.int (nI rule))]) rfl rfl rfl ⟨20, [some (.ref 0), some (.int (nI u)), some (.int (nI rule))], dX6_paidInTrial_20, ?_⟩
  refine js_aload_n 0 rfl dX6_paidInTrial_0 rfl ?_
  refine js_iload_n 2 rfl dX6_paidInTrial_1 rfl ?_
  refine js_callV (av := [.int (nI rule)]) (st := []) (b := 0) (ct_X6_trialBy hB hr) (Or.inl rfl) jw_c_X6_trialBy jw_i_RX6 jw_m_RX6_398 jw_s_X6_trialBy jw_e_X6_trialBy (jl_0 hB) rfl jw_y_X6_trialBy rfl ⟨(Nat.le_of_ble_eq_true rfl), (Nat.le_of_ble_eq_true rfl), (Nat.le_refl _), (Nat.le_refl _), (Nat.le_of_ble_eq_true rfl)⟩ dX6_paidInTrial_2 ?_
  refine js_st (st' := [.ref (jj_tb rule)]) rfl ?_
  refine js_getNr 6 jw_n_RX6_264 (jk_0 (jj_tb_bk hB rule)) rfl (Nat.le_of_ble_eq_true rfl) rfl dX6_paidInTrial_5 ?_
  refine js_iload_n 1 rfl dX6_paidInTrial_8 rfl ?_
  refine js_iald u rfl (jk_5 (jj_tb_bk hB rule)) (by omega) (by decide) (h2) dX6_paidInTrial_9 ?_
  refine js_aload_n 0 rfl dX6_paidInTrial_10 rfl ?_
  refine js_getr 5 jw_f_RX6_47 (jl_0 hB) rfl (Nat.le_of_ble_eq_true rfl) rfl dX6_paidInTrial_11 ?_
  refine js_getNr 6 jw_n_RX6_264 (jl_70 hB) rfl (Nat.le_of_ble_eq_true rfl) rfl dX6_paidInTrial_14 ?_
  refine js_iload_n 1 rfl dX6_paidInTrial_17 rfl ?_
  refine js_iald u rfl (jl_75 hB) (by omega) (by decide) (h1) dX6_paidInTrial_18 ?_
  refine jn_isub hle dX6_paidInTrial_19 ?_
  exact jj_refl
set_option maxRecDepth 100000 in
set_option maxHeartbeats 4000000 in
theorem ct_X6_wouldGet {lay : jj_Lay} {S : jj_Mem} {u rule : Nat} (hB : jj_pp lay) (hu : u < 10) (hr : rule < 2) {cnt : Nat} {ld pl : Nat → Nat} {im cl : Nat → Nat → Nat} {h x : Nat} {ca ge he du pa ad re : Nat → Nat} (hau : jj_au S cnt ld pl) (him : jj_im S cnt im) (hcm : jj_cm S cl) (him2 : ∀ l, l < cnt → jj_sm (im l) 10 ≤ 1000) (him3 : jj_sm (fun l => jj_sm (im l) 10) cnt ≤ 1000) (hbs : jj_bs S 70 h x ca ge he du pa ad re) (had9 : ∀ j, j < 5 → ad j < 2 ^ 31) (hT : jj_tot h x ca he du pa re + jj_sm (fun l => jj_fee (pl l)) cnt ≤ 1000000) :
    ∃ (v : Nat) (S' : jj_Mem), jj_CT yX6_wouldGet (.code yX6_wouldGet cX6_wouldGet 3 (some .int)) none 6 140 [.ref 0, .int (nI u), .int (nI rule)] lay S (some (.int (nI v))) lay S' ∧ v ≤ 1000000 ∧ (∀ p, p < 81 ∨ 102 < p → ∀ j, S' p j = S p j) := by
  have hbb := jj_tb_or rule
  obtain ⟨h', x', ca', ge', he', du', pa', ad', re', S1, hct, q1, q2, q3, q4, q6⟩ := ct_X6_tryClosing (lay := lay) hB hr hau him hcm him2 him3 hbs had9 hT
  have h1 := (q6 72 (by omega) u).trans (hbs.2.2.2.1 u hu)
  have h2 := q1.2.2.2.1 u hu
  have hle := (q3 u hu).1
  refine ⟨ge' u - ge u, S1, ?_, by have := (q3 u hu).2; omega, fun p hp j => q6 p (by omega) j⟩
  refine jj_mkI RX6 .int (by decide) rfl (L := [some (.ref 0), some (.int (nI u)), some (.int (nI rule))]) rfl rfl rfl ⟨19, [some (.ref 0), some (.int (nI u)), some (.int (nI rule))], dX6_wouldGet_19, ?_⟩
  refine js_iload_n 1 rfl dX6_wouldGet_0 rfl ?_
  refine js_callS (av := [.int (nI u)]) (st := []) (ct_X6_needRecording hu) (Or.inl rfl) jw_c_X6_needRecording jw_i_RX6 jw_m_RX6_68 jw_s_X6_needRecording jw_y_X6_needRecording rfl ⟨(Nat.le_of_ble_eq_true rfl), (Nat.le_of_ble_eq_true rfl), (Nat.le_refl _), (Nat.le_refl _), (Nat.le_of_ble_eq_true rfl)⟩ dX6_wouldGet_1 ?_
  refine js_st (st' := []) rfl ?_
  refine js_iload_n 2 rfl dX6_wouldGet_4 rfl ?_
  refine js_callS (av := [.int (nI rule)]) (st := []) (ct_X6_needRule hr) (Or.inl rfl) jw_c_X6_needRule jw_i_RX6 jw_m_RX6_138 jw_s_X6_needRule jw_y_X6_needRule rfl ⟨(Nat.le_of_ble_eq_true rfl), (Nat.le_of_ble_eq_true rfl), (Nat.le_refl _), (Nat.le_refl _), (Nat.le_of_ble_eq_true rfl)⟩ dX6_wouldGet_5 ?_
  refine js_st (st' := []) rfl ?_
  refine js_aload_n 0 rfl dX6_wouldGet_8 rfl ?_
  refine js_iload_n 2 rfl dX6_wouldGet_9 rfl ?_
  refine js_callV (av := [.int (nI rule)]) (st := []) (b := 0) hct (Or.inl rfl) jw_c_X6_tryClosing jw_i_RX6 jw_m_RX6_316 jw_s_X6_tryClosing jw_e_X6_tryClosing (jl_0 hB) rfl jw_y_X6_tryClosing rfl ⟨(Nat.le_of_ble_eq_true rfl), (Nat.le_of_ble_eq_true rfl), (Nat.le_refl _), (Nat.le_refl _), (Nat.le_of_ble_eq_true rfl)⟩ dX6_wouldGet_10 ?_
  refine js_st (st' := []) rfl ?_
  refine js_aload_n 0 rfl dX6_wouldGet_13 rfl ?_
  refine js_iload_n 1 rfl dX6_wouldGet_14 rfl ?_
  refine js_iload_n 2 rfl dX6_wouldGet_15 rfl ?_
  refine js_callV (av := [.int (nI u), .int (nI rule)]) (st := []) (b := 0) (ct_X6_gotInTrial (ge := ge) (ge' := ge') hB hr hu h1 h2 hle) (Or.inl rfl) jw_c_X6_gotInTrial jw_i_RX6 jw_m_RX6_319 jw_s_X6_gotInTrial jw_e_X6_gotInTrial (jl_0 hB) rfl jw_y_X6_gotInTrial rfl ⟨(Nat.le_of_ble_eq_true rfl), (Nat.le_of_ble_eq_true rfl), (Nat.le_refl _), (Nat.le_refl _), (Nat.le_of_ble_eq_true rfl)⟩ dX6_wouldGet_16 ?_
  refine js_st (st' := [.int (nI (ge' u - ge u))]) rfl ?_
  exact jj_refl
set_option maxRecDepth 100000 in
set_option maxHeartbeats 4000000 in
theorem ct_X6_wouldPay {lay : jj_Lay} {S : jj_Mem} {u rule : Nat} (hB : jj_pp lay) (hu : u < 5) (hr : rule < 2) {cnt : Nat} {ld pl : Nat → Nat} {im cl : Nat → Nat → Nat} {h x : Nat} {ca ge he du pa ad re : Nat → Nat} (hau : jj_au S cnt ld pl) (him : jj_im S cnt im) (hcm : jj_cm S cl) (him2 : ∀ l, l < cnt → jj_sm (im l) 10 ≤ 1000) (him3 : jj_sm (fun l => jj_sm (im l) 10) cnt ≤ 1000) (hbs : jj_bs S 70 h x ca ge he du pa ad re) (had9 : ∀ j, j < 5 → ad j < 2 ^ 31) (hT : jj_tot h x ca he du pa re + jj_sm (fun l => jj_fee (pl l)) cnt ≤ 1000000) :
    ∃ (v : Nat) (S' : jj_Mem), jj_CT yX6_wouldPay (.code yX6_wouldPay cX6_wouldPay 3 (some .int)) none 6 140 [.ref 0, .int (nI u), .int (nI rule)] lay S (some (.int (nI v))) lay S' ∧ v ≤ 1000000 ∧ (∀ p, p < 81 ∨ 102 < p → ∀ j, S' p j = S p j) := by
  have hbb := jj_tb_or rule
  obtain ⟨h', x', ca', ge', he', du', pa', ad', re', S1, hct, q1, q2, q3, q4, q6⟩ := ct_X6_tryClosing (lay := lay) hB hr hau him hcm him2 him3 hbs had9 hT
  have h1 := (q6 75 (by omega) u).trans (hbs.2.2.2.2.2.2.1 u hu)
  have h2 := q1.2.2.2.2.2.2.1 u hu
  have hle := q4 u
  refine ⟨pa' u - pa u, S1, ?_, by have h7 := jj_sm_at (f := pa') (n := 5) hu; unfold jj_tot at q2 hT; omega, fun p hp j => q6 p (by omega) j⟩
  refine jj_mkI RX6 .int (by decide) rfl (L := [some (.ref 0), some (.int (nI u)), some (.int (nI rule))]) rfl rfl rfl ⟨19, [some (.ref 0), some (.int (nI u)), some (.int (nI rule))], dX6_wouldPay_19, ?_⟩
  refine js_iload_n 1 rfl dX6_wouldPay_0 rfl ?_
  refine js_callS (av := [.int (nI u)]) (st := []) (ct_X6_needParty hu) (Or.inl rfl) jw_c_X6_needParty jw_i_RX6 jw_m_RX6_121 jw_s_X6_needParty jw_y_X6_needParty rfl ⟨(Nat.le_of_ble_eq_true rfl), (Nat.le_of_ble_eq_true rfl), (Nat.le_refl _), (Nat.le_refl _), (Nat.le_of_ble_eq_true rfl)⟩ dX6_wouldPay_1 ?_
  refine js_st (st' := []) rfl ?_
  refine js_iload_n 2 rfl dX6_wouldPay_4 rfl ?_
  refine js_callS (av := [.int (nI rule)]) (st := []) (ct_X6_needRule hr) (Or.inl rfl) jw_c_X6_needRule jw_i_RX6 jw_m_RX6_138 jw_s_X6_needRule jw_y_X6_needRule rfl ⟨(Nat.le_of_ble_eq_true rfl), (Nat.le_of_ble_eq_true rfl), (Nat.le_refl _), (Nat.le_refl _), (Nat.le_of_ble_eq_true rfl)⟩ dX6_wouldPay_5 ?_
  refine js_st (st' := []) rfl ?_
  refine js_aload_n 0 rfl dX6_wouldPay_8 rfl ?_
  refine js_iload_n 2 rfl dX6_wouldPay_9 rfl ?_
  refine js_callV (av := [.int (nI rule)]) (st := []) (b := 0) hct (Or.inl rfl) jw_c_X6_tryClosing jw_i_RX6 jw_m_RX6_316 jw_s_X6_tryClosing jw_e_X6_tryClosing (jl_0 hB) rfl jw_y_X6_tryClosing rfl ⟨(Nat.le_of_ble_eq_true rfl), (Nat.le_of_ble_eq_true rfl), (Nat.le_refl _), (Nat.le_refl _), (Nat.le_of_ble_eq_true rfl)⟩ dX6_wouldPay_10 ?_
  refine js_st (st' := []) rfl ?_
  refine js_aload_n 0 rfl dX6_wouldPay_13 rfl ?_
  refine js_iload_n 1 rfl dX6_wouldPay_14 rfl ?_
  refine js_iload_n 2 rfl dX6_wouldPay_15 rfl ?_
  refine js_callV (av := [.int (nI u), .int (nI rule)]) (st := []) (b := 0) (ct_X6_paidInTrial (pa := pa) (pa' := pa') hB hr hu h1 h2 hle) (Or.inl rfl) jw_c_X6_paidInTrial jw_i_RX6 jw_m_RX6_322 jw_s_X6_paidInTrial jw_e_X6_paidInTrial (jl_0 hB) rfl jw_y_X6_paidInTrial rfl ⟨(Nat.le_of_ble_eq_true rfl), (Nat.le_of_ble_eq_true rfl), (Nat.le_refl _), (Nat.le_refl _), (Nat.le_of_ble_eq_true rfl)⟩ dX6_wouldPay_16 ?_
  refine js_st (st' := [.int (nI (pa' u - pa u))]) rfl ?_
  exact jj_refl
set_option maxRecDepth 100000 in
set_option maxHeartbeats 4000000 in
theorem ct_X6_closeMonth {lay : jj_Lay} {S : jj_Mem} {rule : Nat} (hB : jj_pp lay) (hr : rule < 2) (hrn : S 0 10 = some (nI rule)) {cnt : Nat} {ld pl : Nat → Nat} {im cl : Nat → Nat → Nat} {h x : Nat} {ca ge he du pa ad re : Nat → Nat} (hau : jj_au S cnt ld pl) (him : jj_im S cnt im) (hcm : jj_cm S cl) (him2 : ∀ l, l < cnt → jj_sm (im l) 10 ≤ 1000) (him3 : jj_sm (fun l => jj_sm (im l) 10) cnt ≤ 1000) (hbs : jj_bs S 70 h x ca ge he du pa ad re) (had9 : ∀ j, j < 5 → ad j < 2 ^ 31) (hT : jj_tot h x ca he du pa re + jj_sm (fun l => jj_fee (pl l)) cnt ≤ 1000000) {pe : Nat → Nat} (hpe : ∀ j, j < cnt → S 24 j = some (nI (pe j))) :
    ∃ (h' x' : Nat) (ca' ge' he' du' pa' ad' re' : Nat → Nat) (v : Nat) (S' : jj_Mem), jj_CT yX6_closeMonth (.code yX6_closeMonth cX6_closeMonth 2 (some .int)) none 5 118 [.ref 0] lay S (some (.int (nI v))) lay S' ∧ jj_bs S' 70 h' x' ca' ge' he' du' pa' ad' re' ∧ jj_tot h' x' ca' he' du' pa' re' = jj_tot h x ca he du pa re + jj_sm (fun l => jj_fee (pl l)) cnt ∧ (∀ j, ad' j ≤ ad j) ∧ (∀ j, j < cnt → S' 24 j = some (nI (pe j + jj_fee (pl j)))) ∧ (∀ p, p ≠ 24 → p < 70 ∨ 80 < p → ∀ j, S' p j = S p j) ∧ (∀ j, cnt ≤ j → S' 24 j = S 24 j) := by
  obtain ⟨h', x', ca', ge', he', du', pa', ad', re', S1, hct1, q1, q2, q3, q4, q5, q6⟩ := ct_X1_close (lay := lay) (S := S) (b := 70) (rule := rule) hB (jj_bk_70 hB) hr hau him hcm him2 him3 hbs had9 hT
  have hct2 := ct_X0_takeFees (lay := lay) (S := S1) hB (jj_au_mono hau (fun p hp j => q6 p (by omega) j)) (pe := pe) (fun j hj => (q6 24 (by omega) j).trans (hpe j hj))
  have hle : jj_sm pa 5 ≤ jj_sm pa' 5 := jj_sm_le (fun j _ => q4 j)
  have c : ∀ p, p ≠ 24 → ∀ j, jj_row S1 24 cnt (fun j => pe j + jj_fee (pl j)) p j = S1 p j := fun p hp j => jj_row_neP hp
  obtain ⟨b0, b1, b2, b3, b4, b5, b6, b7, b8⟩ := id q1
  refine ⟨h', x', ca', ge', he', du', pa', ad', re', jj_sm pa' 5 - jj_sm pa 5, jj_row S1 24 cnt (fun j => pe j + jj_fee (pl j)), ?_, ⟨(c _ (by omega) _).trans b0, (c _ (by omega) _).trans b1, fun j hj => (c _ (by omega) _).trans (b2 j hj), fun j hj => (c _ (by omega) _).trans (b3 j hj), fun j hj => (c _ (by omega) _).trans (b4 j hj), fun j hj => (c _ (by omega) _).trans (b5 j hj), fun j hj => (c _ (by omega) _).trans (b6 j hj), fun j hj => (c _ (by omega) _).trans (b7 j hj), fun j hj => (c _ (by omega) _).trans (b8 j hj)⟩, q2, q5, fun j hj => jj_row_at hj, fun p hp h7 j => (jj_row_neP hp).trans (q6 p (by omega) j), fun j hj => (jj_row_hi hj).trans (q6 24 (by omega) j)⟩
  refine jj_mkI RX6 .int (by decide) rfl (L := [some (.ref 0), none]) rfl rfl rfl ⟨53, [some (.ref 0), some (.int (nI (jj_sm pa 5)))], dX6_closeMonth_53, ?_⟩
  refine js_aload_n 0 rfl dX6_closeMonth_0 rfl ?_
  refine js_getr 5 jw_f_RX6_47 (jl_0 hB) rfl (Nat.le_of_ble_eq_true rfl) rfl dX6_closeMonth_1 ?_
  refine js_getNr 6 jw_n_RX6_264 (jl_70 hB) rfl (Nat.le_of_ble_eq_true rfl) rfl dX6_closeMonth_4 ?_
  refine js_callS (av := [.ref 75]) (st := []) (ct_X6_sumOf (f := pa) (jl_75 hB) (by omega) hbs.2.2.2.2.2.2.1) (Or.inl rfl) jw_c_X6_sumOf jw_i_RX6 jw_m_RX6_234 jw_s_X6_sumOf jw_y_X6_sumOf rfl ⟨(Nat.le_of_ble_eq_true rfl), (Nat.le_of_ble_eq_true rfl), (Nat.le_refl _), (Nat.le_refl _), (Nat.le_of_ble_eq_true rfl)⟩ dX6_closeMonth_7 ?_
  refine js_st (st' := [.int (nI (jj_sm pa 5))]) rfl ?_
  refine js_istore_n (L' := [some (.ref 0), some (.int (nI (jj_sm pa 5)))]) 1 rfl dX6_closeMonth_10 rfl (Nat.le_of_ble_eq_true rfl) ?_
  refine js_aload_n 0 rfl dX6_closeMonth_11 rfl ?_
  refine js_getr 5 jw_f_RX6_47 (jl_0 hB) rfl (Nat.le_of_ble_eq_true rfl) rfl dX6_closeMonth_12 ?_
  refine js_aload_n 0 rfl dX6_closeMonth_15 rfl ?_
  refine js_geti 10 jw_f_RX6_65 (jl_0 hB) rfl (Nat.le_of_ble_eq_true rfl) rfl (hrn) dX6_closeMonth_16 ?_
  refine js_aload_n 0 rfl dX6_closeMonth_19 rfl ?_
  refine js_getr 2 jw_f_RX6_26 (jl_0 hB) rfl (Nat.le_of_ble_eq_true rfl) rfl dX6_closeMonth_20 ?_
  refine js_aload_n 0 rfl dX6_closeMonth_23 rfl ?_
  refine js_getr 4 jw_f_RX6_40 (jl_0 hB) rfl (Nat.le_of_ble_eq_true rfl) rfl dX6_closeMonth_24 ?_
  refine js_aload_n 0 rfl dX6_closeMonth_27 rfl ?_
  refine js_getr 1 jw_f_RX6_19 (jl_0 hB) rfl (Nat.le_of_ble_eq_true rfl) rfl dX6_closeMonth_28 ?_
  refine js_callVN (av := [.int (nI rule), .ref 20, .ref 42, .ref 8]) (st := []) (b := 70) hct1 (Or.inl rfl) jw_c_X1_close jw_i_RX1 jw_h_RX6_391 jw_s_X1_close jw_e_X1_close (jl_70 hB) rfl jw_y_X1_close rfl ⟨(Nat.le_of_ble_eq_true rfl), (Nat.le_of_ble_eq_true rfl), (Nat.le_refl _), (Nat.le_refl _), (Nat.le_of_ble_eq_true rfl)⟩ dX6_closeMonth_31 ?_
  refine js_st (st' := []) rfl ?_
  refine js_aload_n 0 rfl dX6_closeMonth_34 rfl ?_
  refine js_getr 2 jw_f_RX6_26 (jl_0 hB) rfl (Nat.le_of_ble_eq_true rfl) rfl dX6_closeMonth_35 ?_
  refine js_callVN (av := []) (st := []) (b := 20) hct2 (Or.inl rfl) jw_c_X0_takeFees jw_i_RX0 jw_h_RX6_395 jw_s_X0_takeFees jw_e_X0_takeFees (jl_20 hB) rfl jw_y_X0_takeFees rfl ⟨(Nat.le_of_ble_eq_true rfl), (Nat.le_of_ble_eq_true rfl), (Nat.le_refl _), (Nat.le_refl _), (Nat.le_of_ble_eq_true rfl)⟩ dX6_closeMonth_38 ?_
  refine js_st (st' := []) rfl ?_
  refine js_aload_n 0 rfl dX6_closeMonth_41 rfl ?_
  refine js_getr 5 jw_f_RX6_47 (jl_0 hB) rfl (Nat.le_of_ble_eq_true rfl) rfl dX6_closeMonth_42 ?_
  refine js_getNr 6 jw_n_RX6_264 (jl_70 hB) rfl (Nat.le_of_ble_eq_true rfl) rfl dX6_closeMonth_45 ?_
  refine js_callS (av := [.ref 75]) (st := []) (ct_X6_sumOf (f := pa') (jl_75 hB) (by omega) (fun j hj => (jj_row_neP (by omega)).trans (q1.2.2.2.2.2.2.1 j hj))) (Or.inl rfl) jw_c_X6_sumOf jw_i_RX6 jw_m_RX6_234 jw_s_X6_sumOf jw_y_X6_sumOf rfl ⟨(Nat.le_of_ble_eq_true rfl), (Nat.le_of_ble_eq_true rfl), (Nat.le_refl _), (Nat.le_refl _), (Nat.le_of_ble_eq_true rfl)⟩ dX6_closeMonth_48 ?_
  refine js_st (st' := [.int (nI (jj_sm pa' 5))]) rfl ?_
  refine js_iload_n 1 rfl dX6_closeMonth_51 rfl ?_
  refine jn_isub hle dX6_closeMonth_52 ?_
  exact jj_refl
end
section
/-! THE CATALOGUE, THE COUNTS, THE LOG: what is asked. -/
/-- the tracks: how many, of which recordings; none is down -/
def jj_tk (S : jj_Mem) (n : Nat) (rc : Nat → Nat) : Prop := n ≤ 14 ∧ S 1 0 = some (nI n) ∧ ∀ j, j < n → S 2 j = some (nI (rc j)) ∧ rc j < 10 ∧ S 3 j = some (-1)
/-- the windows -/
def jj_wi (S : jj_Mem) (wn : Nat) (w0 w1 w2 w3 : Nat → Int32) : Prop := wn ≤ 30 ∧ S 1 3 = some (nI wn) ∧ ∀ j, j < wn → S 4 j = some (w0 j) ∧ S 5 j = some (w1 j) ∧ S 6 j = some (w2 j) ∧ S 7 j = some (w3 j)
/-- the log: how many plays, and what each is -/
def jj_lg (S : jj_Mem) (n : Nat) (li tr mi rs : Nat → Nat) (se : Nat → Int32) : Prop := n ≤ 130 ∧ S 35 0 = some (nI n) ∧ ∀ k, k < n → S 36 k = some (nI (li k)) ∧ S 37 k = some (nI (tr k)) ∧ S 38 k = some (nI (mi k)) ∧ S 39 k = some (se k) ∧ S 40 k = some (nI (rs k)) ∧ S 41 k = some (nI k)
/-- eight rows of ten behind p -/
def jj_rw8 (S : jj_Mem) (p : Nat) (f : Nat → Nat → Nat) : Prop := ∀ l, l < 8 → ∀ j, j < 10 → S (p + l) j = some (nI (f l j))
theorem jj_tk_mono {S S' : jj_Mem} {n : Nat} {rc : Nat → Nat} (h : jj_tk S n rc) (e : ∀ q, 1 ≤ q → q ≤ 3 → ∀ j, S' q j = S q j) : jj_tk S' n rc :=
  ⟨h.1, (e 1 (by omega) (by omega) 0).trans h.2.1, fun j hj => ⟨(e 2 (by omega) (by omega) j).trans (h.2.2 j hj).1, (h.2.2 j hj).2.1, (e 3 (by omega) (by omega) j).trans (h.2.2 j hj).2.2⟩⟩
theorem jj_wi_mono {S S' : jj_Mem} {wn : Nat} {w0 w1 w2 w3 : Nat → Int32} (h : jj_wi S wn w0 w1 w2 w3) (e : ∀ q, 1 ≤ q → q ≤ 7 → ∀ j, S' q j = S q j) : jj_wi S' wn w0 w1 w2 w3 :=
  ⟨h.1, (e 1 (by omega) (by omega) 3).trans h.2.1, fun j hj => ⟨(e 4 (by omega) (by omega) j).trans (h.2.2 j hj).1, (e 5 (by omega) (by omega) j).trans (h.2.2 j hj).2.1, (e 6 (by omega) (by omega) j).trans (h.2.2 j hj).2.2.1, (e 7 (by omega) (by omega) j).trans (h.2.2 j hj).2.2.2⟩⟩
theorem jj_lg_mono {S S' : jj_Mem} {n : Nat} {li tr mi rs : Nat → Nat} {se : Nat → Int32} (h : jj_lg S n li tr mi rs se) (e : ∀ q, 35 ≤ q → q ≤ 41 → ∀ j, S' q j = S q j) : jj_lg S' n li tr mi rs se :=
  ⟨h.1, (e 35 (by omega) (by omega) 0).trans h.2.1, fun j hj => by
    obtain ⟨h1, h2, h3, h4, h5, h6⟩ := h.2.2 j hj
    exact ⟨(e 36 (by omega) (by omega) j).trans h1, (e 37 (by omega) (by omega) j).trans h2, (e 38 (by omega) (by omega) j).trans h3, (e 39 (by omega) (by omega) j).trans h4, (e 40 (by omega) (by omega) j).trans h5, (e 41 (by omega) (by omega) j).trans h6⟩⟩
theorem jj_rw8_mono {S S' : jj_Mem} {p : Nat} {f : Nat → Nat → Nat} (h : jj_rw8 S p f) (e : ∀ q, p ≤ q → q < p + 8 → ∀ j, S' q j = S q j) : jj_rw8 S' p f := fun l hl j hj => (e (p + l) (by omega) (by omega) j).trans (h l hl j hj)
set_option maxRecDepth 100000 in
set_option maxHeartbeats 4000000 in
theorem ct_X2_isDown {lay : jj_Lay} {S : jj_Mem} (hB : jj_pp lay) {n u : Nat} {rc : Nat → Nat} (htk : jj_tk S n rc) (hu : u < n) : jj_CT yX2_isDown (.code yX2_isDown cX2_isDown 2 (some .boolean)) none 0 0 [.ref 1, .int (nI u)] lay S (some (.int (nI 0))) lay S := by
  refine jj_mkI RX2 .boolean (by decide) rfl (L := [some (.ref 1), some (.int (nI u))]) rfl rfl rfl ⟨15, [some (.ref 1), some (.int (nI u))], dX2_isDown_15, ?_⟩
  have h14 := htk.1
  refine js_aload_n 0 rfl dX2_isDown_0 rfl ?_
  refine js_getr 2 jw_f_RX2_19 (jl_1 hB) rfl (Nat.le_of_ble_eq_true rfl) rfl dX2_isDown_1 ?_
  refine js_iload_n 1 rfl dX2_isDown_4 rfl ?_
  refine js_iald u rfl (jl_3 hB) (by omega) (by decide) ((htk.2.2 u hu).2.2) dX2_isDown_5 ?_
  refine js_iconst (v := -1) dX2_isDown_6 (by decide) ?_
  refine js_icmp_eq 14 dX2_isDown_7 (by decide) (fun _ => ?_) (fun h9 => absurd h9 (fun q => q rfl))
  refine js_iconst (v := nI 0) dX2_isDown_14 (by decide) ?_
  exact jj_refl
set_option maxRecDepth 100000 in
set_option maxHeartbeats 4000000 in
theorem ct_X2_isDownIn {lay : jj_Lay} {S : jj_Mem} (hB : jj_pp lay) {n u : Nat} {rc : Nat → Nat} {z : Int32} (htk : jj_tk S n rc) (hu : u < n) : jj_CT yX2_isDownIn (.code yX2_isDownIn cX2_isDownIn 3 (some .boolean)) none 1 21 [.ref 1, .int (nI u), .int z] lay S (some (.int (nI 0))) lay S := by
  refine jj_mkI RX2 .boolean (by decide) rfl (L := [some (.ref 1), some (.int (nI u)), some (.int z)]) rfl rfl rfl ⟨23, [some (.ref 1), some (.int (nI u)), some (.int z)], dX2_isDownIn_23, ?_⟩
  refine js_aload_n 0 rfl dX2_isDownIn_0 rfl ?_
  refine js_iload_n 1 rfl dX2_isDownIn_1 rfl ?_
  refine js_callV (av := [.int (nI u)]) (st := []) (b := 1) (ct_X2_isDown hB htk hu) (Or.inl rfl) jw_c_X2_isDown jw_i_RX2 jw_m_RX2_37 jw_s_X2_isDown jw_e_X2_isDown (jl_1 hB) rfl jw_y_X2_isDown rfl ⟨(Nat.le_of_ble_eq_true rfl), (Nat.le_of_ble_eq_true rfl), (Nat.le_refl _), (Nat.le_refl _), (Nat.le_of_ble_eq_true rfl)⟩ dX2_isDownIn_2 ?_
  refine js_st (st' := [.int (nI 0)]) rfl ?_
  refine jn_if_eq 22 (by omega) dX2_isDownIn_5 (by decide) (fun _ => ?_) (fun h9 => absurd h9 (by omega))
  refine js_iconst (v := nI 0) dX2_isDownIn_22 (by decide) ?_
  exact jj_refl
set_option maxRecDepth 100000 in
set_option maxHeartbeats 4000000 in
theorem lp_X2_isAllowed {lay : jj_Lay} {S : jj_Mem} (hB : jj_pp lay) {wn : Nat} {w0 w1 w2 w3 : Nat → Int32} (hwi : jj_wi S wn w0 w1 w2 w3) {x y z : Int32} : ∀ (k e : Nat), e + k = wn → ∃ r : Nat, jj_RR cX2_isAllowed 5 RX2 yX2_isAllowed.name none 0 0 lay.length (jj_sl lay) (3, [some (.ref 1), some (.int x), some (.int y), some (.int z), some (.int (nI e))], [], lay, S) (some (.int (nI r))) .ireturn lay S ∧ r ≤ 1 := by
  intro k
  induction k with
  | zero =>
    intro e he 
    have h30 := hwi.1
    refine ⟨0, ⟨65, [some (.ref 1), some (.int x), some (.int y), some (.int z), some (.int (nI e))], dX2_isAllowed_65, ?_⟩, by omega⟩
    refine js_iload dX2_isAllowed_3 rfl ?_
    refine js_aload_n 0 rfl dX2_isAllowed_5 rfl ?_
    refine js_geti 3 jw_f_RX2_22 (jl_1 hB) rfl (Nat.le_of_ble_eq_true rfl) rfl (hwi.2.1) dX2_isAllowed_6 ?_
    refine jn_icmp_ge 64 (by omega) (by omega) dX2_isAllowed_9 (by decide) (fun _ => ?_) (fun h9 => absurd h9 (by omega))
    refine js_iconst (v := nI 0) dX2_isAllowed_64 (by decide) ?_
    exact jj_refl
  | succ k ih =>
    intro e he 
    have h30 := hwi.1
    by_cases hc0 : (w0 e) = x
    · by_cases hc1 : (w1 e) = y
      · by_cases hc2 : z < (w2 e)
        · obtain ⟨r, hR, hr⟩ := ih (e + 1) (by omega) 
          refine ⟨r, jj_RRs ?_ hR, hr⟩
          refine js_iload dX2_isAllowed_3 rfl ?_
          refine js_aload_n 0 rfl dX2_isAllowed_5 rfl ?_
          refine js_geti 3 jw_f_RX2_22 (jl_1 hB) rfl (Nat.le_of_ble_eq_true rfl) rfl (hwi.2.1) dX2_isAllowed_6 ?_
          refine jn_icmp_ge 64 (by omega) (by omega) dX2_isAllowed_9 (by decide) (fun h9 => absurd h9 (by omega)) (fun _ => ?_)
          refine js_aload_n 0 rfl dX2_isAllowed_12 rfl ?_
          refine js_getr 4 jw_f_RX2_25 (jl_1 hB) rfl (Nat.le_of_ble_eq_true rfl) rfl dX2_isAllowed_13 ?_
          refine js_iload dX2_isAllowed_16 rfl ?_
          refine js_iald e rfl (jl_4 hB) (by omega) (by decide) ((hwi.2.2 e (by omega)).1) dX2_isAllowed_18 ?_
          refine js_iload_n 1 rfl dX2_isAllowed_19 rfl ?_
          refine js_icmp_ne 58 dX2_isAllowed_20 (by decide) (fun h9 => absurd h9 (fun q => q hc0)) (fun _ => ?_)
          refine js_aload_n 0 rfl dX2_isAllowed_23 rfl ?_
          refine js_getr 5 jw_f_RX2_28 (jl_1 hB) rfl (Nat.le_of_ble_eq_true rfl) rfl dX2_isAllowed_24 ?_
          refine js_iload dX2_isAllowed_27 rfl ?_
          refine js_iald e rfl (jl_5 hB) (by omega) (by decide) ((hwi.2.2 e (by omega)).2.1) dX2_isAllowed_29 ?_
          refine js_iload_n 2 rfl dX2_isAllowed_30 rfl ?_
          refine js_icmp_ne 58 dX2_isAllowed_31 (by decide) (fun h9 => absurd h9 (fun q => q hc1)) (fun _ => ?_)
          refine js_aload_n 0 rfl dX2_isAllowed_34 rfl ?_
          refine js_getr 6 jw_f_RX2_31 (jl_1 hB) rfl (Nat.le_of_ble_eq_true rfl) rfl dX2_isAllowed_35 ?_
          refine js_iload dX2_isAllowed_38 rfl ?_
          refine js_iald e rfl (jl_6 hB) (by omega) (by decide) ((hwi.2.2 e (by omega)).2.2.1) dX2_isAllowed_40 ?_
          refine js_iload_n 3 rfl dX2_isAllowed_41 rfl ?_
          refine js_icmp_gt 58 dX2_isAllowed_42 (by decide) (fun _ => ?_) (fun h9 => absurd h9 (fun q => q hc2))
          refine js_iinc (v := nI (e + 1)) (L' := [some (.ref 1), some (.int x), some (.int y), some (.int z), some (.int (nI (e + 1)))]) dX2_isAllowed_58 rfl (jj_inc _) rfl ?_
          refine js_goto 3 dX2_isAllowed_61 (by decide) ?_
          exact jj_refl
        · by_cases hc3 : (w3 e) < z
          · obtain ⟨r, hR, hr⟩ := ih (e + 1) (by omega) 
            refine ⟨r, jj_RRs ?_ hR, hr⟩
            refine js_iload dX2_isAllowed_3 rfl ?_
            refine js_aload_n 0 rfl dX2_isAllowed_5 rfl ?_
            refine js_geti 3 jw_f_RX2_22 (jl_1 hB) rfl (Nat.le_of_ble_eq_true rfl) rfl (hwi.2.1) dX2_isAllowed_6 ?_
            refine jn_icmp_ge 64 (by omega) (by omega) dX2_isAllowed_9 (by decide) (fun h9 => absurd h9 (by omega)) (fun _ => ?_)
            refine js_aload_n 0 rfl dX2_isAllowed_12 rfl ?_
            refine js_getr 4 jw_f_RX2_25 (jl_1 hB) rfl (Nat.le_of_ble_eq_true rfl) rfl dX2_isAllowed_13 ?_
            refine js_iload dX2_isAllowed_16 rfl ?_
            refine js_iald e rfl (jl_4 hB) (by omega) (by decide) ((hwi.2.2 e (by omega)).1) dX2_isAllowed_18 ?_
            refine js_iload_n 1 rfl dX2_isAllowed_19 rfl ?_
            refine js_icmp_ne 58 dX2_isAllowed_20 (by decide) (fun h9 => absurd h9 (fun q => q hc0)) (fun _ => ?_)
            refine js_aload_n 0 rfl dX2_isAllowed_23 rfl ?_
            refine js_getr 5 jw_f_RX2_28 (jl_1 hB) rfl (Nat.le_of_ble_eq_true rfl) rfl dX2_isAllowed_24 ?_
            refine js_iload dX2_isAllowed_27 rfl ?_
            refine js_iald e rfl (jl_5 hB) (by omega) (by decide) ((hwi.2.2 e (by omega)).2.1) dX2_isAllowed_29 ?_
            refine js_iload_n 2 rfl dX2_isAllowed_30 rfl ?_
            refine js_icmp_ne 58 dX2_isAllowed_31 (by decide) (fun h9 => absurd h9 (fun q => q hc1)) (fun _ => ?_)
            refine js_aload_n 0 rfl dX2_isAllowed_34 rfl ?_
            refine js_getr 6 jw_f_RX2_31 (jl_1 hB) rfl (Nat.le_of_ble_eq_true rfl) rfl dX2_isAllowed_35 ?_
            refine js_iload dX2_isAllowed_38 rfl ?_
            refine js_iald e rfl (jl_6 hB) (by omega) (by decide) ((hwi.2.2 e (by omega)).2.2.1) dX2_isAllowed_40 ?_
            refine js_iload_n 3 rfl dX2_isAllowed_41 rfl ?_
            refine js_icmp_gt 58 dX2_isAllowed_42 (by decide) (fun h9 => absurd h9 hc2) (fun _ => ?_)
            refine js_iload_n 3 rfl dX2_isAllowed_45 rfl ?_
            refine js_aload_n 0 rfl dX2_isAllowed_46 rfl ?_
            refine js_getr 7 jw_f_RX2_34 (jl_1 hB) rfl (Nat.le_of_ble_eq_true rfl) rfl dX2_isAllowed_47 ?_
            refine js_iload dX2_isAllowed_50 rfl ?_
            refine js_iald e rfl (jl_7 hB) (by omega) (by decide) ((hwi.2.2 e (by omega)).2.2.2) dX2_isAllowed_52 ?_
            refine js_icmp_gt 58 dX2_isAllowed_53 (by decide) (fun _ => ?_) (fun h9 => absurd h9 (fun q => q hc3))
            refine js_iinc (v := nI (e + 1)) (L' := [some (.ref 1), some (.int x), some (.int y), some (.int z), some (.int (nI (e + 1)))]) dX2_isAllowed_58 rfl (jj_inc _) rfl ?_
            refine js_goto 3 dX2_isAllowed_61 (by decide) ?_
            exact jj_refl
          · refine ⟨1, ⟨57, [some (.ref 1), some (.int x), some (.int y), some (.int z), some (.int (nI e))], dX2_isAllowed_57, ?_⟩, by omega⟩
            refine js_iload dX2_isAllowed_3 rfl ?_
            refine js_aload_n 0 rfl dX2_isAllowed_5 rfl ?_
            refine js_geti 3 jw_f_RX2_22 (jl_1 hB) rfl (Nat.le_of_ble_eq_true rfl) rfl (hwi.2.1) dX2_isAllowed_6 ?_
            refine jn_icmp_ge 64 (by omega) (by omega) dX2_isAllowed_9 (by decide) (fun h9 => absurd h9 (by omega)) (fun _ => ?_)
            refine js_aload_n 0 rfl dX2_isAllowed_12 rfl ?_
            refine js_getr 4 jw_f_RX2_25 (jl_1 hB) rfl (Nat.le_of_ble_eq_true rfl) rfl dX2_isAllowed_13 ?_
            refine js_iload dX2_isAllowed_16 rfl ?_
            refine js_iald e rfl (jl_4 hB) (by omega) (by decide) ((hwi.2.2 e (by omega)).1) dX2_isAllowed_18 ?_
            refine js_iload_n 1 rfl dX2_isAllowed_19 rfl ?_
            refine js_icmp_ne 58 dX2_isAllowed_20 (by decide) (fun h9 => absurd h9 (fun q => q hc0)) (fun _ => ?_)
            refine js_aload_n 0 rfl dX2_isAllowed_23 rfl ?_
            refine js_getr 5 jw_f_RX2_28 (jl_1 hB) rfl (Nat.le_of_ble_eq_true rfl) rfl dX2_isAllowed_24 ?_
            refine js_iload dX2_isAllowed_27 rfl ?_
            refine js_iald e rfl (jl_5 hB) (by omega) (by decide) ((hwi.2.2 e (by omega)).2.1) dX2_isAllowed_29 ?_
            refine js_iload_n 2 rfl dX2_isAllowed_30 rfl ?_
            refine js_icmp_ne 58 dX2_isAllowed_31 (by decide) (fun h9 => absurd h9 (fun q => q hc1)) (fun _ => ?_)
            refine js_aload_n 0 rfl dX2_isAllowed_34 rfl ?_
            refine js_getr 6 jw_f_RX2_31 (jl_1 hB) rfl (Nat.le_of_ble_eq_true rfl) rfl dX2_isAllowed_35 ?_
            refine js_iload dX2_isAllowed_38 rfl ?_
            refine js_iald e rfl (jl_6 hB) (by omega) (by decide) ((hwi.2.2 e (by omega)).2.2.1) dX2_isAllowed_40 ?_
            refine js_iload_n 3 rfl dX2_isAllowed_41 rfl ?_
            refine js_icmp_gt 58 dX2_isAllowed_42 (by decide) (fun h9 => absurd h9 hc2) (fun _ => ?_)
            refine js_iload_n 3 rfl dX2_isAllowed_45 rfl ?_
            refine js_aload_n 0 rfl dX2_isAllowed_46 rfl ?_
            refine js_getr 7 jw_f_RX2_34 (jl_1 hB) rfl (Nat.le_of_ble_eq_true rfl) rfl dX2_isAllowed_47 ?_
            refine js_iload dX2_isAllowed_50 rfl ?_
            refine js_iald e rfl (jl_7 hB) (by omega) (by decide) ((hwi.2.2 e (by omega)).2.2.2) dX2_isAllowed_52 ?_
            refine js_icmp_gt 58 dX2_isAllowed_53 (by decide) (fun h9 => absurd h9 hc3) (fun _ => ?_)
            refine js_iconst (v := nI 1) dX2_isAllowed_56 (by decide) ?_
            exact jj_refl
      · obtain ⟨r, hR, hr⟩ := ih (e + 1) (by omega) 
        refine ⟨r, jj_RRs ?_ hR, hr⟩
        refine js_iload dX2_isAllowed_3 rfl ?_
        refine js_aload_n 0 rfl dX2_isAllowed_5 rfl ?_
        refine js_geti 3 jw_f_RX2_22 (jl_1 hB) rfl (Nat.le_of_ble_eq_true rfl) rfl (hwi.2.1) dX2_isAllowed_6 ?_
        refine jn_icmp_ge 64 (by omega) (by omega) dX2_isAllowed_9 (by decide) (fun h9 => absurd h9 (by omega)) (fun _ => ?_)
        refine js_aload_n 0 rfl dX2_isAllowed_12 rfl ?_
        refine js_getr 4 jw_f_RX2_25 (jl_1 hB) rfl (Nat.le_of_ble_eq_true rfl) rfl dX2_isAllowed_13 ?_
        refine js_iload dX2_isAllowed_16 rfl ?_
        refine js_iald e rfl (jl_4 hB) (by omega) (by decide) ((hwi.2.2 e (by omega)).1) dX2_isAllowed_18 ?_
        refine js_iload_n 1 rfl dX2_isAllowed_19 rfl ?_
        refine js_icmp_ne 58 dX2_isAllowed_20 (by decide) (fun h9 => absurd h9 (fun q => q hc0)) (fun _ => ?_)
        refine js_aload_n 0 rfl dX2_isAllowed_23 rfl ?_
        refine js_getr 5 jw_f_RX2_28 (jl_1 hB) rfl (Nat.le_of_ble_eq_true rfl) rfl dX2_isAllowed_24 ?_
        refine js_iload dX2_isAllowed_27 rfl ?_
        refine js_iald e rfl (jl_5 hB) (by omega) (by decide) ((hwi.2.2 e (by omega)).2.1) dX2_isAllowed_29 ?_
        refine js_iload_n 2 rfl dX2_isAllowed_30 rfl ?_
        refine js_icmp_ne 58 dX2_isAllowed_31 (by decide) (fun _ => ?_) (fun h9 => absurd h9 hc1)
        refine js_iinc (v := nI (e + 1)) (L' := [some (.ref 1), some (.int x), some (.int y), some (.int z), some (.int (nI (e + 1)))]) dX2_isAllowed_58 rfl (jj_inc _) rfl ?_
        refine js_goto 3 dX2_isAllowed_61 (by decide) ?_
        exact jj_refl
    · obtain ⟨r, hR, hr⟩ := ih (e + 1) (by omega) 
      refine ⟨r, jj_RRs ?_ hR, hr⟩
      refine js_iload dX2_isAllowed_3 rfl ?_
      refine js_aload_n 0 rfl dX2_isAllowed_5 rfl ?_
      refine js_geti 3 jw_f_RX2_22 (jl_1 hB) rfl (Nat.le_of_ble_eq_true rfl) rfl (hwi.2.1) dX2_isAllowed_6 ?_
      refine jn_icmp_ge 64 (by omega) (by omega) dX2_isAllowed_9 (by decide) (fun h9 => absurd h9 (by omega)) (fun _ => ?_)
      refine js_aload_n 0 rfl dX2_isAllowed_12 rfl ?_
      refine js_getr 4 jw_f_RX2_25 (jl_1 hB) rfl (Nat.le_of_ble_eq_true rfl) rfl dX2_isAllowed_13 ?_
      refine js_iload dX2_isAllowed_16 rfl ?_
      refine js_iald e rfl (jl_4 hB) (by omega) (by decide) ((hwi.2.2 e (by omega)).1) dX2_isAllowed_18 ?_
      refine js_iload_n 1 rfl dX2_isAllowed_19 rfl ?_
      refine js_icmp_ne 58 dX2_isAllowed_20 (by decide) (fun _ => ?_) (fun h9 => absurd h9 hc0)
      refine js_iinc (v := nI (e + 1)) (L' := [some (.ref 1), some (.int x), some (.int y), some (.int z), some (.int (nI (e + 1)))]) dX2_isAllowed_58 rfl (jj_inc _) rfl ?_
      refine js_goto 3 dX2_isAllowed_61 (by decide) ?_
      exact jj_refl
set_option maxRecDepth 100000 in
set_option maxHeartbeats 4000000 in
theorem ct_X2_isAllowed {lay : jj_Lay} {S : jj_Mem} (hB : jj_pp lay) {wn : Nat} {w0 w1 w2 w3 : Nat → Int32} (hwi : jj_wi S wn w0 w1 w2 w3) {x y z : Int32} : ∃ r : Nat, jj_CT yX2_isAllowed (.code yX2_isAllowed cX2_isAllowed 5 (some .boolean)) none 0 0 [.ref 1, .int x, .int y, .int z] lay S (some (.int (nI r))) lay S ∧ r ≤ 1 := by
  obtain ⟨r, hR, hr⟩ := lp_X2_isAllowed (lay := lay) (S := S) (x := x) (y := y) (z := z) hB hwi wn 0 (by omega) 
  refine ⟨r, ?_, hr⟩
  refine jj_mkI RX2 .boolean (by decide) rfl (L := [some (.ref 1), some (.int x), some (.int y), some (.int z), none]) rfl rfl (by rcases (show r = 0 ∨ r = 1 by omega) with rfl | rfl <;> rfl) ?_
  refine jj_RRs ?_ hR
  refine js_iconst (v := nI 0) dX2_isAllowed_0 (by decide) ?_
  refine js_istore (L' := [some (.ref 1), some (.int x), some (.int y), some (.int z), some (.int (nI 0))]) dX2_isAllowed_1 rfl (Nat.le_of_ble_eq_true rfl) ?_
  exact jj_refl
/-! landsAllowing, isHearable -/
set_option maxRecDepth 100000 in
set_option maxHeartbeats 4000000 in
theorem lp_X2_landsAllowing {lay : jj_Lay} {S : jj_Mem} (hB : jj_pp lay) {wn : Nat} {w0 w1 w2 w3 : Nat → Int32} (hwi : jj_wi S wn w0 w1 w2 w3) {x z : Int32} : ∀ (k e : Nat), e + k = 4 → ∀ a : Int32, ∃ r : Int32, jj_RR cX2_landsAllowing 5 RX2 yX2_landsAllowing.name none 1 24 lay.length (jj_sl lay) (5, [some (.ref 1), some (.int x), some (.int z), some (.int a), some (.int (nI e))], [], lay, S) (some (.int r)) .ireturn lay S := by
  intro k
  induction k with
  | zero =>
    intro e he a
    have he : e = 4 := by omega
    subst he
    refine ⟨a, ⟨36, [some (.ref 1), some (.int x), some (.int z), some (.int a), some (.int (nI 4))], dX2_landsAllowing_36, ?_⟩⟩
    refine js_iload dX2_landsAllowing_5 rfl ?_
    refine js_iconst (v := nI 4) dX2_landsAllowing_7 (by decide) ?_
    refine jn_icmp_ge 35 (by omega) (by omega) dX2_landsAllowing_8 (by decide) (fun _ => ?_) (fun h9 => absurd h9 (by omega))
    refine js_iload_n 3 rfl dX2_landsAllowing_35 rfl ?_
    exact jj_refl
  | succ k ih =>
    intro e he a
    obtain ⟨q, hct, hq⟩ := ct_X2_isAllowed (lay := lay) (S := S) (x := x) (y := nI e) (z := z) hB hwi
    by_cases hc : q = 0
    · obtain ⟨r, hR⟩ := ih (e + 1) (by omega) a
      refine ⟨r, jj_RRs ?_ hR⟩
      refine js_iload dX2_landsAllowing_5 rfl ?_
      refine js_iconst (v := nI 4) dX2_landsAllowing_7 (by decide) ?_
      refine jn_icmp_ge 35 (by omega) (by omega) dX2_landsAllowing_8 (by decide) (fun h9 => absurd h9 (by omega)) (fun _ => ?_)
      refine js_aload_n 0 rfl dX2_landsAllowing_11 rfl ?_
      refine js_iload_n 1 rfl dX2_landsAllowing_12 rfl ?_
      refine js_iload dX2_landsAllowing_13 rfl ?_
      refine js_iload_n 2 rfl dX2_landsAllowing_15 rfl ?_
      refine js_callV (av := [.int x, .int (nI e), .int z]) (st := []) (b := 1) hct (Or.inl rfl) jw_c_X2_isAllowed jw_i_RX2 jw_m_RX2_41 jw_s_X2_isAllowed jw_e_X2_isAllowed (jl_1 hB) rfl jw_y_X2_isAllowed rfl ⟨(Nat.le_of_ble_eq_true rfl), (Nat.le_of_ble_eq_true rfl), (Nat.le_refl _), (Nat.le_refl _), (Nat.le_of_ble_eq_true rfl)⟩ dX2_landsAllowing_16 ?_
      refine js_st (st' := [.int (nI q)]) rfl ?_
      refine jn_if_eq 29 (by omega) dX2_landsAllowing_19 (by decide) (fun _ => ?_) (fun h9 => absurd h9 (by omega))
      refine js_iinc (v := nI (e + 1)) (L' := [some (.ref 1), some (.int x), some (.int z), some (.int a), some (.int (nI (e + 1)))]) dX2_landsAllowing_29 rfl (jj_inc _) rfl ?_
      refine js_goto 5 dX2_landsAllowing_32 (by decide) ?_
      exact jj_refl
    · obtain ⟨r, hR⟩ := ih (e + 1) (by omega) (a ||| ((nI 1) <<< ((nI e) &&& 31)))
      refine ⟨r, jj_RRs ?_ hR⟩
      refine js_iload dX2_landsAllowing_5 rfl ?_
      refine js_iconst (v := nI 4) dX2_landsAllowing_7 (by decide) ?_
      refine jn_icmp_ge 35 (by omega) (by omega) dX2_landsAllowing_8 (by decide) (fun h9 => absurd h9 (by omega)) (fun _ => ?_)
      refine js_aload_n 0 rfl dX2_landsAllowing_11 rfl ?_
      refine js_iload_n 1 rfl dX2_landsAllowing_12 rfl ?_
      refine js_iload dX2_landsAllowing_13 rfl ?_
      refine js_iload_n 2 rfl dX2_landsAllowing_15 rfl ?_
      refine js_callV (av := [.int x, .int (nI e), .int z]) (st := []) (b := 1) hct (Or.inl rfl) jw_c_X2_isAllowed jw_i_RX2 jw_m_RX2_41 jw_s_X2_isAllowed jw_e_X2_isAllowed (jl_1 hB) rfl jw_y_X2_isAllowed rfl ⟨(Nat.le_of_ble_eq_true rfl), (Nat.le_of_ble_eq_true rfl), (Nat.le_refl _), (Nat.le_refl _), (Nat.le_of_ble_eq_true rfl)⟩ dX2_landsAllowing_16 ?_
      refine js_st (st' := [.int (nI q)]) rfl ?_
      refine jn_if_eq 29 (by omega) dX2_landsAllowing_19 (by decide) (fun h9 => absurd h9 (by omega)) (fun _ => ?_)
      refine js_iload_n 3 rfl dX2_landsAllowing_22 rfl ?_
      refine js_iconst (v := nI 1) dX2_landsAllowing_23 (by decide) ?_
      refine js_iload dX2_landsAllowing_24 rfl ?_
      refine js_ishl dX2_landsAllowing_26 ?_
      refine js_ior dX2_landsAllowing_27 ?_
      refine js_istore_n (L' := [some (.ref 1), some (.int x), some (.int z), some (.int (a ||| ((nI 1) <<< ((nI e) &&& 31)))), some (.int (nI e))]) 3 rfl dX2_landsAllowing_28 rfl (Nat.le_of_ble_eq_true rfl) ?_
      refine js_iinc (v := nI (e + 1)) (L' := [some (.ref 1), some (.int x), some (.int z), some (.int (a ||| ((nI 1) <<< ((nI e) &&& 31)))), some (.int (nI (e + 1)))]) dX2_landsAllowing_29 rfl (jj_inc _) rfl ?_
      refine js_goto 5 dX2_landsAllowing_32 (by decide) ?_
      exact jj_refl
set_option maxRecDepth 100000 in
set_option maxHeartbeats 4000000 in
theorem ct_X2_landsAllowing {lay : jj_Lay} {S : jj_Mem} (hB : jj_pp lay) {wn : Nat} {w0 w1 w2 w3 : Nat → Int32} (hwi : jj_wi S wn w0 w1 w2 w3) {x z : Int32} : ∃ r : Int32, jj_CT yX2_landsAllowing (.code yX2_landsAllowing cX2_landsAllowing 5 (some .int)) none 1 24 [.ref 1, .int x, .int z] lay S (some (.int r)) lay S := by
  obtain ⟨r, hR⟩ := lp_X2_landsAllowing (lay := lay) (S := S) (x := x) (z := z) hB hwi 4 0 (by omega) (nI 0)
  refine ⟨r, ?_⟩
  refine jj_mkI RX2 .int (by decide) rfl (L := [some (.ref 1), some (.int x), some (.int z), none, none]) rfl rfl rfl ?_
  refine jj_RRs ?_ hR
  refine js_iconst (v := nI 0) dX2_landsAllowing_0 (by decide) ?_
  refine js_istore_n (L' := [some (.ref 1), some (.int x), some (.int z), some (.int (nI 0)), none]) 3 rfl dX2_landsAllowing_1 rfl (Nat.le_of_ble_eq_true rfl) ?_
  refine js_iconst (v := nI 0) dX2_landsAllowing_2 (by decide) ?_
  refine js_istore (L' := [some (.ref 1), some (.int x), some (.int z), some (.int (nI 0)), some (.int (nI 0))]) dX2_landsAllowing_3 rfl (Nat.le_of_ble_eq_true rfl) ?_
  exact jj_refl
set_option maxRecDepth 100000 in
set_option maxHeartbeats 4000000 in
theorem lp_X2_tracksOf {lay : jj_Lay} {S : jj_Mem} (hB : jj_pp lay) {n : Nat} {rc : Nat → Nat} (htk : jj_tk S n rc) {u : Int32} : ∀ (k e : Nat), e + k = n → ∀ (a : Int32), ∃ r : Int32, jj_RR cX2_tracksOf 4 RX2 yX2_tracksOf.name none 0 0 lay.length (jj_sl lay) (4, [some (.ref 1), some (.int u), some (.int a), some (.int (nI e))], [], lay, S) (some (.int r)) .ireturn lay S := by
  intro k
  induction k with
  | zero =>
    intro e he a
    have h14 := htk.1
    refine ⟨a, ⟨32, [some (.ref 1), some (.int u), some (.int a), some (.int (nI e))], dX2_tracksOf_32, ?_⟩⟩
    refine js_iload_n 3 rfl dX2_tracksOf_4 rfl ?_
    refine js_aload_n 0 rfl dX2_tracksOf_5 rfl ?_
    refine js_geti 0 jw_f_RX2_9 (jl_1 hB) rfl (Nat.le_of_ble_eq_true rfl) rfl (htk.2.1) dX2_tracksOf_6 ?_
    refine jn_icmp_ge 31 (by omega) (by omega) dX2_tracksOf_9 (by decide) (fun _ => ?_) (fun h9 => absurd h9 (by omega))
    refine js_iload_n 2 rfl dX2_tracksOf_31 rfl ?_
    exact jj_refl
  | succ k ih =>
    intro e he a
    have h14 := htk.1
    by_cases hc0 : (nI (rc e)) = u
    · obtain ⟨r, hR⟩ := ih (e + 1) (by omega) (a + Int32.ofInt (1))
      refine ⟨r, jj_RRs ?_ hR⟩
      refine js_iload_n 3 rfl dX2_tracksOf_4 rfl ?_
      refine js_aload_n 0 rfl dX2_tracksOf_5 rfl ?_
      refine js_geti 0 jw_f_RX2_9 (jl_1 hB) rfl (Nat.le_of_ble_eq_true rfl) rfl (htk.2.1) dX2_tracksOf_6 ?_
      refine jn_icmp_ge 31 (by omega) (by omega) dX2_tracksOf_9 (by decide) (fun h9 => absurd h9 (by omega)) (fun _ => ?_)
      refine js_aload_n 0 rfl dX2_tracksOf_12 rfl ?_
      refine js_getr 1 jw_f_RX2_15 (jl_1 hB) rfl (Nat.le_of_ble_eq_true rfl) rfl dX2_tracksOf_13 ?_
      refine js_iload_n 3 rfl dX2_tracksOf_16 rfl ?_
      refine js_iald e rfl (jl_2 hB) (by omega) (by decide) ((htk.2.2 e (by omega)).1) dX2_tracksOf_17 ?_
      refine js_iload_n 1 rfl dX2_tracksOf_18 rfl ?_
      refine js_icmp_ne 25 dX2_tracksOf_19 (by decide) (fun h9 => absurd h9 (fun q => q hc0)) (fun _ => ?_)
      refine js_iinc (v := a + Int32.ofInt (1)) (L' := [some (.ref 1), some (.int u), some (.int (a + Int32.ofInt (1))), some (.int (nI e))]) dX2_tracksOf_22 rfl rfl rfl ?_
      refine js_iinc (v := nI (e + 1)) (L' := [some (.ref 1), some (.int u), some (.int (a + Int32.ofInt (1))), some (.int (nI (e + 1)))]) dX2_tracksOf_25 rfl (jj_inc _) rfl ?_
      refine js_goto 4 dX2_tracksOf_28 (by decide) ?_
      exact jj_refl
    · obtain ⟨r, hR⟩ := ih (e + 1) (by omega) a
      refine ⟨r, jj_RRs ?_ hR⟩
      refine js_iload_n 3 rfl dX2_tracksOf_4 rfl ?_
      refine js_aload_n 0 rfl dX2_tracksOf_5 rfl ?_
      refine js_geti 0 jw_f_RX2_9 (jl_1 hB) rfl (Nat.le_of_ble_eq_true rfl) rfl (htk.2.1) dX2_tracksOf_6 ?_
      refine jn_icmp_ge 31 (by omega) (by omega) dX2_tracksOf_9 (by decide) (fun h9 => absurd h9 (by omega)) (fun _ => ?_)
      refine js_aload_n 0 rfl dX2_tracksOf_12 rfl ?_
      refine js_getr 1 jw_f_RX2_15 (jl_1 hB) rfl (Nat.le_of_ble_eq_true rfl) rfl dX2_tracksOf_13 ?_
      refine js_iload_n 3 rfl dX2_tracksOf_16 rfl ?_
      refine js_iald e rfl (jl_2 hB) (by omega) (by decide) ((htk.2.2 e (by omega)).1) dX2_tracksOf_17 ?_
      refine js_iload_n 1 rfl dX2_tracksOf_18 rfl ?_
      refine js_icmp_ne 25 dX2_tracksOf_19 (by decide) (fun _ => ?_) (fun h9 => absurd h9 hc0)
      refine js_iinc (v := nI (e + 1)) (L' := [some (.ref 1), some (.int u), some (.int a), some (.int (nI (e + 1)))]) dX2_tracksOf_25 rfl (jj_inc _) rfl ?_
      refine js_goto 4 dX2_tracksOf_28 (by decide) ?_
      exact jj_refl
set_option maxRecDepth 100000 in
set_option maxHeartbeats 4000000 in
theorem ct_X2_tracksOf {lay : jj_Lay} {S : jj_Mem} (hB : jj_pp lay) {n : Nat} {rc : Nat → Nat} (htk : jj_tk S n rc) {u : Int32} : ∃ r : Int32, jj_CT yX2_tracksOf (.code yX2_tracksOf cX2_tracksOf 4 (some .int)) none 0 0 [.ref 1, .int u] lay S (some (.int r)) lay S := by
  obtain ⟨r, hR⟩ := lp_X2_tracksOf (lay := lay) (S := S) (u := u) hB htk n 0 (by omega) (nI 0)
  refine ⟨r, ?_⟩
  refine jj_mkI RX2 .int (by decide) rfl (L := [some (.ref 1), some (.int u), none, none]) rfl rfl rfl ?_
  refine jj_RRs ?_ hR
  refine js_iconst (v := nI 0) dX2_tracksOf_0 (by decide) ?_
  refine js_istore_n (L' := [some (.ref 1), some (.int u), some (.int (nI 0)), none]) 2 rfl dX2_tracksOf_1 rfl (Nat.le_of_ble_eq_true rfl) ?_
  refine js_iconst (v := nI 0) dX2_tracksOf_2 (by decide) ?_
  refine js_istore_n (L' := [some (.ref 1), some (.int u), some (.int (nI 0)), some (.int (nI 0))]) 3 rfl dX2_tracksOf_3 rfl (Nat.le_of_ble_eq_true rfl) ?_
  exact jj_refl
set_option maxRecDepth 100000 in
set_option maxHeartbeats 4000000 in
theorem lp_X2_isHearable {lay : jj_Lay} {S : jj_Mem} (hB : jj_pp lay) {wn : Nat} {w0 w1 w2 w3 : Nat → Int32} (hwi : jj_wi S wn w0 w1 w2 w3) {n : Nat} {rc : Nat → Nat} (htk : jj_tk S n rc) {u : Nat} {y z : Int32} (hu : u < 2 ^ 31) : ∀ (k e : Nat), e + k = n → ∃ r : Nat, jj_RR cX2_isHearable 5 RX2 yX2_isHearable.name none 1 24 lay.length (jj_sl lay) (3, [some (.ref 1), some (.int (nI u)), some (.int y), some (.int z), some (.int (nI e))], [], lay, S) (some (.int (nI r))) .ireturn lay S ∧ r ≤ 1 := by
  intro k
  induction k with
  | zero =>
    intro e he 
    have h14 := htk.1
    obtain ⟨q, hct, hq⟩ := ct_X2_isAllowed (lay := lay) (S := S) (x := nI e) (y := y) (z := z) hB hwi
    have hrc : e < n → rc e < 10 := fun h => (htk.2.2 e h).2.1
    refine ⟨0, ⟨52, [some (.ref 1), some (.int (nI u)), some (.int y), some (.int z), some (.int (nI e))], dX2_isHearable_52, ?_⟩, by omega⟩
    refine js_iload dX2_isHearable_3 rfl ?_
    refine js_aload_n 0 rfl dX2_isHearable_5 rfl ?_
    refine js_geti 0 jw_f_RX2_9 (jl_1 hB) rfl (Nat.le_of_ble_eq_true rfl) rfl (htk.2.1) dX2_isHearable_6 ?_
    refine jn_icmp_ge 51 (by omega) (by omega) dX2_isHearable_9 (by decide) (fun _ => ?_) (fun h9 => absurd h9 (by omega))
    refine js_iconst (v := nI 0) dX2_isHearable_51 (by decide) ?_
    exact jj_refl
  | succ k ih =>
    intro e he 
    have h14 := htk.1
    obtain ⟨q, hct, hq⟩ := ct_X2_isAllowed (lay := lay) (S := S) (x := nI e) (y := y) (z := z) hB hwi
    have hrc : e < n → rc e < 10 := fun h => (htk.2.2 e h).2.1
    by_cases hc0 : ((rc e)) = u
    · by_cases hc1 : q = 0
      · obtain ⟨r, hR, hr⟩ := ih (e + 1) (by omega) 
        refine ⟨r, jj_RRs ?_ hR, hr⟩
        refine js_iload dX2_isHearable_3 rfl ?_
        refine js_aload_n 0 rfl dX2_isHearable_5 rfl ?_
        refine js_geti 0 jw_f_RX2_9 (jl_1 hB) rfl (Nat.le_of_ble_eq_true rfl) rfl (htk.2.1) dX2_isHearable_6 ?_
        refine jn_icmp_ge 51 (by omega) (by omega) dX2_isHearable_9 (by decide) (fun h9 => absurd h9 (by omega)) (fun _ => ?_)
        refine js_aload_n 0 rfl dX2_isHearable_12 rfl ?_
        refine js_getr 1 jw_f_RX2_15 (jl_1 hB) rfl (Nat.le_of_ble_eq_true rfl) rfl dX2_isHearable_13 ?_
        refine js_iload dX2_isHearable_16 rfl ?_
        refine js_iald e rfl (jl_2 hB) (by omega) (by decide) ((htk.2.2 e (by omega)).1) dX2_isHearable_18 ?_
        refine js_iload_n 1 rfl dX2_isHearable_19 rfl ?_
        refine jn_icmp_ne 45 (by omega) (by omega) dX2_isHearable_20 (by decide) (fun h9 => absurd h9 (by omega)) (fun _ => ?_)
        refine js_aload_n 0 rfl dX2_isHearable_23 rfl ?_
        refine js_iload dX2_isHearable_24 rfl ?_
        refine js_callV (av := [.int (nI e)]) (st := []) (b := 1) (ct_X2_isDown hB htk (by omega)) (Or.inl rfl) jw_c_X2_isDown jw_i_RX2 jw_m_RX2_37 jw_s_X2_isDown jw_e_X2_isDown (jl_1 hB) rfl jw_y_X2_isDown rfl ⟨(Nat.le_of_ble_eq_true rfl), (Nat.le_of_ble_eq_true rfl), (Nat.le_refl _), (Nat.le_refl _), (Nat.le_of_ble_eq_true rfl)⟩ dX2_isHearable_26 ?_
        refine js_st (st' := [.int (nI 0)]) rfl ?_
        refine jn_if_ne 45 (by omega) dX2_isHearable_29 (by decide) (fun h9 => absurd h9 (by omega)) (fun _ => ?_)
        refine js_aload_n 0 rfl dX2_isHearable_32 rfl ?_
        refine js_iload dX2_isHearable_33 rfl ?_
        refine js_iload_n 2 rfl dX2_isHearable_35 rfl ?_
        refine js_iload_n 3 rfl dX2_isHearable_36 rfl ?_
        refine js_callV (av := [.int (nI e), .int y, .int z]) (st := []) (b := 1) hct (Or.inl rfl) jw_c_X2_isAllowed jw_i_RX2 jw_m_RX2_41 jw_s_X2_isAllowed jw_e_X2_isAllowed (jl_1 hB) rfl jw_y_X2_isAllowed rfl ⟨(Nat.le_of_ble_eq_true rfl), (Nat.le_of_ble_eq_true rfl), (Nat.le_refl _), (Nat.le_refl _), (Nat.le_of_ble_eq_true rfl)⟩ dX2_isHearable_37 ?_
        refine js_st (st' := [.int (nI q)]) rfl ?_
        refine jn_if_eq 45 (by omega) dX2_isHearable_40 (by decide) (fun _ => ?_) (fun h9 => absurd h9 (by omega))
        refine js_iinc (v := nI (e + 1)) (L' := [some (.ref 1), some (.int (nI u)), some (.int y), some (.int z), some (.int (nI (e + 1)))]) dX2_isHearable_45 rfl (jj_inc _) rfl ?_
        refine js_goto 3 dX2_isHearable_48 (by decide) ?_
        exact jj_refl
      · refine ⟨1, ⟨44, [some (.ref 1), some (.int (nI u)), some (.int y), some (.int z), some (.int (nI e))], dX2_isHearable_44, ?_⟩, by omega⟩
        refine js_iload dX2_isHearable_3 rfl ?_
        refine js_aload_n 0 rfl dX2_isHearable_5 rfl ?_
        refine js_geti 0 jw_f_RX2_9 (jl_1 hB) rfl (Nat.le_of_ble_eq_true rfl) rfl (htk.2.1) dX2_isHearable_6 ?_
        refine jn_icmp_ge 51 (by omega) (by omega) dX2_isHearable_9 (by decide) (fun h9 => absurd h9 (by omega)) (fun _ => ?_)
        refine js_aload_n 0 rfl dX2_isHearable_12 rfl ?_
        refine js_getr 1 jw_f_RX2_15 (jl_1 hB) rfl (Nat.le_of_ble_eq_true rfl) rfl dX2_isHearable_13 ?_
        refine js_iload dX2_isHearable_16 rfl ?_
        refine js_iald e rfl (jl_2 hB) (by omega) (by decide) ((htk.2.2 e (by omega)).1) dX2_isHearable_18 ?_
        refine js_iload_n 1 rfl dX2_isHearable_19 rfl ?_
        refine jn_icmp_ne 45 (by omega) (by omega) dX2_isHearable_20 (by decide) (fun h9 => absurd h9 (by omega)) (fun _ => ?_)
        refine js_aload_n 0 rfl dX2_isHearable_23 rfl ?_
        refine js_iload dX2_isHearable_24 rfl ?_
        refine js_callV (av := [.int (nI e)]) (st := []) (b := 1) (ct_X2_isDown hB htk (by omega)) (Or.inl rfl) jw_c_X2_isDown jw_i_RX2 jw_m_RX2_37 jw_s_X2_isDown jw_e_X2_isDown (jl_1 hB) rfl jw_y_X2_isDown rfl ⟨(Nat.le_of_ble_eq_true rfl), (Nat.le_of_ble_eq_true rfl), (Nat.le_refl _), (Nat.le_refl _), (Nat.le_of_ble_eq_true rfl)⟩ dX2_isHearable_26 ?_
        refine js_st (st' := [.int (nI 0)]) rfl ?_
        refine jn_if_ne 45 (by omega) dX2_isHearable_29 (by decide) (fun h9 => absurd h9 (by omega)) (fun _ => ?_)
        refine js_aload_n 0 rfl dX2_isHearable_32 rfl ?_
        refine js_iload dX2_isHearable_33 rfl ?_
        refine js_iload_n 2 rfl dX2_isHearable_35 rfl ?_
        refine js_iload_n 3 rfl dX2_isHearable_36 rfl ?_
        refine js_callV (av := [.int (nI e), .int y, .int z]) (st := []) (b := 1) hct (Or.inl rfl) jw_c_X2_isAllowed jw_i_RX2 jw_m_RX2_41 jw_s_X2_isAllowed jw_e_X2_isAllowed (jl_1 hB) rfl jw_y_X2_isAllowed rfl ⟨(Nat.le_of_ble_eq_true rfl), (Nat.le_of_ble_eq_true rfl), (Nat.le_refl _), (Nat.le_refl _), (Nat.le_of_ble_eq_true rfl)⟩ dX2_isHearable_37 ?_
        refine js_st (st' := [.int (nI q)]) rfl ?_
        refine jn_if_eq 45 (by omega) dX2_isHearable_40 (by decide) (fun h9 => absurd h9 (by omega)) (fun _ => ?_)
        refine js_iconst (v := nI 1) dX2_isHearable_43 (by decide) ?_
        exact jj_refl
    · obtain ⟨r, hR, hr⟩ := ih (e + 1) (by omega) 
      refine ⟨r, jj_RRs ?_ hR, hr⟩
      refine js_iload dX2_isHearable_3 rfl ?_
      refine js_aload_n 0 rfl dX2_isHearable_5 rfl ?_
      refine js_geti 0 jw_f_RX2_9 (jl_1 hB) rfl (Nat.le_of_ble_eq_true rfl) rfl (htk.2.1) dX2_isHearable_6 ?_
      refine jn_icmp_ge 51 (by omega) (by omega) dX2_isHearable_9 (by decide) (fun h9 => absurd h9 (by omega)) (fun _ => ?_)
      refine js_aload_n 0 rfl dX2_isHearable_12 rfl ?_
      refine js_getr 1 jw_f_RX2_15 (jl_1 hB) rfl (Nat.le_of_ble_eq_true rfl) rfl dX2_isHearable_13 ?_
      refine js_iload dX2_isHearable_16 rfl ?_
      refine js_iald e rfl (jl_2 hB) (by omega) (by decide) ((htk.2.2 e (by omega)).1) dX2_isHearable_18 ?_
      refine js_iload_n 1 rfl dX2_isHearable_19 rfl ?_
      refine jn_icmp_ne 45 (by omega) (by omega) dX2_isHearable_20 (by decide) (fun _ => ?_) (fun h9 => absurd h9 (by omega))
      refine js_iinc (v := nI (e + 1)) (L' := [some (.ref 1), some (.int (nI u)), some (.int y), some (.int z), some (.int (nI (e + 1)))]) dX2_isHearable_45 rfl (jj_inc _) rfl ?_
      refine js_goto 3 dX2_isHearable_48 (by decide) ?_
      exact jj_refl
set_option maxRecDepth 100000 in
set_option maxHeartbeats 4000000 in
theorem ct_X2_isHearable {lay : jj_Lay} {S : jj_Mem} (hB : jj_pp lay) {wn : Nat} {w0 w1 w2 w3 : Nat → Int32} (hwi : jj_wi S wn w0 w1 w2 w3) {n : Nat} {rc : Nat → Nat} (htk : jj_tk S n rc) {u : Nat} {y z : Int32} (hu : u < 2 ^ 31) : ∃ r : Nat, jj_CT yX2_isHearable (.code yX2_isHearable cX2_isHearable 5 (some .boolean)) none 1 24 [.ref 1, .int (nI u), .int y, .int z] lay S (some (.int (nI r))) lay S ∧ r ≤ 1 := by
  obtain ⟨r, hR, hr⟩ := lp_X2_isHearable (lay := lay) (S := S) (y := y) (z := z) hB hwi htk hu n 0 (by omega) 
  refine ⟨r, ?_, hr⟩
  refine jj_mkI RX2 .boolean (by decide) rfl (L := [some (.ref 1), some (.int (nI u)), some (.int y), some (.int z), none]) rfl rfl (by rcases (show r = 0 ∨ r = 1 by omega) with rfl | rfl <;> rfl) ?_
  refine jj_RRs ?_ hR
  refine js_iconst (v := nI 0) dX2_isHearable_0 (by decide) ?_
  refine js_istore (L' := [some (.ref 1), some (.int (nI u)), some (.int y), some (.int z), some (.int (nI 0))]) dX2_isHearable_1 rfl (Nat.le_of_ble_eq_true rfl) ?_
  exact jj_refl
set_option maxRecDepth 100000 in
set_option maxHeartbeats 4000000 in
theorem lp_X4_countWithReason {lay : jj_Lay} {S : jj_Mem} (hB : jj_pp lay) {n : Nat} {li tr mi rs : Nat → Nat} {se : Nat → Int32} (hlg : jj_lg S n li tr mi rs se) {u : Int32} : ∀ (k e : Nat), e + k = n → ∀ (a : Int32), ∃ r : Int32, jj_RR cX4_countWithReason 4 RX4 yX4_countWithReason.name none 0 0 lay.length (jj_sl lay) (4, [some (.ref 35), some (.int u), some (.int a), some (.int (nI e))], [], lay, S) (some (.int r)) .ireturn lay S := by
  intro k
  induction k with
  | zero =>
    intro e he a
    have h130 := hlg.1
    refine ⟨a, ⟨32, [some (.ref 35), some (.int u), some (.int a), some (.int (nI e))], dX4_countWithReason_32, ?_⟩⟩
    refine js_iload_n 3 rfl dX4_countWithReason_4 rfl ?_
    refine js_aload_n 0 rfl dX4_countWithReason_5 rfl ?_
    refine js_geti 0 jw_f_RX4_9 (jl_35 hB) rfl (Nat.le_of_ble_eq_true rfl) rfl (hlg.2.1) dX4_countWithReason_6 ?_
    refine jn_icmp_ge 31 (by omega) (by omega) dX4_countWithReason_9 (by decide) (fun _ => ?_) (fun h9 => absurd h9 (by omega))
    refine js_iload_n 2 rfl dX4_countWithReason_31 rfl ?_
    exact jj_refl
  | succ k ih =>
    intro e he a
    have h130 := hlg.1
    by_cases hc0 : (nI (rs e)) = u
    · obtain ⟨r, hR⟩ := ih (e + 1) (by omega) (a + Int32.ofInt (1))
      refine ⟨r, jj_RRs ?_ hR⟩
      refine js_iload_n 3 rfl dX4_countWithReason_4 rfl ?_
      refine js_aload_n 0 rfl dX4_countWithReason_5 rfl ?_
      refine js_geti 0 jw_f_RX4_9 (jl_35 hB) rfl (Nat.le_of_ble_eq_true rfl) rfl (hlg.2.1) dX4_countWithReason_6 ?_
      refine jn_icmp_ge 31 (by omega) (by omega) dX4_countWithReason_9 (by decide) (fun h9 => absurd h9 (by omega)) (fun _ => ?_)
      refine js_aload_n 0 rfl dX4_countWithReason_12 rfl ?_
      refine js_getr 5 jw_f_RX4_28 (jl_35 hB) rfl (Nat.le_of_ble_eq_true rfl) rfl dX4_countWithReason_13 ?_
      refine js_iload_n 3 rfl dX4_countWithReason_16 rfl ?_
      refine js_iald e rfl (jl_40 hB) (by omega) (by decide) ((hlg.2.2 e (by omega)).2.2.2.2.1) dX4_countWithReason_17 ?_
      refine js_iload_n 1 rfl dX4_countWithReason_18 rfl ?_
      refine js_icmp_ne 25 dX4_countWithReason_19 (by decide) (fun h9 => absurd h9 (fun q => q hc0)) (fun _ => ?_)
      refine js_iinc (v := a + Int32.ofInt (1)) (L' := [some (.ref 35), some (.int u), some (.int (a + Int32.ofInt (1))), some (.int (nI e))]) dX4_countWithReason_22 rfl rfl rfl ?_
      refine js_iinc (v := nI (e + 1)) (L' := [some (.ref 35), some (.int u), some (.int (a + Int32.ofInt (1))), some (.int (nI (e + 1)))]) dX4_countWithReason_25 rfl (jj_inc _) rfl ?_
      refine js_goto 4 dX4_countWithReason_28 (by decide) ?_
      exact jj_refl
    · obtain ⟨r, hR⟩ := ih (e + 1) (by omega) a
      refine ⟨r, jj_RRs ?_ hR⟩
      refine js_iload_n 3 rfl dX4_countWithReason_4 rfl ?_
      refine js_aload_n 0 rfl dX4_countWithReason_5 rfl ?_
      refine js_geti 0 jw_f_RX4_9 (jl_35 hB) rfl (Nat.le_of_ble_eq_true rfl) rfl (hlg.2.1) dX4_countWithReason_6 ?_
      refine jn_icmp_ge 31 (by omega) (by omega) dX4_countWithReason_9 (by decide) (fun h9 => absurd h9 (by omega)) (fun _ => ?_)
      refine js_aload_n 0 rfl dX4_countWithReason_12 rfl ?_
      refine js_getr 5 jw_f_RX4_28 (jl_35 hB) rfl (Nat.le_of_ble_eq_true rfl) rfl dX4_countWithReason_13 ?_
      refine js_iload_n 3 rfl dX4_countWithReason_16 rfl ?_
      refine js_iald e rfl (jl_40 hB) (by omega) (by decide) ((hlg.2.2 e (by omega)).2.2.2.2.1) dX4_countWithReason_17 ?_
      refine js_iload_n 1 rfl dX4_countWithReason_18 rfl ?_
      refine js_icmp_ne 25 dX4_countWithReason_19 (by decide) (fun _ => ?_) (fun h9 => absurd h9 hc0)
      refine js_iinc (v := nI (e + 1)) (L' := [some (.ref 35), some (.int u), some (.int a), some (.int (nI (e + 1)))]) dX4_countWithReason_25 rfl (jj_inc _) rfl ?_
      refine js_goto 4 dX4_countWithReason_28 (by decide) ?_
      exact jj_refl
set_option maxRecDepth 100000 in
set_option maxHeartbeats 4000000 in
theorem ct_X4_countWithReason {lay : jj_Lay} {S : jj_Mem} (hB : jj_pp lay) {n : Nat} {li tr mi rs : Nat → Nat} {se : Nat → Int32} (hlg : jj_lg S n li tr mi rs se) {u : Int32} : ∃ r : Int32, jj_CT yX4_countWithReason (.code yX4_countWithReason cX4_countWithReason 4 (some .int)) none 0 0 [.ref 35, .int u] lay S (some (.int r)) lay S := by
  obtain ⟨r, hR⟩ := lp_X4_countWithReason (lay := lay) (S := S) (u := u) hB hlg n 0 (by omega) (nI 0)
  refine ⟨r, ?_⟩
  refine jj_mkI RX4 .int (by decide) rfl (L := [some (.ref 35), some (.int u), none, none]) rfl rfl rfl ?_
  refine jj_RRs ?_ hR
  refine js_iconst (v := nI 0) dX4_countWithReason_0 (by decide) ?_
  refine js_istore_n (L' := [some (.ref 35), some (.int u), some (.int (nI 0)), none]) 2 rfl dX4_countWithReason_1 rfl (Nat.le_of_ble_eq_true rfl) ?_
  refine js_iconst (v := nI 0) dX4_countWithReason_2 (by decide) ?_
  refine js_istore_n (L' := [some (.ref 35), some (.int u), some (.int (nI 0)), some (.int (nI 0))]) 3 rfl dX4_countWithReason_3 rfl (Nat.le_of_ble_eq_true rfl) ?_
  exact jj_refl
set_option maxRecDepth 100000 in
set_option maxHeartbeats 4000000 in
theorem lp_X4_playsOfListener {lay : jj_Lay} {S : jj_Mem} (hB : jj_pp lay) {n : Nat} {li tr mi rs : Nat → Nat} {se : Nat → Int32} (hlg : jj_lg S n li tr mi rs se) {u : Int32} : ∀ (k e : Nat), e + k = n → ∀ (a : Int32), ∃ r : Int32, jj_RR cX4_playsOfListener 4 RX4 yX4_playsOfListener.name none 0 0 lay.length (jj_sl lay) (4, [some (.ref 35), some (.int u), some (.int a), some (.int (nI e))], [], lay, S) (some (.int r)) .ireturn lay S := by
  intro k
  induction k with
  | zero =>
    intro e he a
    have h130 := hlg.1
    refine ⟨a, ⟨32, [some (.ref 35), some (.int u), some (.int a), some (.int (nI e))], dX4_playsOfListener_32, ?_⟩⟩
    refine js_iload_n 3 rfl dX4_playsOfListener_4 rfl ?_
    refine js_aload_n 0 rfl dX4_playsOfListener_5 rfl ?_
    refine js_geti 0 jw_f_RX4_9 (jl_35 hB) rfl (Nat.le_of_ble_eq_true rfl) rfl (hlg.2.1) dX4_playsOfListener_6 ?_
    refine jn_icmp_ge 31 (by omega) (by omega) dX4_playsOfListener_9 (by decide) (fun _ => ?_) (fun h9 => absurd h9 (by omega))
    refine js_iload_n 2 rfl dX4_playsOfListener_31 rfl ?_
    exact jj_refl
  | succ k ih =>
    intro e he a
    have h130 := hlg.1
    by_cases hc0 : (nI (li e)) = u
    · obtain ⟨r, hR⟩ := ih (e + 1) (by omega) (a + Int32.ofInt (1))
      refine ⟨r, jj_RRs ?_ hR⟩
      refine js_iload_n 3 rfl dX4_playsOfListener_4 rfl ?_
      refine js_aload_n 0 rfl dX4_playsOfListener_5 rfl ?_
      refine js_geti 0 jw_f_RX4_9 (jl_35 hB) rfl (Nat.le_of_ble_eq_true rfl) rfl (hlg.2.1) dX4_playsOfListener_6 ?_
      refine jn_icmp_ge 31 (by omega) (by omega) dX4_playsOfListener_9 (by decide) (fun h9 => absurd h9 (by omega)) (fun _ => ?_)
      refine js_aload_n 0 rfl dX4_playsOfListener_12 rfl ?_
      refine js_getr 1 jw_f_RX4_15 (jl_35 hB) rfl (Nat.le_of_ble_eq_true rfl) rfl dX4_playsOfListener_13 ?_
      refine js_iload_n 3 rfl dX4_playsOfListener_16 rfl ?_
      refine js_iald e rfl (jl_36 hB) (by omega) (by decide) ((hlg.2.2 e (by omega)).1) dX4_playsOfListener_17 ?_
      refine js_iload_n 1 rfl dX4_playsOfListener_18 rfl ?_
      refine js_icmp_ne 25 dX4_playsOfListener_19 (by decide) (fun h9 => absurd h9 (fun q => q hc0)) (fun _ => ?_)
      refine js_iinc (v := a + Int32.ofInt (1)) (L' := [some (.ref 35), some (.int u), some (.int (a + Int32.ofInt (1))), some (.int (nI e))]) dX4_playsOfListener_22 rfl rfl rfl ?_
      refine js_iinc (v := nI (e + 1)) (L' := [some (.ref 35), some (.int u), some (.int (a + Int32.ofInt (1))), some (.int (nI (e + 1)))]) dX4_playsOfListener_25 rfl (jj_inc _) rfl ?_
      refine js_goto 4 dX4_playsOfListener_28 (by decide) ?_
      exact jj_refl
    · obtain ⟨r, hR⟩ := ih (e + 1) (by omega) a
      refine ⟨r, jj_RRs ?_ hR⟩
      refine js_iload_n 3 rfl dX4_playsOfListener_4 rfl ?_
      refine js_aload_n 0 rfl dX4_playsOfListener_5 rfl ?_
      refine js_geti 0 jw_f_RX4_9 (jl_35 hB) rfl (Nat.le_of_ble_eq_true rfl) rfl (hlg.2.1) dX4_playsOfListener_6 ?_
      refine jn_icmp_ge 31 (by omega) (by omega) dX4_playsOfListener_9 (by decide) (fun h9 => absurd h9 (by omega)) (fun _ => ?_)
      refine js_aload_n 0 rfl dX4_playsOfListener_12 rfl ?_
      refine js_getr 1 jw_f_RX4_15 (jl_35 hB) rfl (Nat.le_of_ble_eq_true rfl) rfl dX4_playsOfListener_13 ?_
      refine js_iload_n 3 rfl dX4_playsOfListener_16 rfl ?_
      refine js_iald e rfl (jl_36 hB) (by omega) (by decide) ((hlg.2.2 e (by omega)).1) dX4_playsOfListener_17 ?_
      refine js_iload_n 1 rfl dX4_playsOfListener_18 rfl ?_
      refine js_icmp_ne 25 dX4_playsOfListener_19 (by decide) (fun _ => ?_) (fun h9 => absurd h9 hc0)
      refine js_iinc (v := nI (e + 1)) (L' := [some (.ref 35), some (.int u), some (.int a), some (.int (nI (e + 1)))]) dX4_playsOfListener_25 rfl (jj_inc _) rfl ?_
      refine js_goto 4 dX4_playsOfListener_28 (by decide) ?_
      exact jj_refl
set_option maxRecDepth 100000 in
set_option maxHeartbeats 4000000 in
theorem ct_X4_playsOfListener {lay : jj_Lay} {S : jj_Mem} (hB : jj_pp lay) {n : Nat} {li tr mi rs : Nat → Nat} {se : Nat → Int32} (hlg : jj_lg S n li tr mi rs se) {u : Int32} : ∃ r : Int32, jj_CT yX4_playsOfListener (.code yX4_playsOfListener cX4_playsOfListener 4 (some .int)) none 0 0 [.ref 35, .int u] lay S (some (.int r)) lay S := by
  obtain ⟨r, hR⟩ := lp_X4_playsOfListener (lay := lay) (S := S) (u := u) hB hlg n 0 (by omega) (nI 0)
  refine ⟨r, ?_⟩
  refine jj_mkI RX4 .int (by decide) rfl (L := [some (.ref 35), some (.int u), none, none]) rfl rfl rfl ?_
  refine jj_RRs ?_ hR
  refine js_iconst (v := nI 0) dX4_playsOfListener_0 (by decide) ?_
  refine js_istore_n (L' := [some (.ref 35), some (.int u), some (.int (nI 0)), none]) 2 rfl dX4_playsOfListener_1 rfl (Nat.le_of_ble_eq_true rfl) ?_
  refine js_iconst (v := nI 0) dX4_playsOfListener_2 (by decide) ?_
  refine js_istore_n (L' := [some (.ref 35), some (.int u), some (.int (nI 0)), some (.int (nI 0))]) 3 rfl dX4_playsOfListener_3 rfl (Nat.le_of_ble_eq_true rfl) ?_
  exact jj_refl
set_option maxRecDepth 100000 in
set_option maxHeartbeats 4000000 in
theorem lp_X4_countedOfTrack {lay : jj_Lay} {S : jj_Mem} (hB : jj_pp lay) {n : Nat} {li tr mi rs : Nat → Nat} {se : Nat → Int32} (hlg : jj_lg S n li tr mi rs se) {u : Int32} (hrs : ∀ k, k < n → rs k < 10) : ∀ (k e : Nat), e + k = n → ∀ (a : Int32), ∃ r : Int32, jj_RR cX4_countedOfTrack 4 RX4 yX4_countedOfTrack.name none 0 0 lay.length (jj_sl lay) (4, [some (.ref 35), some (.int u), some (.int a), some (.int (nI e))], [], lay, S) (some (.int r)) .ireturn lay S := by
  intro k
  induction k with
  | zero =>
    intro e he a
    have h130 := hlg.1
    have hr9 : e < n → rs e < 10 := fun h => hrs e h
    refine ⟨a, ⟨41, [some (.ref 35), some (.int u), some (.int a), some (.int (nI e))], dX4_countedOfTrack_41, ?_⟩⟩
    refine js_iload_n 3 rfl dX4_countedOfTrack_4 rfl ?_
    refine js_aload_n 0 rfl dX4_countedOfTrack_5 rfl ?_
    refine js_geti 0 jw_f_RX4_9 (jl_35 hB) rfl (Nat.le_of_ble_eq_true rfl) rfl (hlg.2.1) dX4_countedOfTrack_6 ?_
    refine jn_icmp_ge 40 (by omega) (by omega) dX4_countedOfTrack_9 (by decide) (fun _ => ?_) (fun h9 => absurd h9 (by omega))
    refine js_iload_n 2 rfl dX4_countedOfTrack_40 rfl ?_
    exact jj_refl
  | succ k ih =>
    intro e he a
    have h130 := hlg.1
    have hr9 : e < n → rs e < 10 := fun h => hrs e h
    by_cases hc0 : (nI (tr e)) = u
    · by_cases hc1 : ((rs e)) = 0
      · obtain ⟨r, hR⟩ := ih (e + 1) (by omega) (a + Int32.ofInt (1))
        refine ⟨r, jj_RRs ?_ hR⟩
        refine js_iload_n 3 rfl dX4_countedOfTrack_4 rfl ?_
        refine js_aload_n 0 rfl dX4_countedOfTrack_5 rfl ?_
        refine js_geti 0 jw_f_RX4_9 (jl_35 hB) rfl (Nat.le_of_ble_eq_true rfl) rfl (hlg.2.1) dX4_countedOfTrack_6 ?_
        refine jn_icmp_ge 40 (by omega) (by omega) dX4_countedOfTrack_9 (by decide) (fun h9 => absurd h9 (by omega)) (fun _ => ?_)
        refine js_aload_n 0 rfl dX4_countedOfTrack_12 rfl ?_
        refine js_getr 2 jw_f_RX4_19 (jl_35 hB) rfl (Nat.le_of_ble_eq_true rfl) rfl dX4_countedOfTrack_13 ?_
        refine js_iload_n 3 rfl dX4_countedOfTrack_16 rfl ?_
        refine js_iald e rfl (jl_37 hB) (by omega) (by decide) ((hlg.2.2 e (by omega)).2.1) dX4_countedOfTrack_17 ?_
        refine js_iload_n 1 rfl dX4_countedOfTrack_18 rfl ?_
        refine js_icmp_ne 34 dX4_countedOfTrack_19 (by decide) (fun h9 => absurd h9 (fun q => q hc0)) (fun _ => ?_)
        refine js_aload_n 0 rfl dX4_countedOfTrack_22 rfl ?_
        refine js_getr 5 jw_f_RX4_28 (jl_35 hB) rfl (Nat.le_of_ble_eq_true rfl) rfl dX4_countedOfTrack_23 ?_
        refine js_iload_n 3 rfl dX4_countedOfTrack_26 rfl ?_
        refine js_iald e rfl (jl_40 hB) (by omega) (by decide) ((hlg.2.2 e (by omega)).2.2.2.2.1) dX4_countedOfTrack_27 ?_
        refine jn_if_ne 34 (by omega) dX4_countedOfTrack_28 (by decide) (fun h9 => absurd h9 (by omega)) (fun _ => ?_)
        refine js_iinc (v := a + Int32.ofInt (1)) (L' := [some (.ref 35), some (.int u), some (.int (a + Int32.ofInt (1))), some (.int (nI e))]) dX4_countedOfTrack_31 rfl rfl rfl ?_
        refine js_iinc (v := nI (e + 1)) (L' := [some (.ref 35), some (.int u), some (.int (a + Int32.ofInt (1))), some (.int (nI (e + 1)))]) dX4_countedOfTrack_34 rfl (jj_inc _) rfl ?_
        refine js_goto 4 dX4_countedOfTrack_37 (by decide) ?_
        exact jj_refl
      · obtain ⟨r, hR⟩ := ih (e + 1) (by omega) a
        refine ⟨r, jj_RRs ?_ hR⟩
        refine js_iload_n 3 rfl dX4_countedOfTrack_4 rfl ?_
        refine js_aload_n 0 rfl dX4_countedOfTrack_5 rfl ?_
        refine js_geti 0 jw_f_RX4_9 (jl_35 hB) rfl (Nat.le_of_ble_eq_true rfl) rfl (hlg.2.1) dX4_countedOfTrack_6 ?_
        refine jn_icmp_ge 40 (by omega) (by omega) dX4_countedOfTrack_9 (by decide) (fun h9 => absurd h9 (by omega)) (fun _ => ?_)
        refine js_aload_n 0 rfl dX4_countedOfTrack_12 rfl ?_
        refine js_getr 2 jw_f_RX4_19 (jl_35 hB) rfl (Nat.le_of_ble_eq_true rfl) rfl dX4_countedOfTrack_13 ?_
        refine js_iload_n 3 rfl dX4_countedOfTrack_16 rfl ?_
        refine js_iald e rfl (jl_37 hB) (by omega) (by decide) ((hlg.2.2 e (by omega)).2.1) dX4_countedOfTrack_17 ?_
        refine js_iload_n 1 rfl dX4_countedOfTrack_18 rfl ?_
        refine js_icmp_ne 34 dX4_countedOfTrack_19 (by decide) (fun h9 => absurd h9 (fun q => q hc0)) (fun _ => ?_)
        refine js_aload_n 0 rfl dX4_countedOfTrack_22 rfl ?_
        refine js_getr 5 jw_f_RX4_28 (jl_35 hB) rfl (Nat.le_of_ble_eq_true rfl) rfl dX4_countedOfTrack_23 ?_
        refine js_iload_n 3 rfl dX4_countedOfTrack_26 rfl ?_
        refine js_iald e rfl (jl_40 hB) (by omega) (by decide) ((hlg.2.2 e (by omega)).2.2.2.2.1) dX4_countedOfTrack_27 ?_
        refine jn_if_ne 34 (by omega) dX4_countedOfTrack_28 (by decide) (fun _ => ?_) (fun h9 => absurd h9 (by omega))
        refine js_iinc (v := nI (e + 1)) (L' := [some (.ref 35), some (.int u), some (.int a), some (.int (nI (e + 1)))]) dX4_countedOfTrack_34 rfl (jj_inc _) rfl ?_
        refine js_goto 4 dX4_countedOfTrack_37 (by decide) ?_
        exact jj_refl
    · obtain ⟨r, hR⟩ := ih (e + 1) (by omega) a
      refine ⟨r, jj_RRs ?_ hR⟩
      refine js_iload_n 3 rfl dX4_countedOfTrack_4 rfl ?_
      refine js_aload_n 0 rfl dX4_countedOfTrack_5 rfl ?_
      refine js_geti 0 jw_f_RX4_9 (jl_35 hB) rfl (Nat.le_of_ble_eq_true rfl) rfl (hlg.2.1) dX4_countedOfTrack_6 ?_
      refine jn_icmp_ge 40 (by omega) (by omega) dX4_countedOfTrack_9 (by decide) (fun h9 => absurd h9 (by omega)) (fun _ => ?_)
      refine js_aload_n 0 rfl dX4_countedOfTrack_12 rfl ?_
      refine js_getr 2 jw_f_RX4_19 (jl_35 hB) rfl (Nat.le_of_ble_eq_true rfl) rfl dX4_countedOfTrack_13 ?_
      refine js_iload_n 3 rfl dX4_countedOfTrack_16 rfl ?_
      refine js_iald e rfl (jl_37 hB) (by omega) (by decide) ((hlg.2.2 e (by omega)).2.1) dX4_countedOfTrack_17 ?_
      refine js_iload_n 1 rfl dX4_countedOfTrack_18 rfl ?_
      refine js_icmp_ne 34 dX4_countedOfTrack_19 (by decide) (fun _ => ?_) (fun h9 => absurd h9 hc0)
      refine js_iinc (v := nI (e + 1)) (L' := [some (.ref 35), some (.int u), some (.int a), some (.int (nI (e + 1)))]) dX4_countedOfTrack_34 rfl (jj_inc _) rfl ?_
      refine js_goto 4 dX4_countedOfTrack_37 (by decide) ?_
      exact jj_refl
set_option maxRecDepth 100000 in
set_option maxHeartbeats 4000000 in
theorem ct_X4_countedOfTrack {lay : jj_Lay} {S : jj_Mem} (hB : jj_pp lay) {n : Nat} {li tr mi rs : Nat → Nat} {se : Nat → Int32} (hlg : jj_lg S n li tr mi rs se) {u : Int32} (hrs : ∀ k, k < n → rs k < 10) : ∃ r : Int32, jj_CT yX4_countedOfTrack (.code yX4_countedOfTrack cX4_countedOfTrack 4 (some .int)) none 0 0 [.ref 35, .int u] lay S (some (.int r)) lay S := by
  obtain ⟨r, hR⟩ := lp_X4_countedOfTrack (lay := lay) (S := S) (u := u) hB hlg hrs n 0 (by omega) (nI 0)
  refine ⟨r, ?_⟩
  refine jj_mkI RX4 .int (by decide) rfl (L := [some (.ref 35), some (.int u), none, none]) rfl rfl rfl ?_
  refine jj_RRs ?_ hR
  refine js_iconst (v := nI 0) dX4_countedOfTrack_0 (by decide) ?_
  refine js_istore_n (L' := [some (.ref 35), some (.int u), some (.int (nI 0)), none]) 2 rfl dX4_countedOfTrack_1 rfl (Nat.le_of_ble_eq_true rfl) ?_
  refine js_iconst (v := nI 0) dX4_countedOfTrack_2 (by decide) ?_
  refine js_istore_n (L' := [some (.ref 35), some (.int u), some (.int (nI 0)), some (.int (nI 0))]) 3 rfl dX4_countedOfTrack_3 rfl (Nat.le_of_ble_eq_true rfl) ?_
  exact jj_refl
set_option maxRecDepth 100000 in
set_option maxHeartbeats 4000000 in
theorem lp_X3_hearersOfBoth {lay : jj_Lay} {S : jj_Mem} (hB : jj_pp lay) {ev : Nat → Nat → Nat} (hev : jj_rw8 S 44 ev) (hev2 : ∀ l, l < 8 → ∀ j, j < 10 → ev l j < 2 ^ 31) {u v : Nat} (hu : u < 10) (hv : v < 10) : ∀ (k e : Nat), e + k = 8 → ∀ (a : Int32), ∃ r : Int32, jj_RR cX3_hearersOfBoth 5 RX3 yX3_hearersOfBoth.name none 0 0 lay.length (jj_sl lay) (5, [some (.ref 42), some (.int (nI u)), some (.int (nI v)), some (.int a), some (.int (nI e))], [], lay, S) (some (.int r)) .ireturn lay S := by
  intro k
  induction k with
  | zero =>
    intro e he a
    have hb1 : e < 8 → ev e u < 2 ^ 31 := fun h => hev2 e h u hu
    have hb2 : e < 8 → ev e v < 2 ^ 31 := fun h => hev2 e h v hv
    refine ⟨a, ⟨46, [some (.ref 42), some (.int (nI u)), some (.int (nI v)), some (.int a), some (.int (nI e))], dX3_hearersOfBoth_46, ?_⟩⟩
    refine js_iload dX3_hearersOfBoth_5 rfl ?_
    refine js_bipush (v := nI 8) dX3_hearersOfBoth_7 (by decide) ?_
    refine jn_icmp_ge 45 (by omega) (by omega) dX3_hearersOfBoth_9 (by decide) (fun _ => ?_) (fun h9 => absurd h9 (by omega))
    refine js_iload_n 3 rfl dX3_hearersOfBoth_45 rfl ?_
    exact jj_refl
  | succ k ih =>
    intro e he a
    have hb1 : e < 8 → ev e u < 2 ^ 31 := fun h => hev2 e h u hu
    have hb2 : e < 8 → ev e v < 2 ^ 31 := fun h => hev2 e h v hv
    by_cases hc0 : ((ev e u)) ≤ 0
    · obtain ⟨r, hR⟩ := ih (e + 1) (by omega) a
      refine ⟨r, jj_RRs ?_ hR⟩
      refine js_iload dX3_hearersOfBoth_5 rfl ?_
      refine js_bipush (v := nI 8) dX3_hearersOfBoth_7 (by decide) ?_
      refine jn_icmp_ge 45 (by omega) (by omega) dX3_hearersOfBoth_9 (by decide) (fun h9 => absurd h9 (by omega)) (fun _ => ?_)
      refine js_aload_n 0 rfl dX3_hearersOfBoth_12 rfl ?_
      refine js_getr 0 jw_f_RX3_11 (jl_42 hB) rfl (Nat.le_of_ble_eq_true rfl) rfl dX3_hearersOfBoth_13 ?_
      refine js_iload dX3_hearersOfBoth_16 rfl ?_
      refine js_aald e rfl (jl_43 hB) (by omega) (by decide) (jr_ev e (by omega)) dX3_hearersOfBoth_18 ?_
      refine js_iload_n 1 rfl dX3_hearersOfBoth_19 rfl ?_
      refine js_iald u rfl (jl_ev hB e (by omega)) (by omega) (by decide) (hev e (by omega) u hu) dX3_hearersOfBoth_20 ?_
      refine jn_if_le 39 (by omega) dX3_hearersOfBoth_21 (by decide) (fun _ => ?_) (fun h9 => absurd h9 (by omega))
      refine js_iinc (v := nI (e + 1)) (L' := [some (.ref 42), some (.int (nI u)), some (.int (nI v)), some (.int a), some (.int (nI (e + 1)))]) dX3_hearersOfBoth_39 rfl (jj_inc _) rfl ?_
      refine js_goto 5 dX3_hearersOfBoth_42 (by decide) ?_
      exact jj_refl
    · by_cases hc1 : ((ev e v)) ≤ 0
      · obtain ⟨r, hR⟩ := ih (e + 1) (by omega) a
        refine ⟨r, jj_RRs ?_ hR⟩
        refine js_iload dX3_hearersOfBoth_5 rfl ?_
        refine js_bipush (v := nI 8) dX3_hearersOfBoth_7 (by decide) ?_
        refine jn_icmp_ge 45 (by omega) (by omega) dX3_hearersOfBoth_9 (by decide) (fun h9 => absurd h9 (by omega)) (fun _ => ?_)
        refine js_aload_n 0 rfl dX3_hearersOfBoth_12 rfl ?_
        refine js_getr 0 jw_f_RX3_11 (jl_42 hB) rfl (Nat.le_of_ble_eq_true rfl) rfl dX3_hearersOfBoth_13 ?_
        refine js_iload dX3_hearersOfBoth_16 rfl ?_
        refine js_aald e rfl (jl_43 hB) (by omega) (by decide) (jr_ev e (by omega)) dX3_hearersOfBoth_18 ?_
        refine js_iload_n 1 rfl dX3_hearersOfBoth_19 rfl ?_
        refine js_iald u rfl (jl_ev hB e (by omega)) (by omega) (by decide) (hev e (by omega) u hu) dX3_hearersOfBoth_20 ?_
        refine jn_if_le 39 (by omega) dX3_hearersOfBoth_21 (by decide) (fun h9 => absurd h9 (by omega)) (fun _ => ?_)
        refine js_aload_n 0 rfl dX3_hearersOfBoth_24 rfl ?_
        refine js_getr 0 jw_f_RX3_11 (jl_42 hB) rfl (Nat.le_of_ble_eq_true rfl) rfl dX3_hearersOfBoth_25 ?_
        refine js_iload dX3_hearersOfBoth_28 rfl ?_
        refine js_aald e rfl (jl_43 hB) (by omega) (by decide) (jr_ev e (by omega)) dX3_hearersOfBoth_30 ?_
        refine js_iload_n 2 rfl dX3_hearersOfBoth_31 rfl ?_
        refine js_iald v rfl (jl_ev hB e (by omega)) (by omega) (by decide) (hev e (by omega) v hv) dX3_hearersOfBoth_32 ?_
        refine jn_if_le 39 (by omega) dX3_hearersOfBoth_33 (by decide) (fun _ => ?_) (fun h9 => absurd h9 (by omega))
        refine js_iinc (v := nI (e + 1)) (L' := [some (.ref 42), some (.int (nI u)), some (.int (nI v)), some (.int a), some (.int (nI (e + 1)))]) dX3_hearersOfBoth_39 rfl (jj_inc _) rfl ?_
        refine js_goto 5 dX3_hearersOfBoth_42 (by decide) ?_
        exact jj_refl
      · obtain ⟨r, hR⟩ := ih (e + 1) (by omega) (a + Int32.ofInt (1))
        refine ⟨r, jj_RRs ?_ hR⟩
        refine js_iload dX3_hearersOfBoth_5 rfl ?_
        refine js_bipush (v := nI 8) dX3_hearersOfBoth_7 (by decide) ?_
        refine jn_icmp_ge 45 (by omega) (by omega) dX3_hearersOfBoth_9 (by decide) (fun h9 => absurd h9 (by omega)) (fun _ => ?_)
        refine js_aload_n 0 rfl dX3_hearersOfBoth_12 rfl ?_
        refine js_getr 0 jw_f_RX3_11 (jl_42 hB) rfl (Nat.le_of_ble_eq_true rfl) rfl dX3_hearersOfBoth_13 ?_
        refine js_iload dX3_hearersOfBoth_16 rfl ?_
        refine js_aald e rfl (jl_43 hB) (by omega) (by decide) (jr_ev e (by omega)) dX3_hearersOfBoth_18 ?_
        refine js_iload_n 1 rfl dX3_hearersOfBoth_19 rfl ?_
        refine js_iald u rfl (jl_ev hB e (by omega)) (by omega) (by decide) (hev e (by omega) u hu) dX3_hearersOfBoth_20 ?_
        refine jn_if_le 39 (by omega) dX3_hearersOfBoth_21 (by decide) (fun h9 => absurd h9 (by omega)) (fun _ => ?_)
        refine js_aload_n 0 rfl dX3_hearersOfBoth_24 rfl ?_
        refine js_getr 0 jw_f_RX3_11 (jl_42 hB) rfl (Nat.le_of_ble_eq_true rfl) rfl dX3_hearersOfBoth_25 ?_
        refine js_iload dX3_hearersOfBoth_28 rfl ?_
        refine js_aald e rfl (jl_43 hB) (by omega) (by decide) (jr_ev e (by omega)) dX3_hearersOfBoth_30 ?_
        refine js_iload_n 2 rfl dX3_hearersOfBoth_31 rfl ?_
        refine js_iald v rfl (jl_ev hB e (by omega)) (by omega) (by decide) (hev e (by omega) v hv) dX3_hearersOfBoth_32 ?_
        refine jn_if_le 39 (by omega) dX3_hearersOfBoth_33 (by decide) (fun h9 => absurd h9 (by omega)) (fun _ => ?_)
        refine js_iinc (v := a + Int32.ofInt (1)) (L' := [some (.ref 42), some (.int (nI u)), some (.int (nI v)), some (.int (a + Int32.ofInt (1))), some (.int (nI e))]) dX3_hearersOfBoth_36 rfl rfl rfl ?_
        refine js_iinc (v := nI (e + 1)) (L' := [some (.ref 42), some (.int (nI u)), some (.int (nI v)), some (.int (a + Int32.ofInt (1))), some (.int (nI (e + 1)))]) dX3_hearersOfBoth_39 rfl (jj_inc _) rfl ?_
        refine js_goto 5 dX3_hearersOfBoth_42 (by decide) ?_
        exact jj_refl
set_option maxRecDepth 100000 in
set_option maxHeartbeats 4000000 in
theorem ct_X3_hearersOfBoth {lay : jj_Lay} {S : jj_Mem} (hB : jj_pp lay) {ev : Nat → Nat → Nat} (hev : jj_rw8 S 44 ev) (hev2 : ∀ l, l < 8 → ∀ j, j < 10 → ev l j < 2 ^ 31) {u v : Nat} (hu : u < 10) (hv : v < 10) : ∃ r : Int32, jj_CT yX3_hearersOfBoth (.code yX3_hearersOfBoth cX3_hearersOfBoth 5 (some .int)) none 0 0 [.ref 42, .int (nI u), .int (nI v)] lay S (some (.int r)) lay S := by
  obtain ⟨r, hR⟩ := lp_X3_hearersOfBoth (lay := lay) (S := S) hB hev hev2 hu hv 8 0 (by omega) (nI 0)
  refine ⟨r, ?_⟩
  refine jj_mkI RX3 .int (by decide) rfl (L := [some (.ref 42), some (.int (nI u)), some (.int (nI v)), none, none]) rfl rfl rfl ?_
  refine jj_RRs ?_ hR
  refine js_iconst (v := nI 0) dX3_hearersOfBoth_0 (by decide) ?_
  refine js_istore_n (L' := [some (.ref 42), some (.int (nI u)), some (.int (nI v)), some (.int (nI 0)), none]) 3 rfl dX3_hearersOfBoth_1 rfl (Nat.le_of_ble_eq_true rfl) ?_
  refine js_iconst (v := nI 0) dX3_hearersOfBoth_2 (by decide) ?_
  refine js_istore (L' := [some (.ref 42), some (.int (nI u)), some (.int (nI v)), some (.int (nI 0)), some (.int (nI 0))]) dX3_hearersOfBoth_3 rfl (Nat.le_of_ble_eq_true rfl) ?_
  exact jj_refl
end
section
/-! JUDGING: which plays count. -/
def jj_um (f : Nat → Nat → Nat) (l u y : Nat) : Nat → Nat → Nat := fun a b => if a = l ∧ b = u then y else f a b
theorem jj_rw8_upd {S : jj_Mem} {p : Nat} {f : Nat → Nat → Nat} {l u y : Nat} (h : jj_rw8 S p f) : jj_rw8 (jj_w S (p + l) u (nI y)) p (jj_um f l u y) := fun a ha b hb => by
  unfold jj_w jj_um
  by_cases c : a = l ∧ b = u
  · rw [if_pos ⟨by omega, c.2⟩, if_pos c]
  · rw [if_neg (fun w => c ⟨by omega, w.2⟩), if_neg c]
    exact h a ha b hb
theorem jj_rw8_w {S : jj_Mem} {p q i : Nat} {x : Int32} {f : Nat → Nat → Nat} (h : jj_rw8 S p f) (hq : q < p ∨ p + 8 ≤ q) : jj_rw8 (jj_w S q i x) p f := jj_rw8_mono h (fun a h1 h2 j => jj_w_neP (by omega))
theorem jj_cl_out {S : jj_Mem} {p n q j : Nat} (h : q < p + 1 ∨ p + 1 + n ≤ q) : jj_cl S p n q j = S q j := if_neg (by omega)
theorem jj_cl_rw {S : jj_Mem} {p : Nat} : jj_rw8 (jj_cl S p 8) (p + 1) (fun _ _ => 0) := fun l hl j hj => if_pos ⟨by omega, by omega, hj⟩
theorem jj_ct_congr {P Q : Nat → Bool} {n : Nat} (h : ∀ j, j < n → P j = Q j) : jj_ct P n = jj_ct Q n := Nat.le_antisymm (jj_ct_le (fun j hj hp => (h j hj) ▸ hp)) (jj_ct_le (fun j hj hp => (h j hj) ▸ hp))
theorem jj_ct_mono {P : Nat → Bool} {k : Nat} : ∀ {n : Nat}, k ≤ n → jj_ct P k ≤ jj_ct P n
  | 0, h => by rw [show k = 0 by omega]; exact Nat.le_refl _
  | n + 1, h => by
    by_cases e : k = n + 1
    · rw [e]; exact Nat.le_refl _
    · exact Nat.le_trans (jj_ct_mono (P := P) (n := n) (by omega)) (Nat.le_add_right _ _)
theorem jj_ct_none {P : Nat → Bool} : ∀ {n : Nat}, (∀ j, j < n → P j = false) → jj_ct P n = 0
  | 0, _ => rfl
  | n + 1, h => by
    show jj_ct P n + jj_b (P n) = 0
    rw [jj_ct_none (fun j hj => h j (by omega)), h n (by omega)]
    rfl
/-- a play that counts, of a listener, a recording, a day -/
def jj_pd (li tr mi rs rc : Nat → Nat) (l u d j : Nat) : Bool := decide (rs j = 0 ∧ li j = l ∧ rc (tr j) = u ∧ mi j / 1440 = d)
set_option maxRecDepth 100000 in
set_option maxHeartbeats 4000000 in
theorem ct_X3_clear {lay : jj_Lay} {S : jj_Mem} (hB : jj_pp lay) : jj_CT yX3_clear (.code yX3_clear cX3_clear 1 none) none 2 44 [.ref 42] lay S none lay (jj_cl (jj_cl S 43 8) 52 8) := by
  refine jj_mkV RX3 (by decide) rfl (L := [some (.ref 42)]) rfl rfl ⟨14, [some (.ref 42)], dX3_clear_14, ?_⟩
  refine js_aload_n 0 rfl dX3_clear_0 rfl ?_
  refine js_getr 0 jw_f_RX3_11 (jl_42 hB) rfl (Nat.le_of_ble_eq_true rfl) rfl dX3_clear_1 ?_
  refine js_callSN (av := [.ref 43]) (st := []) (ct_X6_clearRows (jl_43 hB) (by omega) (fun j hj => ⟨jr_ev j hj, jl_ev hB j hj⟩)) (Or.inl rfl) jw_c_X6_clearRows jw_i_RX6 jw_h_RX3_22 jw_s_X6_clearRows jw_y_X6_clearRows rfl ⟨(Nat.le_of_ble_eq_true rfl), (Nat.le_of_ble_eq_true rfl), (Nat.le_refl _), (Nat.le_refl _), (Nat.le_of_ble_eq_true rfl)⟩ dX3_clear_4 ?_
  refine js_st (st' := []) rfl ?_
  refine js_aload_n 0 rfl dX3_clear_7 rfl ?_
  refine js_getr 1 jw_f_RX3_16 (jl_42 hB) rfl (Nat.le_of_ble_eq_true rfl) rfl dX3_clear_8 ?_
  refine js_callSN (av := [.ref 52]) (st := []) (ct_X6_clearRows (jl_52 hB) (by omega) (fun j hj => ⟨jr_im j hj, jl_im hB j hj⟩)) (Or.inl rfl) jw_c_X6_clearRows jw_i_RX6 jw_h_RX3_22 jw_s_X6_clearRows jw_y_X6_clearRows rfl ⟨(Nat.le_of_ble_eq_true rfl), (Nat.le_of_ble_eq_true rfl), (Nat.le_refl _), (Nat.le_refl _), (Nat.le_of_ble_eq_true rfl)⟩ dX3_clear_11 ?_
  refine js_st (st' := []) rfl ?_
  exact jj_refl
set_option maxRecDepth 100000 in
set_option maxHeartbeats 4000000 in
theorem ct_X3_startDay {lay : jj_Lay} {S : jj_Mem} (hB : jj_pp lay) : jj_CT yX3_startDay (.code yX3_startDay cX3_startDay 1 none) none 2 44 [.ref 42] lay S none lay (jj_cl S 61 8) := by
  refine jj_mkV RX3 (by decide) rfl (L := [some (.ref 42)]) rfl rfl ⟨7, [some (.ref 42)], dX3_startDay_7, ?_⟩
  refine js_aload_n 0 rfl dX3_startDay_0 rfl ?_
  refine js_getr 2 jw_f_RX3_19 (jl_42 hB) rfl (Nat.le_of_ble_eq_true rfl) rfl dX3_startDay_1 ?_
  refine js_callSN (av := [.ref 61]) (st := []) (ct_X6_clearRows (jl_61 hB) (by omega) (fun j hj => ⟨jr_od j hj, jl_od hB j hj⟩)) (Or.inl rfl) jw_c_X6_clearRows jw_i_RX6 jw_h_RX3_22 jw_s_X6_clearRows jw_y_X6_clearRows rfl ⟨(Nat.le_of_ble_eq_true rfl), (Nat.le_of_ble_eq_true rfl), (Nat.le_refl _), (Nat.le_refl _), (Nat.le_of_ble_eq_true rfl)⟩ dX3_startDay_4 ?_
  refine js_st (st' := []) rfl ?_
  exact jj_refl
set_option maxRecDepth 100000 in
set_option maxHeartbeats 4000000 in
theorem ct_X3_add {lay : jj_Lay} {S : jj_Mem} (hB : jj_pp lay) {l u o : Nat} {ev im od : Nat → Nat → Nat} (hl : l < 8) (hu : u < 10) (ho : o ≤ 1) (hev : jj_rw8 S 44 ev) (him : jj_rw8 S 53 im) (hod : jj_rw8 S 62 od) :
    ∃ S', jj_CT yX3_add (.code yX3_add cX3_add 4 none) none 0 0 [.ref 42, .int (nI l), .int (nI u), .int (nI o)] lay S none lay S' ∧ jj_rw8 S' 44 (jj_um ev l u (ev l u + 1)) ∧ jj_rw8 S' 53 (if o = 1 then jj_um im l u (im l u + 1) else im) ∧ jj_rw8 S' 62 (jj_um od l u (od l u + 1)) ∧ (∀ p, p < 44 ∨ (51 < p ∧ p < 53) ∨ (60 < p ∧ p < 62) ∨ 69 < p → ∀ j, S' p j = S p j) := by
  rcases (show o = 0 ∨ o = 1 by omega) with rfl | rfl
  · refine ⟨(jj_w (jj_w S (44 + l) u (nI (((ev l u)) + 1))) (62 + l) u (nI (((od l u)) + 1))), ?_, jj_rw8_w (jj_rw8_upd hev) (by omega), ?_, jj_rw8_upd (jj_rw8_w hod (by omega)), fun p hp j => (jj_w_neP (by omega)).trans (jj_w_neP (by omega))⟩
    · refine jj_mkV RX3 (by decide) rfl (L := [some (.ref 42), some (.int (nI l)), some (.int (nI u)), some (.int (nI 0))]) rfl rfl ⟨40, [some (.ref 42), some (.int (nI l)), some (.int (nI u)), some (.int (nI 0))], dX3_add_40, ?_⟩
      refine js_aload_n 0 rfl dX3_add_0 rfl ?_
      refine js_getr 0 jw_f_RX3_11 (jl_42 hB) rfl (Nat.le_of_ble_eq_true rfl) rfl dX3_add_1 ?_
      refine js_iload_n 1 rfl dX3_add_4 rfl ?_
      refine js_aald l rfl (jl_43 hB) (by omega) (by decide) (jr_ev l hl) dX3_add_5 ?_
      refine js_iload_n 2 rfl dX3_add_6 rfl ?_
      refine js_dup2 rfl rfl dX3_add_7 ?_
      refine js_iald u rfl (jl_ev hB l hl) (by omega) (by decide) (hev l hl u hu) dX3_add_8 ?_
      refine js_iconst (v := nI 1) dX3_add_9 (by decide) ?_
      refine jn_iadd dX3_add_10 ?_
      refine js_iast u rfl (jl_ev hB l hl) (by omega) (by decide) dX3_add_11 ?_
      refine js_aload_n 0 rfl dX3_add_12 rfl ?_
      refine js_getr 2 jw_f_RX3_19 (jl_42 hB) rfl (Nat.le_of_ble_eq_true rfl) rfl dX3_add_13 ?_
      refine js_iload_n 1 rfl dX3_add_16 rfl ?_
      refine js_aald l rfl (jl_61 hB) (by omega) (by decide) (jr_od l hl) dX3_add_17 ?_
      refine js_iload_n 2 rfl dX3_add_18 rfl ?_
      refine js_dup2 rfl rfl dX3_add_19 ?_
      refine js_iald u rfl (jl_od hB l hl) (by omega) (by decide) ((jj_w_neP (by omega)).trans (hod l hl u hu)) dX3_add_20 ?_
      refine js_iconst (v := nI 1) dX3_add_21 (by decide) ?_
      refine jn_iadd dX3_add_22 ?_
      refine js_iast u rfl (jl_od hB l hl) (by omega) (by decide) dX3_add_23 ?_
      refine js_iload_n 3 rfl dX3_add_24 rfl ?_
      refine jn_if_eq 40 (by omega) dX3_add_25 (by decide) (fun _ => ?_) (fun h9 => absurd h9 (by omega))
      exact jj_refl
    · rw [if_neg (by omega)]; exact jj_rw8_w (jj_rw8_w him (by omega)) (by omega)
  · refine ⟨(jj_w (jj_w (jj_w S (44 + l) u (nI (((ev l u)) + 1))) (62 + l) u (nI (((od l u)) + 1))) (53 + l) u (nI (((im l u)) + 1))), ?_, jj_rw8_w (jj_rw8_w (jj_rw8_upd hev) (by omega)) (by omega), ?_, jj_rw8_w (jj_rw8_upd (jj_rw8_w hod (by omega))) (by omega), fun p hp j => (jj_w_neP (by omega)).trans ((jj_w_neP (by omega)).trans (jj_w_neP (by omega)))⟩
    · refine jj_mkV RX3 (by decide) rfl (L := [some (.ref 42), some (.int (nI l)), some (.int (nI u)), some (.int (nI 1))]) rfl rfl ⟨40, [some (.ref 42), some (.int (nI l)), some (.int (nI u)), some (.int (nI 1))], dX3_add_40, ?_⟩
      refine js_aload_n 0 rfl dX3_add_0 rfl ?_
      refine js_getr 0 jw_f_RX3_11 (jl_42 hB) rfl (Nat.le_of_ble_eq_true rfl) rfl dX3_add_1 ?_
      refine js_iload_n 1 rfl dX3_add_4 rfl ?_
      refine js_aald l rfl (jl_43 hB) (by omega) (by decide) (jr_ev l hl) dX3_add_5 ?_
      refine js_iload_n 2 rfl dX3_add_6 rfl ?_
      refine js_dup2 rfl rfl dX3_add_7 ?_
      refine js_iald u rfl (jl_ev hB l hl) (by omega) (by decide) (hev l hl u hu) dX3_add_8 ?_
      refine js_iconst (v := nI 1) dX3_add_9 (by decide) ?_
      refine jn_iadd dX3_add_10 ?_
      refine js_iast u rfl (jl_ev hB l hl) (by omega) (by decide) dX3_add_11 ?_
      refine js_aload_n 0 rfl dX3_add_12 rfl ?_
      refine js_getr 2 jw_f_RX3_19 (jl_42 hB) rfl (Nat.le_of_ble_eq_true rfl) rfl dX3_add_13 ?_
      refine js_iload_n 1 rfl dX3_add_16 rfl ?_
      refine js_aald l rfl (jl_61 hB) (by omega) (by decide) (jr_od l hl) dX3_add_17 ?_
      refine js_iload_n 2 rfl dX3_add_18 rfl ?_
      refine js_dup2 rfl rfl dX3_add_19 ?_
      refine js_iald u rfl (jl_od hB l hl) (by omega) (by decide) ((jj_w_neP (by omega)).trans (hod l hl u hu)) dX3_add_20 ?_
      refine js_iconst (v := nI 1) dX3_add_21 (by decide) ?_
      refine jn_iadd dX3_add_22 ?_
      refine js_iast u rfl (jl_od hB l hl) (by omega) (by decide) dX3_add_23 ?_
      refine js_iload_n 3 rfl dX3_add_24 rfl ?_
      refine jn_if_eq 40 (by omega) dX3_add_25 (by decide) (fun h9 => absurd h9 (by omega)) (fun _ => ?_)
      refine js_aload_n 0 rfl dX3_add_28 rfl ?_
      refine js_getr 1 jw_f_RX3_16 (jl_42 hB) rfl (Nat.le_of_ble_eq_true rfl) rfl dX3_add_29 ?_
      refine js_iload_n 1 rfl dX3_add_32 rfl ?_
      refine js_aald l rfl (jl_52 hB) (by omega) (by decide) (jr_im l hl) dX3_add_33 ?_
      refine js_iload_n 2 rfl dX3_add_34 rfl ?_
      refine js_dup2 rfl rfl dX3_add_35 ?_
      refine js_iald u rfl (jl_im hB l hl) (by omega) (by decide) ((jj_w_neP (by omega)).trans ((jj_w_neP (by omega)).trans (him l hl u hu))) dX3_add_36 ?_
      refine js_iconst (v := nI 1) dX3_add_37 (by decide) ?_
      refine jn_iadd dX3_add_38 ?_
      refine js_iast u rfl (jl_im hB l hl) (by omega) (by decide) dX3_add_39 ?_
      exact jj_refl
    · rw [if_pos rfl]; exact jj_rw8_upd (jj_rw8_w (jj_rw8_w him (by omega)) (by omega))
set_option maxRecDepth 100000 in
set_option maxHeartbeats 4000000 in
theorem ct_X6_judged {lay : jj_Lay} {S : jj_Mem} (hB : jj_pp lay) {n k cnt nt wn : Nat} {li tr mi rs rc ld pl fl : Nat → Nat} {se w0 w1 w2 w3 : Nat → Int32} {od : Nat → Nat → Nat} (hlg : jj_lg S n li tr mi rs se) (htk : jj_tk S nt rc) (hwi : jj_wi S wn w0 w1 w2 w3) (hau : jj_au S cnt ld pl) (hfl : ∀ j, j < cnt → S 23 j = some (nI (fl j)) ∧ fl j ≤ 1) (hod : jj_rw8 S 62 od) (hk : k < n) (hli : li k < cnt) (htr : tr k < nt) (hodb : od (li k) (rc (tr k)) < 2 ^ 31) : ∃ ρ : Nat, ρ ≤ 5 ∧ (ρ = 0 → od (li k) (rc (tr k)) < 5) ∧ jj_CT yX6_judged (.code yX6_judged cX6_judged 6 (some .int)) none 2 43 [.ref 0, .int (nI k)] lay S (some (.int (nI ρ))) lay S := by
  have h130 := hlg.1
  have h14 := htk.1
  have hc8 := hau.1
  have hf1 := (hfl _ hli).2
  have hrc := (htk.2.2 _ htr).2.1
  obtain ⟨q, hct, hq⟩ := ct_X2_isAllowed (lay := lay) (S := S) (x := nI (tr k)) (y := nI (ld (li k))) (z := nI (mi k)) hB hwi
  by_cases hc0 : (nI 30) ≤ (se k)
  · by_cases hc1 : q = 0
    · refine ⟨2, by omega, by omega, ?_⟩
      refine jj_mkI RX6 .int (by decide) rfl (L := [some (.ref 0), some (.int (nI k)), none, none, none, none]) rfl rfl rfl ⟨70, [some (.ref 0), some (.int (nI k)), some (.int (nI (li k))), some (.int (nI (tr k))), some (.int (nI (mi k))), none], dX6_judged_70, ?_⟩
      refine js_aload_n 0 rfl dX6_judged_0 rfl ?_
      refine js_getr 3 jw_f_RX6_33 (jl_0 hB) rfl (Nat.le_of_ble_eq_true rfl) rfl dX6_judged_1 ?_
      refine js_getNr 1 jw_n_RX6_249 (jl_35 hB) rfl (Nat.le_of_ble_eq_true rfl) rfl dX6_judged_4 ?_
      refine js_iload_n 1 rfl dX6_judged_7 rfl ?_
      refine js_iald k rfl (jl_36 hB) (by omega) (by decide) ((hlg.2.2 k (by omega)).1) dX6_judged_8 ?_
      refine js_istore_n (L' := [some (.ref 0), some (.int (nI k)), some (.int (nI (li k))), none, none, none]) 2 rfl dX6_judged_9 rfl (Nat.le_of_ble_eq_true rfl) ?_
      refine js_aload_n 0 rfl dX6_judged_10 rfl ?_
      refine js_getr 3 jw_f_RX6_33 (jl_0 hB) rfl (Nat.le_of_ble_eq_true rfl) rfl dX6_judged_11 ?_
      refine js_getNr 2 jw_n_RX6_252 (jl_35 hB) rfl (Nat.le_of_ble_eq_true rfl) rfl dX6_judged_14 ?_
      refine js_iload_n 1 rfl dX6_judged_17 rfl ?_
      refine js_iald k rfl (jl_37 hB) (by omega) (by decide) ((hlg.2.2 k (by omega)).2.1) dX6_judged_18 ?_
      refine js_istore_n (L' := [some (.ref 0), some (.int (nI k)), some (.int (nI (li k))), some (.int (nI (tr k))), none, none]) 3 rfl dX6_judged_19 rfl (Nat.le_of_ble_eq_true rfl) ?_
      refine js_aload_n 0 rfl dX6_judged_20 rfl ?_
      refine js_getr 3 jw_f_RX6_33 (jl_0 hB) rfl (Nat.le_of_ble_eq_true rfl) rfl dX6_judged_21 ?_
      refine js_getNr 3 jw_n_RX6_255 (jl_35 hB) rfl (Nat.le_of_ble_eq_true rfl) rfl dX6_judged_24 ?_
      refine js_iload_n 1 rfl dX6_judged_27 rfl ?_
      refine js_iald k rfl (jl_38 hB) (by omega) (by decide) ((hlg.2.2 k (by omega)).2.2.1) dX6_judged_28 ?_
      refine js_istore (L' := [some (.ref 0), some (.int (nI k)), some (.int (nI (li k))), some (.int (nI (tr k))), some (.int (nI (mi k))), none]) dX6_judged_29 rfl (Nat.le_of_ble_eq_true rfl) ?_
      refine js_aload_n 0 rfl dX6_judged_31 rfl ?_
      refine js_getr 3 jw_f_RX6_33 (jl_0 hB) rfl (Nat.le_of_ble_eq_true rfl) rfl dX6_judged_32 ?_
      refine js_getNr 4 jw_n_RX6_258 (jl_35 hB) rfl (Nat.le_of_ble_eq_true rfl) rfl dX6_judged_35 ?_
      refine js_iload_n 1 rfl dX6_judged_38 rfl ?_
      refine js_iald k rfl (jl_39 hB) (by omega) (by decide) ((hlg.2.2 k (by omega)).2.2.2.1) dX6_judged_39 ?_
      refine js_bipush (v := nI 30) dX6_judged_40 (by decide) ?_
      refine js_icmp_ge 47 dX6_judged_42 (by decide) (fun _ => ?_) (fun h9 => absurd h9 (fun q => q hc0))
      refine js_aload_n 0 rfl dX6_judged_47 rfl ?_
      refine js_getr 0 jw_f_RX6_12 (jl_0 hB) rfl (Nat.le_of_ble_eq_true rfl) rfl dX6_judged_48 ?_
      refine js_iload_n 3 rfl dX6_judged_51 rfl ?_
      refine js_aload_n 0 rfl dX6_judged_52 rfl ?_
      refine js_getr 2 jw_f_RX6_26 (jl_0 hB) rfl (Nat.le_of_ble_eq_true rfl) rfl dX6_judged_53 ?_
      refine js_getNr 1 jw_n_RX6_169 (jl_20 hB) rfl (Nat.le_of_ble_eq_true rfl) rfl dX6_judged_56 ?_
      refine js_iload_n 2 rfl dX6_judged_59 rfl ?_
      refine js_iald ((li k)) rfl (jl_21 hB) (by omega) (by decide) ((hau.2.2.1 _ hli).1) dX6_judged_60 ?_
      refine js_iload dX6_judged_61 rfl ?_
      refine js_callVN (av := [.int (nI (tr k)), .int (nI (ld ((li k)))), .int (nI (mi k))]) (st := []) (b := 1) hct (Or.inl rfl) jw_c_X2_isAllowed jw_i_RX2 jw_h_RX6_172 jw_s_X2_isAllowed jw_e_X2_isAllowed (jl_1 hB) rfl jw_y_X2_isAllowed rfl ⟨(Nat.le_of_ble_eq_true rfl), (Nat.le_of_ble_eq_true rfl), (Nat.le_refl _), (Nat.le_refl _), (Nat.le_of_ble_eq_true rfl)⟩ dX6_judged_63 ?_
      refine js_st (st' := [.int (nI q)]) rfl ?_
      refine jn_if_ne 71 (by omega) dX6_judged_66 (by decide) (fun h9 => absurd h9 (by omega)) (fun _ => ?_)
      refine js_iconst (v := nI 2) dX6_judged_69 (by decide) ?_
      exact jj_refl
    · by_cases hc2 : ((fl ((li k)))) = 0
      · by_cases hc3 : ((od (li k) ((rc ((tr k)))))) < 5
        · refine ⟨0, by omega, by omega, ?_⟩
          refine jj_mkI RX6 .int (by decide) rfl (L := [some (.ref 0), some (.int (nI k)), none, none, none, none]) rfl rfl rfl ⟨132, [some (.ref 0), some (.int (nI k)), some (.int (nI (li k))), some (.int (nI (tr k))), some (.int (nI (mi k))), some (.int (nI (od (li k) ((rc ((tr k)))))))], dX6_judged_132, ?_⟩
          refine js_aload_n 0 rfl dX6_judged_0 rfl ?_
          refine js_getr 3 jw_f_RX6_33 (jl_0 hB) rfl (Nat.le_of_ble_eq_true rfl) rfl dX6_judged_1 ?_
          refine js_getNr 1 jw_n_RX6_249 (jl_35 hB) rfl (Nat.le_of_ble_eq_true rfl) rfl dX6_judged_4 ?_
          refine js_iload_n 1 rfl dX6_judged_7 rfl ?_
          refine js_iald k rfl (jl_36 hB) (by omega) (by decide) ((hlg.2.2 k (by omega)).1) dX6_judged_8 ?_
          refine js_istore_n (L' := [some (.ref 0), some (.int (nI k)), some (.int (nI (li k))), none, none, none]) 2 rfl dX6_judged_9 rfl (Nat.le_of_ble_eq_true rfl) ?_
          refine js_aload_n 0 rfl dX6_judged_10 rfl ?_
          refine js_getr 3 jw_f_RX6_33 (jl_0 hB) rfl (Nat.le_of_ble_eq_true rfl) rfl dX6_judged_11 ?_
          refine js_getNr 2 jw_n_RX6_252 (jl_35 hB) rfl (Nat.le_of_ble_eq_true rfl) rfl dX6_judged_14 ?_
          refine js_iload_n 1 rfl dX6_judged_17 rfl ?_
          refine js_iald k rfl (jl_37 hB) (by omega) (by decide) ((hlg.2.2 k (by omega)).2.1) dX6_judged_18 ?_
          refine js_istore_n (L' := [some (.ref 0), some (.int (nI k)), some (.int (nI (li k))), some (.int (nI (tr k))), none, none]) 3 rfl dX6_judged_19 rfl (Nat.le_of_ble_eq_true rfl) ?_
          refine js_aload_n 0 rfl dX6_judged_20 rfl ?_
          refine js_getr 3 jw_f_RX6_33 (jl_0 hB) rfl (Nat.le_of_ble_eq_true rfl) rfl dX6_judged_21 ?_
          refine js_getNr 3 jw_n_RX6_255 (jl_35 hB) rfl (Nat.le_of_ble_eq_true rfl) rfl dX6_judged_24 ?_
          refine js_iload_n 1 rfl dX6_judged_27 rfl ?_
          refine js_iald k rfl (jl_38 hB) (by omega) (by decide) ((hlg.2.2 k (by omega)).2.2.1) dX6_judged_28 ?_
          refine js_istore (L' := [some (.ref 0), some (.int (nI k)), some (.int (nI (li k))), some (.int (nI (tr k))), some (.int (nI (mi k))), none]) dX6_judged_29 rfl (Nat.le_of_ble_eq_true rfl) ?_
          refine js_aload_n 0 rfl dX6_judged_31 rfl ?_
          refine js_getr 3 jw_f_RX6_33 (jl_0 hB) rfl (Nat.le_of_ble_eq_true rfl) rfl dX6_judged_32 ?_
          refine js_getNr 4 jw_n_RX6_258 (jl_35 hB) rfl (Nat.le_of_ble_eq_true rfl) rfl dX6_judged_35 ?_
          refine js_iload_n 1 rfl dX6_judged_38 rfl ?_
          refine js_iald k rfl (jl_39 hB) (by omega) (by decide) ((hlg.2.2 k (by omega)).2.2.2.1) dX6_judged_39 ?_
          refine js_bipush (v := nI 30) dX6_judged_40 (by decide) ?_
          refine js_icmp_ge 47 dX6_judged_42 (by decide) (fun _ => ?_) (fun h9 => absurd h9 (fun q => q hc0))
          refine js_aload_n 0 rfl dX6_judged_47 rfl ?_
          refine js_getr 0 jw_f_RX6_12 (jl_0 hB) rfl (Nat.le_of_ble_eq_true rfl) rfl dX6_judged_48 ?_
          refine js_iload_n 3 rfl dX6_judged_51 rfl ?_
          refine js_aload_n 0 rfl dX6_judged_52 rfl ?_
          refine js_getr 2 jw_f_RX6_26 (jl_0 hB) rfl (Nat.le_of_ble_eq_true rfl) rfl dX6_judged_53 ?_
          refine js_getNr 1 jw_n_RX6_169 (jl_20 hB) rfl (Nat.le_of_ble_eq_true rfl) rfl dX6_judged_56 ?_
          refine js_iload_n 2 rfl dX6_judged_59 rfl ?_
          refine js_iald ((li k)) rfl (jl_21 hB) (by omega) (by decide) ((hau.2.2.1 _ hli).1) dX6_judged_60 ?_
          refine js_iload dX6_judged_61 rfl ?_
          refine js_callVN (av := [.int (nI (tr k)), .int (nI (ld ((li k)))), .int (nI (mi k))]) (st := []) (b := 1) hct (Or.inl rfl) jw_c_X2_isAllowed jw_i_RX2 jw_h_RX6_172 jw_s_X2_isAllowed jw_e_X2_isAllowed (jl_1 hB) rfl jw_y_X2_isAllowed rfl ⟨(Nat.le_of_ble_eq_true rfl), (Nat.le_of_ble_eq_true rfl), (Nat.le_refl _), (Nat.le_refl _), (Nat.le_of_ble_eq_true rfl)⟩ dX6_judged_63 ?_
          refine js_st (st' := [.int (nI q)]) rfl ?_
          refine jn_if_ne 71 (by omega) dX6_judged_66 (by decide) (fun _ => ?_) (fun h9 => absurd h9 (by omega))
          refine js_aload_n 0 rfl dX6_judged_71 rfl ?_
          refine js_getr 0 jw_f_RX6_12 (jl_0 hB) rfl (Nat.le_of_ble_eq_true rfl) rfl dX6_judged_72 ?_
          refine js_iload_n 3 rfl dX6_judged_75 rfl ?_
          refine js_iload dX6_judged_76 rfl ?_
          refine js_callVN (av := [.int (nI (tr k)), .int (nI (mi k))]) (st := []) (b := 1) (ct_X2_isDownIn hB htk htr) (Or.inl rfl) jw_c_X2_isDownIn jw_i_RX2 jw_h_RX6_385 jw_s_X2_isDownIn jw_e_X2_isDownIn (jl_1 hB) rfl jw_y_X2_isDownIn rfl ⟨(Nat.le_of_ble_eq_true rfl), (Nat.le_of_ble_eq_true rfl), (Nat.le_refl _), (Nat.le_refl _), (Nat.le_of_ble_eq_true rfl)⟩ dX6_judged_78 ?_
          refine js_st (st' := [.int (nI 0)]) rfl ?_
          refine jn_if_eq 86 (by omega) dX6_judged_81 (by decide) (fun _ => ?_) (fun h9 => absurd h9 (by omega))
          refine js_aload_n 0 rfl dX6_judged_86 rfl ?_
          refine js_getr 2 jw_f_RX6_26 (jl_0 hB) rfl (Nat.le_of_ble_eq_true rfl) rfl dX6_judged_87 ?_
          refine js_getNr 3 jw_n_RX6_159 (jl_20 hB) rfl (Nat.le_of_ble_eq_true rfl) rfl dX6_judged_90 ?_
          refine js_iload_n 2 rfl dX6_judged_93 rfl ?_
          refine js_zald ((li k)) rfl (jl_23 hB) (by omega) (by decide) ((hfl _ hli).1) dX6_judged_94 ?_
          refine jn_if_eq 100 (by omega) dX6_judged_95 (by decide) (fun _ => ?_) (fun h9 => absurd h9 (by omega))
          refine js_aload_n 0 rfl dX6_judged_100 rfl ?_
          refine js_getr 4 jw_f_RX6_40 (jl_0 hB) rfl (Nat.le_of_ble_eq_true rfl) rfl dX6_judged_101 ?_
          refine js_getNr 2 jw_n_RX6_388 (jl_42 hB) rfl (Nat.le_of_ble_eq_true rfl) rfl dX6_judged_104 ?_
          refine js_iload_n 2 rfl dX6_judged_107 rfl ?_
          refine js_aald ((li k)) rfl (jl_61 hB) (by omega) (by decide) (jr_od _ (by omega)) dX6_judged_108 ?_
          refine js_aload_n 0 rfl dX6_judged_109 rfl ?_
          refine js_getr 0 jw_f_RX6_12 (jl_0 hB) rfl (Nat.le_of_ble_eq_true rfl) rfl dX6_judged_110 ?_
          refine js_getNr 1 jw_n_RX6_214 (jl_1 hB) rfl (Nat.le_of_ble_eq_true rfl) rfl dX6_judged_113 ?_
          refine js_iload_n 3 rfl dX6_judged_116 rfl ?_
          refine js_iald ((tr k)) rfl (jl_2 hB) (by omega) (by decide) ((htk.2.2 _ htr).1) dX6_judged_117 ?_
          refine js_iald ((rc ((tr k)))) rfl (jl_od hB _ (by omega)) (htk.2.2 _ htr).2.1 (by decide) ((hod _ (by omega) _ (htk.2.2 _ htr).2.1)) dX6_judged_118 ?_
          refine js_istore (L' := [some (.ref 0), some (.int (nI k)), some (.int (nI (li k))), some (.int (nI (tr k))), some (.int (nI (mi k))), some (.int (nI (od (li k) ((rc ((tr k)))))))]) dX6_judged_119 rfl (Nat.le_of_ble_eq_true rfl) ?_
          refine js_iload dX6_judged_121 rfl ?_
          refine js_iconst (v := nI 5) dX6_judged_123 (by decide) ?_
          refine jn_icmp_lt 131 (by omega) (by omega) dX6_judged_124 (by decide) (fun _ => ?_) (fun h9 => absurd h9 (by omega))
          refine js_iconst (v := nI 0) dX6_judged_131 (by decide) ?_
          exact jj_refl
        · refine ⟨5, by omega, by omega, ?_⟩
          refine jj_mkI RX6 .int (by decide) rfl (L := [some (.ref 0), some (.int (nI k)), none, none, none, none]) rfl rfl rfl ⟨132, [some (.ref 0), some (.int (nI k)), some (.int (nI (li k))), some (.int (nI (tr k))), some (.int (nI (mi k))), some (.int (nI (od (li k) ((rc ((tr k)))))))], dX6_judged_132, ?_⟩
          refine js_aload_n 0 rfl dX6_judged_0 rfl ?_
          refine js_getr 3 jw_f_RX6_33 (jl_0 hB) rfl (Nat.le_of_ble_eq_true rfl) rfl dX6_judged_1 ?_
          refine js_getNr 1 jw_n_RX6_249 (jl_35 hB) rfl (Nat.le_of_ble_eq_true rfl) rfl dX6_judged_4 ?_
          refine js_iload_n 1 rfl dX6_judged_7 rfl ?_
          refine js_iald k rfl (jl_36 hB) (by omega) (by decide) ((hlg.2.2 k (by omega)).1) dX6_judged_8 ?_
          refine js_istore_n (L' := [some (.ref 0), some (.int (nI k)), some (.int (nI (li k))), none, none, none]) 2 rfl dX6_judged_9 rfl (Nat.le_of_ble_eq_true rfl) ?_
          refine js_aload_n 0 rfl dX6_judged_10 rfl ?_
          refine js_getr 3 jw_f_RX6_33 (jl_0 hB) rfl (Nat.le_of_ble_eq_true rfl) rfl dX6_judged_11 ?_
          refine js_getNr 2 jw_n_RX6_252 (jl_35 hB) rfl (Nat.le_of_ble_eq_true rfl) rfl dX6_judged_14 ?_
          refine js_iload_n 1 rfl dX6_judged_17 rfl ?_
          refine js_iald k rfl (jl_37 hB) (by omega) (by decide) ((hlg.2.2 k (by omega)).2.1) dX6_judged_18 ?_
          refine js_istore_n (L' := [some (.ref 0), some (.int (nI k)), some (.int (nI (li k))), some (.int (nI (tr k))), none, none]) 3 rfl dX6_judged_19 rfl (Nat.le_of_ble_eq_true rfl) ?_
          refine js_aload_n 0 rfl dX6_judged_20 rfl ?_
          refine js_getr 3 jw_f_RX6_33 (jl_0 hB) rfl (Nat.le_of_ble_eq_true rfl) rfl dX6_judged_21 ?_
          refine js_getNr 3 jw_n_RX6_255 (jl_35 hB) rfl (Nat.le_of_ble_eq_true rfl) rfl dX6_judged_24 ?_
          refine js_iload_n 1 rfl dX6_judged_27 rfl ?_
          refine js_iald k rfl (jl_38 hB) (by omega) (by decide) ((hlg.2.2 k (by omega)).2.2.1) dX6_judged_28 ?_
          refine js_istore (L' := [some (.ref 0), some (.int (nI k)), some (.int (nI (li k))), some (.int (nI (tr k))), some (.int (nI (mi k))), none]) dX6_judged_29 rfl (Nat.le_of_ble_eq_true rfl) ?_
          refine js_aload_n 0 rfl dX6_judged_31 rfl ?_
          refine js_getr 3 jw_f_RX6_33 (jl_0 hB) rfl (Nat.le_of_ble_eq_true rfl) rfl dX6_judged_32 ?_
          refine js_getNr 4 jw_n_RX6_258 (jl_35 hB) rfl (Nat.le_of_ble_eq_true rfl) rfl dX6_judged_35 ?_
          refine js_iload_n 1 rfl dX6_judged_38 rfl ?_
          refine js_iald k rfl (jl_39 hB) (by omega) (by decide) ((hlg.2.2 k (by omega)).2.2.2.1) dX6_judged_39 ?_
          refine js_bipush (v := nI 30) dX6_judged_40 (by decide) ?_
          refine js_icmp_ge 47 dX6_judged_42 (by decide) (fun _ => ?_) (fun h9 => absurd h9 (fun q => q hc0))
          refine js_aload_n 0 rfl dX6_judged_47 rfl ?_
          refine js_getr 0 jw_f_RX6_12 (jl_0 hB) rfl (Nat.le_of_ble_eq_true rfl) rfl dX6_judged_48 ?_
          refine js_iload_n 3 rfl dX6_judged_51 rfl ?_
          refine js_aload_n 0 rfl dX6_judged_52 rfl ?_
          refine js_getr 2 jw_f_RX6_26 (jl_0 hB) rfl (Nat.le_of_ble_eq_true rfl) rfl dX6_judged_53 ?_
          refine js_getNr 1 jw_n_RX6_169 (jl_20 hB) rfl (Nat.le_of_ble_eq_true rfl) rfl dX6_judged_56 ?_
          refine js_iload_n 2 rfl dX6_judged_59 rfl ?_
          refine js_iald ((li k)) rfl (jl_21 hB) (by omega) (by decide) ((hau.2.2.1 _ hli).1) dX6_judged_60 ?_
          refine js_iload dX6_judged_61 rfl ?_
          refine js_callVN (av := [.int (nI (tr k)), .int (nI (ld ((li k)))), .int (nI (mi k))]) (st := []) (b := 1) hct (Or.inl rfl) jw_c_X2_isAllowed jw_i_RX2 jw_h_RX6_172 jw_s_X2_isAllowed jw_e_X2_isAllowed (jl_1 hB) rfl jw_y_X2_isAllowed rfl ⟨(Nat.le_of_ble_eq_true rfl), (Nat.le_of_ble_eq_true rfl), (Nat.le_refl _), (Nat.le_refl _), (Nat.le_of_ble_eq_true rfl)⟩ dX6_judged_63 ?_
          refine js_st (st' := [.int (nI q)]) rfl ?_
          refine jn_if_ne 71 (by omega) dX6_judged_66 (by decide) (fun _ => ?_) (fun h9 => absurd h9 (by omega))
          refine js_aload_n 0 rfl dX6_judged_71 rfl ?_
          refine js_getr 0 jw_f_RX6_12 (jl_0 hB) rfl (Nat.le_of_ble_eq_true rfl) rfl dX6_judged_72 ?_
          refine js_iload_n 3 rfl dX6_judged_75 rfl ?_
          refine js_iload dX6_judged_76 rfl ?_
          refine js_callVN (av := [.int (nI (tr k)), .int (nI (mi k))]) (st := []) (b := 1) (ct_X2_isDownIn hB htk htr) (Or.inl rfl) jw_c_X2_isDownIn jw_i_RX2 jw_h_RX6_385 jw_s_X2_isDownIn jw_e_X2_isDownIn (jl_1 hB) rfl jw_y_X2_isDownIn rfl ⟨(Nat.le_of_ble_eq_true rfl), (Nat.le_of_ble_eq_true rfl), (Nat.le_refl _), (Nat.le_refl _), (Nat.le_of_ble_eq_true rfl)⟩ dX6_judged_78 ?_
          refine js_st (st' := [.int (nI 0)]) rfl ?_
          refine jn_if_eq 86 (by omega) dX6_judged_81 (by decide) (fun _ => ?_) (fun h9 => absurd h9 (by omega))
          refine js_aload_n 0 rfl dX6_judged_86 rfl ?_
          refine js_getr 2 jw_f_RX6_26 (jl_0 hB) rfl (Nat.le_of_ble_eq_true rfl) rfl dX6_judged_87 ?_
          refine js_getNr 3 jw_n_RX6_159 (jl_20 hB) rfl (Nat.le_of_ble_eq_true rfl) rfl dX6_judged_90 ?_
          refine js_iload_n 2 rfl dX6_judged_93 rfl ?_
          refine js_zald ((li k)) rfl (jl_23 hB) (by omega) (by decide) ((hfl _ hli).1) dX6_judged_94 ?_
          refine jn_if_eq 100 (by omega) dX6_judged_95 (by decide) (fun _ => ?_) (fun h9 => absurd h9 (by omega))
          refine js_aload_n 0 rfl dX6_judged_100 rfl ?_
          refine js_getr 4 jw_f_RX6_40 (jl_0 hB) rfl (Nat.le_of_ble_eq_true rfl) rfl dX6_judged_101 ?_
          refine js_getNr 2 jw_n_RX6_388 (jl_42 hB) rfl (Nat.le_of_ble_eq_true rfl) rfl dX6_judged_104 ?_
          refine js_iload_n 2 rfl dX6_judged_107 rfl ?_
          refine js_aald ((li k)) rfl (jl_61 hB) (by omega) (by decide) (jr_od _ (by omega)) dX6_judged_108 ?_
          refine js_aload_n 0 rfl dX6_judged_109 rfl ?_
          refine js_getr 0 jw_f_RX6_12 (jl_0 hB) rfl (Nat.le_of_ble_eq_true rfl) rfl dX6_judged_110 ?_
          refine js_getNr 1 jw_n_RX6_214 (jl_1 hB) rfl (Nat.le_of_ble_eq_true rfl) rfl dX6_judged_113 ?_
          refine js_iload_n 3 rfl dX6_judged_116 rfl ?_
          refine js_iald ((tr k)) rfl (jl_2 hB) (by omega) (by decide) ((htk.2.2 _ htr).1) dX6_judged_117 ?_
          refine js_iald ((rc ((tr k)))) rfl (jl_od hB _ (by omega)) (htk.2.2 _ htr).2.1 (by decide) ((hod _ (by omega) _ (htk.2.2 _ htr).2.1)) dX6_judged_118 ?_
          refine js_istore (L' := [some (.ref 0), some (.int (nI k)), some (.int (nI (li k))), some (.int (nI (tr k))), some (.int (nI (mi k))), some (.int (nI (od (li k) ((rc ((tr k)))))))]) dX6_judged_119 rfl (Nat.le_of_ble_eq_true rfl) ?_
          refine js_iload dX6_judged_121 rfl ?_
          refine js_iconst (v := nI 5) dX6_judged_123 (by decide) ?_
          refine jn_icmp_lt 131 (by omega) (by omega) dX6_judged_124 (by decide) (fun h9 => absurd h9 (by omega)) (fun _ => ?_)
          refine js_iconst (v := nI 5) dX6_judged_127 (by decide) ?_
          refine js_goto 132 dX6_judged_128 (by decide) ?_
          exact jj_refl
      · refine ⟨4, by omega, by omega, ?_⟩
        refine jj_mkI RX6 .int (by decide) rfl (L := [some (.ref 0), some (.int (nI k)), none, none, none, none]) rfl rfl rfl ⟨99, [some (.ref 0), some (.int (nI k)), some (.int (nI (li k))), some (.int (nI (tr k))), some (.int (nI (mi k))), none], dX6_judged_99, ?_⟩
        refine js_aload_n 0 rfl dX6_judged_0 rfl ?_
        refine js_getr 3 jw_f_RX6_33 (jl_0 hB) rfl (Nat.le_of_ble_eq_true rfl) rfl dX6_judged_1 ?_
        refine js_getNr 1 jw_n_RX6_249 (jl_35 hB) rfl (Nat.le_of_ble_eq_true rfl) rfl dX6_judged_4 ?_
        refine js_iload_n 1 rfl dX6_judged_7 rfl ?_
        refine js_iald k rfl (jl_36 hB) (by omega) (by decide) ((hlg.2.2 k (by omega)).1) dX6_judged_8 ?_
        refine js_istore_n (L' := [some (.ref 0), some (.int (nI k)), some (.int (nI (li k))), none, none, none]) 2 rfl dX6_judged_9 rfl (Nat.le_of_ble_eq_true rfl) ?_
        refine js_aload_n 0 rfl dX6_judged_10 rfl ?_
        refine js_getr 3 jw_f_RX6_33 (jl_0 hB) rfl (Nat.le_of_ble_eq_true rfl) rfl dX6_judged_11 ?_
        refine js_getNr 2 jw_n_RX6_252 (jl_35 hB) rfl (Nat.le_of_ble_eq_true rfl) rfl dX6_judged_14 ?_
        refine js_iload_n 1 rfl dX6_judged_17 rfl ?_
        refine js_iald k rfl (jl_37 hB) (by omega) (by decide) ((hlg.2.2 k (by omega)).2.1) dX6_judged_18 ?_
        refine js_istore_n (L' := [some (.ref 0), some (.int (nI k)), some (.int (nI (li k))), some (.int (nI (tr k))), none, none]) 3 rfl dX6_judged_19 rfl (Nat.le_of_ble_eq_true rfl) ?_
        refine js_aload_n 0 rfl dX6_judged_20 rfl ?_
        refine js_getr 3 jw_f_RX6_33 (jl_0 hB) rfl (Nat.le_of_ble_eq_true rfl) rfl dX6_judged_21 ?_
        refine js_getNr 3 jw_n_RX6_255 (jl_35 hB) rfl (Nat.le_of_ble_eq_true rfl) rfl dX6_judged_24 ?_
        refine js_iload_n 1 rfl dX6_judged_27 rfl ?_
        refine js_iald k rfl (jl_38 hB) (by omega) (by decide) ((hlg.2.2 k (by omega)).2.2.1) dX6_judged_28 ?_
        refine js_istore (L' := [some (.ref 0), some (.int (nI k)), some (.int (nI (li k))), some (.int (nI (tr k))), some (.int (nI (mi k))), none]) dX6_judged_29 rfl (Nat.le_of_ble_eq_true rfl) ?_
        refine js_aload_n 0 rfl dX6_judged_31 rfl ?_
        refine js_getr 3 jw_f_RX6_33 (jl_0 hB) rfl (Nat.le_of_ble_eq_true rfl) rfl dX6_judged_32 ?_
        refine js_getNr 4 jw_n_RX6_258 (jl_35 hB) rfl (Nat.le_of_ble_eq_true rfl) rfl dX6_judged_35 ?_
        refine js_iload_n 1 rfl dX6_judged_38 rfl ?_
        refine js_iald k rfl (jl_39 hB) (by omega) (by decide) ((hlg.2.2 k (by omega)).2.2.2.1) dX6_judged_39 ?_
        refine js_bipush (v := nI 30) dX6_judged_40 (by decide) ?_
        refine js_icmp_ge 47 dX6_judged_42 (by decide) (fun _ => ?_) (fun h9 => absurd h9 (fun q => q hc0))
        refine js_aload_n 0 rfl dX6_judged_47 rfl ?_
        refine js_getr 0 jw_f_RX6_12 (jl_0 hB) rfl (Nat.le_of_ble_eq_true rfl) rfl dX6_judged_48 ?_
        refine js_iload_n 3 rfl dX6_judged_51 rfl ?_
        refine js_aload_n 0 rfl dX6_judged_52 rfl ?_
        refine js_getr 2 jw_f_RX6_26 (jl_0 hB) rfl (Nat.le_of_ble_eq_true rfl) rfl dX6_judged_53 ?_
        refine js_getNr 1 jw_n_RX6_169 (jl_20 hB) rfl (Nat.le_of_ble_eq_true rfl) rfl dX6_judged_56 ?_
        refine js_iload_n 2 rfl dX6_judged_59 rfl ?_
        refine js_iald ((li k)) rfl (jl_21 hB) (by omega) (by decide) ((hau.2.2.1 _ hli).1) dX6_judged_60 ?_
        refine js_iload dX6_judged_61 rfl ?_
        refine js_callVN (av := [.int (nI (tr k)), .int (nI (ld ((li k)))), .int (nI (mi k))]) (st := []) (b := 1) hct (Or.inl rfl) jw_c_X2_isAllowed jw_i_RX2 jw_h_RX6_172 jw_s_X2_isAllowed jw_e_X2_isAllowed (jl_1 hB) rfl jw_y_X2_isAllowed rfl ⟨(Nat.le_of_ble_eq_true rfl), (Nat.le_of_ble_eq_true rfl), (Nat.le_refl _), (Nat.le_refl _), (Nat.le_of_ble_eq_true rfl)⟩ dX6_judged_63 ?_
        refine js_st (st' := [.int (nI q)]) rfl ?_
        refine jn_if_ne 71 (by omega) dX6_judged_66 (by decide) (fun _ => ?_) (fun h9 => absurd h9 (by omega))
        refine js_aload_n 0 rfl dX6_judged_71 rfl ?_
        refine js_getr 0 jw_f_RX6_12 (jl_0 hB) rfl (Nat.le_of_ble_eq_true rfl) rfl dX6_judged_72 ?_
        refine js_iload_n 3 rfl dX6_judged_75 rfl ?_
        refine js_iload dX6_judged_76 rfl ?_
        refine js_callVN (av := [.int (nI (tr k)), .int (nI (mi k))]) (st := []) (b := 1) (ct_X2_isDownIn hB htk htr) (Or.inl rfl) jw_c_X2_isDownIn jw_i_RX2 jw_h_RX6_385 jw_s_X2_isDownIn jw_e_X2_isDownIn (jl_1 hB) rfl jw_y_X2_isDownIn rfl ⟨(Nat.le_of_ble_eq_true rfl), (Nat.le_of_ble_eq_true rfl), (Nat.le_refl _), (Nat.le_refl _), (Nat.le_of_ble_eq_true rfl)⟩ dX6_judged_78 ?_
        refine js_st (st' := [.int (nI 0)]) rfl ?_
        refine jn_if_eq 86 (by omega) dX6_judged_81 (by decide) (fun _ => ?_) (fun h9 => absurd h9 (by omega))
        refine js_aload_n 0 rfl dX6_judged_86 rfl ?_
        refine js_getr 2 jw_f_RX6_26 (jl_0 hB) rfl (Nat.le_of_ble_eq_true rfl) rfl dX6_judged_87 ?_
        refine js_getNr 3 jw_n_RX6_159 (jl_20 hB) rfl (Nat.le_of_ble_eq_true rfl) rfl dX6_judged_90 ?_
        refine js_iload_n 2 rfl dX6_judged_93 rfl ?_
        refine js_zald ((li k)) rfl (jl_23 hB) (by omega) (by decide) ((hfl _ hli).1) dX6_judged_94 ?_
        refine jn_if_eq 100 (by omega) dX6_judged_95 (by decide) (fun h9 => absurd h9 (by omega)) (fun _ => ?_)
        refine js_iconst (v := nI 4) dX6_judged_98 (by decide) ?_
        exact jj_refl
  · refine ⟨1, by omega, by omega, ?_⟩
    refine jj_mkI RX6 .int (by decide) rfl (L := [some (.ref 0), some (.int (nI k)), none, none, none, none]) rfl rfl rfl ⟨46, [some (.ref 0), some (.int (nI k)), some (.int (nI (li k))), some (.int (nI (tr k))), some (.int (nI (mi k))), none], dX6_judged_46, ?_⟩
    refine js_aload_n 0 rfl dX6_judged_0 rfl ?_
    refine js_getr 3 jw_f_RX6_33 (jl_0 hB) rfl (Nat.le_of_ble_eq_true rfl) rfl dX6_judged_1 ?_
    refine js_getNr 1 jw_n_RX6_249 (jl_35 hB) rfl (Nat.le_of_ble_eq_true rfl) rfl dX6_judged_4 ?_
    refine js_iload_n 1 rfl dX6_judged_7 rfl ?_
    refine js_iald k rfl (jl_36 hB) (by omega) (by decide) ((hlg.2.2 k (by omega)).1) dX6_judged_8 ?_
    refine js_istore_n (L' := [some (.ref 0), some (.int (nI k)), some (.int (nI (li k))), none, none, none]) 2 rfl dX6_judged_9 rfl (Nat.le_of_ble_eq_true rfl) ?_
    refine js_aload_n 0 rfl dX6_judged_10 rfl ?_
    refine js_getr 3 jw_f_RX6_33 (jl_0 hB) rfl (Nat.le_of_ble_eq_true rfl) rfl dX6_judged_11 ?_
    refine js_getNr 2 jw_n_RX6_252 (jl_35 hB) rfl (Nat.le_of_ble_eq_true rfl) rfl dX6_judged_14 ?_
    refine js_iload_n 1 rfl dX6_judged_17 rfl ?_
    refine js_iald k rfl (jl_37 hB) (by omega) (by decide) ((hlg.2.2 k (by omega)).2.1) dX6_judged_18 ?_
    refine js_istore_n (L' := [some (.ref 0), some (.int (nI k)), some (.int (nI (li k))), some (.int (nI (tr k))), none, none]) 3 rfl dX6_judged_19 rfl (Nat.le_of_ble_eq_true rfl) ?_
    refine js_aload_n 0 rfl dX6_judged_20 rfl ?_
    refine js_getr 3 jw_f_RX6_33 (jl_0 hB) rfl (Nat.le_of_ble_eq_true rfl) rfl dX6_judged_21 ?_
    refine js_getNr 3 jw_n_RX6_255 (jl_35 hB) rfl (Nat.le_of_ble_eq_true rfl) rfl dX6_judged_24 ?_
    refine js_iload_n 1 rfl dX6_judged_27 rfl ?_
    refine js_iald k rfl (jl_38 hB) (by omega) (by decide) ((hlg.2.2 k (by omega)).2.2.1) dX6_judged_28 ?_
    refine js_istore (L' := [some (.ref 0), some (.int (nI k)), some (.int (nI (li k))), some (.int (nI (tr k))), some (.int (nI (mi k))), none]) dX6_judged_29 rfl (Nat.le_of_ble_eq_true rfl) ?_
    refine js_aload_n 0 rfl dX6_judged_31 rfl ?_
    refine js_getr 3 jw_f_RX6_33 (jl_0 hB) rfl (Nat.le_of_ble_eq_true rfl) rfl dX6_judged_32 ?_
    refine js_getNr 4 jw_n_RX6_258 (jl_35 hB) rfl (Nat.le_of_ble_eq_true rfl) rfl dX6_judged_35 ?_
    refine js_iload_n 1 rfl dX6_judged_38 rfl ?_
    refine js_iald k rfl (jl_39 hB) (by omega) (by decide) ((hlg.2.2 k (by omega)).2.2.2.1) dX6_judged_39 ?_
    refine js_bipush (v := nI 30) dX6_judged_40 (by decide) ?_
    refine js_icmp_ge 47 dX6_judged_42 (by decide) (fun h9 => absurd h9 hc0) (fun _ => ?_)
    refine js_iconst (v := nI 1) dX6_judged_45 (by decide) ?_
    exact jj_refl
end
section
/-! JUDGING ALL PLAYS. -/
set_option maxRecDepth 100000 in
set_option maxHeartbeats 4000000 in
theorem jA_sc {lay : jj_Lay} {S : jj_Mem} (hB : jj_pp lay) {n e t : Nat} {li tr mi rs : Nat → Nat} {se : Nat → Int32} (hlg : jj_lg S n li tr mi rs se) (hnow : S 0 9 = some (nI t)) (ht : t < 2 ^ 31) (he : e < n) (hmi : mi e < 2 ^ 31) (hc : mi e / 14400 < t / 14400) : jj_R cX6_judgePlays 6 RX6 yX6_judgePlays.name none 3 68 lay.length (jj_sl lay) (11, [some (.ref 0), some (.int (nI (mi e / 1440))), some (.int (nI e)), none, none, none], [], lay, S) (81, [some (.ref 0), some (.int (nI (mi e / 1440))), some (.int (nI e)), some (.int (nI e)), some (.int (nI (mi e))), some (.int (nI 0))], [], lay, S) := by
  have h130 := hlg.1
  refine js_iload_n 2 rfl dX6_judgePlays_11 rfl ?_
  refine js_aload_n 0 rfl dX6_judgePlays_12 rfl ?_
  refine js_getr 3 jw_f_RX6_33 (jl_0 hB) rfl (Nat.le_of_ble_eq_true rfl) rfl dX6_judgePlays_13 ?_
  refine js_getNi 0 jw_n_RX6_194 (jl_35 hB) rfl (Nat.le_of_ble_eq_true rfl) rfl (hlg.2.1) dX6_judgePlays_16 ?_
  refine jn_icmp_ge 153 (by omega) (by omega) dX6_judgePlays_19 (by decide) (fun h9 => absurd h9 (by omega)) (fun _ => ?_)
  refine js_aload_n 0 rfl dX6_judgePlays_22 rfl ?_
  refine js_getr 3 jw_f_RX6_33 (jl_0 hB) rfl (Nat.le_of_ble_eq_true rfl) rfl dX6_judgePlays_23 ?_
  refine js_getNr 6 jw_n_RX6_370 (jl_35 hB) rfl (Nat.le_of_ble_eq_true rfl) rfl dX6_judgePlays_26 ?_
  refine js_iload_n 2 rfl dX6_judgePlays_29 rfl ?_
  refine js_iald e rfl (jl_41 hB) (by omega) (by decide) ((hlg.2.2 e (by omega)).2.2.2.2.2) dX6_judgePlays_30 ?_
  refine js_istore_n (L' := [some (.ref 0), some (.int (nI (mi e / 1440))), some (.int (nI e)), some (.int (nI e)), none, none]) 3 rfl dX6_judgePlays_31 rfl (Nat.le_of_ble_eq_true rfl) ?_
  refine js_aload_n 0 rfl dX6_judgePlays_32 rfl ?_
  refine js_getr 3 jw_f_RX6_33 (jl_0 hB) rfl (Nat.le_of_ble_eq_true rfl) rfl dX6_judgePlays_33 ?_
  refine js_getNr 3 jw_n_RX6_255 (jl_35 hB) rfl (Nat.le_of_ble_eq_true rfl) rfl dX6_judgePlays_36 ?_
  refine js_iload_n 3 rfl dX6_judgePlays_39 rfl ?_
  refine js_iald e rfl (jl_38 hB) (by omega) (by decide) ((hlg.2.2 e (by omega)).2.2.1) dX6_judgePlays_40 ?_
  refine js_istore (L' := [some (.ref 0), some (.int (nI (mi e / 1440))), some (.int (nI e)), some (.int (nI e)), some (.int (nI (mi e))), none]) dX6_judgePlays_41 rfl (Nat.le_of_ble_eq_true rfl) ?_
  refine js_aload_n 0 rfl dX6_judgePlays_43 rfl ?_
  refine js_iload dX6_judgePlays_44 rfl ?_
  refine js_callV (av := [.int (nI (mi e))]) (st := []) (b := 0) (ct_X6_isClosed hB hmi ht hnow) (Or.inl rfl) jw_c_X6_isClosed jw_i_RX6 jw_m_RX6_187 jw_s_X6_isClosed jw_e_X6_isClosed (jl_0 hB) rfl jw_y_X6_isClosed rfl ⟨(Nat.le_of_ble_eq_true rfl), (Nat.le_of_ble_eq_true rfl), (Nat.le_refl _), (Nat.le_refl _), (Nat.le_of_ble_eq_true rfl)⟩ dX6_judgePlays_46 ?_
  refine js_st (st' := [.int (nI (jj_b (decide (mi e / 14400 < t / 14400))))]) rfl ?_
  refine js_top (y := nI 1) (by simp [jj_b, hc]) ?_
  refine jn_if_ne 56 (by omega) dX6_judgePlays_49 (by decide) (fun _ => ?_) (fun h9 => absurd h9 (by omega))
  refine js_iconst (v := nI 0) dX6_judgePlays_56 (by decide) ?_
  refine js_istore (L' := [some (.ref 0), some (.int (nI (mi e / 1440))), some (.int (nI e)), some (.int (nI e)), some (.int (nI (mi e))), some (.int (nI 0))]) dX6_judgePlays_57 rfl (Nat.le_of_ble_eq_true rfl) ?_
  refine js_iload_n 1 rfl dX6_judgePlays_59 rfl ?_
  refine js_iload dX6_judgePlays_60 rfl ?_
  refine js_callS (av := [.int (nI (mi e))]) (st := [.int (nI (mi e / 1440))]) (ct_X6_dayOf hmi) (Or.inl rfl) jw_c_X6_dayOf jw_i_RX6 jw_m_RX6_373 jw_s_X6_dayOf jw_y_X6_dayOf rfl ⟨(Nat.le_of_ble_eq_true rfl), (Nat.le_of_ble_eq_true rfl), (Nat.le_refl _), (Nat.le_refl _), (Nat.le_of_ble_eq_true rfl)⟩ dX6_judgePlays_62 ?_
  refine js_st (st' := [.int (nI (mi e / 1440)), .int (nI (mi e / 1440))]) rfl ?_
  refine jn_icmp_eq 81 (by omega) (by omega) dX6_judgePlays_65 (by decide) (fun _ => ?_) (fun h9 => absurd h9 (by omega))
  exact jj_refl
set_option maxRecDepth 100000 in
set_option maxHeartbeats 4000000 in
theorem jA_so {lay : jj_Lay} {S : jj_Mem} (hB : jj_pp lay) {n e t : Nat} {li tr mi rs : Nat → Nat} {se : Nat → Int32} (hlg : jj_lg S n li tr mi rs se) (hnow : S 0 9 = some (nI t)) (ht : t < 2 ^ 31) (he : e < n) (hmi : mi e < 2 ^ 31) (hc : ¬ mi e / 14400 < t / 14400) : jj_R cX6_judgePlays 6 RX6 yX6_judgePlays.name none 3 68 lay.length (jj_sl lay) (11, [some (.ref 0), some (.int (nI (mi e / 1440))), some (.int (nI e)), none, none, none], [], lay, S) (81, [some (.ref 0), some (.int (nI (mi e / 1440))), some (.int (nI e)), some (.int (nI e)), some (.int (nI (mi e))), some (.int (nI 1))], [], lay, S) := by
  have h130 := hlg.1
  refine js_iload_n 2 rfl dX6_judgePlays_11 rfl ?_
  refine js_aload_n 0 rfl dX6_judgePlays_12 rfl ?_
  refine js_getr 3 jw_f_RX6_33 (jl_0 hB) rfl (Nat.le_of_ble_eq_true rfl) rfl dX6_judgePlays_13 ?_
  refine js_getNi 0 jw_n_RX6_194 (jl_35 hB) rfl (Nat.le_of_ble_eq_true rfl) rfl (hlg.2.1) dX6_judgePlays_16 ?_
  refine jn_icmp_ge 153 (by omega) (by omega) dX6_judgePlays_19 (by decide) (fun h9 => absurd h9 (by omega)) (fun _ => ?_)
  refine js_aload_n 0 rfl dX6_judgePlays_22 rfl ?_
  refine js_getr 3 jw_f_RX6_33 (jl_0 hB) rfl (Nat.le_of_ble_eq_true rfl) rfl dX6_judgePlays_23 ?_
  refine js_getNr 6 jw_n_RX6_370 (jl_35 hB) rfl (Nat.le_of_ble_eq_true rfl) rfl dX6_judgePlays_26 ?_
  refine js_iload_n 2 rfl dX6_judgePlays_29 rfl ?_
  refine js_iald e rfl (jl_41 hB) (by omega) (by decide) ((hlg.2.2 e (by omega)).2.2.2.2.2) dX6_judgePlays_30 ?_
  refine js_istore_n (L' := [some (.ref 0), some (.int (nI (mi e / 1440))), some (.int (nI e)), some (.int (nI e)), none, none]) 3 rfl dX6_judgePlays_31 rfl (Nat.le_of_ble_eq_true rfl) ?_
  refine js_aload_n 0 rfl dX6_judgePlays_32 rfl ?_
  refine js_getr 3 jw_f_RX6_33 (jl_0 hB) rfl (Nat.le_of_ble_eq_true rfl) rfl dX6_judgePlays_33 ?_
  refine js_getNr 3 jw_n_RX6_255 (jl_35 hB) rfl (Nat.le_of_ble_eq_true rfl) rfl dX6_judgePlays_36 ?_
  refine js_iload_n 3 rfl dX6_judgePlays_39 rfl ?_
  refine js_iald e rfl (jl_38 hB) (by omega) (by decide) ((hlg.2.2 e (by omega)).2.2.1) dX6_judgePlays_40 ?_
  refine js_istore (L' := [some (.ref 0), some (.int (nI (mi e / 1440))), some (.int (nI e)), some (.int (nI e)), some (.int (nI (mi e))), none]) dX6_judgePlays_41 rfl (Nat.le_of_ble_eq_true rfl) ?_
  refine js_aload_n 0 rfl dX6_judgePlays_43 rfl ?_
  refine js_iload dX6_judgePlays_44 rfl ?_
  refine js_callV (av := [.int (nI (mi e))]) (st := []) (b := 0) (ct_X6_isClosed hB hmi ht hnow) (Or.inl rfl) jw_c_X6_isClosed jw_i_RX6 jw_m_RX6_187 jw_s_X6_isClosed jw_e_X6_isClosed (jl_0 hB) rfl jw_y_X6_isClosed rfl ⟨(Nat.le_of_ble_eq_true rfl), (Nat.le_of_ble_eq_true rfl), (Nat.le_refl _), (Nat.le_refl _), (Nat.le_of_ble_eq_true rfl)⟩ dX6_judgePlays_46 ?_
  refine js_st (st' := [.int (nI (jj_b (decide (mi e / 14400 < t / 14400))))]) rfl ?_
  refine js_top (y := nI 0) (by simp [jj_b, hc]) ?_
  refine jn_if_ne 56 (by omega) dX6_judgePlays_49 (by decide) (fun h9 => absurd h9 (by omega)) (fun _ => ?_)
  refine js_iconst (v := nI 1) dX6_judgePlays_52 (by decide) ?_
  refine js_goto 57 dX6_judgePlays_53 (by decide) ?_
  refine js_istore (L' := [some (.ref 0), some (.int (nI (mi e / 1440))), some (.int (nI e)), some (.int (nI e)), some (.int (nI (mi e))), some (.int (nI 1))]) dX6_judgePlays_57 rfl (Nat.le_of_ble_eq_true rfl) ?_
  refine js_iload_n 1 rfl dX6_judgePlays_59 rfl ?_
  refine js_iload dX6_judgePlays_60 rfl ?_
  refine js_callS (av := [.int (nI (mi e))]) (st := [.int (nI (mi e / 1440))]) (ct_X6_dayOf hmi) (Or.inl rfl) jw_c_X6_dayOf jw_i_RX6 jw_m_RX6_373 jw_s_X6_dayOf jw_y_X6_dayOf rfl ⟨(Nat.le_of_ble_eq_true rfl), (Nat.le_of_ble_eq_true rfl), (Nat.le_refl _), (Nat.le_refl _), (Nat.le_of_ble_eq_true rfl)⟩ dX6_judgePlays_62 ?_
  refine js_st (st' := [.int (nI (mi e / 1440)), .int (nI (mi e / 1440))]) rfl ?_
  refine jn_icmp_eq 81 (by omega) (by omega) dX6_judgePlays_65 (by decide) (fun _ => ?_) (fun h9 => absurd h9 (by omega))
  exact jj_refl
set_option maxRecDepth 100000 in
set_option maxHeartbeats 4000000 in
theorem jA_nc {lay : jj_Lay} {S : jj_Mem} (hB : jj_pp lay) {n e t : Nat} {li tr mi rs : Nat → Nat} {se : Nat → Int32} (hlg : jj_lg S n li tr mi rs se) (hnow : S 0 9 = some (nI t)) (ht : t < 2 ^ 31) (he : e < n) (hmi : mi e < 2 ^ 31) {dv : Int32} (hd : ¬ dv = nI (mi e / 1440)) (hc : mi e / 14400 < t / 14400) : jj_R cX6_judgePlays 6 RX6 yX6_judgePlays.name none 3 68 lay.length (jj_sl lay) (11, [some (.ref 0), some (.int dv), some (.int (nI e)), none, none, none], [], lay, S) (81, [some (.ref 0), some (.int (nI (mi e / 1440))), some (.int (nI e)), some (.int (nI e)), some (.int (nI (mi e))), some (.int (nI 0))], [], lay, (jj_cl S 61 8)) := by
  have h130 := hlg.1
  refine js_iload_n 2 rfl dX6_judgePlays_11 rfl ?_
  refine js_aload_n 0 rfl dX6_judgePlays_12 rfl ?_
  refine js_getr 3 jw_f_RX6_33 (jl_0 hB) rfl (Nat.le_of_ble_eq_true rfl) rfl dX6_judgePlays_13 ?_
  refine js_getNi 0 jw_n_RX6_194 (jl_35 hB) rfl (Nat.le_of_ble_eq_true rfl) rfl (hlg.2.1) dX6_judgePlays_16 ?_
  refine jn_icmp_ge 153 (by omega) (by omega) dX6_judgePlays_19 (by decide) (fun h9 => absurd h9 (by omega)) (fun _ => ?_)
  refine js_aload_n 0 rfl dX6_judgePlays_22 rfl ?_
  refine js_getr 3 jw_f_RX6_33 (jl_0 hB) rfl (Nat.le_of_ble_eq_true rfl) rfl dX6_judgePlays_23 ?_
  refine js_getNr 6 jw_n_RX6_370 (jl_35 hB) rfl (Nat.le_of_ble_eq_true rfl) rfl dX6_judgePlays_26 ?_
  refine js_iload_n 2 rfl dX6_judgePlays_29 rfl ?_
  refine js_iald e rfl (jl_41 hB) (by omega) (by decide) ((hlg.2.2 e (by omega)).2.2.2.2.2) dX6_judgePlays_30 ?_
  refine js_istore_n (L' := [some (.ref 0), some (.int dv), some (.int (nI e)), some (.int (nI e)), none, none]) 3 rfl dX6_judgePlays_31 rfl (Nat.le_of_ble_eq_true rfl) ?_
  refine js_aload_n 0 rfl dX6_judgePlays_32 rfl ?_
  refine js_getr 3 jw_f_RX6_33 (jl_0 hB) rfl (Nat.le_of_ble_eq_true rfl) rfl dX6_judgePlays_33 ?_
  refine js_getNr 3 jw_n_RX6_255 (jl_35 hB) rfl (Nat.le_of_ble_eq_true rfl) rfl dX6_judgePlays_36 ?_
  refine js_iload_n 3 rfl dX6_judgePlays_39 rfl ?_
  refine js_iald e rfl (jl_38 hB) (by omega) (by decide) ((hlg.2.2 e (by omega)).2.2.1) dX6_judgePlays_40 ?_
  refine js_istore (L' := [some (.ref 0), some (.int dv), some (.int (nI e)), some (.int (nI e)), some (.int (nI (mi e))), none]) dX6_judgePlays_41 rfl (Nat.le_of_ble_eq_true rfl) ?_
  refine js_aload_n 0 rfl dX6_judgePlays_43 rfl ?_
  refine js_iload dX6_judgePlays_44 rfl ?_
  refine js_callV (av := [.int (nI (mi e))]) (st := []) (b := 0) (ct_X6_isClosed hB hmi ht hnow) (Or.inl rfl) jw_c_X6_isClosed jw_i_RX6 jw_m_RX6_187 jw_s_X6_isClosed jw_e_X6_isClosed (jl_0 hB) rfl jw_y_X6_isClosed rfl ⟨(Nat.le_of_ble_eq_true rfl), (Nat.le_of_ble_eq_true rfl), (Nat.le_refl _), (Nat.le_refl _), (Nat.le_of_ble_eq_true rfl)⟩ dX6_judgePlays_46 ?_
  refine js_st (st' := [.int (nI (jj_b (decide (mi e / 14400 < t / 14400))))]) rfl ?_
  refine js_top (y := nI 1) (by simp [jj_b, hc]) ?_
  refine jn_if_ne 56 (by omega) dX6_judgePlays_49 (by decide) (fun _ => ?_) (fun h9 => absurd h9 (by omega))
  refine js_iconst (v := nI 0) dX6_judgePlays_56 (by decide) ?_
  refine js_istore (L' := [some (.ref 0), some (.int dv), some (.int (nI e)), some (.int (nI e)), some (.int (nI (mi e))), some (.int (nI 0))]) dX6_judgePlays_57 rfl (Nat.le_of_ble_eq_true rfl) ?_
  refine js_iload_n 1 rfl dX6_judgePlays_59 rfl ?_
  refine js_iload dX6_judgePlays_60 rfl ?_
  refine js_callS (av := [.int (nI (mi e))]) (st := [.int dv]) (ct_X6_dayOf hmi) (Or.inl rfl) jw_c_X6_dayOf jw_i_RX6 jw_m_RX6_373 jw_s_X6_dayOf jw_y_X6_dayOf rfl ⟨(Nat.le_of_ble_eq_true rfl), (Nat.le_of_ble_eq_true rfl), (Nat.le_refl _), (Nat.le_refl _), (Nat.le_of_ble_eq_true rfl)⟩ dX6_judgePlays_62 ?_
  refine js_st (st' := [.int (nI (mi e / 1440)), .int dv]) rfl ?_
  refine js_icmp_eq 81 dX6_judgePlays_65 (by decide) (fun h9 => absurd h9 hd) (fun _ => ?_)
  refine js_iload dX6_judgePlays_68 rfl ?_
  refine js_callS (av := [.int (nI (mi e))]) (st := []) (ct_X6_dayOf hmi) (Or.inl rfl) jw_c_X6_dayOf jw_i_RX6 jw_m_RX6_373 jw_s_X6_dayOf jw_y_X6_dayOf rfl ⟨(Nat.le_of_ble_eq_true rfl), (Nat.le_of_ble_eq_true rfl), (Nat.le_refl _), (Nat.le_refl _), (Nat.le_of_ble_eq_true rfl)⟩ dX6_judgePlays_70 ?_
  refine js_st (st' := [.int (nI (mi e / 1440))]) rfl ?_
  refine js_istore_n (L' := [some (.ref 0), some (.int (nI (mi e / 1440))), some (.int (nI e)), some (.int (nI e)), some (.int (nI (mi e))), some (.int (nI 0))]) 1 rfl dX6_judgePlays_73 rfl (Nat.le_of_ble_eq_true rfl) ?_
  refine js_aload_n 0 rfl dX6_judgePlays_74 rfl ?_
  refine js_getr 4 jw_f_RX6_40 (jl_0 hB) rfl (Nat.le_of_ble_eq_true rfl) rfl dX6_judgePlays_75 ?_
  refine js_callVN (av := []) (st := []) (b := 42) (ct_X3_startDay hB) (Or.inl rfl) jw_c_X3_startDay jw_i_RX3 jw_h_RX6_376 jw_s_X3_startDay jw_e_X3_startDay (jl_42 hB) rfl jw_y_X3_startDay rfl ⟨(Nat.le_of_ble_eq_true rfl), (Nat.le_of_ble_eq_true rfl), (Nat.le_refl _), (Nat.le_refl _), (Nat.le_of_ble_eq_true rfl)⟩ dX6_judgePlays_78 ?_
  refine js_st (st' := []) rfl ?_
  exact jj_refl
set_option maxRecDepth 100000 in
set_option maxHeartbeats 4000000 in
theorem jA_no {lay : jj_Lay} {S : jj_Mem} (hB : jj_pp lay) {n e t : Nat} {li tr mi rs : Nat → Nat} {se : Nat → Int32} (hlg : jj_lg S n li tr mi rs se) (hnow : S 0 9 = some (nI t)) (ht : t < 2 ^ 31) (he : e < n) (hmi : mi e < 2 ^ 31) {dv : Int32} (hd : ¬ dv = nI (mi e / 1440)) (hc : ¬ mi e / 14400 < t / 14400) : jj_R cX6_judgePlays 6 RX6 yX6_judgePlays.name none 3 68 lay.length (jj_sl lay) (11, [some (.ref 0), some (.int dv), some (.int (nI e)), none, none, none], [], lay, S) (81, [some (.ref 0), some (.int (nI (mi e / 1440))), some (.int (nI e)), some (.int (nI e)), some (.int (nI (mi e))), some (.int (nI 1))], [], lay, (jj_cl S 61 8)) := by
  have h130 := hlg.1
  refine js_iload_n 2 rfl dX6_judgePlays_11 rfl ?_
  refine js_aload_n 0 rfl dX6_judgePlays_12 rfl ?_
  refine js_getr 3 jw_f_RX6_33 (jl_0 hB) rfl (Nat.le_of_ble_eq_true rfl) rfl dX6_judgePlays_13 ?_
  refine js_getNi 0 jw_n_RX6_194 (jl_35 hB) rfl (Nat.le_of_ble_eq_true rfl) rfl (hlg.2.1) dX6_judgePlays_16 ?_
  refine jn_icmp_ge 153 (by omega) (by omega) dX6_judgePlays_19 (by decide) (fun h9 => absurd h9 (by omega)) (fun _ => ?_)
  refine js_aload_n 0 rfl dX6_judgePlays_22 rfl ?_
  refine js_getr 3 jw_f_RX6_33 (jl_0 hB) rfl (Nat.le_of_ble_eq_true rfl) rfl dX6_judgePlays_23 ?_
  refine js_getNr 6 jw_n_RX6_370 (jl_35 hB) rfl (Nat.le_of_ble_eq_true rfl) rfl dX6_judgePlays_26 ?_
  refine js_iload_n 2 rfl dX6_judgePlays_29 rfl ?_
  refine js_iald e rfl (jl_41 hB) (by omega) (by decide) ((hlg.2.2 e (by omega)).2.2.2.2.2) dX6_judgePlays_30 ?_
  refine js_istore_n (L' := [some (.ref 0), some (.int dv), some (.int (nI e)), some (.int (nI e)), none, none]) 3 rfl dX6_judgePlays_31 rfl (Nat.le_of_ble_eq_true rfl) ?_
  refine js_aload_n 0 rfl dX6_judgePlays_32 rfl ?_
  refine js_getr 3 jw_f_RX6_33 (jl_0 hB) rfl (Nat.le_of_ble_eq_true rfl) rfl dX6_judgePlays_33 ?_
  refine js_getNr 3 jw_n_RX6_255 (jl_35 hB) rfl (Nat.le_of_ble_eq_true rfl) rfl dX6_judgePlays_36 ?_
  refine js_iload_n 3 rfl dX6_judgePlays_39 rfl ?_
  refine js_iald e rfl (jl_38 hB) (by omega) (by decide) ((hlg.2.2 e (by omega)).2.2.1) dX6_judgePlays_40 ?_
  refine js_istore (L' := [some (.ref 0), some (.int dv), some (.int (nI e)), some (.int (nI e)), some (.int (nI (mi e))), none]) dX6_judgePlays_41 rfl (Nat.le_of_ble_eq_true rfl) ?_
  refine js_aload_n 0 rfl dX6_judgePlays_43 rfl ?_
  refine js_iload dX6_judgePlays_44 rfl ?_
  refine js_callV (av := [.int (nI (mi e))]) (st := []) (b := 0) (ct_X6_isClosed hB hmi ht hnow) (Or.inl rfl) jw_c_X6_isClosed jw_i_RX6 jw_m_RX6_187 jw_s_X6_isClosed jw_e_X6_isClosed (jl_0 hB) rfl jw_y_X6_isClosed rfl ⟨(Nat.le_of_ble_eq_true rfl), (Nat.le_of_ble_eq_true rfl), (Nat.le_refl _), (Nat.le_refl _), (Nat.le_of_ble_eq_true rfl)⟩ dX6_judgePlays_46 ?_
  refine js_st (st' := [.int (nI (jj_b (decide (mi e / 14400 < t / 14400))))]) rfl ?_
  refine js_top (y := nI 0) (by simp [jj_b, hc]) ?_
  refine jn_if_ne 56 (by omega) dX6_judgePlays_49 (by decide) (fun h9 => absurd h9 (by omega)) (fun _ => ?_)
  refine js_iconst (v := nI 1) dX6_judgePlays_52 (by decide) ?_
  refine js_goto 57 dX6_judgePlays_53 (by decide) ?_
  refine js_istore (L' := [some (.ref 0), some (.int dv), some (.int (nI e)), some (.int (nI e)), some (.int (nI (mi e))), some (.int (nI 1))]) dX6_judgePlays_57 rfl (Nat.le_of_ble_eq_true rfl) ?_
  refine js_iload_n 1 rfl dX6_judgePlays_59 rfl ?_
  refine js_iload dX6_judgePlays_60 rfl ?_
  refine js_callS (av := [.int (nI (mi e))]) (st := [.int dv]) (ct_X6_dayOf hmi) (Or.inl rfl) jw_c_X6_dayOf jw_i_RX6 jw_m_RX6_373 jw_s_X6_dayOf jw_y_X6_dayOf rfl ⟨(Nat.le_of_ble_eq_true rfl), (Nat.le_of_ble_eq_true rfl), (Nat.le_refl _), (Nat.le_refl _), (Nat.le_of_ble_eq_true rfl)⟩ dX6_judgePlays_62 ?_
  refine js_st (st' := [.int (nI (mi e / 1440)), .int dv]) rfl ?_
  refine js_icmp_eq 81 dX6_judgePlays_65 (by decide) (fun h9 => absurd h9 hd) (fun _ => ?_)
  refine js_iload dX6_judgePlays_68 rfl ?_
  refine js_callS (av := [.int (nI (mi e))]) (st := []) (ct_X6_dayOf hmi) (Or.inl rfl) jw_c_X6_dayOf jw_i_RX6 jw_m_RX6_373 jw_s_X6_dayOf jw_y_X6_dayOf rfl ⟨(Nat.le_of_ble_eq_true rfl), (Nat.le_of_ble_eq_true rfl), (Nat.le_refl _), (Nat.le_refl _), (Nat.le_of_ble_eq_true rfl)⟩ dX6_judgePlays_70 ?_
  refine js_st (st' := [.int (nI (mi e / 1440))]) rfl ?_
  refine js_istore_n (L' := [some (.ref 0), some (.int (nI (mi e / 1440))), some (.int (nI e)), some (.int (nI e)), some (.int (nI (mi e))), some (.int (nI 1))]) 1 rfl dX6_judgePlays_73 rfl (Nat.le_of_ble_eq_true rfl) ?_
  refine js_aload_n 0 rfl dX6_judgePlays_74 rfl ?_
  refine js_getr 4 jw_f_RX6_40 (jl_0 hB) rfl (Nat.le_of_ble_eq_true rfl) rfl dX6_judgePlays_75 ?_
  refine js_callVN (av := []) (st := []) (b := 42) (ct_X3_startDay hB) (Or.inl rfl) jw_c_X3_startDay jw_i_RX3 jw_h_RX6_376 jw_s_X3_startDay jw_e_X3_startDay (jl_42 hB) rfl jw_y_X3_startDay rfl ⟨(Nat.le_of_ble_eq_true rfl), (Nat.le_of_ble_eq_true rfl), (Nat.le_refl _), (Nat.le_refl _), (Nat.le_of_ble_eq_true rfl)⟩ dX6_judgePlays_78 ?_
  refine js_st (st' := []) rfl ?_
  exact jj_refl
theorem jA {lay : jj_Lay} {S : jj_Mem} (hB : jj_pp lay) {n e t : Nat} {li tr mi rs : Nat → Nat} {se : Nat → Int32} (hlg : jj_lg S n li tr mi rs se) (hnow : S 0 9 = some (nI t)) (ht : t < 2 ^ 31) (he : e < n) (hmi : mi e < 2 ^ 31) {dv : Int32} {o : Nat} (ho : o = if mi e / 14400 < t / 14400 then 0 else 1) : jj_R cX6_judgePlays 6 RX6 yX6_judgePlays.name none 3 68 lay.length (jj_sl lay) (11, [some (.ref 0), some (.int dv), some (.int (nI e)), none, none, none], [], lay, S) (81, [some (.ref 0), some (.int (nI (mi e / 1440))), some (.int (nI e)), some (.int (nI e)), some (.int (nI (mi e))), some (.int (nI o))], [], lay, (if dv = nI (mi e / 1440) then S else jj_cl S 61 8)) := by
  by_cases hd : dv = nI (mi e / 1440)
  · rw [if_pos hd, hd]
    by_cases hc : mi e / 14400 < t / 14400
    · rw [if_pos hc] at ho; rw [ho]; exact jA_sc hB hlg hnow ht he hmi hc
    · rw [if_neg hc] at ho; rw [ho]; exact jA_so hB hlg hnow ht he hmi hc
  · rw [if_neg hd]
    by_cases hc : mi e / 14400 < t / 14400
    · rw [if_pos hc] at ho; rw [ho]; exact jA_nc hB hlg hnow ht he hmi hd hc
    · rw [if_neg hc] at ho; rw [ho]; exact jA_no hB hlg hnow ht he hmi hd hc
set_option maxRecDepth 100000 in
set_option maxHeartbeats 4000000 in
theorem jB_0 {lay : jj_Lay} {S : jj_Mem} {e : Nat} {mi : Nat → Nat} : jj_R cX6_judgePlays 6 RX6 yX6_judgePlays.name none 3 68 lay.length (jj_sl lay) (81, [some (.ref 0), some (.int (nI (mi e / 1440))), some (.int (nI e)), some (.int (nI e)), some (.int (nI (mi e))), some (.int (nI 0))], [], lay, S) (100, [some (.ref 0), some (.int (nI (mi e / 1440))), some (.int (nI e)), some (.int (nI e)), some (.int (nI (mi e))), some (.int (nI 0))], [], lay, S) := by
  refine js_iload dX6_judgePlays_81 rfl ?_
  refine jn_if_eq 100 (by omega) dX6_judgePlays_83 (by decide) (fun _ => ?_) (fun h9 => absurd h9 (by omega))
  exact jj_refl
set_option maxRecDepth 100000 in
set_option maxHeartbeats 4000000 in
theorem jB_1 {lay : jj_Lay} {S : jj_Mem} (hB : jj_pp lay) {n e ρ : Nat} {mi : Nat → Nat} (hn : n ≤ 130) (he : e < n) (hct : jj_CT yX6_judged (.code yX6_judged cX6_judged 6 (some .int)) none 2 43 [.ref 0, .int (nI e)] lay S (some (.int (nI ρ))) lay S) : jj_R cX6_judgePlays 6 RX6 yX6_judgePlays.name none 3 68 lay.length (jj_sl lay) (81, [some (.ref 0), some (.int (nI (mi e / 1440))), some (.int (nI e)), some (.int (nI e)), some (.int (nI (mi e))), some (.int (nI 1))], [], lay, S) (100, [some (.ref 0), some (.int (nI (mi e / 1440))), some (.int (nI e)), some (.int (nI e)), some (.int (nI (mi e))), some (.int (nI 1))], [], lay, (jj_w S 40 e (nI ρ))) := by
  refine js_iload dX6_judgePlays_81 rfl ?_
  refine jn_if_eq 100 (by omega) dX6_judgePlays_83 (by decide) (fun h9 => absurd h9 (by omega)) (fun _ => ?_)
  refine js_aload_n 0 rfl dX6_judgePlays_86 rfl ?_
  refine js_getr 3 jw_f_RX6_33 (jl_0 hB) rfl (Nat.le_of_ble_eq_true rfl) rfl dX6_judgePlays_87 ?_
  refine js_getNr 5 jw_n_RX6_200 (jl_35 hB) rfl (Nat.le_of_ble_eq_true rfl) rfl dX6_judgePlays_90 ?_
  refine js_iload_n 3 rfl dX6_judgePlays_93 rfl ?_
  refine js_aload_n 0 rfl dX6_judgePlays_94 rfl ?_
  refine js_iload_n 3 rfl dX6_judgePlays_95 rfl ?_
  refine js_callV (av := [.int (nI e)]) (st := [.int (nI e), .ref 40]) (b := 0) hct (Or.inl rfl) jw_c_X6_judged jw_i_RX6 jw_m_RX6_379 jw_s_X6_judged jw_e_X6_judged (jl_0 hB) rfl jw_y_X6_judged rfl ⟨(Nat.le_of_ble_eq_true rfl), (Nat.le_of_ble_eq_true rfl), (Nat.le_refl _), (Nat.le_refl _), (Nat.le_of_ble_eq_true rfl)⟩ dX6_judgePlays_96 ?_
  refine js_st (st' := [.int (nI ρ), .int (nI e), .ref 40]) rfl ?_
  refine js_iast e rfl (jl_40 hB) (by omega) (by decide) dX6_judgePlays_99 ?_
  exact jj_refl
set_option maxRecDepth 100000 in
set_option maxHeartbeats 4000000 in
theorem jC_n {lay : jj_Lay} {S : jj_Mem} (hB : jj_pp lay) {n e o : Nat} {li tr mi rs : Nat → Nat} {se : Nat → Int32} (hlg : jj_lg S n li tr mi rs se) (he : e < n) (hr : rs e < 2 ^ 31) (hz : ¬ rs e = 0) : jj_R cX6_judgePlays 6 RX6 yX6_judgePlays.name none 3 68 lay.length (jj_sl lay) (100, [some (.ref 0), some (.int (nI (mi e / 1440))), some (.int (nI e)), some (.int (nI e)), some (.int (nI (mi e))), some (.int (nI o))], [], lay, S) (11, [some (.ref 0), some (.int (nI (mi e / 1440))), some (.int (nI (e + 1))), none, none, none], [], lay, S) := by
  have h130 := hlg.1
  refine js_aload_n 0 rfl dX6_judgePlays_100 rfl ?_
  refine js_getr 3 jw_f_RX6_33 (jl_0 hB) rfl (Nat.le_of_ble_eq_true rfl) rfl dX6_judgePlays_101 ?_
  refine js_getNr 5 jw_n_RX6_200 (jl_35 hB) rfl (Nat.le_of_ble_eq_true rfl) rfl dX6_judgePlays_104 ?_
  refine js_iload_n 3 rfl dX6_judgePlays_107 rfl ?_
  refine js_iald e rfl (jl_40 hB) (by omega) (by decide) ((hlg.2.2 e (by omega)).2.2.2.2.1) dX6_judgePlays_108 ?_
  refine jn_if_ne 147 (by omega) dX6_judgePlays_109 (by decide) (fun _ => ?_) (fun h9 => absurd h9 (by omega))
  refine js_iinc (v := nI (e + 1)) (L' := [some (.ref 0), some (.int (nI (mi e / 1440))), some (.int (nI (e + 1))), some (.int (nI e)), some (.int (nI (mi e))), some (.int (nI o))]) dX6_judgePlays_147 rfl (jj_inc _) rfl ?_
  refine js_goto 11 dX6_judgePlays_150 (by decide) ?_
  refine js_fgL (L' := [some (.ref 0), some (.int (nI (mi e / 1440))), some (.int (nI (e + 1))), none, none, none]) (by simp [jj_le, jj_sm]) ?_
  exact jj_refl
set_option maxRecDepth 100000 in
set_option maxHeartbeats 4000000 in
theorem jC_y {lay : jj_Lay} {S S1 : jj_Mem} (hB : jj_pp lay) {n e o : Nat} {li tr mi rs : Nat → Nat} {se : Nat → Int32} (hlg : jj_lg S n li tr mi rs se) (he : e < n) (hr : rs e < 2 ^ 31) {nt : Nat} {rc : Nat → Nat} (htk : jj_tk S nt rc) (htr : tr e < nt) (hz : rs e = 0) (hct : jj_CT yX3_add (.code yX3_add cX3_add 4 none) none 0 0 [.ref 42, .int (nI (li e)), .int (nI (rc (tr e))), .int (nI o)] lay S none lay S1) : jj_R cX6_judgePlays 6 RX6 yX6_judgePlays.name none 3 68 lay.length (jj_sl lay) (100, [some (.ref 0), some (.int (nI (mi e / 1440))), some (.int (nI e)), some (.int (nI e)), some (.int (nI (mi e))), some (.int (nI o))], [], lay, S) (11, [some (.ref 0), some (.int (nI (mi e / 1440))), some (.int (nI (e + 1))), none, none, none], [], lay, S1) := by
  have h130 := hlg.1
  refine js_aload_n 0 rfl dX6_judgePlays_100 rfl ?_
  refine js_getr 3 jw_f_RX6_33 (jl_0 hB) rfl (Nat.le_of_ble_eq_true rfl) rfl dX6_judgePlays_101 ?_
  refine js_getNr 5 jw_n_RX6_200 (jl_35 hB) rfl (Nat.le_of_ble_eq_true rfl) rfl dX6_judgePlays_104 ?_
  refine js_iload_n 3 rfl dX6_judgePlays_107 rfl ?_
  refine js_iald e rfl (jl_40 hB) (by omega) (by decide) ((hlg.2.2 e (by omega)).2.2.2.2.1) dX6_judgePlays_108 ?_
  refine jn_if_ne 147 (by omega) dX6_judgePlays_109 (by decide) (fun h9 => absurd h9 (by omega)) (fun _ => ?_)
  refine js_aload_n 0 rfl dX6_judgePlays_112 rfl ?_
  refine js_getr 4 jw_f_RX6_40 (jl_0 hB) rfl (Nat.le_of_ble_eq_true rfl) rfl dX6_judgePlays_113 ?_
  refine js_aload_n 0 rfl dX6_judgePlays_116 rfl ?_
  refine js_getr 3 jw_f_RX6_33 (jl_0 hB) rfl (Nat.le_of_ble_eq_true rfl) rfl dX6_judgePlays_117 ?_
  refine js_getNr 1 jw_n_RX6_249 (jl_35 hB) rfl (Nat.le_of_ble_eq_true rfl) rfl dX6_judgePlays_120 ?_
  refine js_iload_n 3 rfl dX6_judgePlays_123 rfl ?_
  refine js_iald e rfl (jl_36 hB) (by omega) (by decide) ((hlg.2.2 e (by omega)).1) dX6_judgePlays_124 ?_
  refine js_aload_n 0 rfl dX6_judgePlays_125 rfl ?_
  refine js_getr 0 jw_f_RX6_12 (jl_0 hB) rfl (Nat.le_of_ble_eq_true rfl) rfl dX6_judgePlays_126 ?_
  refine js_getNr 1 jw_n_RX6_214 (jl_1 hB) rfl (Nat.le_of_ble_eq_true rfl) rfl dX6_judgePlays_129 ?_
  refine js_aload_n 0 rfl dX6_judgePlays_132 rfl ?_
  refine js_getr 3 jw_f_RX6_33 (jl_0 hB) rfl (Nat.le_of_ble_eq_true rfl) rfl dX6_judgePlays_133 ?_
  refine js_getNr 2 jw_n_RX6_252 (jl_35 hB) rfl (Nat.le_of_ble_eq_true rfl) rfl dX6_judgePlays_136 ?_
  refine js_iload_n 3 rfl dX6_judgePlays_139 rfl ?_
  refine js_iald e rfl (jl_37 hB) (by omega) (by decide) ((hlg.2.2 e (by omega)).2.1) dX6_judgePlays_140 ?_
  refine js_iald ((tr e)) rfl (jl_2 hB) (by have := htk.1; omega) (by decide) ((htk.2.2 _ htr).1) dX6_judgePlays_141 ?_
  refine js_iload dX6_judgePlays_142 rfl ?_
  refine js_callVN (av := [.int (nI (li e)), .int (nI (rc ((tr e)))), .int (nI o)]) (st := []) (b := 42) hct (Or.inl rfl) jw_c_X3_add jw_i_RX3 jw_h_RX6_382 jw_s_X3_add jw_e_X3_add (jl_42 hB) rfl jw_y_X3_add rfl ⟨(Nat.le_of_ble_eq_true rfl), (Nat.le_of_ble_eq_true rfl), (Nat.le_refl _), (Nat.le_refl _), (Nat.le_of_ble_eq_true rfl)⟩ dX6_judgePlays_144 ?_
  refine js_st (st' := []) rfl ?_
  refine js_iinc (v := nI (e + 1)) (L' := [some (.ref 0), some (.int (nI (mi e / 1440))), some (.int (nI (e + 1))), some (.int (nI e)), some (.int (nI (mi e))), some (.int (nI o))]) dX6_judgePlays_147 rfl (jj_inc _) rfl ?_
  refine js_goto 11 dX6_judgePlays_150 (by decide) ?_
  refine js_fgL (L' := [some (.ref 0), some (.int (nI (mi e / 1440))), some (.int (nI (e + 1))), none, none, none]) (by simp [jj_le, jj_sm]) ?_
  exact jj_refl
theorem jj_lg_rs {S : jj_Mem} {n e y : Nat} {li tr mi rs : Nat → Nat} {se : Nat → Int32} (h : jj_lg S n li tr mi rs se) : jj_lg (jj_w S 40 e (nI y)) n li tr mi (jj_up rs e y) se :=
  ⟨h.1, (jj_w_neP (by omega)).trans h.2.1, fun k hk => by
    obtain ⟨h1, h2, h3, h4, h5, h6⟩ := h.2.2 k hk
    refine ⟨(jj_w_neP (by omega)).trans h1, (jj_w_neP (by omega)).trans h2, (jj_w_neP (by omega)).trans h3, (jj_w_neP (by omega)).trans h4, ?_, (jj_w_neP (by omega)).trans h6⟩
    unfold jj_w jj_up
    by_cases c : k = e
    · rw [if_pos ⟨rfl, c⟩, if_pos c]
    · rw [if_neg (fun w => c w.2), if_neg c]; exact h5⟩
theorem jj_um_sm {f : Nat → Nat → Nat} {l u : Nat} (hl : l < 8) (hu : u < 10) : jj_sm (fun a => jj_sm (jj_um f l u (f l u + 1) a) 10) 8 = jj_sm (fun a => jj_sm (f a) 10) 8 + 1 := by
  have h1 : (fun a => jj_sm (jj_um f l u (f l u + 1) a) 10) = jj_up (fun a => jj_sm (f a) 10) l (jj_sm (f l) 10 + 1) := by
    funext a
    unfold jj_up
    by_cases c : a = l
    · rw [if_pos c, c]
      have h2 := jj_sm_up (f := f l) (i := u) (x := f l u + 1) (n := 10) hu
      have h3 : jj_um f l u (f l u + 1) l = jj_up (f l) u (f l u + 1) := by
        funext b
        unfold jj_um jj_up
        by_cases d : b = u
        · rw [if_pos ⟨rfl, d⟩, if_pos d]
        · rw [if_neg (fun w => d w.2), if_neg d]
      rw [h3]
      omega
    · rw [if_neg c]
      refine jj_sm_congr (fun b hb => ?_)
      unfold jj_um
      rw [if_neg (fun w => c w.1)]
  rw [h1]
  have h4 := jj_sm_up (f := fun a => jj_sm (f a) 10) (i := l) (x := jj_sm (f l) 10 + 1) (n := 8) hl
  omega
set_option maxRecDepth 100000 in
set_option maxHeartbeats 4000000 in
theorem lp_X6_judgePlays {lay : jj_Lay} (hB : jj_pp lay) {n t cnt nt wn : Nat} {li tr mi rs0 rc ld pl fl : Nat → Nat} {se w0 w1 w2 w3 : Nat → Int32} (ht : t < 100000) (hn9 : n ≤ 130) (hli : ∀ k, k < n → li k < cnt) (htr : ∀ k, k < n → tr k < nt) (hmt : ∀ k, k < n → mi k ≤ t) (hmo : ∀ a b, a ≤ b → b < n → mi a ≤ mi b) (hold : ∀ l u d, d / 10 < t / 14400 → jj_ct (jj_pd li tr mi rs0 rc l u d) n ≤ 5) : ∀ (k e : Nat), e + k = n → ∀ (S : jj_Mem) (rs : Nat → Nat) (ev im od : Nat → Nat → Nat) (dv : Int32), jj_lg S n li tr mi rs se → jj_tk S nt rc → jj_wi S wn w0 w1 w2 w3 → jj_au S cnt ld pl → (∀ j, j < cnt → S 23 j = some (nI (fl j)) ∧ fl j ≤ 1) → S 0 9 = some (nI t) → jj_rw8 S 44 ev → jj_rw8 S 53 im → jj_rw8 S 62 od → (∀ l, l < 8 → ∀ u, u < 10 → ev l u ≤ e) → jj_sm (fun l => jj_sm (im l) 10) 8 ≤ e → (e = 0 ∧ dv = -1 ∨ 0 < e ∧ dv = nI (mi (e - 1) / 1440) ∧ ∀ l, l < 8 → ∀ u, u < 10 → od l u = jj_ct (jj_pd li tr mi rs rc l u (mi (e - 1) / 1440)) e) → (∀ l u d, jj_ct (jj_pd li tr mi rs rc l u d) e ≤ 5) → (∀ j, j < n → mi j / 14400 < t / 14400 → rs j = rs0 j ∧ rs j ≤ 5) → (∀ j, j < e → rs j ≤ 5) →
    ∃ (rs' : Nat → Nat) (ev' im' od' : Nat → Nat → Nat) (S' : jj_Mem), jj_RR cX6_judgePlays 6 RX6 yX6_judgePlays.name none 3 68 lay.length (jj_sl lay) (11, [some (.ref 0), some (.int dv), some (.int (nI e)), none, none, none], [], lay, S) none .return_ lay S' ∧ jj_lg S' n li tr mi rs' se ∧ jj_rw8 S' 44 ev' ∧ jj_rw8 S' 53 im' ∧ jj_rw8 S' 62 od' ∧ (∀ l, l < 8 → ∀ u, u < 10 → ev' l u ≤ n) ∧ jj_sm (fun l => jj_sm (im' l) 10) 8 ≤ n ∧ (∀ l u d, jj_ct (jj_pd li tr mi rs' rc l u d) n ≤ 5) ∧ (∀ j, j < n → mi j / 14400 < t / 14400 → rs' j = rs0 j) ∧ (∀ j, j < n → rs' j ≤ 5) ∧ (∀ p, p ≠ 40 → p < 44 ∨ (51 < p ∧ p < 53) ∨ (60 < p ∧ p < 62) ∨ 69 < p → ∀ j, S' p j = S p j) ∧ (∀ j, n ≤ j → S' 40 j = S 40 j) := by
  intro k
  induction k with
  | zero =>
    intro e he S rs ev im od dv hlg htk hwi hau hfl hnow hev him hod i1 i2 i3 i4 i5 i6
    have he : e = n := by omega
    subst he
    refine ⟨rs, ev, im, od, S, ⟨153, [some (.ref 0), some (.int dv), some (.int (nI e)), none, none, none], dX6_judgePlays_153, ?_⟩, hlg, hev, him, hod, i1, i2, i4, fun j hj hc => (i5 j hj hc).1, i6, fun _ _ _ _ => rfl, fun _ _ => rfl⟩
    refine js_iload_n 2 rfl dX6_judgePlays_11 rfl ?_
    refine js_aload_n 0 rfl dX6_judgePlays_12 rfl ?_
    refine js_getr 3 jw_f_RX6_33 (jl_0 hB) rfl (Nat.le_of_ble_eq_true rfl) rfl dX6_judgePlays_13 ?_
    refine js_getNi 0 jw_n_RX6_194 (jl_35 hB) rfl (Nat.le_of_ble_eq_true rfl) rfl (hlg.2.1) dX6_judgePlays_16 ?_
    refine jn_icmp_ge 153 (by omega) (by omega) dX6_judgePlays_19 (by decide) (fun _ => ?_) (fun h9 => absurd h9 (by omega))
    exact jj_refl
  | succ k ih =>
    intro e he S rs ev im od dv hlg htk hwi hau hfl hnow hev him hod i1 i2 i3 i4 i5 i6
    have hen : e < n := by omega
    have hme := hmt e hen
    have hc8 := hau.1
    have hle := hli e hen
    have hte := htr e hen
    have hrc := (htk.2.2 _ hte).2.1
    obtain ⟨o, ho⟩ : ∃ o : Nat, o = if mi e / 14400 < t / 14400 then 0 else 1 := ⟨_, rfl⟩
    have hA := jA (lay := lay) (S := S) (dv := dv) hB hlg hnow (by omega) hen (by omega) ho
    obtain ⟨S1, hS1⟩ : ∃ S1, S1 = if dv = nI (mi e / 1440) then S else jj_cl S 61 8 := ⟨_, rfl⟩
    rw [← hS1] at hA
    have f1 : ∀ p, p < 62 ∨ 69 < p → ∀ j, S1 p j = S p j := fun p hp j => by
      rw [hS1]
      by_cases c : dv = nI (mi e / 1440)
      · rw [if_pos c]
      · rw [if_neg c]; exact jj_cl_out (by omega)
    have hod1 : ∃ od1, jj_rw8 S1 62 od1 ∧ ∀ l, l < 8 → ∀ u, u < 10 → od1 l u = jj_ct (jj_pd li tr mi rs rc l u (mi e / 1440)) e := by
      by_cases c : dv = nI (mi e / 1440)
      · refine ⟨od, by rw [hS1, if_pos c]; exact hod, ?_⟩
        rcases i3 with ⟨_, q⟩ | ⟨q0, q1, q2⟩
        · rw [q] at c
          exact absurd c (by
            intro w
            have h9 := nI_pos (n := mi e / 1440) (by omega)
            rw [← w] at h9
            exact h9 (by decide))
        · rw [q1] at c
          have h9 := (nI_eq (by have := hmt (e - 1) (by omega); omega) (by omega)).mp c
          rw [← h9]
          exact q2
      · refine ⟨fun _ _ => 0, by rw [hS1, if_neg c]; exact jj_cl_rw, fun l _ u _ => (jj_ct_none (fun j hj => ?_)).symm⟩
        rcases i3 with ⟨q, _⟩ | ⟨q0, q1, q2⟩
        · omega
        · have h9 : ¬ mi (e - 1) / 1440 = mi e / 1440 := fun w => c (by rw [q1, w])
          have h10 := hmo (e - 1) e (by omega) hen
          have h11 := hmo j (e - 1) (by omega) (by omega)
          unfold jj_pd
          exact decide_eq_false (fun w => by
            have h12 := w.2.2.2
            have h13 : mi j / 1440 ≤ mi (e - 1) / 1440 := Nat.div_le_div_right h11
            have h14 : mi (e - 1) / 1440 ≤ mi e / 1440 := Nat.div_le_div_right h10
            omega)
    obtain ⟨od1, hod1, hod2⟩ := hod1
    have hlg1 := jj_lg_mono hlg (fun p h1 h2 j => f1 p (by omega) j)
    have htk1 := jj_tk_mono htk (fun p h1 h2 j => f1 p (by omega) j)
    have hwi1 := jj_wi_mono hwi (fun p h1 h2 j => f1 p (by omega) j)
    have hau1 : jj_au S1 cnt ld pl := ⟨hau.1, (f1 20 (by omega) 0).trans hau.2.1, fun j hj => ⟨(f1 21 (by omega) j).trans (hau.2.2.1 j hj).1, (hau.2.2.1 j hj).2⟩, fun j hj => ⟨(f1 22 (by omega) j).trans (hau.2.2.2 j hj).1, (hau.2.2.2 j hj).2⟩⟩
    have hfl1 : ∀ j, j < cnt → S1 23 j = some (nI (fl j)) ∧ fl j ≤ 1 := fun j hj => ⟨(f1 23 (by omega) j).trans (hfl j hj).1, (hfl j hj).2⟩
    have hnow1 := (f1 0 (by omega) 9).trans hnow
    have hev1 := jj_rw8_mono hev (fun p h1 h2 j => f1 p (by omega) j)
    have him1 := jj_rw8_mono him (fun p h1 h2 j => f1 p (by omega) j)
    -- the reason
    have hBs : ∃ (ρ : Nat) (S2 : jj_Mem), jj_R cX6_judgePlays 6 RX6 yX6_judgePlays.name none 3 68 lay.length (jj_sl lay) (81, [some (.ref 0), some (.int (nI (mi e / 1440))), some (.int (nI e)), some (.int (nI e)), some (.int (nI (mi e))), some (.int (nI o))], [], lay, S1) (100, [some (.ref 0), some (.int (nI (mi e / 1440))), some (.int (nI e)), some (.int (nI e)), some (.int (nI (mi e))), some (.int (nI o))], [], lay, S2) ∧ jj_lg S2 n li tr mi (jj_up rs e ρ) se ∧ (∀ p, p ≠ 40 → ∀ j, S2 p j = S1 p j) ∧ ρ ≤ 5 ∧ (mi e / 14400 < t / 14400 → ρ = rs e) ∧ (¬ mi e / 14400 < t / 14400 → ρ = 0 → od1 (li e) (rc (tr e)) < 5) ∧ (∀ j, n ≤ j → S2 40 j = S1 40 j) := by
      by_cases hc : mi e / 14400 < t / 14400
      · rw [if_pos hc] at ho
        rw [ho]
        have h9 : jj_up rs e (rs e) = rs := funext fun j => by
          unfold jj_up
          by_cases c : j = e
          · rw [if_pos c, c]
          · rw [if_neg c]
        exact ⟨rs e, S1, jB_0, by rw [h9]; exact hlg1, fun _ _ _ => rfl, (i5 e hen hc).2, fun _ => rfl, fun h => absurd hc h, fun _ _ => rfl⟩
      · rw [if_neg hc] at ho
        rw [ho]
        obtain ⟨ρ, q1, q2, hct⟩ := ct_X6_judged (lay := lay) (S := S1) hB hlg1 htk1 hwi1 hau1 hfl1 hod1 hen hle hte (by rw [hod2 _ (by omega) _ hrc]; have := i4 (li e) (rc (tr e)) (mi e / 1440); omega)
        exact ⟨ρ, _, jB_1 hB hn9 hen hct, jj_lg_rs hlg1, fun p hp j => jj_w_neP hp, q1, fun h => absurd h hc, fun _ => q2, fun j hj => jj_w_neI (by omega)⟩
    obtain ⟨ρ, S2, hR2, hlg2, f2, hρ5, hρc, hρo, f40⟩ := hBs
    have hups : ∀ l u d, jj_ct (jj_pd li tr mi (jj_up rs e ρ) rc l u d) e = jj_ct (jj_pd li tr mi rs rc l u d) e := fun l u d => jj_ct_congr (fun j hj => by
      unfold jj_pd
      rw [jj_up_ne rs (by omega)])
    have hrse : jj_up rs e ρ e = ρ := jj_up_at rs e ρ
    have i5' : ∀ j, j < n → mi j / 14400 < t / 14400 → jj_up rs e ρ j = rs0 j ∧ jj_up rs e ρ j ≤ 5 := fun j hj hc => by
      by_cases c : j = e
      · rw [c, hrse]
        rw [c] at hc
        rw [hρc hc]
        exact i5 e hen hc
      · rw [jj_up_ne rs c]; exact i5 j hj hc
    have i6' : ∀ j, j < e + 1 → jj_up rs e ρ j ≤ 5 := fun j hj => by
      by_cases c : j = e
      · rw [c, hrse]; exact hρ5
      · rw [jj_up_ne rs c]; exact i6 j (by omega)
    have hday : mi e / 1440 / 10 = mi e / 14400 := by omega
    have i4' : ∀ l u d, jj_ct (jj_pd li tr mi (jj_up rs e ρ) rc l u d) (e + 1) ≤ 5 := fun l u d => by
      show jj_ct _ e + jj_b (jj_pd li tr mi (jj_up rs e ρ) rc l u d e) ≤ 5
      rw [hups]
      have h9 := i4 l u d
      by_cases hp : jj_pd li tr mi (jj_up rs e ρ) rc l u d e = true
      · have hp2 := hp
        unfold jj_pd at hp2
        simp only [decide_eq_true_eq] at hp2
        obtain ⟨p1, p2, p3, p4⟩ := hp2
        rw [hrse] at p1
        by_cases hc : mi e / 14400 < t / 14400
        · have h10 : jj_ct (jj_pd li tr mi (jj_up rs e ρ) rc l u d) (e + 1) ≤ jj_ct (jj_pd li tr mi rs0 rc l u d) n := by
            refine Nat.le_trans (Nat.le_of_eq (jj_ct_congr (fun j hj => ?_))) (jj_ct_mono (show e + 1 ≤ n by omega))
            by_cases hj2 : mi j / 1440 = d
            · have h12 := i5' j (by omega) (by omega)
              unfold jj_pd
              rw [h12.1]
            · unfold jj_pd
              rw [decide_eq_false (fun w => hj2 w.2.2.2), decide_eq_false (fun w => hj2 w.2.2.2)]
          have h11 := hold l u d (by omega)
          have h12 : jj_ct (jj_pd li tr mi (jj_up rs e ρ) rc l u d) (e + 1) = jj_ct (jj_pd li tr mi (jj_up rs e ρ) rc l u d) e + jj_b (jj_pd li tr mi (jj_up rs e ρ) rc l u d e) := rfl
          rw [hups] at h12
          omega
        · have h10 := hρo hc p1
          rw [hod2 _ (by omega) _ hrc] at h10
          rw [p2, p3, p4] at h10
          rw [hp]
          show _ + 1 ≤ 5
          omega
      · rw [Bool.not_eq_true] at hp
        rw [hp]
        exact h9
    have hnow2 := (f2 0 (by omega) 9).trans hnow1
    have htk2 := jj_tk_mono htk1 (fun p h1 h2 j => f2 p (by omega) j)
    have hwi2 := jj_wi_mono hwi1 (fun p h1 h2 j => f2 p (by omega) j)
    have hau2 : jj_au S2 cnt ld pl := ⟨hau.1, (f2 20 (by omega) 0).trans hau1.2.1, fun j hj => ⟨(f2 21 (by omega) j).trans (hau1.2.2.1 j hj).1, (hau.2.2.1 j hj).2⟩, fun j hj => ⟨(f2 22 (by omega) j).trans (hau1.2.2.2 j hj).1, (hau.2.2.2 j hj).2⟩⟩
    have hfl2 : ∀ j, j < cnt → S2 23 j = some (nI (fl j)) ∧ fl j ≤ 1 := fun j hj => ⟨(f2 23 (by omega) j).trans (hfl1 j hj).1, (hfl j hj).2⟩
    have hev2 := jj_rw8_mono hev1 (fun p h1 h2 j => f2 p (by omega) j)
    have him2 := jj_rw8_mono him1 (fun p h1 h2 j => f2 p (by omega) j)
    have hod3 := jj_rw8_mono hod1 (fun p h1 h2 j => f2 p (by omega) j)
    have f12 : ∀ p, p ≠ 40 → p < 44 ∨ (51 < p ∧ p < 53) ∨ (60 < p ∧ p < 62) ∨ 69 < p → ∀ j, S2 p j = S p j := fun p h40 hp j => (f2 p h40 j).trans (f1 p (by omega) j)
    have hce : ∀ l u, jj_ct (jj_pd li tr mi (jj_up rs e ρ) rc l u (mi e / 1440)) (e + 1) = jj_ct (jj_pd li tr mi rs rc l u (mi e / 1440)) e + jj_b (jj_pd li tr mi (jj_up rs e ρ) rc l u (mi e / 1440) e) := fun l u => by
      rw [← hups]; rfl
    by_cases hz : ρ = 0
    · have hor : o ≤ 1 := by rw [ho]; split <;> omega
      obtain ⟨S3, hct, g1, g2, g3, g4⟩ := ct_X3_add (lay := lay) (S := S2) hB (l := li e) (u := rc (tr e)) (o := o) (by omega) hrc hor hev2 him2 hod3
      have hR3 := jC_y (lay := lay) (S := S2) hB hlg2 hen (by rw [hrse]; omega) htk2 hte (by rw [hrse]; exact hz) hct
      have f13 : ∀ p, p ≠ 40 → p < 44 ∨ (51 < p ∧ p < 53) ∨ (60 < p ∧ p < 62) ∨ 69 < p → ∀ j, S3 p j = S p j := fun p h40 hp j => (g4 p hp j).trans (f12 p h40 hp j)
      have him3 : jj_sm (fun l => jj_sm ((if o = 1 then jj_um im (li e) (rc (tr e)) (im (li e) (rc (tr e)) + 1) else im) l) 10) 8 ≤ e + 1 := by
        by_cases c : o = 1
        · rw [if_pos c, jj_um_sm (by omega) hrc]; omega
        · rw [if_neg c]; omega
      have hau3 : jj_au S3 cnt ld pl := ⟨hau.1, (f13 20 (by omega) (by omega) 0).trans hau.2.1, fun j hj => ⟨(f13 21 (by omega) (by omega) j).trans (hau.2.2.1 j hj).1, (hau.2.2.1 j hj).2⟩, fun j hj => ⟨(f13 22 (by omega) (by omega) j).trans (hau.2.2.2 j hj).1, (hau.2.2.2 j hj).2⟩⟩
      obtain ⟨rs', ev', im', od', S', hR, p1, p2, p3, p4, p5, p6, p7, p8, p9, p10, p11⟩ := ih (e + 1) (by omega) S3 (jj_up rs e ρ) _ _ _ (nI (mi e / 1440)) (jj_lg_mono hlg2 (fun p h1 h2 j => g4 p (by omega) j)) (jj_tk_mono htk2 (fun p h1 h2 j => g4 p (by omega) j)) (jj_wi_mono hwi2 (fun p h1 h2 j => g4 p (by omega) j)) hau3 (fun j hj => ⟨(f13 23 (by omega) (by omega) j).trans (hfl j hj).1, (hfl j hj).2⟩) ((f13 0 (by omega) (by omega) 9).trans hnow) g1 g2 g3
        (fun l hl u hu => by
          unfold jj_um
          have h9 := i1 l hl u hu
          by_cases c : l = li e ∧ u = rc (tr e)
          · rw [if_pos c, ← c.1, ← c.2]; omega
          · rw [if_neg c]; omega) him3
        (Or.inr ⟨by omega, rfl, fun l hl u hu => by
          show _ = jj_ct (jj_pd li tr mi (jj_up rs e ρ) rc l u (mi e / 1440)) (e + 1)
          rw [hce]
          unfold jj_um
          by_cases c : l = li e ∧ u = rc (tr e)
          · rw [if_pos c, hod2 _ (by omega) _ hrc, ← c.1, ← c.2]
            have h9 : jj_pd li tr mi (jj_up rs e ρ) rc l u (mi e / 1440) e = true := by
              unfold jj_pd
              exact decide_eq_true ⟨by rw [hrse]; exact hz, c.1.symm, c.2.symm, rfl⟩
            rw [h9]; rfl
          · rw [if_neg c, hod2 _ hl _ hu]
            have h9 : jj_pd li tr mi (jj_up rs e ρ) rc l u (mi e / 1440) e = false := by
              unfold jj_pd
              exact decide_eq_false (fun w => c ⟨w.2.1.symm, w.2.2.1.symm⟩)
            rw [h9]; rfl⟩) i4' i5' i6'
      exact ⟨rs', ev', im', od', S', jj_RRs (jj_tr hA (jj_tr hR2 hR3)) hR, p1, p2, p3, p4, p5, p6, p7, p8, p9, fun p h40 hp j => (p10 p h40 hp j).trans (f13 p h40 hp j), fun j hj => (p11 j hj).trans ((g4 40 (by omega) j).trans ((f40 j hj).trans (f1 40 (by omega) j)))⟩
    · have hR3 := jC_n (lay := lay) (S := S2) (o := o) hB hlg2 hen (by rw [hrse]; omega) (by rw [hrse]; exact hz)
      obtain ⟨rs', ev', im', od', S', hR, p1, p2, p3, p4, p5, p6, p7, p8, p9, p10, p11⟩ := ih (e + 1) (by omega) S2 (jj_up rs e ρ) ev im od1 (nI (mi e / 1440)) hlg2 htk2 hwi2 hau2 hfl2 hnow2 hev2 him2 hod3
        (fun l hl u hu => by have := i1 l hl u hu; omega) (by omega)
        (Or.inr ⟨by omega, rfl, fun l hl u hu => by
          show _ = jj_ct (jj_pd li tr mi (jj_up rs e ρ) rc l u (mi e / 1440)) (e + 1)
          rw [hce, hod2 _ hl _ hu]
          have h9 : jj_pd li tr mi (jj_up rs e ρ) rc l u (mi e / 1440) e = false := by
            unfold jj_pd
            exact decide_eq_false (fun w => hz (by rw [← hrse]; exact w.1))
          rw [h9]; rfl⟩) i4' i5' i6'
      exact ⟨rs', ev', im', od', S', jj_RRs (jj_tr hA (jj_tr hR2 hR3)) hR, p1, p2, p3, p4, p5, p6, p7, p8, p9, fun p h40 hp j => (p10 p h40 hp j).trans (f12 p h40 hp j), fun j hj => (p11 j hj).trans ((f40 j hj).trans (f1 40 (by omega) j))⟩
set_option maxRecDepth 100000 in
set_option maxHeartbeats 4000000 in
theorem ct_X6_judgePlays {lay : jj_Lay} {S : jj_Mem} (hB : jj_pp lay) {n t cnt nt wn : Nat} {li tr mi rs0 rc ld pl fl : Nat → Nat} {se w0 w1 w2 w3 : Nat → Int32} (ht : t < 100000) (hn9 : n ≤ 130) (hli : ∀ k, k < n → li k < cnt) (htr : ∀ k, k < n → tr k < nt) (hmt : ∀ k, k < n → mi k ≤ t) (hmo : ∀ a b, a ≤ b → b < n → mi a ≤ mi b) (hold : ∀ l u d, d / 10 < t / 14400 → jj_ct (jj_pd li tr mi rs0 rc l u d) n ≤ 5) {od : Nat → Nat → Nat} (hlg : jj_lg S n li tr mi rs0 se) (htk : jj_tk S nt rc) (hwi : jj_wi S wn w0 w1 w2 w3) (hau : jj_au S cnt ld pl) (hfl : ∀ j, j < cnt → S 23 j = some (nI (fl j)) ∧ fl j ≤ 1) (hnow : S 0 9 = some (nI t)) (hod : jj_rw8 S 62 od) (h5 : ∀ j, j < n → mi j / 14400 < t / 14400 → rs0 j ≤ 5) :
    ∃ (rs' : Nat → Nat) (ev' im' od' : Nat → Nat → Nat) (S' : jj_Mem), jj_CT yX6_judgePlays (.code yX6_judgePlays cX6_judgePlays 6 none) none 3 68 [.ref 0] lay S none lay S' ∧ jj_lg S' n li tr mi rs' se ∧ jj_rw8 S' 44 ev' ∧ jj_rw8 S' 53 im' ∧ jj_rw8 S' 62 od' ∧ (∀ l, l < 8 → ∀ u, u < 10 → ev' l u ≤ n) ∧ jj_sm (fun l => jj_sm (im' l) 10) 8 ≤ n ∧ (∀ l u d, jj_ct (jj_pd li tr mi rs' rc l u d) n ≤ 5) ∧ (∀ j, j < n → mi j / 14400 < t / 14400 → rs' j = rs0 j) ∧ (∀ j, j < n → rs' j ≤ 5) ∧ (∀ p, p ≠ 40 → p < 44 ∨ (51 < p ∧ p < 53) ∨ (60 < p ∧ p < 62) ∨ 69 < p → ∀ j, S' p j = S p j) ∧ (∀ j, n ≤ j → S' 40 j = S 40 j) := by
  have f0 : ∀ p, p < 44 ∨ (51 < p ∧ p < 53) ∨ 60 < p → ∀ j, jj_cl (jj_cl S 43 8) 52 8 p j = S p j := fun p hp j => (jj_cl_out (by omega)).trans (jj_cl_out (by omega))
  have hev : jj_rw8 (jj_cl (jj_cl S 43 8) 52 8) 44 (fun _ _ => 0) := jj_rw8_mono (p := 44) jj_cl_rw (fun p h1 h2 j => jj_cl_out (by omega))
  have him : jj_rw8 (jj_cl (jj_cl S 43 8) 52 8) 53 (fun _ _ => 0) := jj_cl_rw
  obtain ⟨rs', ev', im', od', S', hR, p1, p2, p3, p4, p5, p6, p7, p8, p9, p10, p11⟩ := lp_X6_judgePlays (lay := lay) hB ht hn9 hli htr hmt hmo hold n 0 (by omega) (jj_cl (jj_cl S 43 8) 52 8) rs0 _ _ od (-1) (jj_lg_mono hlg (fun p h1 h2 j => f0 p (by omega) j)) (jj_tk_mono htk (fun p h1 h2 j => f0 p (by omega) j)) (jj_wi_mono hwi (fun p h1 h2 j => f0 p (by omega) j)) (show jj_au (jj_cl (jj_cl S 43 8) 52 8) cnt ld pl from ⟨hau.1, (f0 20 (by omega) 0).trans hau.2.1, fun j hj => ⟨(f0 21 (by omega) j).trans (hau.2.2.1 j hj).1, (hau.2.2.1 j hj).2⟩, fun j hj => ⟨(f0 22 (by omega) j).trans (hau.2.2.2 j hj).1, (hau.2.2.2 j hj).2⟩⟩) (fun j hj => ⟨(f0 23 (by omega) j).trans (hfl j hj).1, (hfl j hj).2⟩) ((f0 0 (by omega) 9).trans hnow) hev him (jj_rw8_mono hod (fun p h1 h2 j => f0 p (by omega) j))
    (fun _ _ _ _ => Nat.le_refl _) (by rw [jj_sm_zero, jj_sm_zero]; exact Nat.le_refl _) (Or.inl ⟨rfl, rfl⟩) (fun _ _ _ => Nat.zero_le _) (fun j hj hc => ⟨rfl, h5 j hj hc⟩) (fun j hj => absurd hj (by omega))
  refine ⟨rs', ev', im', od', S', ?_, p1, p2, p3, p4, p5, p6, p7, p8, p9, fun p h40 hp j => (p10 p h40 hp j).trans (f0 p (by omega) j), fun j hj => (p11 j hj).trans (f0 40 (by omega) j)⟩
  refine jj_mkV RX6 (by decide) rfl (L := [some (.ref 0), none, none, none, none, none]) rfl rfl ?_
  refine jj_RRs ?_ hR
  refine js_aload_n 0 rfl dX6_judgePlays_0 rfl ?_
  refine js_getr 4 jw_f_RX6_40 (jl_0 hB) rfl (Nat.le_of_ble_eq_true rfl) rfl dX6_judgePlays_1 ?_
  refine js_callVN (av := []) (st := []) (b := 42) (ct_X3_clear hB) (Or.inl rfl) jw_c_X3_clear jw_i_RX3 jw_h_RX6_367 jw_s_X3_clear jw_e_X3_clear (jl_42 hB) rfl jw_y_X3_clear rfl ⟨(Nat.le_of_ble_eq_true rfl), (Nat.le_of_ble_eq_true rfl), (Nat.le_refl _), (Nat.le_refl _), (Nat.le_of_ble_eq_true rfl)⟩ dX6_judgePlays_4 ?_
  refine js_st (st' := []) rfl ?_
  refine js_iconst (v := -1) dX6_judgePlays_7 (by decide) ?_
  refine js_istore_n (L' := [some (.ref 0), some (.int ((-1))), none, none, none, none]) 1 rfl dX6_judgePlays_8 rfl (Nat.le_of_ble_eq_true rfl) ?_
  refine js_iconst (v := nI 0) dX6_judgePlays_9 (by decide) ?_
  refine js_istore_n (L' := [some (.ref 0), some (.int ((-1))), some (.int (nI 0)), none, none, none]) 2 rfl dX6_judgePlays_10 rfl (Nat.le_of_ble_eq_true rfl) ?_
  exact jj_refl
end
section
/-! CHANGES: track, window, claim, listener, flag, play, pass. -/
theorem jj_bs_mono {S S' : jj_Mem} {b h x : Nat} {ca ge he du pa ad re : Nat → Nat} (q : jj_bs S b h x ca ge he du pa ad re) (e : ∀ p, b ≤ p → p ≤ b + 7 → ∀ j, S' p j = S p j) : jj_bs S' b h x ca ge he du pa ad re := by
  obtain ⟨b0, b1, b2, b3, b4, b5, b6, b7, b8⟩ := q
  exact ⟨(e _ (by omega) (by omega) _).trans b0, (e _ (by omega) (by omega) _).trans b1, fun j hj => (e _ (by omega) (by omega) _).trans (b2 j hj), fun j hj => (e _ (by omega) (by omega) _).trans (b3 j hj), fun j hj => (e _ (by omega) (by omega) _).trans (b4 j hj), fun j hj => (e _ (by omega) (by omega) _).trans (b5 j hj), fun j hj => (e _ (by omega) (by omega) _).trans (b6 j hj), fun j hj => (e _ (by omega) (by omega) _).trans (b7 j hj), fun j hj => (e _ (by omega) (by omega) _).trans (b8 j hj)⟩
/-- what a PlayPool holds, by numbers -/

def jj_P : Type := Nat × Nat × Nat × Nat × Nat × Nat × Nat × (Nat → Nat) × (Nat → Nat) × (Nat → Nat) × (Nat → Nat) × (Nat → Nat) × (Nat → Nat) × (Nat → Nat) × (Nat → Nat) × (Nat → Nat) × (Nat → Nat) × (Nat → Nat) × (Nat → Nat) × (Nat → Nat) × (Nat → Nat) × (Nat → Nat) × (Nat → Nat) × (Nat → Int32) × (Nat → Int32) × (Nat → Int32) × (Nat → Int32) × (Nat → Int32) × (Nat → Nat → Nat) × (Nat → Nat → Nat) × (Nat → Nat → Nat) × (Nat → Nat → Nat)
abbrev jj_P.n (P : jj_P) : Nat := P.1
abbrev jj_P.t (P : jj_P) : Nat := P.2.1
abbrev jj_P.nt (P : jj_P) : Nat := P.2.2.1
abbrev jj_P.wn (P : jj_P) : Nat := P.2.2.2.1
abbrev jj_P.cnt (P : jj_P) : Nat := P.2.2.2.2.1
abbrev jj_P.h (P : jj_P) : Nat := P.2.2.2.2.2.1
abbrev jj_P.x (P : jj_P) : Nat := P.2.2.2.2.2.2.1
abbrev jj_P.li (P : jj_P) : Nat → Nat := P.2.2.2.2.2.2.2.1
abbrev jj_P.tr (P : jj_P) : Nat → Nat := P.2.2.2.2.2.2.2.2.1
abbrev jj_P.mi (P : jj_P) : Nat → Nat := P.2.2.2.2.2.2.2.2.2.1
abbrev jj_P.rs (P : jj_P) : Nat → Nat := P.2.2.2.2.2.2.2.2.2.2.1
abbrev jj_P.rc (P : jj_P) : Nat → Nat := P.2.2.2.2.2.2.2.2.2.2.2.1
abbrev jj_P.ld (P : jj_P) : Nat → Nat := P.2.2.2.2.2.2.2.2.2.2.2.2.1
abbrev jj_P.pl (P : jj_P) : Nat → Nat := P.2.2.2.2.2.2.2.2.2.2.2.2.2.1
abbrev jj_P.fl (P : jj_P) : Nat → Nat := P.2.2.2.2.2.2.2.2.2.2.2.2.2.2.1
abbrev jj_P.ca (P : jj_P) : Nat → Nat := P.2.2.2.2.2.2.2.2.2.2.2.2.2.2.2.1
abbrev jj_P.ge (P : jj_P) : Nat → Nat := P.2.2.2.2.2.2.2.2.2.2.2.2.2.2.2.2.1
abbrev jj_P.he (P : jj_P) : Nat → Nat := P.2.2.2.2.2.2.2.2.2.2.2.2.2.2.2.2.2.1
abbrev jj_P.du (P : jj_P) : Nat → Nat := P.2.2.2.2.2.2.2.2.2.2.2.2.2.2.2.2.2.2.1
abbrev jj_P.pa (P : jj_P) : Nat → Nat := P.2.2.2.2.2.2.2.2.2.2.2.2.2.2.2.2.2.2.2.1
abbrev jj_P.ad (P : jj_P) : Nat → Nat := P.2.2.2.2.2.2.2.2.2.2.2.2.2.2.2.2.2.2.2.2.1
abbrev jj_P.re (P : jj_P) : Nat → Nat := P.2.2.2.2.2.2.2.2.2.2.2.2.2.2.2.2.2.2.2.2.2.1
abbrev jj_P.pe (P : jj_P) : Nat → Nat := P.2.2.2.2.2.2.2.2.2.2.2.2.2.2.2.2.2.2.2.2.2.2.1
abbrev jj_P.se (P : jj_P) : Nat → Int32 := P.2.2.2.2.2.2.2.2.2.2.2.2.2.2.2.2.2.2.2.2.2.2.2.1
abbrev jj_P.w0 (P : jj_P) : Nat → Int32 := P.2.2.2.2.2.2.2.2.2.2.2.2.2.2.2.2.2.2.2.2.2.2.2.2.1
abbrev jj_P.w1 (P : jj_P) : Nat → Int32 := P.2.2.2.2.2.2.2.2.2.2.2.2.2.2.2.2.2.2.2.2.2.2.2.2.2.1
abbrev jj_P.w2 (P : jj_P) : Nat → Int32 := P.2.2.2.2.2.2.2.2.2.2.2.2.2.2.2.2.2.2.2.2.2.2.2.2.2.2.1
abbrev jj_P.w3 (P : jj_P) : Nat → Int32 := P.2.2.2.2.2.2.2.2.2.2.2.2.2.2.2.2.2.2.2.2.2.2.2.2.2.2.2.1
abbrev jj_P.ev (P : jj_P) : Nat → Nat → Nat := P.2.2.2.2.2.2.2.2.2.2.2.2.2.2.2.2.2.2.2.2.2.2.2.2.2.2.2.2.1
abbrev jj_P.im (P : jj_P) : Nat → Nat → Nat := P.2.2.2.2.2.2.2.2.2.2.2.2.2.2.2.2.2.2.2.2.2.2.2.2.2.2.2.2.2.1
abbrev jj_P.od (P : jj_P) : Nat → Nat → Nat := P.2.2.2.2.2.2.2.2.2.2.2.2.2.2.2.2.2.2.2.2.2.2.2.2.2.2.2.2.2.2.1
abbrev jj_P.cl (P : jj_P) : Nat → Nat → Nat := P.2.2.2.2.2.2.2.2.2.2.2.2.2.2.2.2.2.2.2.2.2.2.2.2.2.2.2.2.2.2.2
abbrev jj_mkP (n : Nat) (t : Nat) (nt : Nat) (wn : Nat) (cnt : Nat) (h : Nat) (x : Nat) (li : Nat → Nat) (tr : Nat → Nat) (mi : Nat → Nat) (rs : Nat → Nat) (rc : Nat → Nat) (ld : Nat → Nat) (pl : Nat → Nat) (fl : Nat → Nat) (ca : Nat → Nat) (ge : Nat → Nat) (he : Nat → Nat) (du : Nat → Nat) (pa : Nat → Nat) (ad : Nat → Nat) (re : Nat → Nat) (pe : Nat → Nat) (se : Nat → Int32) (w0 : Nat → Int32) (w1 : Nat → Int32) (w2 : Nat → Int32) (w3 : Nat → Int32) (ev : Nat → Nat → Nat) (im : Nat → Nat → Nat) (od : Nat → Nat → Nat) (cl : Nat → Nat → Nat) : jj_P := (n, t, nt, wn, cnt, h, x, li, tr, mi, rs, rc, ld, pl, fl, ca, ge, he, du, pa, ad, re, pe, se, w0, w1, w2, w3, ev, im, od, cl)
def jj_J (S : jj_Mem) (P : jj_P) : Prop := (jj_lg S P.n P.li P.tr P.mi P.rs P.se) ∧ (jj_tk S P.nt P.rc) ∧ (jj_wi S P.wn P.w0 P.w1 P.w2 P.w3) ∧ (jj_au S P.cnt P.ld P.pl) ∧ (∀ j, j < 8 → S 23 j = some (nI (P.fl j)) ∧ P.fl j ≤ 1) ∧ (S 0 9 = some (nI P.t)) ∧ (S 0 10 = some (nI 0)) ∧ (jj_rw8 S 44 P.ev) ∧ (jj_rw8 S 53 P.im) ∧ (jj_rw8 S 62 P.od) ∧ (jj_cm S P.cl) ∧ (jj_bs S 70 P.h P.x P.ca P.ge P.he P.du P.pa P.ad P.re) ∧ (∀ j, j < 8 → S 24 j = some (nI (P.pe j))) ∧ (∀ j, j < 8 → S 25 j = some (nI 0)) ∧ (∀ j, P.n ≤ j → j < 130 → S 40 j = some (nI 0)) ∧ (P.t < 100000) ∧ (∀ k, k < P.n → P.li k < P.cnt) ∧ (∀ k, k < P.n → P.tr k < P.nt) ∧ (∀ k, k < P.n → P.mi k ≤ P.t) ∧ (∀ a b, a ≤ b → b < P.n → P.mi a ≤ P.mi b) ∧ (∀ j, j < P.n → P.rs j ≤ 5) ∧ (∀ j, P.ad j = 0)
theorem jj_J.lg {S : jj_Mem} {P : jj_P} (h : jj_J S P) : jj_lg S P.n P.li P.tr P.mi P.rs P.se := h.1
theorem jj_J.tk {S : jj_Mem} {P : jj_P} (h : jj_J S P) : jj_tk S P.nt P.rc := h.2.1
theorem jj_J.wi {S : jj_Mem} {P : jj_P} (h : jj_J S P) : jj_wi S P.wn P.w0 P.w1 P.w2 P.w3 := h.2.2.1
theorem jj_J.au {S : jj_Mem} {P : jj_P} (h : jj_J S P) : jj_au S P.cnt P.ld P.pl := h.2.2.2.1
theorem jj_J.fl {S : jj_Mem} {P : jj_P} (h : jj_J S P) : ∀ j, j < 8 → S 23 j = some (nI (P.fl j)) ∧ P.fl j ≤ 1 := h.2.2.2.2.1
theorem jj_J.now {S : jj_Mem} {P : jj_P} (h : jj_J S P) : S 0 9 = some (nI P.t) := h.2.2.2.2.2.1
theorem jj_J.ru {S : jj_Mem} {P : jj_P} (h : jj_J S P) : S 0 10 = some (nI 0) := h.2.2.2.2.2.2.1
theorem jj_J.ev {S : jj_Mem} {P : jj_P} (h : jj_J S P) : jj_rw8 S 44 P.ev := h.2.2.2.2.2.2.2.1
theorem jj_J.im {S : jj_Mem} {P : jj_P} (h : jj_J S P) : jj_rw8 S 53 P.im := h.2.2.2.2.2.2.2.2.1
theorem jj_J.od {S : jj_Mem} {P : jj_P} (h : jj_J S P) : jj_rw8 S 62 P.od := h.2.2.2.2.2.2.2.2.2.1
theorem jj_J.cm {S : jj_Mem} {P : jj_P} (h : jj_J S P) : jj_cm S P.cl := h.2.2.2.2.2.2.2.2.2.2.1
theorem jj_J.bs {S : jj_Mem} {P : jj_P} (h : jj_J S P) : jj_bs S 70 P.h P.x P.ca P.ge P.he P.du P.pa P.ad P.re := h.2.2.2.2.2.2.2.2.2.2.2.1
theorem jj_J.pe {S : jj_Mem} {P : jj_P} (h : jj_J S P) : ∀ j, j < 8 → S 24 j = some (nI (P.pe j)) := h.2.2.2.2.2.2.2.2.2.2.2.2.1
theorem jj_J.kc {S : jj_Mem} {P : jj_P} (h : jj_J S P) : ∀ j, j < 8 → S 25 j = some (nI 0) := h.2.2.2.2.2.2.2.2.2.2.2.2.2.1
theorem jj_J.z40 {S : jj_Mem} {P : jj_P} (h : jj_J S P) : ∀ j, P.n ≤ j → j < 130 → S 40 j = some (nI 0) := h.2.2.2.2.2.2.2.2.2.2.2.2.2.2.1
theorem jj_J.ht {S : jj_Mem} {P : jj_P} (h : jj_J S P) : P.t < 100000 := h.2.2.2.2.2.2.2.2.2.2.2.2.2.2.2.1
theorem jj_J.hli {S : jj_Mem} {P : jj_P} (h : jj_J S P) : ∀ k, k < P.n → P.li k < P.cnt := h.2.2.2.2.2.2.2.2.2.2.2.2.2.2.2.2.1
theorem jj_J.htr {S : jj_Mem} {P : jj_P} (h : jj_J S P) : ∀ k, k < P.n → P.tr k < P.nt := h.2.2.2.2.2.2.2.2.2.2.2.2.2.2.2.2.2.1
theorem jj_J.hmt {S : jj_Mem} {P : jj_P} (h : jj_J S P) : ∀ k, k < P.n → P.mi k ≤ P.t := h.2.2.2.2.2.2.2.2.2.2.2.2.2.2.2.2.2.2.1
theorem jj_J.hmo {S : jj_Mem} {P : jj_P} (h : jj_J S P) : ∀ a b, a ≤ b → b < P.n → P.mi a ≤ P.mi b := h.2.2.2.2.2.2.2.2.2.2.2.2.2.2.2.2.2.2.2.1
theorem jj_J.r5 {S : jj_Mem} {P : jj_P} (h : jj_J S P) : ∀ j, j < P.n → P.rs j ≤ 5 := h.2.2.2.2.2.2.2.2.2.2.2.2.2.2.2.2.2.2.2.2.1
theorem jj_J.ad0 {S : jj_Mem} {P : jj_P} (h : jj_J S P) : ∀ j, P.ad j = 0 := h.2.2.2.2.2.2.2.2.2.2.2.2.2.2.2.2.2.2.2.2.2
def jj_K (P : jj_P) : Prop := (∀ l, l < 8 → ∀ u, u < 10 → P.ev l u ≤ P.n) ∧ jj_sm (fun l => jj_sm (P.im l) 10) 8 ≤ P.n ∧ (∀ l u d, jj_ct (jj_pd P.li P.tr P.mi P.rs P.rc l u d) P.n ≤ 5)
def jj_T (P : jj_P) : Prop := jj_tot P.h P.x P.ca P.he P.du P.pa P.re = P.t / 14400 * jj_sm (fun l => jj_fee (P.pl l)) P.cnt
/-- plays stay, and those of closed months keep their reason -/
def jj_E (P P' : jj_P) : Prop := P.n ≤ P'.n ∧ P.t ≤ P'.t ∧ (∀ j, j < P.n → P'.mi j = P.mi j) ∧ (∀ j, j < P.n → P.mi j / 14400 < P.t / 14400 → P'.rs j = P.rs j)
theorem jj_E_refl (P : jj_P) : jj_E P P := ⟨Nat.le_refl _, Nat.le_refl _, fun _ _ => rfl, fun _ _ _ => rfl⟩
theorem jj_E_trans {P Q R : jj_P} (h : jj_E P Q) (k : jj_E Q R) : jj_E P R :=
  ⟨Nat.le_trans h.1 k.1, Nat.le_trans h.2.1 k.2.1, fun j hj => (k.2.2.1 j (Nat.lt_of_lt_of_le hj h.1)).trans (h.2.2.1 j hj), fun j hj hc => (k.2.2.2 j (Nat.lt_of_lt_of_le hj h.1) (by rw [h.2.2.1 j hj]; have := h.2.1; have := Nat.div_le_div_right (c := 14400) h.2.1; omega)).trans (h.2.2.2 j hj hc)⟩
theorem jj_J_eq {S S' : jj_Mem} {P : jj_P} (h : jj_J S P) (e : ∀ p, p < 81 → ∀ j, S' p j = S p j) : jj_J S' P :=
  ⟨jj_lg_mono h.lg (fun p h1 h2 j => e p (by omega) j), jj_tk_mono h.tk (fun p h1 h2 j => e p (by omega) j), jj_wi_mono h.wi (fun p h1 h2 j => e p (by omega) j), ⟨h.au.1, (e 20 (by omega) 0).trans h.au.2.1, fun j hj => ⟨(e 21 (by omega) j).trans (h.au.2.2.1 j hj).1, (h.au.2.2.1 j hj).2⟩, fun j hj => ⟨(e 22 (by omega) j).trans (h.au.2.2.2 j hj).1, (h.au.2.2.2 j hj).2⟩⟩, fun j hj => ⟨(e 23 (by omega) j).trans (h.fl j hj).1, (h.fl j hj).2⟩, (e 0 (by omega) 9).trans h.now, (e 0 (by omega) 10).trans h.ru, jj_rw8_mono h.ev (fun p h1 h2 j => e p (by omega) j), jj_rw8_mono h.im (fun p h1 h2 j => e p (by omega) j), jj_rw8_mono h.od (fun p h1 h2 j => e p (by omega) j), fun a ha j hj => ⟨(e (10 + a) (by omega) j).trans (h.cm a ha j hj).1, (h.cm a ha j hj).2⟩, jj_bs_mono h.bs (fun p h1 h2 j => e p (by omega) j), fun j hj => (e 24 (by omega) j).trans (h.pe j hj), fun j hj => (e 25 (by omega) j).trans (h.kc j hj), fun j a1 a2 => (e 40 (by omega) j).trans (h.z40 j a1 a2), h.ht, h.hli, h.htr, h.hmt, h.hmo, h.r5, h.ad0⟩
set_option maxRecDepth 100000 in
set_option maxHeartbeats 4000000 in
theorem J_judge {lay : jj_Lay} {S : jj_Mem} {P : jj_P} (hB : jj_pp lay) (h : jj_J S P) (hold : ∀ l u d, d / 10 < P.t / 14400 → jj_ct (jj_pd P.li P.tr P.mi P.rs P.rc l u d) P.n ≤ 5) :
    ∃ (rs' : Nat → Nat) (ev' im' od' : Nat → Nat → Nat) (S' : jj_Mem), jj_CT yX6_judgePlays (.code yX6_judgePlays cX6_judgePlays 6 none) none 3 68 [.ref 0] lay S none lay S' ∧ jj_J S' (jj_mkP P.n P.t P.nt P.wn P.cnt P.h P.x P.li P.tr P.mi rs' P.rc P.ld P.pl P.fl P.ca P.ge P.he P.du P.pa P.ad P.re P.pe P.se P.w0 P.w1 P.w2 P.w3 ev' im' od' P.cl) ∧ jj_K (jj_mkP P.n P.t P.nt P.wn P.cnt P.h P.x P.li P.tr P.mi rs' P.rc P.ld P.pl P.fl P.ca P.ge P.he P.du P.pa P.ad P.re P.pe P.se P.w0 P.w1 P.w2 P.w3 ev' im' od' P.cl) ∧ (∀ j, j < P.n → P.mi j / 14400 < P.t / 14400 → rs' j = P.rs j) ∧ (∀ p, p < 35 ∨ 69 < p → ∀ j, S' p j = S p j) := by
  obtain ⟨rs', ev', im', od', S', hct, p1, p2, p3, p4, p5, p6, p7, p8, p9, p10, p11⟩ := ct_X6_judgePlays (lay := lay) hB h.ht h.lg.1 h.hli h.htr h.hmt h.hmo hold h.lg h.tk h.wi h.au (fun j hj => h.fl j (by have := h.au.1; omega)) h.now h.od (fun j hj _ => h.r5 j hj)
  have F : ∀ p, p ≠ 40 ∧ (p < 44 ∨ (51 < p ∧ p < 53) ∨ (60 < p ∧ p < 62) ∨ 69 < p) → ∀ j, S' p j = S p j := fun p hp j => p10 p hp.1 hp.2 j
  exact ⟨rs', ev', im', od', S', hct, ⟨p1, jj_tk_mono h.tk (fun p h1 h2 j => F p (by omega) j), jj_wi_mono h.wi (fun p h1 h2 j => F p (by omega) j), ⟨h.au.1, (F 20 (by omega) 0).trans h.au.2.1, fun j hj => ⟨(F 21 (by omega) j).trans (h.au.2.2.1 j hj).1, (h.au.2.2.1 j hj).2⟩, fun j hj => ⟨(F 22 (by omega) j).trans (h.au.2.2.2 j hj).1, (h.au.2.2.2 j hj).2⟩⟩, fun j hj => ⟨(F 23 (by omega) j).trans (h.fl j hj).1, (h.fl j hj).2⟩, (F 0 (by omega) 9).trans h.now, (F 0 (by omega) 10).trans h.ru, p2, p3, p4, fun a ha j hj => ⟨(F (10 + a) (by omega) j).trans (h.cm a ha j hj).1, (h.cm a ha j hj).2⟩, jj_bs_mono h.bs (fun p h1 h2 j => F p (by omega) j), fun j hj => (F 24 (by omega) j).trans (h.pe j hj), fun j hj => (F 25 (by omega) j).trans (h.kc j hj), fun j a1 a2 => (p11 j a1).trans (h.z40 j a1 a2), h.ht, h.hli, h.htr, h.hmt, h.hmo, p9, h.ad0⟩, ⟨p5, p6, p7⟩, p8, fun p hp j => F p (by omega) j⟩
set_option maxRecDepth 100000 in
set_option maxHeartbeats 4000000 in
theorem ct_X2_addTrack {lay : jj_Lay} {S : jj_Mem} (hB : jj_pp lay) {n u : Nat} (hn : S 1 0 = some (nI n)) (h14 : n < 14) : jj_CT yX2_addTrack (.code yX2_addTrack cX2_addTrack 3 (some .int)) none 0 0 [.ref 1, .int (nI u)] lay S (some (.int (nI n))) lay (jj_w (jj_w (jj_w S 2 n (nI u)) 3 n ((-1))) 1 0 (nI (n + 1))) := by
  refine jj_mkI RX2 .int (by decide) rfl (L := [some (.ref 1), some (.int (nI u)), none]) rfl rfl rfl ⟨36, [some (.ref 1), some (.int (nI u)), some (.int (nI n))], dX2_addTrack_36, ?_⟩
  refine js_aload_n 0 rfl dX2_addTrack_0 rfl ?_
  refine js_geti 0 jw_f_RX2_9 (jl_1 hB) rfl (Nat.le_of_ble_eq_true rfl) rfl (hn) dX2_addTrack_1 ?_
  refine js_istore_n (L' := [some (.ref 1), some (.int (nI u)), some (.int (nI n))]) 2 rfl dX2_addTrack_4 rfl (Nat.le_of_ble_eq_true rfl) ?_
  refine js_iload_n 2 rfl dX2_addTrack_5 rfl ?_
  refine js_bipush (v := nI 14) dX2_addTrack_6 (by decide) ?_
  refine jn_icmp_ge 35 (by omega) (by omega) dX2_addTrack_8 (by decide) (fun h9 => absurd h9 (by omega)) (fun _ => ?_)
  refine js_aload_n 0 rfl dX2_addTrack_11 rfl ?_
  refine js_getr 1 jw_f_RX2_15 (jl_1 hB) rfl (Nat.le_of_ble_eq_true rfl) rfl dX2_addTrack_12 ?_
  refine js_iload_n 2 rfl dX2_addTrack_15 rfl ?_
  refine js_iload_n 1 rfl dX2_addTrack_16 rfl ?_
  refine js_iast n rfl (jl_2 hB) (by omega) (by decide) dX2_addTrack_17 ?_
  refine js_aload_n 0 rfl dX2_addTrack_18 rfl ?_
  refine js_getr 2 jw_f_RX2_19 (jl_1 hB) rfl (Nat.le_of_ble_eq_true rfl) rfl dX2_addTrack_19 ?_
  refine js_iload_n 2 rfl dX2_addTrack_22 rfl ?_
  refine js_iconst (v := -1) dX2_addTrack_23 (by decide) ?_
  refine js_iast n rfl (jl_3 hB) (by omega) (by decide) dX2_addTrack_24 ?_
  refine js_aload_n 0 rfl dX2_addTrack_25 rfl ?_
  refine js_dup rfl dX2_addTrack_26 ?_
  refine js_geti 0 jw_f_RX2_9 (jl_1 hB) rfl (Nat.le_of_ble_eq_true rfl) rfl ((jj_w_neP (by decide)).trans ((jj_w_neP (by decide)).trans (hn))) dX2_addTrack_27 ?_
  refine js_iconst (v := nI 1) dX2_addTrack_30 (by decide) ?_
  refine jn_iadd dX2_addTrack_31 ?_
  refine js_put 0 jw_f_RX2_9 (jl_1 hB) rfl (Nat.le_of_ble_eq_true rfl) rfl rfl (by decide +kernel) dX2_addTrack_32 ?_
  refine js_iload_n 2 rfl dX2_addTrack_35 rfl ?_
  exact jj_refl
set_option maxRecDepth 100000 in
set_option maxHeartbeats 4000000 in
theorem ct_X2_addWindow {lay : jj_Lay} {S : jj_Mem} (hB : jj_pp lay) {n : Nat} {x y a c : Int32} (hn : S 1 3 = some (nI n)) (h30 : n < 30) : jj_CT yX2_addWindow (.code yX2_addWindow cX2_addWindow 5 none) none 0 0 [.ref 1, .int x, .int y, .int a, .int c] lay S none lay (jj_w (jj_w (jj_w (jj_w (jj_w S 4 n (x)) 5 n (y)) 6 n (a)) 7 n (c)) 1 3 (nI (n + 1))) := by
  refine jj_mkV RX2 (by decide) rfl (L := [some (.ref 1), some (.int x), some (.int y), some (.int a), some (.int c)]) rfl rfl ⟨60, [some (.ref 1), some (.int x), some (.int y), some (.int a), some (.int c)], dX2_addWindow_60, ?_⟩
  refine js_aload_n 0 rfl dX2_addWindow_0 rfl ?_
  refine js_geti 3 jw_f_RX2_22 (jl_1 hB) rfl (Nat.le_of_ble_eq_true rfl) rfl (hn) dX2_addWindow_1 ?_
  refine js_bipush (v := nI 30) dX2_addWindow_4 (by decide) ?_
  refine jn_icmp_ge 60 (by omega) (by omega) dX2_addWindow_6 (by decide) (fun h9 => absurd h9 (by omega)) (fun _ => ?_)
  refine js_aload_n 0 rfl dX2_addWindow_9 rfl ?_
  refine js_getr 4 jw_f_RX2_25 (jl_1 hB) rfl (Nat.le_of_ble_eq_true rfl) rfl dX2_addWindow_10 ?_
  refine js_aload_n 0 rfl dX2_addWindow_13 rfl ?_
  refine js_geti 3 jw_f_RX2_22 (jl_1 hB) rfl (Nat.le_of_ble_eq_true rfl) rfl (hn) dX2_addWindow_14 ?_
  refine js_iload_n 1 rfl dX2_addWindow_17 rfl ?_
  refine js_iast n rfl (jl_4 hB) (by omega) (by decide) dX2_addWindow_18 ?_
  refine js_aload_n 0 rfl dX2_addWindow_19 rfl ?_
  refine js_getr 5 jw_f_RX2_28 (jl_1 hB) rfl (Nat.le_of_ble_eq_true rfl) rfl dX2_addWindow_20 ?_
  refine js_aload_n 0 rfl dX2_addWindow_23 rfl ?_
  refine js_geti 3 jw_f_RX2_22 (jl_1 hB) rfl (Nat.le_of_ble_eq_true rfl) rfl ((jj_w_neP (by decide)).trans (hn)) dX2_addWindow_24 ?_
  refine js_iload_n 2 rfl dX2_addWindow_27 rfl ?_
  refine js_iast n rfl (jl_5 hB) (by omega) (by decide) dX2_addWindow_28 ?_
  refine js_aload_n 0 rfl dX2_addWindow_29 rfl ?_
  refine js_getr 6 jw_f_RX2_31 (jl_1 hB) rfl (Nat.le_of_ble_eq_true rfl) rfl dX2_addWindow_30 ?_
  refine js_aload_n 0 rfl dX2_addWindow_33 rfl ?_
  refine js_geti 3 jw_f_RX2_22 (jl_1 hB) rfl (Nat.le_of_ble_eq_true rfl) rfl ((jj_w_neP (by decide)).trans ((jj_w_neP (by decide)).trans (hn))) dX2_addWindow_34 ?_
  refine js_iload_n 3 rfl dX2_addWindow_37 rfl ?_
  refine js_iast n rfl (jl_6 hB) (by omega) (by decide) dX2_addWindow_38 ?_
  refine js_aload_n 0 rfl dX2_addWindow_39 rfl ?_
  refine js_getr 7 jw_f_RX2_34 (jl_1 hB) rfl (Nat.le_of_ble_eq_true rfl) rfl dX2_addWindow_40 ?_
  refine js_aload_n 0 rfl dX2_addWindow_43 rfl ?_
  refine js_geti 3 jw_f_RX2_22 (jl_1 hB) rfl (Nat.le_of_ble_eq_true rfl) rfl ((jj_w_neP (by decide)).trans ((jj_w_neP (by decide)).trans ((jj_w_neP (by decide)).trans (hn)))) dX2_addWindow_44 ?_
  refine js_iload dX2_addWindow_47 rfl ?_
  refine js_iast n rfl (jl_7 hB) (by omega) (by decide) dX2_addWindow_49 ?_
  refine js_aload_n 0 rfl dX2_addWindow_50 rfl ?_
  refine js_dup rfl dX2_addWindow_51 ?_
  refine js_geti 3 jw_f_RX2_22 (jl_1 hB) rfl (Nat.le_of_ble_eq_true rfl) rfl ((jj_w_neP (by decide)).trans ((jj_w_neP (by decide)).trans ((jj_w_neP (by decide)).trans ((jj_w_neP (by decide)).trans (hn))))) dX2_addWindow_52 ?_
  refine js_iconst (v := nI 1) dX2_addWindow_55 (by decide) ?_
  refine jn_iadd dX2_addWindow_56 ?_
  refine js_put 3 jw_f_RX2_22 (jl_1 hB) rfl (Nat.le_of_ble_eq_true rfl) rfl rfl (by decide +kernel) dX2_addWindow_57 ?_
  exact jj_refl
set_option maxRecDepth 100000 in
set_option maxHeartbeats 4000000 in
theorem ct_X0_add {lay : jj_Lay} {S : jj_Mem} (hB : jj_pp lay) {n u v : Nat} (hn : S 20 0 = some (nI n)) (h8 : n < 8) : jj_CT yX0_add (.code yX0_add cX0_add 4 (some .int)) none 0 0 [.ref 20, .int (nI u), .int (nI v)] lay S (some (.int (nI n))) lay (jj_w (jj_w (jj_w S 21 n (nI u)) 22 n (nI v)) 20 0 (nI (n + 1))) := by
  refine jj_mkI RX0 .int (by decide) rfl (L := [some (.ref 20), some (.int (nI u)), some (.int (nI v)), none]) rfl rfl rfl ⟨36, [some (.ref 20), some (.int (nI u)), some (.int (nI v)), some (.int (nI n))], dX0_add_36, ?_⟩
  refine js_aload_n 0 rfl dX0_add_0 rfl ?_
  refine js_geti 0 jw_f_RX0_9 (jl_20 hB) rfl (Nat.le_of_ble_eq_true rfl) rfl (hn) dX0_add_1 ?_
  refine js_istore_n (L' := [some (.ref 20), some (.int (nI u)), some (.int (nI v)), some (.int (nI n))]) 3 rfl dX0_add_4 rfl (Nat.le_of_ble_eq_true rfl) ?_
  refine js_iload_n 3 rfl dX0_add_5 rfl ?_
  refine js_bipush (v := nI 8) dX0_add_6 (by decide) ?_
  refine jn_icmp_ge 35 (by omega) (by omega) dX0_add_8 (by decide) (fun h9 => absurd h9 (by omega)) (fun _ => ?_)
  refine js_aload_n 0 rfl dX0_add_11 rfl ?_
  refine js_getr 1 jw_f_RX0_15 (jl_20 hB) rfl (Nat.le_of_ble_eq_true rfl) rfl dX0_add_12 ?_
  refine js_iload_n 3 rfl dX0_add_15 rfl ?_
  refine js_iload_n 1 rfl dX0_add_16 rfl ?_
  refine js_iast n rfl (jl_21 hB) (by omega) (by decide) dX0_add_17 ?_
  refine js_aload_n 0 rfl dX0_add_18 rfl ?_
  refine js_getr 2 jw_f_RX0_19 (jl_20 hB) rfl (Nat.le_of_ble_eq_true rfl) rfl dX0_add_19 ?_
  refine js_iload_n 3 rfl dX0_add_22 rfl ?_
  refine js_iload_n 2 rfl dX0_add_23 rfl ?_
  refine js_iast n rfl (jl_22 hB) (by omega) (by decide) dX0_add_24 ?_
  refine js_aload_n 0 rfl dX0_add_25 rfl ?_
  refine js_dup rfl dX0_add_26 ?_
  refine js_geti 0 jw_f_RX0_9 (jl_20 hB) rfl (Nat.le_of_ble_eq_true rfl) rfl ((jj_w_neP (by decide)).trans ((jj_w_neP (by decide)).trans (hn))) dX0_add_27 ?_
  refine js_iconst (v := nI 1) dX0_add_30 (by decide) ?_
  refine jn_iadd dX0_add_31 ?_
  refine js_put 0 jw_f_RX0_9 (jl_20 hB) rfl (Nat.le_of_ble_eq_true rfl) rfl rfl (by decide +kernel) dX0_add_32 ?_
  refine js_iload_n 3 rfl dX0_add_35 rfl ?_
  exact jj_refl
set_option maxRecDepth 100000 in
set_option maxHeartbeats 4000000 in
theorem ct_X4_putInOrder {lay : jj_Lay} {S : jj_Mem} (hB : jj_pp lay) {n : Nat} {m : Nat → Nat} (h130 : n < 130) (hby : ∀ j, j < n → S 41 j = some (nI j)) (hmi : ∀ j, j < n + 1 → S 38 j = some (nI (m j)) ∧ m j < 2 ^ 31) (hmo : m (n - 1) ≤ m n) : jj_CT yX4_putInOrder (.code yX4_putInOrder cX4_putInOrder 3 none) none 0 0 [.ref 35, .int (nI n)] lay S none lay (jj_w S 41 n (nI n)) := by
  by_cases hc : n = 0
  · subst hc
    refine jj_mkV RX4 (by decide) rfl (L := [some (.ref 35), some (.int (nI 0)), none]) rfl rfl ⟨55, [some (.ref 35), some (.int (nI 0)), some (.int (nI 0))], dX4_putInOrder_55, ?_⟩
    refine js_iload_n 1 rfl dX4_putInOrder_0 rfl ?_
    refine js_istore_n (L' := [some (.ref 35), some (.int (nI 0)), some (.int (nI 0))]) 2 rfl dX4_putInOrder_1 rfl (Nat.le_of_ble_eq_true rfl) ?_
    refine js_iload_n 2 rfl dX4_putInOrder_2 rfl ?_
    refine jn_if_le 48 (by omega) dX4_putInOrder_3 (by decide) (fun _ => ?_) (fun h9 => absurd h9 (by omega))
    refine js_aload_n 0 rfl dX4_putInOrder_48 rfl ?_
    refine js_getr 6 jw_f_RX4_31 (jl_35 hB) rfl (Nat.le_of_ble_eq_true rfl) rfl dX4_putInOrder_49 ?_
    refine js_iload_n 2 rfl dX4_putInOrder_52 rfl ?_
    refine js_iload_n 1 rfl dX4_putInOrder_53 rfl ?_
    refine js_iast 0 rfl (jl_41 hB) (by omega) (by decide) dX4_putInOrder_54 ?_
    exact jj_refl
  · refine jj_mkV RX4 (by decide) rfl (L := [some (.ref 35), some (.int (nI n)), none]) rfl rfl ⟨55, [some (.ref 35), some (.int (nI n)), some (.int (nI n))], dX4_putInOrder_55, ?_⟩
    refine js_iload_n 1 rfl dX4_putInOrder_0 rfl ?_
    refine js_istore_n (L' := [some (.ref 35), some (.int (nI n)), some (.int (nI n))]) 2 rfl dX4_putInOrder_1 rfl (Nat.le_of_ble_eq_true rfl) ?_
    refine js_iload_n 2 rfl dX4_putInOrder_2 rfl ?_
    have h1 := (hmi (n - 1) (by omega)).2
    have h2 := (hmi n (by omega)).2
    refine jn_if_le 48 (by omega) dX4_putInOrder_3 (by decide) (fun h9 => absurd h9 (by omega)) (fun _ => ?_)
    refine js_aload_n 0 rfl dX4_putInOrder_6 rfl ?_
    refine js_getr 3 jw_f_RX4_22 (jl_35 hB) rfl (Nat.le_of_ble_eq_true rfl) rfl dX4_putInOrder_7 ?_
    refine js_aload_n 0 rfl dX4_putInOrder_10 rfl ?_
    refine js_getr 6 jw_f_RX4_31 (jl_35 hB) rfl (Nat.le_of_ble_eq_true rfl) rfl dX4_putInOrder_11 ?_
    refine js_iload_n 2 rfl dX4_putInOrder_14 rfl ?_
    refine js_iconst (v := nI 1) dX4_putInOrder_15 (by decide) ?_
    refine jn_isub (by omega) dX4_putInOrder_16 ?_
    refine js_iald ((n - 1)) rfl (jl_41 hB) (by omega) (by decide) ((hby ((n - 1)) (by omega))) dX4_putInOrder_17 ?_
    refine js_iald (((n - 1))) rfl (jl_38 hB) (by omega) (by decide) ((hmi (((n - 1))) (by omega)).1) dX4_putInOrder_18 ?_
    refine js_aload_n 0 rfl dX4_putInOrder_19 rfl ?_
    refine js_getr 3 jw_f_RX4_22 (jl_35 hB) rfl (Nat.le_of_ble_eq_true rfl) rfl dX4_putInOrder_20 ?_
    refine js_iload_n 1 rfl dX4_putInOrder_23 rfl ?_
    refine js_iald n rfl (jl_38 hB) (by omega) (by decide) ((hmi n (by omega)).1) dX4_putInOrder_24 ?_
    refine jn_icmp_le 48 (by omega) (by omega) dX4_putInOrder_25 (by decide) (fun _ => ?_) (fun h9 => absurd h9 (by omega))
    refine js_aload_n 0 rfl dX4_putInOrder_48 rfl ?_
    refine js_getr 6 jw_f_RX4_31 (jl_35 hB) rfl (Nat.le_of_ble_eq_true rfl) rfl dX4_putInOrder_49 ?_
    refine js_iload_n 2 rfl dX4_putInOrder_52 rfl ?_
    refine js_iload_n 1 rfl dX4_putInOrder_53 rfl ?_
    refine js_iast n rfl (jl_41 hB) (by omega) (by decide) dX4_putInOrder_54 ?_
    exact jj_refl
set_option maxRecDepth 100000 in
set_option maxHeartbeats 4000000 in
theorem ct_X4_add {lay : jj_Lay} {S : jj_Mem} (hB : jj_pp lay) {n l u t : Nat} {z : Int32} {m : Nat → Nat} (h130 : n < 130) (hn : S 35 0 = some (nI n)) (hby : ∀ j, j < n → S 41 j = some (nI j)) (hmi : ∀ j, j < n → S 38 j = some (nI (m j)) ∧ m j ≤ t) (ht : t < 2 ^ 31) : jj_CT yX4_add (.code yX4_add cX4_add 6 (some .int)) none 1 22 [.ref 35, .int (nI l), .int (nI u), .int (nI t), .int z] lay S (some (.int (nI n))) lay (jj_w (jj_w (jj_w (jj_w (jj_w (jj_w S 36 n (nI l)) 37 n (nI u)) 38 n (nI t)) 39 n (z)) 41 n (nI n)) 35 0 (nI (n + 1))) := by
  have hb4 : ∀ j, j < n → (jj_w (jj_w (jj_w (jj_w S 36 n (nI l)) 37 n (nI u)) 38 n (nI t)) 39 n (z)) 41 j = some (nI j) := fun j hj => (jj_w_neP (by omega)).trans ((jj_w_neP (by omega)).trans ((jj_w_neP (by omega)).trans ((jj_w_neP (by omega)).trans (hby j hj))))
  have hm4 : ∀ j, j < n + 1 → (jj_w (jj_w (jj_w (jj_w S 36 n (nI l)) 37 n (nI u)) 38 n (nI t)) 39 n (z)) 38 j = some (nI (jj_up m n t j)) ∧ jj_up m n t j < 2 ^ 31 := fun j hj => by
    by_cases c : j = n
    · rw [c, jj_up_at]
      exact ⟨(jj_w_neP (by omega)).trans (jj_w_at _ _ _ _), ht⟩
    · rw [jj_up_ne m c]
      exact ⟨(jj_w_neP (by omega)).trans ((jj_w_neI c).trans ((jj_w_neP (by omega)).trans ((jj_w_neP (by omega)).trans (hmi j (by omega)).1))), by have := (hmi j (by omega)).2; omega⟩
  have hmo4 : jj_up m n t (n - 1) ≤ jj_up m n t n := by
    rw [jj_up_at]
    by_cases c : n = 0
    · rw [c]; show jj_up m 0 t 0 ≤ t; rw [jj_up_at]; exact Nat.le_refl _
    · rw [jj_up_ne m (by omega)]; exact (hmi (n - 1) (by omega)).2
  refine jj_mkI RX4 .int (by decide) rfl (L := [some (.ref 35), some (.int (nI l)), some (.int (nI u)), some (.int (nI t)), some (.int z), none]) rfl rfl rfl ⟨65, [some (.ref 35), some (.int (nI l)), some (.int (nI u)), some (.int (nI t)), some (.int z), some (.int (nI n))], dX4_add_65, ?_⟩
  refine js_aload_n 0 rfl dX4_add_0 rfl ?_
  refine js_geti 0 jw_f_RX4_9 (jl_35 hB) rfl (Nat.le_of_ble_eq_true rfl) rfl (hn) dX4_add_1 ?_
  refine js_istore (L' := [some (.ref 35), some (.int (nI l)), some (.int (nI u)), some (.int (nI t)), some (.int z), some (.int (nI n))]) dX4_add_4 rfl (Nat.le_of_ble_eq_true rfl) ?_
  refine js_iload dX4_add_6 rfl ?_
  refine js_sipush (v := nI 130) dX4_add_8 (by decide) ?_
  refine jn_icmp_ge 63 (by omega) (by omega) dX4_add_11 (by decide) (fun h9 => absurd h9 (by omega)) (fun _ => ?_)
  refine js_aload_n 0 rfl dX4_add_14 rfl ?_
  refine js_getr 1 jw_f_RX4_15 (jl_35 hB) rfl (Nat.le_of_ble_eq_true rfl) rfl dX4_add_15 ?_
  refine js_iload dX4_add_18 rfl ?_
  refine js_iload_n 1 rfl dX4_add_20 rfl ?_
  refine js_iast n rfl (jl_36 hB) (by omega) (by decide) dX4_add_21 ?_
  refine js_aload_n 0 rfl dX4_add_22 rfl ?_
  refine js_getr 2 jw_f_RX4_19 (jl_35 hB) rfl (Nat.le_of_ble_eq_true rfl) rfl dX4_add_23 ?_
  refine js_iload dX4_add_26 rfl ?_
  refine js_iload_n 2 rfl dX4_add_28 rfl ?_
  refine js_iast n rfl (jl_37 hB) (by omega) (by decide) dX4_add_29 ?_
  refine js_aload_n 0 rfl dX4_add_30 rfl ?_
  refine js_getr 3 jw_f_RX4_22 (jl_35 hB) rfl (Nat.le_of_ble_eq_true rfl) rfl dX4_add_31 ?_
  refine js_iload dX4_add_34 rfl ?_
  refine js_iload_n 3 rfl dX4_add_36 rfl ?_
  refine js_iast n rfl (jl_38 hB) (by omega) (by decide) dX4_add_37 ?_
  refine js_aload_n 0 rfl dX4_add_38 rfl ?_
  refine js_getr 4 jw_f_RX4_25 (jl_35 hB) rfl (Nat.le_of_ble_eq_true rfl) rfl dX4_add_39 ?_
  refine js_iload dX4_add_42 rfl ?_
  refine js_iload dX4_add_44 rfl ?_
  refine js_iast n rfl (jl_39 hB) (by omega) (by decide) dX4_add_46 ?_
  refine js_aload_n 0 rfl dX4_add_47 rfl ?_
  refine js_iload dX4_add_48 rfl ?_
  refine js_callV (av := [.int (nI n)]) (st := []) (b := 35) (ct_X4_putInOrder (m := jj_up m n t) hB h130 hb4 hm4 hmo4) (Or.inl rfl) jw_c_X4_putInOrder jw_i_RX4 jw_m_RX4_34 jw_s_X4_putInOrder jw_e_X4_putInOrder (jl_35 hB) rfl jw_y_X4_putInOrder rfl ⟨(Nat.le_of_ble_eq_true rfl), (Nat.le_of_ble_eq_true rfl), (Nat.le_refl _), (Nat.le_refl _), (Nat.le_of_ble_eq_true rfl)⟩ dX4_add_50 ?_
  refine js_st (st' := []) rfl ?_
  refine js_aload_n 0 rfl dX4_add_53 rfl ?_
  refine js_dup rfl dX4_add_54 ?_
  refine js_geti 0 jw_f_RX4_9 (jl_35 hB) rfl (Nat.le_of_ble_eq_true rfl) rfl ((jj_w_neP (by decide)).trans ((jj_w_neP (by decide)).trans ((jj_w_neP (by decide)).trans ((jj_w_neP (by decide)).trans ((jj_w_neP (by decide)).trans (hn)))))) dX4_add_55 ?_
  refine js_iconst (v := nI 1) dX4_add_58 (by decide) ?_
  refine jn_iadd dX4_add_59 ?_
  refine js_put 0 jw_f_RX4_9 (jl_35 hB) rfl (Nat.le_of_ble_eq_true rfl) rfl rfl (by decide +kernel) dX4_add_60 ?_
  refine js_iload dX4_add_63 rfl ?_
  exact jj_refl
def jj_ux (f : Nat → Int32) (i : Nat) (x : Int32) : Nat → Int32 := fun j => if j = i then x else f j
theorem jj_ux_at (f : Nat → Int32) (i : Nat) (x : Int32) : jj_ux f i x i = x := if_pos rfl
theorem jj_ux_ne (f : Nat → Int32) {i j : Nat} {x : Int32} (h : j ≠ i) : jj_ux f i x j = f j := if_neg h
set_option maxRecDepth 100000 in
set_option maxHeartbeats 4000000 in
theorem J_track {lay : jj_Lay} {S : jj_Mem} {P : jj_P} (hB : jj_pp lay) (h : jj_J S P) (hK : jj_K P) (hT : jj_T P) {u : Nat} (hn : P.n = 0) (h14 : P.nt < 14) (hu : u < 10) :
    ∃ (S' : jj_Mem) (P' : jj_P), jj_CT yX6_track (.code yX6_track cX6_track 2 (some .int)) none 1 22 [.ref 0, .int (nI u)] lay S (some (.int (nI P.nt))) lay S' ∧ jj_J S' P' ∧ jj_K P' ∧ jj_T P' ∧ P'.n = 0 ∧ P'.t = P.t ∧ P'.nt = P.nt + 1 ∧ P'.wn = P.wn ∧ P'.cnt = P.cnt ∧ (∀ j, j < P.nt → P'.rc j = P.rc j) ∧ P'.rc P.nt = u ∧ (∀ p, 103 < p → ∀ j, S' p j = S p j) := by
  have F : ∀ p, p = 0 ∨ 3 < p → ∀ j, (jj_w (jj_w (jj_w S 2 P.nt (nI u)) 3 P.nt ((-1))) 1 0 (nI (P.nt + 1))) p j = S p j := fun p hp j => (jj_w_neP (by omega)).trans ((jj_w_neP (by omega)).trans (jj_w_neP (by omega)))
  refine ⟨(jj_w (jj_w (jj_w S 2 P.nt (nI u)) 3 P.nt ((-1))) 1 0 (nI (P.nt + 1))), (jj_mkP P.n P.t (P.nt + 1) P.wn P.cnt P.h P.x P.li P.tr P.mi P.rs (jj_up P.rc P.nt u) P.ld P.pl P.fl P.ca P.ge P.he P.du P.pa P.ad P.re P.pe P.se P.w0 P.w1 P.w2 P.w3 P.ev P.im P.od P.cl), ?_, ⟨jj_lg_mono h.lg (fun p h1 h2 j => F p (by omega) j), ⟨(show P.nt + 1 ≤ 14 by omega), jj_w_at _ _ _ _, fun j hj => ?_⟩, ⟨h.wi.1, (jj_w_neI (by omega)).trans ((jj_w_neP (by omega)).trans ((jj_w_neP (by omega)).trans h.wi.2.1)), fun j hj => ⟨(F 4 (by omega) j).trans (h.wi.2.2 j hj).1, (F 5 (by omega) j).trans (h.wi.2.2 j hj).2.1, (F 6 (by omega) j).trans (h.wi.2.2 j hj).2.2.1, (F 7 (by omega) j).trans (h.wi.2.2 j hj).2.2.2⟩⟩, ⟨h.au.1, (F 20 (by omega) 0).trans h.au.2.1, fun j hj => ⟨(F 21 (by omega) j).trans (h.au.2.2.1 j hj).1, (h.au.2.2.1 j hj).2⟩, fun j hj => ⟨(F 22 (by omega) j).trans (h.au.2.2.2 j hj).1, (h.au.2.2.2 j hj).2⟩⟩, fun j hj => ⟨(F 23 (by omega) j).trans (h.fl j hj).1, (h.fl j hj).2⟩, (F 0 (by omega) 9).trans h.now, (F 0 (by omega) 10).trans h.ru, jj_rw8_mono h.ev (fun p h1 h2 j => F p (by omega) j), jj_rw8_mono h.im (fun p h1 h2 j => F p (by omega) j), jj_rw8_mono h.od (fun p h1 h2 j => F p (by omega) j), fun a ha j hj => ⟨(F (10 + a) (by omega) j).trans (h.cm a ha j hj).1, (h.cm a ha j hj).2⟩, jj_bs_mono h.bs (fun p h1 h2 j => F p (by omega) j), fun j hj => (F 24 (by omega) j).trans (h.pe j hj), fun j hj => (F 25 (by omega) j).trans (h.kc j hj), fun j a1 a2 => (F 40 (by omega) j).trans (h.z40 j a1 a2), h.ht, h.hli, fun k hk => Nat.lt_succ_of_lt (h.htr k hk), h.hmt, h.hmo, h.r5, h.ad0⟩, ⟨hK.1, hK.2.1, fun l u d => ?_⟩, hT, hn, rfl, rfl, rfl, rfl, fun j hj => jj_up_ne P.rc (Nat.ne_of_lt hj), jj_up_at P.rc P.nt u, fun p hp j => F p (by omega) j⟩
  · refine jj_mkI RX6 .int (by decide) rfl (L := [some (.ref 0), some (.int (nI u))]) rfl rfl rfl ⟨34, [some (.ref 0), some (.int (nI u))], dX6_track_34, ?_⟩
    refine js_iload_n 1 rfl dX6_track_0 rfl ?_
    refine js_callS (av := [.int (nI u)]) (st := []) (ct_X6_needRecording hu) (Or.inl rfl) jw_c_X6_needRecording jw_i_RX6 jw_m_RX6_68 jw_s_X6_needRecording jw_y_X6_needRecording rfl ⟨(Nat.le_of_ble_eq_true rfl), (Nat.le_of_ble_eq_true rfl), (Nat.le_refl _), (Nat.le_refl _), (Nat.le_of_ble_eq_true rfl)⟩ dX6_track_1 ?_
    refine js_st (st' := []) rfl ?_
    refine js_aload_n 0 rfl dX6_track_4 rfl ?_
    refine js_getr 0 jw_f_RX6_12 (jl_0 hB) rfl (Nat.le_of_ble_eq_true rfl) rfl dX6_track_5 ?_
    refine js_getNi 0 jw_n_RX6_72 (jl_1 hB) rfl (Nat.le_of_ble_eq_true rfl) rfl (h.tk.2.1) dX6_track_8 ?_
    refine js_bipush (v := nI 14) dX6_track_11 (by decide) ?_
    refine jn_icmp_lt 26 (by omega) (by omega) dX6_track_13 (by decide) (fun _ => ?_) (fun h9 => absurd h9 (by omega))
    refine js_aload_n 0 rfl dX6_track_26 rfl ?_
    refine js_getr 0 jw_f_RX6_12 (jl_0 hB) rfl (Nat.le_of_ble_eq_true rfl) rfl dX6_track_27 ?_
    refine js_iload_n 1 rfl dX6_track_30 rfl ?_
    refine js_callVN (av := [.int (nI u)]) (st := []) (b := 1) (ct_X2_addTrack hB h.tk.2.1 h14) (Or.inl rfl) jw_c_X2_addTrack jw_i_RX2 jw_h_RX6_82 jw_s_X2_addTrack jw_e_X2_addTrack (jl_1 hB) rfl jw_y_X2_addTrack rfl ⟨(Nat.le_of_ble_eq_true rfl), (Nat.le_of_ble_eq_true rfl), (Nat.le_refl _), (Nat.le_refl _), (Nat.le_of_ble_eq_true rfl)⟩ dX6_track_31 ?_
    refine js_st (st' := [.int (nI P.nt)]) rfl ?_
    exact jj_refl
  · by_cases c : j = P.nt
    · subst c
      refine ⟨?_, ?_, ?_⟩
      · show _ = some (nI (jj_up P.rc P.nt u P.nt))
        rw [jj_up_at]
        exact (jj_w_neP (by omega)).trans ((jj_w_neP (by omega)).trans (jj_w_at _ _ _ _))
      · show jj_up P.rc P.nt u P.nt < 10
        rw [jj_up_at]; exact hu
      · exact (jj_w_neP (by omega)).trans (jj_w_at _ _ _ _)
    · have hj2 : j < P.nt := by have : j < P.nt + 1 := hj; omega
      refine ⟨?_, ?_, ?_⟩
      · show _ = some (nI (jj_up P.rc P.nt u j))
        rw [jj_up_ne P.rc c]
        exact (jj_w_neP (by omega)).trans ((jj_w_neP (by omega)).trans ((jj_w_neI c).trans (h.tk.2.2 j hj2).1))
      · show jj_up P.rc P.nt u j < 10
        rw [jj_up_ne P.rc c]; exact (h.tk.2.2 j hj2).2.1
      · exact (jj_w_neP (by omega)).trans ((jj_w_neI c).trans ((jj_w_neP (by omega)).trans (h.tk.2.2 j hj2).2.2))
  · show jj_ct _ P.n ≤ 5
    rw [hn]; exact Nat.zero_le _
set_option maxRecDepth 100000 in
set_option maxHeartbeats 4000000 in
theorem J_listener {lay : jj_Lay} {S : jj_Mem} {P : jj_P} (hB : jj_pp lay) (h : jj_J S P) (hK : jj_K P) (hT : jj_T P) {u v : Nat} (ht0 : P.t = 0) (h8 : P.cnt < 8) (hu : u < 4) (hv : v < 3) :
    ∃ (S' : jj_Mem) (P' : jj_P), jj_CT yX6_listener (.code yX6_listener cX6_listener 3 (some .int)) none 1 23 [.ref 0, .int (nI u), .int (nI v)] lay S (some (.int (nI P.cnt))) lay S' ∧ jj_J S' P' ∧ jj_K P' ∧ jj_T P' ∧ P'.n = P.n ∧ P'.t = P.t ∧ P'.nt = P.nt ∧ P'.wn = P.wn ∧ P'.cnt = P.cnt + 1 ∧ P'.rc = P.rc ∧ (∀ p, 103 < p → ∀ j, S' p j = S p j) := by
  have F : ∀ p, p < 20 ∨ 22 < p → ∀ j, (jj_w (jj_w (jj_w S 21 P.cnt (nI u)) 22 P.cnt (nI v)) 20 0 (nI (P.cnt + 1))) p j = S p j := fun p hp j => (jj_w_neP (by omega)).trans ((jj_w_neP (by omega)).trans (jj_w_neP (by omega)))
  refine ⟨(jj_w (jj_w (jj_w S 21 P.cnt (nI u)) 22 P.cnt (nI v)) 20 0 (nI (P.cnt + 1))), (jj_mkP P.n P.t P.nt P.wn (P.cnt + 1) P.h P.x P.li P.tr P.mi P.rs P.rc (jj_up P.ld P.cnt u) (jj_up P.pl P.cnt v) P.fl P.ca P.ge P.he P.du P.pa P.ad P.re P.pe P.se P.w0 P.w1 P.w2 P.w3 P.ev P.im P.od P.cl), ?_, ⟨jj_lg_mono h.lg (fun p h1 h2 j => F p (by omega) j), jj_tk_mono h.tk (fun p h1 h2 j => F p (by omega) j), jj_wi_mono h.wi (fun p h1 h2 j => F p (by omega) j), ⟨(show P.cnt + 1 ≤ 8 by omega), jj_w_at _ _ _ _, fun j hj => ?_, fun j hj => ?_⟩, fun j hj => ⟨(F 23 (by omega) j).trans (h.fl j hj).1, (h.fl j hj).2⟩, (F 0 (by omega) 9).trans h.now, (F 0 (by omega) 10).trans h.ru, jj_rw8_mono h.ev (fun p h1 h2 j => F p (by omega) j), jj_rw8_mono h.im (fun p h1 h2 j => F p (by omega) j), jj_rw8_mono h.od (fun p h1 h2 j => F p (by omega) j), fun a ha j hj => ⟨(F (10 + a) (by omega) j).trans (h.cm a ha j hj).1, (h.cm a ha j hj).2⟩, jj_bs_mono h.bs (fun p h1 h2 j => F p (by omega) j), fun j hj => (F 24 (by omega) j).trans (h.pe j hj), fun j hj => (F 25 (by omega) j).trans (h.kc j hj), fun j a1 a2 => (F 40 (by omega) j).trans (h.z40 j a1 a2), h.ht, fun k hk => Nat.lt_succ_of_lt (h.hli k hk), h.htr, h.hmt, h.hmo, h.r5, h.ad0⟩, hK, ?_, rfl, rfl, rfl, rfl, rfl, rfl, fun p hp j => F p (by omega) j⟩
  · refine jj_mkI RX6 .int (by decide) rfl (L := [some (.ref 0), some (.int (nI u)), some (.int (nI v))]) rfl rfl rfl ⟨39, [some (.ref 0), some (.int (nI u)), some (.int (nI v))], dX6_listener_39, ?_⟩
    refine js_iload_n 1 rfl dX6_listener_0 rfl ?_
    refine js_callS (av := [.int (nI u)]) (st := []) (ct_X6_needLand hu) (Or.inl rfl) jw_c_X6_needLand jw_i_RX6 jw_m_RX6_89 jw_s_X6_needLand jw_y_X6_needLand rfl ⟨(Nat.le_of_ble_eq_true rfl), (Nat.le_of_ble_eq_true rfl), (Nat.le_refl _), (Nat.le_refl _), (Nat.le_of_ble_eq_true rfl)⟩ dX6_listener_1 ?_
    refine js_st (st' := []) rfl ?_
    refine js_iload_n 2 rfl dX6_listener_4 rfl ?_
    refine js_callS (av := [.int (nI v)]) (st := []) (ct_X6_needPlan hv) (Or.inl rfl) jw_c_X6_needPlan jw_i_RX6 jw_m_RX6_141 jw_s_X6_needPlan jw_y_X6_needPlan rfl ⟨(Nat.le_of_ble_eq_true rfl), (Nat.le_of_ble_eq_true rfl), (Nat.le_refl _), (Nat.le_refl _), (Nat.le_of_ble_eq_true rfl)⟩ dX6_listener_5 ?_
    refine js_st (st' := []) rfl ?_
    refine js_aload_n 0 rfl dX6_listener_8 rfl ?_
    refine js_getr 2 jw_f_RX6_26 (jl_0 hB) rfl (Nat.le_of_ble_eq_true rfl) rfl dX6_listener_9 ?_
    refine js_getNi 0 jw_n_RX6_144 (jl_20 hB) rfl (Nat.le_of_ble_eq_true rfl) rfl (h.au.2.1) dX6_listener_12 ?_
    refine js_bipush (v := nI 8) dX6_listener_15 (by decide) ?_
    refine jn_icmp_lt 30 (by omega) (by omega) dX6_listener_17 (by decide) (fun _ => ?_) (fun h9 => absurd h9 (by omega))
    refine js_aload_n 0 rfl dX6_listener_30 rfl ?_
    refine js_getr 2 jw_f_RX6_26 (jl_0 hB) rfl (Nat.le_of_ble_eq_true rfl) rfl dX6_listener_31 ?_
    refine js_iload_n 1 rfl dX6_listener_34 rfl ?_
    refine js_iload_n 2 rfl dX6_listener_35 rfl ?_
    refine js_callVN (av := [.int (nI u), .int (nI v)]) (st := []) (b := 20) (ct_X0_add hB h.au.2.1 h8) (Or.inl rfl) jw_c_X0_add jw_i_RX0 jw_h_RX6_149 jw_s_X0_add jw_e_X0_add (jl_20 hB) rfl jw_y_X0_add rfl ⟨(Nat.le_of_ble_eq_true rfl), (Nat.le_of_ble_eq_true rfl), (Nat.le_refl _), (Nat.le_refl _), (Nat.le_of_ble_eq_true rfl)⟩ dX6_listener_36 ?_
    refine js_st (st' := [.int (nI P.cnt)]) rfl ?_
    exact jj_refl
  · show _ = some (nI (jj_up P.ld P.cnt u j)) ∧ jj_up P.ld P.cnt u j < 4
    by_cases c : j = P.cnt
    · subst c
      rw [jj_up_at]
      exact ⟨(jj_w_neP (by omega)).trans ((jj_w_neP (by omega)).trans (jj_w_at _ _ _ _)), hu⟩
    · have hj2 : j < P.cnt := by have : j < P.cnt + 1 := hj; omega
      rw [jj_up_ne P.ld c]
      exact ⟨(jj_w_neP (by omega)).trans ((jj_w_neP (by omega)).trans ((jj_w_neI c).trans (h.au.2.2.1 j hj2).1)), (h.au.2.2.1 j hj2).2⟩
  · show _ = some (nI (jj_up P.pl P.cnt v j)) ∧ jj_up P.pl P.cnt v j < 3
    by_cases c : j = P.cnt
    · subst c
      rw [jj_up_at]
      exact ⟨(jj_w_neP (by omega)).trans (jj_w_at _ _ _ _), hv⟩
    · have hj2 : j < P.cnt := by have : j < P.cnt + 1 := hj; omega
      rw [jj_up_ne P.pl c]
      exact ⟨(jj_w_neP (by omega)).trans ((jj_w_neI c).trans ((jj_w_neP (by omega)).trans (h.au.2.2.2 j hj2).1)), (h.au.2.2.2 j hj2).2⟩
  · have h9 : jj_tot P.h P.x P.ca P.he P.du P.pa P.re = P.t / 14400 * jj_sm (fun l => jj_fee (P.pl l)) P.cnt := hT
    show jj_tot P.h P.x P.ca P.he P.du P.pa P.re = P.t / 14400 * _
    rw [h9, ht0]
    simp
set_option maxRecDepth 100000 in
set_option maxHeartbeats 4000000 in
theorem J_claim {lay : jj_Lay} {S : jj_Mem} {P : jj_P} (hB : jj_pp lay) (h : jj_J S P) (hK : jj_K P) (hT : jj_T P) {u q y : Nat} (hu : u < 10) (hq : q < 5) (hy : y ≤ 100) :
    ∃ (v : Int32) (S' : jj_Mem) (P' : jj_P), jj_CT yX6_claim (.code yX6_claim cX6_claim 4 (some .int)) none 2 46 [.ref 0, .int (nI u), .int (nI q), .int (nI y)] lay S (some (.int v)) lay S' ∧ jj_J S' P' ∧ jj_K P' ∧ jj_T P' ∧ jj_E P P' ∧ P'.n = P.n ∧ P'.t = P.t ∧ P'.nt = P.nt ∧ P'.wn = P.wn ∧ P'.cnt = P.cnt ∧ P'.pl = P.pl ∧ P'.rc = P.rc ∧ (∀ p, 103 < p → ∀ j, S' p j = S p j) := by
  have F : ∀ p, p < 10 ∨ 19 < p → ∀ j, (jj_w S (10 + u) q (nI y)) p j = S p j := fun p hp j => jj_w_neP (by omega)
  have hcm : jj_cm (jj_w S (10 + u) q (nI y)) (jj_um P.cl u q y) := fun a ha j hj => by
    unfold jj_um jj_w
    by_cases c : a = u ∧ j = q
    · rw [if_pos ⟨by omega, c.2⟩, if_pos c]; exact ⟨rfl, hy⟩
    · rw [if_neg (fun w => c ⟨by omega, w.2⟩), if_neg c]; exact h.cm a ha j hj
  refine ⟨nI (jj_sm (fun q1 => jj_um P.cl u q y u q1) 5), (jj_w S (10 + u) q (nI y)), (jj_mkP P.n P.t P.nt P.wn P.cnt P.h P.x P.li P.tr P.mi P.rs P.rc P.ld P.pl P.fl P.ca P.ge P.he P.du P.pa P.ad P.re P.pe P.se P.w0 P.w1 P.w2 P.w3 P.ev P.im P.od (jj_um P.cl u q y)), ?_, ⟨jj_lg_mono h.lg (fun p h1 h2 j => F p (by omega) j), jj_tk_mono h.tk (fun p h1 h2 j => F p (by omega) j), jj_wi_mono h.wi (fun p h1 h2 j => F p (by omega) j), ⟨h.au.1, (F 20 (by omega) 0).trans h.au.2.1, fun j hj => ⟨(F 21 (by omega) j).trans (h.au.2.2.1 j hj).1, (h.au.2.2.1 j hj).2⟩, fun j hj => ⟨(F 22 (by omega) j).trans (h.au.2.2.2 j hj).1, (h.au.2.2.2 j hj).2⟩⟩, fun j hj => ⟨(F 23 (by omega) j).trans (h.fl j hj).1, (h.fl j hj).2⟩, (F 0 (by omega) 9).trans h.now, (F 0 (by omega) 10).trans h.ru, jj_rw8_mono h.ev (fun p h1 h2 j => F p (by omega) j), jj_rw8_mono h.im (fun p h1 h2 j => F p (by omega) j), jj_rw8_mono h.od (fun p h1 h2 j => F p (by omega) j), hcm, jj_bs_mono h.bs (fun p h1 h2 j => F p (by omega) j), fun j hj => (F 24 (by omega) j).trans (h.pe j hj), fun j hj => (F 25 (by omega) j).trans (h.kc j hj), fun j a1 a2 => (F 40 (by omega) j).trans (h.z40 j a1 a2), h.ht, h.hli, h.htr, h.hmt, h.hmo, h.r5, h.ad0⟩, hK, hT, jj_E_refl P, rfl, rfl, rfl, rfl, rfl, rfl, rfl, fun p hp j => F p (by omega) j⟩
  refine jj_mkI RX6 .int (by decide) rfl (L := [some (.ref 0), some (.int (nI u)), some (.int (nI q)), some (.int (nI y))]) rfl rfl rfl ⟨48, [some (.ref 0), some (.int (nI u)), some (.int (nI q)), some (.int (nI y))], dX6_claim_48, ?_⟩
  refine js_iload_n 1 rfl dX6_claim_0 rfl ?_
  refine js_callS (av := [.int (nI u)]) (st := []) (ct_X6_needRecording hu) (Or.inl rfl) jw_c_X6_needRecording jw_i_RX6 jw_m_RX6_68 jw_s_X6_needRecording jw_y_X6_needRecording rfl ⟨(Nat.le_of_ble_eq_true rfl), (Nat.le_of_ble_eq_true rfl), (Nat.le_refl _), (Nat.le_refl _), (Nat.le_of_ble_eq_true rfl)⟩ dX6_claim_1 ?_
  refine js_st (st' := []) rfl ?_
  refine js_iload_n 2 rfl dX6_claim_4 rfl ?_
  refine js_callS (av := [.int (nI q)]) (st := []) (ct_X6_needParty hq) (Or.inl rfl) jw_c_X6_needParty jw_i_RX6 jw_m_RX6_121 jw_s_X6_needParty jw_y_X6_needParty rfl ⟨(Nat.le_of_ble_eq_true rfl), (Nat.le_of_ble_eq_true rfl), (Nat.le_refl _), (Nat.le_refl _), (Nat.le_of_ble_eq_true rfl)⟩ dX6_claim_5 ?_
  refine js_st (st' := []) rfl ?_
  refine js_iload_n 3 rfl dX6_claim_8 rfl ?_
  refine jn_if_lt 18 (by omega) dX6_claim_9 (by decide) (fun h9 => absurd h9 (by omega)) (fun _ => ?_)
  refine js_iload_n 3 rfl dX6_claim_12 rfl ?_
  refine js_bipush (v := nI 100) dX6_claim_13 (by decide) ?_
  refine jn_icmp_le 28 (by omega) (by omega) dX6_claim_15 (by decide) (fun _ => ?_) (fun h9 => absurd h9 (by omega))
  refine js_aload_n 0 rfl dX6_claim_28 rfl ?_
  refine js_getr 1 jw_f_RX6_19 (jl_0 hB) rfl (Nat.le_of_ble_eq_true rfl) rfl dX6_claim_29 ?_
  refine js_getNr 0 jw_n_RX6_126 (jl_8 hB) rfl (Nat.le_of_ble_eq_true rfl) rfl dX6_claim_32 ?_
  refine js_iload_n 1 rfl dX6_claim_35 rfl ?_
  refine js_aald u rfl (jl_9 hB) (by omega) (by decide) (jr_cl u hu) dX6_claim_36 ?_
  refine js_iload_n 2 rfl dX6_claim_37 rfl ?_
  refine js_iload_n 3 rfl dX6_claim_38 rfl ?_
  refine js_iast q rfl (jl_cl hB u hu) (by omega) (by decide) dX6_claim_39 ?_
  refine js_aload_n 0 rfl dX6_claim_40 rfl ?_
  refine js_getr 1 jw_f_RX6_19 (jl_0 hB) rfl (Nat.le_of_ble_eq_true rfl) rfl dX6_claim_41 ?_
  refine js_iload_n 1 rfl dX6_claim_44 rfl ?_
  refine js_callVN (av := [.int (nI u)]) (st := []) (b := 8) (ct_X5_claimsOf hB hu hcm) (Or.inl rfl) jw_c_X5_claimsOf jw_i_RX5 jw_h_RX6_130 jw_s_X5_claimsOf jw_e_X5_claimsOf (jl_8 hB) rfl jw_y_X5_claimsOf rfl ⟨(Nat.le_of_ble_eq_true rfl), (Nat.le_of_ble_eq_true rfl), (Nat.le_refl _), (Nat.le_refl _), (Nat.le_of_ble_eq_true rfl)⟩ dX6_claim_45 ?_
  refine js_st (st' := [.int (nI (jj_sm (fun q1 => jj_um P.cl u q y u q1) 5))]) rfl ?_
  exact jj_refl
end
