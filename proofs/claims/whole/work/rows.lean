section
-- ===== PART A: goes FIRST, ahead of the names: the tables' words, and 'selects' of the private methods out of them =====
/-- a private method of a class that the tables say can be made, by its rows of tables_1 -/
def lw_okq (q : MethodName × Nat) : Prop := (q.1.cls ≠ "java/lang/invoke/MethodHandle" ∧ q.1.cls ≠ "java/lang/invoke/VarHandle") ∧ Cond.instantiable q.1.cls q.2 ∈ tables_1 ∧ Cond.privateMethod q.1 ∈ tables_1 ∧ Cond.instanceMethod q.1 ∈ tables_1
theorem lw_p0 : lw_okq (⟨"java/lang/Throwable", "fillInStackTrace", "(I)Ljava/lang/Throwable;"⟩, 6) := ⟨⟨by decide +kernel, by decide +kernel⟩, List.mem_of_getElem? (i := 154) (by decide +kernel), List.mem_of_getElem? (i := 152) (by decide +kernel), List.mem_of_getElem? (i := 153) (by decide +kernel)⟩
theorem lw_p1 : lw_okq (⟨"SkinLeague", "regionAt", "(I)LSkinLeague$Region;"⟩, 10) := ⟨⟨by decide +kernel, by decide +kernel⟩, List.mem_of_getElem? (i := 27) (by decide +kernel), List.mem_of_getElem? (i := 217) (by decide +kernel), List.mem_of_getElem? (i := 218) (by decide +kernel)⟩
theorem lw_p2 : lw_okq (⟨"SkinLeague", "playerAt", "(I)LSkinLeague$Player;"⟩, 10) := ⟨⟨by decide +kernel, by decide +kernel⟩, List.mem_of_getElem? (i := 27) (by decide +kernel), List.mem_of_getElem? (i := 260) (by decide +kernel), List.mem_of_getElem? (i := 261) (by decide +kernel)⟩
theorem lw_p3 : lw_okq (⟨"SkinLeague", "findPlayer", "(I)LSkinLeague$Player;"⟩, 10) := ⟨⟨by decide +kernel, by decide +kernel⟩, List.mem_of_getElem? (i := 27) (by decide +kernel), List.mem_of_getElem? (i := 264) (by decide +kernel), List.mem_of_getElem? (i := 265) (by decide +kernel)⟩
theorem lw_p4 : lw_okq (⟨"SkinLeague$Region", "isFull", "()Z"⟩, 2) := ⟨⟨by decide +kernel, by decide +kernel⟩, List.mem_of_getElem? (i := 44) (by decide +kernel), List.mem_of_getElem? (i := 270) (by decide +kernel), List.mem_of_getElem? (i := 271) (by decide +kernel)⟩
theorem lw_p5 : lw_okq (⟨"SkinLeague$Player", "isBanned", "(I)Z"⟩, 4) := ⟨⟨by decide +kernel, by decide +kernel⟩, List.mem_of_getElem? (i := 183) (by decide +kernel), List.mem_of_getElem? (i := 275) (by decide +kernel), List.mem_of_getElem? (i := 276) (by decide +kernel)⟩
theorem lw_p6 : lw_okq (⟨"SkinLeague$Match", "addPoints", "()V"⟩, 4) := ⟨⟨by decide +kernel, by decide +kernel⟩, List.mem_of_getElem? (i := 279) (by decide +kernel), List.mem_of_getElem? (i := 298) (by decide +kernel), List.mem_of_getElem? (i := 299) (by decide +kernel)⟩
theorem lw_p7 : lw_okq (⟨"SkinLeague$Match", "isStanding", "()Z"⟩, 4) := ⟨⟨by decide +kernel, by decide +kernel⟩, List.mem_of_getElem? (i := 279) (by decide +kernel), List.mem_of_getElem? (i := 302) (by decide +kernel), List.mem_of_getElem? (i := 303) (by decide +kernel)⟩
theorem lw_p8 : lw_okq (⟨"SkinLeague$Player", "isProvenOn", "(I)Z"⟩, 4) := ⟨⟨by decide +kernel, by decide +kernel⟩, List.mem_of_getElem? (i := 183) (by decide +kernel), List.mem_of_getElem? (i := 306) (by decide +kernel), List.mem_of_getElem? (i := 307) (by decide +kernel)⟩
theorem lw_p9 : lw_okq (⟨"SkinLeague$Player", "isProven", "()Z"⟩, 4) := ⟨⟨by decide +kernel, by decide +kernel⟩, List.mem_of_getElem? (i := 183) (by decide +kernel), List.mem_of_getElem? (i := 310) (by decide +kernel), List.mem_of_getElem? (i := 311) (by decide +kernel)⟩
theorem lw_p10 : lw_okq (⟨"SkinLeague$Season", "add", "(II)V"⟩, 3) := ⟨⟨by decide +kernel, by decide +kernel⟩, List.mem_of_getElem? (i := 58) (by decide +kernel), List.mem_of_getElem? (i := 314) (by decide +kernel), List.mem_of_getElem? (i := 315) (by decide +kernel)⟩
theorem lw_p11 : lw_okq (⟨"SkinLeague", "awardPrizes", "()I"⟩, 10) := ⟨⟨by decide +kernel, by decide +kernel⟩, List.mem_of_getElem? (i := 27) (by decide +kernel), List.mem_of_getElem? (i := 326) (by decide +kernel), List.mem_of_getElem? (i := 327) (by decide +kernel)⟩
theorem lw_p12 : lw_okq (⟨"SkinLeague$Season", "playerOn", "(I)I"⟩, 3) := ⟨⟨by decide +kernel, by decide +kernel⟩, List.mem_of_getElem? (i := 58) (by decide +kernel), List.mem_of_getElem? (i := 330) (by decide +kernel), List.mem_of_getElem? (i := 331) (by decide +kernel)⟩
theorem lw_p13 : lw_okq (⟨"SkinLeague$Season", "firstBehind", "(I)I"⟩, 3) := ⟨⟨by decide +kernel, by decide +kernel⟩, List.mem_of_getElem? (i := 58) (by decide +kernel), List.mem_of_getElem? (i := 334) (by decide +kernel), List.mem_of_getElem? (i := 335) (by decide +kernel)⟩
theorem lw_p14 : lw_okq (⟨"SkinLeague$Season", "isAhead", "(II)Z"⟩, 3) := ⟨⟨by decide +kernel, by decide +kernel⟩, List.mem_of_getElem? (i := 58) (by decide +kernel), List.mem_of_getElem? (i := 338) (by decide +kernel), List.mem_of_getElem? (i := 339) (by decide +kernel)⟩
theorem lw_p15 : lw_okq (⟨"SkinLeague$Season", "pointsOf", "(I)I"⟩, 3) := ⟨⟨by decide +kernel, by decide +kernel⟩, List.mem_of_getElem? (i := 58) (by decide +kernel), List.mem_of_getElem? (i := 342) (by decide +kernel), List.mem_of_getElem? (i := 343) (by decide +kernel)⟩
def lw_privs_1 : List (MethodName × Nat) := [(⟨"java/lang/Throwable", "fillInStackTrace", "(I)Ljava/lang/Throwable;"⟩, 6), (⟨"SkinLeague", "regionAt", "(I)LSkinLeague$Region;"⟩, 10), (⟨"SkinLeague", "playerAt", "(I)LSkinLeague$Player;"⟩, 10), (⟨"SkinLeague", "findPlayer", "(I)LSkinLeague$Player;"⟩, 10), (⟨"SkinLeague$Region", "isFull", "()Z"⟩, 2), (⟨"SkinLeague$Player", "isBanned", "(I)Z"⟩, 4), (⟨"SkinLeague$Match", "addPoints", "()V"⟩, 4), (⟨"SkinLeague$Match", "isStanding", "()Z"⟩, 4), (⟨"SkinLeague$Player", "isProvenOn", "(I)Z"⟩, 4), (⟨"SkinLeague$Player", "isProven", "()Z"⟩, 4), (⟨"SkinLeague$Season", "add", "(II)V"⟩, 3), (⟨"SkinLeague", "awardPrizes", "()I"⟩, 10), (⟨"SkinLeague$Season", "playerOn", "(I)I"⟩, 3), (⟨"SkinLeague$Season", "firstBehind", "(I)I"⟩, 3), (⟨"SkinLeague$Season", "isAhead", "(II)Z"⟩, 3), (⟨"SkinLeague$Season", "pointsOf", "(I)I"⟩, 3)]
theorem lw_r1 : ∀ q ∈ lw_privs_1, lw_okq q := List.forall_mem_cons.mpr ⟨lw_p0, List.forall_mem_cons.mpr ⟨lw_p1, List.forall_mem_cons.mpr ⟨lw_p2, List.forall_mem_cons.mpr ⟨lw_p3, List.forall_mem_cons.mpr ⟨lw_p4, List.forall_mem_cons.mpr ⟨lw_p5, List.forall_mem_cons.mpr ⟨lw_p6, List.forall_mem_cons.mpr ⟨lw_p7, List.forall_mem_cons.mpr ⟨lw_p8, List.forall_mem_cons.mpr ⟨lw_p9, List.forall_mem_cons.mpr ⟨lw_p10, List.forall_mem_cons.mpr ⟨lw_p11, List.forall_mem_cons.mpr ⟨lw_p12, List.forall_mem_cons.mpr ⟨lw_p13, List.forall_mem_cons.mpr ⟨lw_p14, List.forall_mem_cons.mpr ⟨lw_p15, fun _ h => absurd h List.not_mem_nil⟩⟩⟩⟩⟩⟩⟩⟩⟩⟩⟩⟩⟩⟩⟩⟩
theorem lw_p16 : lw_okq (⟨"SkinLeague$Season", "gamesOf", "(I)I"⟩, 3) := ⟨⟨by decide +kernel, by decide +kernel⟩, List.mem_of_getElem? (i := 58) (by decide +kernel), List.mem_of_getElem? (i := 346) (by decide +kernel), List.mem_of_getElem? (i := 347) (by decide +kernel)⟩
theorem lw_p17 : lw_okq (⟨"SkinLeague", "skinAt", "(I)LSkinLeague$Skin;"⟩, 10) := ⟨⟨by decide +kernel, by decide +kernel⟩, List.mem_of_getElem? (i := 27) (by decide +kernel), List.mem_of_getElem? (i := 402) (by decide +kernel), List.mem_of_getElem? (i := 403) (by decide +kernel)⟩
theorem lw_p18 : lw_okq (⟨"SkinLeague", "mayDeal", "(LSkinLeague$Player;LSkinLeague$Player;)Z"⟩, 10) := ⟨⟨by decide +kernel, by decide +kernel⟩, List.mem_of_getElem? (i := 27) (by decide +kernel), List.mem_of_getElem? (i := 408) (by decide +kernel), List.mem_of_getElem? (i := 409) (by decide +kernel)⟩
theorem lw_p19 : lw_okq (⟨"SkinLeague$Skin", "isSoldOften", "()Z"⟩, 10) := ⟨⟨by decide +kernel, by decide +kernel⟩, List.mem_of_getElem? (i := 349) (by decide +kernel), List.mem_of_getElem? (i := 412) (by decide +kernel), List.mem_of_getElem? (i := 413) (by decide +kernel)⟩
theorem lw_p20 : lw_okq (⟨"SkinLeague$Skin", "sellTo", "(LSkinLeague$Player;I)Z"⟩, 10) := ⟨⟨by decide +kernel, by decide +kernel⟩, List.mem_of_getElem? (i := 349) (by decide +kernel), List.mem_of_getElem? (i := 417) (by decide +kernel), List.mem_of_getElem? (i := 418) (by decide +kernel)⟩
theorem lw_p21 : lw_okq (⟨"SkinLeague$Sale", "isInFaithNow", "()Z"⟩, 3) := ⟨⟨by decide +kernel, by decide +kernel⟩, List.mem_of_getElem? (i := 421) (by decide +kernel), List.mem_of_getElem? (i := 440) (by decide +kernel), List.mem_of_getElem? (i := 441) (by decide +kernel)⟩
theorem lw_p22 : lw_okq (⟨"SkinLeague$Player", "prove", "(I)V"⟩, 4) := ⟨⟨by decide +kernel, by decide +kernel⟩, List.mem_of_getElem? (i := 183) (by decide +kernel), List.mem_of_getElem? (i := 465) (by decide +kernel), List.mem_of_getElem? (i := 466) (by decide +kernel)⟩
theorem lw_p23 : lw_okq (⟨"SkinLeague", "findHeirsAnew", "()V"⟩, 10) := ⟨⟨by decide +kernel, by decide +kernel⟩, List.mem_of_getElem? (i := 27) (by decide +kernel), List.mem_of_getElem? (i := 469) (by decide +kernel), List.mem_of_getElem? (i := 470) (by decide +kernel)⟩
theorem lw_p24 : lw_okq (⟨"SkinLeague", "countPointsAnew", "()V"⟩, 10) := ⟨⟨by decide +kernel, by decide +kernel⟩, List.mem_of_getElem? (i := 27) (by decide +kernel), List.mem_of_getElem? (i := 473) (by decide +kernel), List.mem_of_getElem? (i := 474) (by decide +kernel)⟩
theorem lw_p25 : lw_okq (⟨"SkinLeague$Season", "forgetPoints", "()V"⟩, 3) := ⟨⟨by decide +kernel, by decide +kernel⟩, List.mem_of_getElem? (i := 58) (by decide +kernel), List.mem_of_getElem? (i := 477) (by decide +kernel), List.mem_of_getElem? (i := 478) (by decide +kernel)⟩
theorem lw_p26 : lw_okq (⟨"SkinLeague$Skin", "passTo", "(LSkinLeague$Player;)V"⟩, 10) := ⟨⟨by decide +kernel, by decide +kernel⟩, List.mem_of_getElem? (i := 349) (by decide +kernel), List.mem_of_getElem? (i := 481) (by decide +kernel), List.mem_of_getElem? (i := 482) (by decide +kernel)⟩
theorem lw_p27 : lw_okq (⟨"SkinLeague$Skin", "undoSales", "()V"⟩, 10) := ⟨⟨by decide +kernel, by decide +kernel⟩, List.mem_of_getElem? (i := 349) (by decide +kernel), List.mem_of_getElem? (i := 485) (by decide +kernel), List.mem_of_getElem? (i := 486) (by decide +kernel)⟩
theorem lw_p28 : lw_okq (⟨"SkinLeague", "countFallenMatches", "()I"⟩, 10) := ⟨⟨by decide +kernel, by decide +kernel⟩, List.mem_of_getElem? (i := 27) (by decide +kernel), List.mem_of_getElem? (i := 489) (by decide +kernel), List.mem_of_getElem? (i := 490) (by decide +kernel)⟩
theorem lw_p29 : lw_okq (⟨"SkinLeague", "matchAt", "(I)LSkinLeague$Match;"⟩, 10) := ⟨⟨by decide +kernel, by decide +kernel⟩, List.mem_of_getElem? (i := 27) (by decide +kernel), List.mem_of_getElem? (i := 526) (by decide +kernel), List.mem_of_getElem? (i := 527) (by decide +kernel)⟩
theorem lw_p30 : lw_okq (⟨"SkinLeague", "seasonAt", "(I)LSkinLeague$Season;"⟩, 10) := ⟨⟨by decide +kernel, by decide +kernel⟩, List.mem_of_getElem? (i := 27) (by decide +kernel), List.mem_of_getElem? (i := 538) (by decide +kernel), List.mem_of_getElem? (i := 539) (by decide +kernel)⟩
theorem lw_p31 : lw_okq (⟨"SkinLeague$Season", "placeOf", "(I)I"⟩, 3) := ⟨⟨by decide +kernel, by decide +kernel⟩, List.mem_of_getElem? (i := 58) (by decide +kernel), List.mem_of_getElem? (i := 545) (by decide +kernel), List.mem_of_getElem? (i := 546) (by decide +kernel)⟩
def lw_privs_2 : List (MethodName × Nat) := [(⟨"SkinLeague$Season", "gamesOf", "(I)I"⟩, 3), (⟨"SkinLeague", "skinAt", "(I)LSkinLeague$Skin;"⟩, 10), (⟨"SkinLeague", "mayDeal", "(LSkinLeague$Player;LSkinLeague$Player;)Z"⟩, 10), (⟨"SkinLeague$Skin", "isSoldOften", "()Z"⟩, 10), (⟨"SkinLeague$Skin", "sellTo", "(LSkinLeague$Player;I)Z"⟩, 10), (⟨"SkinLeague$Sale", "isInFaithNow", "()Z"⟩, 3), (⟨"SkinLeague$Player", "prove", "(I)V"⟩, 4), (⟨"SkinLeague", "findHeirsAnew", "()V"⟩, 10), (⟨"SkinLeague", "countPointsAnew", "()V"⟩, 10), (⟨"SkinLeague$Season", "forgetPoints", "()V"⟩, 3), (⟨"SkinLeague$Skin", "passTo", "(LSkinLeague$Player;)V"⟩, 10), (⟨"SkinLeague$Skin", "undoSales", "()V"⟩, 10), (⟨"SkinLeague", "countFallenMatches", "()I"⟩, 10), (⟨"SkinLeague", "matchAt", "(I)LSkinLeague$Match;"⟩, 10), (⟨"SkinLeague", "seasonAt", "(I)LSkinLeague$Season;"⟩, 10), (⟨"SkinLeague$Season", "placeOf", "(I)I"⟩, 3)]
theorem lw_r2 : ∀ q ∈ lw_privs_2, lw_okq q := List.forall_mem_cons.mpr ⟨lw_p16, List.forall_mem_cons.mpr ⟨lw_p17, List.forall_mem_cons.mpr ⟨lw_p18, List.forall_mem_cons.mpr ⟨lw_p19, List.forall_mem_cons.mpr ⟨lw_p20, List.forall_mem_cons.mpr ⟨lw_p21, List.forall_mem_cons.mpr ⟨lw_p22, List.forall_mem_cons.mpr ⟨lw_p23, List.forall_mem_cons.mpr ⟨lw_p24, List.forall_mem_cons.mpr ⟨lw_p25, List.forall_mem_cons.mpr ⟨lw_p26, List.forall_mem_cons.mpr ⟨lw_p27, List.forall_mem_cons.mpr ⟨lw_p28, List.forall_mem_cons.mpr ⟨lw_p29, List.forall_mem_cons.mpr ⟨lw_p30, List.forall_mem_cons.mpr ⟨lw_p31, fun _ h => absurd h List.not_mem_nil⟩⟩⟩⟩⟩⟩⟩⟩⟩⟩⟩⟩⟩⟩⟩⟩
theorem lw_p32 : lw_okq (⟨"SkinLeague$Skin", "userOn", "(I)LSkinLeague$Player;"⟩, 10) := ⟨⟨by decide +kernel, by decide +kernel⟩, List.mem_of_getElem? (i := 349) (by decide +kernel), List.mem_of_getElem? (i := 560) (by decide +kernel), List.mem_of_getElem? (i := 561) (by decide +kernel)⟩
theorem lw_p33 : lw_okq (⟨"SkinLeague$Skin", "isGood", "()Z"⟩, 10) := ⟨⟨by decide +kernel, by decide +kernel⟩, List.mem_of_getElem? (i := 349) (by decide +kernel), List.mem_of_getElem? (i := 564) (by decide +kernel), List.mem_of_getElem? (i := 565) (by decide +kernel)⟩
theorem lw_p34 : lw_okq (⟨"SkinLeague$Skin", "writeLabel", "(Ljava/lang/StringBuilder;)V"⟩, 10) := ⟨⟨by decide +kernel, by decide +kernel⟩, List.mem_of_getElem? (i := 349) (by decide +kernel), List.mem_of_getElem? (i := 614) (by decide +kernel), List.mem_of_getElem? (i := 615) (by decide +kernel)⟩
theorem lw_p35 : lw_okq (⟨"SkinLeagueModel", "fails", "(I)Z"⟩, 30) := ⟨⟨by decide +kernel, by decide +kernel⟩, List.mem_of_getElem? (i := 766) (by decide +kernel), List.mem_of_getElem? (i := 871) (by decide +kernel), List.mem_of_getElem? (i := 872) (by decide +kernel)⟩
theorem lw_p36 : lw_okq (⟨"SkinLeagueModel", "today", "(I)I"⟩, 30) := ⟨⟨by decide +kernel, by decide +kernel⟩, List.mem_of_getElem? (i := 766) (by decide +kernel), List.mem_of_getElem? (i := 885) (by decide +kernel), List.mem_of_getElem? (i := 886) (by decide +kernel)⟩
theorem lw_p37 : lw_okq (⟨"SkinLeagueModel", "isPlayer", "(I)Z"⟩, 30) := ⟨⟨by decide +kernel, by decide +kernel⟩, List.mem_of_getElem? (i := 766) (by decide +kernel), List.mem_of_getElem? (i := 893) (by decide +kernel), List.mem_of_getElem? (i := 894) (by decide +kernel)⟩
theorem lw_p38 : lw_okq (⟨"SkinLeagueModel", "isBanned", "(I)Z"⟩, 30) := ⟨⟨by decide +kernel, by decide +kernel⟩, List.mem_of_getElem? (i := 766) (by decide +kernel), List.mem_of_getElem? (i := 897) (by decide +kernel), List.mem_of_getElem? (i := 898) (by decide +kernel)⟩
theorem lw_p39 : lw_okq (⟨"SkinLeagueModel", "counts", "(I)V"⟩, 30) := ⟨⟨by decide +kernel, by decide +kernel⟩, List.mem_of_getElem? (i := 766) (by decide +kernel), List.mem_of_getElem? (i := 905) (by decide +kernel), List.mem_of_getElem? (i := 906) (by decide +kernel)⟩
theorem lw_p40 : lw_okq (⟨"SkinLeagueModel", "isGood", "(I)Z"⟩, 30) := ⟨⟨by decide +kernel, by decide +kernel⟩, List.mem_of_getElem? (i := 766) (by decide +kernel), List.mem_of_getElem? (i := 909) (by decide +kernel), List.mem_of_getElem? (i := 910) (by decide +kernel)⟩
theorem lw_p41 : lw_okq (⟨"SkinLeagueModel", "who", "(I)I"⟩, 30) := ⟨⟨by decide +kernel, by decide +kernel⟩, List.mem_of_getElem? (i := 766) (by decide +kernel), List.mem_of_getElem? (i := 913) (by decide +kernel), List.mem_of_getElem? (i := 914) (by decide +kernel)⟩
theorem lw_p42 : lw_okq (⟨"SkinLeagueModel", "placeOf", "(I)I"⟩, 30) := ⟨⟨by decide +kernel, by decide +kernel⟩, List.mem_of_getElem? (i := 766) (by decide +kernel), List.mem_of_getElem? (i := 917) (by decide +kernel), List.mem_of_getElem? (i := 918) (by decide +kernel)⟩
theorem lw_p43 : lw_okq (⟨"SkinLeagueModel", "isAhead", "(II)Z"⟩, 30) := ⟨⟨by decide +kernel, by decide +kernel⟩, List.mem_of_getElem? (i := 766) (by decide +kernel), List.mem_of_getElem? (i := 921) (by decide +kernel), List.mem_of_getElem? (i := 922) (by decide +kernel)⟩
theorem lw_p44 : lw_okq (⟨"SkinLeagueModel", "isSkin", "(I)Z"⟩, 30) := ⟨⟨by decide +kernel, by decide +kernel⟩, List.mem_of_getElem? (i := 766) (by decide +kernel), List.mem_of_getElem? (i := 929) (by decide +kernel), List.mem_of_getElem? (i := 930) (by decide +kernel)⟩
theorem lw_p45 : lw_okq (⟨"SkinLeagueModel", "looks", "()V"⟩, 30) := ⟨⟨by decide +kernel, by decide +kernel⟩, List.mem_of_getElem? (i := 766) (by decide +kernel), List.mem_of_getElem? (i := 941) (by decide +kernel), List.mem_of_getElem? (i := 942) (by decide +kernel)⟩
theorem lw_p46 : lw_okq (⟨"SkinLeagueModel", "inherits", "(II)V"⟩, 30) := ⟨⟨by decide +kernel, by decide +kernel⟩, List.mem_of_getElem? (i := 766) (by decide +kernel), List.mem_of_getElem? (i := 945) (by decide +kernel), List.mem_of_getElem? (i := 946) (by decide +kernel)⟩
theorem lw_p47 : lw_okq (⟨"SkinLeagueModel", "pays", "(III)V"⟩, 30) := ⟨⟨by decide +kernel, by decide +kernel⟩, List.mem_of_getElem? (i := 766) (by decide +kernel), List.mem_of_getElem? (i := 949) (by decide +kernel), List.mem_of_getElem? (i := 950) (by decide +kernel)⟩
def lw_privs_3 : List (MethodName × Nat) := [(⟨"SkinLeague$Skin", "userOn", "(I)LSkinLeague$Player;"⟩, 10), (⟨"SkinLeague$Skin", "isGood", "()Z"⟩, 10), (⟨"SkinLeague$Skin", "writeLabel", "(Ljava/lang/StringBuilder;)V"⟩, 10), (⟨"SkinLeagueModel", "fails", "(I)Z"⟩, 30), (⟨"SkinLeagueModel", "today", "(I)I"⟩, 30), (⟨"SkinLeagueModel", "isPlayer", "(I)Z"⟩, 30), (⟨"SkinLeagueModel", "isBanned", "(I)Z"⟩, 30), (⟨"SkinLeagueModel", "counts", "(I)V"⟩, 30), (⟨"SkinLeagueModel", "isGood", "(I)Z"⟩, 30), (⟨"SkinLeagueModel", "who", "(I)I"⟩, 30), (⟨"SkinLeagueModel", "placeOf", "(I)I"⟩, 30), (⟨"SkinLeagueModel", "isAhead", "(II)Z"⟩, 30), (⟨"SkinLeagueModel", "isSkin", "(I)Z"⟩, 30), (⟨"SkinLeagueModel", "looks", "()V"⟩, 30), (⟨"SkinLeagueModel", "inherits", "(II)V"⟩, 30), (⟨"SkinLeagueModel", "pays", "(III)V"⟩, 30)]
theorem lw_r3 : ∀ q ∈ lw_privs_3, lw_okq q := List.forall_mem_cons.mpr ⟨lw_p32, List.forall_mem_cons.mpr ⟨lw_p33, List.forall_mem_cons.mpr ⟨lw_p34, List.forall_mem_cons.mpr ⟨lw_p35, List.forall_mem_cons.mpr ⟨lw_p36, List.forall_mem_cons.mpr ⟨lw_p37, List.forall_mem_cons.mpr ⟨lw_p38, List.forall_mem_cons.mpr ⟨lw_p39, List.forall_mem_cons.mpr ⟨lw_p40, List.forall_mem_cons.mpr ⟨lw_p41, List.forall_mem_cons.mpr ⟨lw_p42, List.forall_mem_cons.mpr ⟨lw_p43, List.forall_mem_cons.mpr ⟨lw_p44, List.forall_mem_cons.mpr ⟨lw_p45, List.forall_mem_cons.mpr ⟨lw_p46, List.forall_mem_cons.mpr ⟨lw_p47, fun _ h => absurd h List.not_mem_nil⟩⟩⟩⟩⟩⟩⟩⟩⟩⟩⟩⟩⟩⟩⟩⟩
theorem lw_p48 : lw_okq (⟨"SkinLeagueModel", "user", "(I)I"⟩, 30) := ⟨⟨by decide +kernel, by decide +kernel⟩, List.mem_of_getElem? (i := 766) (by decide +kernel), List.mem_of_getElem? (i := 977) (by decide +kernel), List.mem_of_getElem? (i := 978) (by decide +kernel)⟩
theorem lw_p49 : lw_okq (⟨"SkinLeagueModel", "putsNumber", "(I)V"⟩, 30) := ⟨⟨by decide +kernel, by decide +kernel⟩, List.mem_of_getElem? (i := 766) (by decide +kernel), List.mem_of_getElem? (i := 989) (by decide +kernel), List.mem_of_getElem? (i := 990) (by decide +kernel)⟩
theorem lw_p50 : lw_okq (⟨"SkinLeagueModel", "puts", "(I)V"⟩, 30) := ⟨⟨by decide +kernel, by decide +kernel⟩, List.mem_of_getElem? (i := 766) (by decide +kernel), List.mem_of_getElem? (i := 993) (by decide +kernel), List.mem_of_getElem? (i := 994) (by decide +kernel)⟩
def lw_privs_4 : List (MethodName × Nat) := [(⟨"SkinLeagueModel", "user", "(I)I"⟩, 30), (⟨"SkinLeagueModel", "putsNumber", "(I)V"⟩, 30), (⟨"SkinLeagueModel", "puts", "(I)V"⟩, 30)]
theorem lw_r4 : ∀ q ∈ lw_privs_4, lw_okq q := List.forall_mem_cons.mpr ⟨lw_p48, List.forall_mem_cons.mpr ⟨lw_p49, List.forall_mem_cons.mpr ⟨lw_p50, fun _ h => absurd h List.not_mem_nil⟩⟩⟩
def lw_privs : List (MethodName × Nat) := lw_privs_1 ++ (lw_privs_2 ++ (lw_privs_3 ++ (lw_privs_4)))
def lw_tbl : List Cond := k2_sels lw_privs ++ tables_1
theorem lw_privs_ok : ∀ q ∈ lw_privs, lw_okq q := by
  show ∀ q ∈ lw_privs_1 ++ (lw_privs_2 ++ (lw_privs_3 ++ (lw_privs_4))), lw_okq q
  exact List.forall_mem_append.mpr ⟨lw_r1, List.forall_mem_append.mpr ⟨lw_r2, List.forall_mem_append.mpr ⟨lw_r3, lw_r4⟩⟩⟩
-- ===== end of PART A; then your names; then what follows =====
end
section
/-! ===== BEGIN words of one list among another's, by their places ===== -/
theorem goodIn_r {big : List Cond} (ws : List Cond) (ps : List Nat) (hp : ws = ps.filterMap (fun i => big[i]?)) (h : ws.all goodWord = true) : GoodIn big ws := by
  intro w hw
  have h1 := List.all_eq_true.mp h w hw
  rw [hp] at hw
  obtain ⟨i, -, hi⟩ := List.mem_filterMap.mp hw
  have hm : w ∈ big := by first | exact List.mem_of_getElem? hi | exact List.getElem?_mem hi
  exact ⟨hm, good_of_word h1⟩
theorem goodIn_app {big a b : List Cond} (ha : GoodIn big a) (hb : GoodIn big b) : GoodIn big (a ++ b) := fun w h => (List.mem_append.mp h).elim (ha w) (hb w)
theorem goodIn_ca {big a b : List Cond} {c : Cond} (ha : GoodIn big (c :: a)) (hb : GoodIn big b) : GoodIn big (c :: (a ++ b)) := fun w h => (List.mem_cons.mp h).elim (fun e => ha w (List.mem_cons.mpr (Or.inl e))) (fun h => (List.mem_append.mp h).elim (fun h => ha w (List.mem_cons.mpr (Or.inr h))) (hb w))
theorem goodIn_sub {big ws : List Cond} (hm : ∀ w ∈ ws, w ∈ big) (h : ws.all goodWord = true) : GoodIn big ws := fun w hw => ⟨hm w hw, good_of_word (List.all_eq_true.mp h w hw)⟩
/-! ===== END ===== -/

/-! ===== BEGIN exceptions that leave a method, and their catching by the caller (launches without stack traces) ===== -/
section VXA
/-! The laws vx_back, vx_callV, vx_callS, vx_callSW, vx_throw0, vx_throwS follow proofs of the library, with one case more: JvmDerived/Free/Laws.lean (Back.of_free), Shelf42/LK1.lean (callV, callS), Shelf/KitTraced.lean (throwNew0V, throwNewS). -/
/-- where a method has thrown q: the class by its name, the cell, what was written, the world -/
def vx_T (XC : String → State → State → Prop) (st : State) (q : Addr) (t : State) (mc ms : Nat) (free : Addr → Prop) : Prop :=
  ∃ (E : String) (ce : Cell) (L : List Loc), XC E st t ∧ t.heap[q]? = some ce ∧ ce.vm = .none ∧ st.vm.findClass E = some ce.cls ∧ st.WarmedH t.vm ∧ st.sameButNew ({ t with vm := st.vm } : State) L mc ms ∧ ∀ z ∈ L, free z.base
def vx_Q (Qc : Array Value → State → Outcome → State → Prop) (XC : String → State → State → Prop) (mc ms : Nat) (free : Addr → Prop) : Array Value → State → Outcome → State → Prop := fun a st o t =>
  (Qc a st o t ∧ ∃ L, FrameEnd st o t L mc ms ∧ ∀ q ∈ L, free q.base) ∨ ∃ q, o = .threw q ∧ vx_T XC st q t mc ms free
/-- a callee that returns or throws -/
def vx_Met (l : Launch) (y : MethodName) (ws : List Cond) (rm : Room) (Pc : Array Value → State → Prop) (Qc : Array Value → State → Outcome → State → Prop) (XC : String → State → State → Prop) (mc ms : Nat) (free : Addr → Prop) : Prop :=
  MetFree l y (headSpec ws rm) Pc (fun _ _ _ _ _ => True) (vx_Q Qc XC mc ms free)
def vx_Post (XC : String → State → State → Prop) (mc ms : Nat) (free : Addr → Prop) : Pt → Array Value → Addr → Pt → Prop := fun A a q B =>
  ∃ (g : JFrame) (mk : MethodId) (t : State) (L : List Loc) (E : String) (ce : Cell), B.U.heap = t.heap ∧ B.U.vm = t.vm ∧ XC E (A.U.calling g mk a) t ∧ t.heap[q]? = some ce ∧ ce.vm = .none ∧ A.U.vm.findClass E = some ce.cls ∧ B.locs = A.locs ++ L ∧ (∀ z ∈ L, free z.base) ∧ B.cells = A.cells + mc ∧ B.slots = A.slots + ms
def vx_Back (l : Launch) (R : Room) (p : Program) (e : Env) (below : List Frame) (s : State) (sargs : Array Value) (y : MethodName) (len W9 : Nat)
    (Pre : Pt → Array Value → Prop) (Post : Pt → Array Value → Option Value → Pt → Prop) (PostX : Pt → Array Value → Addr → Pt → Prop) : Prop :=
  ∀ (m : MethodId) (meth : Method) (c : Code) (A : Pt) (g : JFrame) (ig : Instr) (mk : MethodId) (a : Array Value),
    Stand p l e R s m sargs below meth c A.U A.locs A.cells A.slots → g.method = m → g.locals.size = c.maxLocals → decode c.code g.pc = .ok (ig, len) →
    2 * g.monitorRoom + (g.stack.map fun v => v.category).sum ≤ W9 → A.U.methodNamed? y = some mk → Pre A a →
    (∃ (v : Option Value) (B : Pt), Stand p l e R s m sargs below meth c B.U B.locs B.cells B.slots ∧ Post A a v B ∧
      Steps p.tables e below (doInvoke e (A.U.setTop g) [] mk a).1 (B.U.setTop { g with pc := g.pc + len, stack := v.toList ++ g.stack })) ∨
    (∃ (q : Addr) (B : Pt), Stand p l e R s m sargs below meth c B.U B.locs B.cells B.slots ∧ PostX A a q B ∧
      Steps p.tables e below (doInvoke e (A.U.setTop g) [] mk a).1 ((B.U.setTop g).pushFrame (.throwing q)))
section Payer
variable {l : Launch} {R : Room} {p : Program} {e : Env} {below : List Frame} {s : State} {sargs : Array Value} {y : MethodName} {len W9 : Nat}
theorem vx_back {ws : List Cond} {rm : Room} {Pc : Array Value → State → Prop} {Qc : Array Value → State → Outcome → State → Prop} {XC : String → State → State → Prop} {mc ms : Nat} {free : Addr → Prop} {bytes : ByteArray} {maxL : Nat} {ret : Option FieldType}
    (hM : vx_Met l y ws rm Pc Qc XC mc ms free) (hblind : FrameBlind Pc) (hrc : rm.cells = mc) (hrs : rm.slots = ms)
    (hframes : rm.frames + 1 ≤ R.frames) (hlocals : W9 + (maxL + 11) + rm.locals ≤ R.locals)
    (hws : ∀ w ∈ ws, ∀ a' U, s.WarmedH U.vm → w.before a' U = true) (hcode : Cond.code y bytes maxL ret ∈ ws) (hinit : ∀ a' U, s.WarmedH U.vm → (Cond.initialized y.cls).before a' U = true) :
    vx_Back l R p e below s sargs y len W9 (PreOf R mc ms Pc) (PostOf Qc mc ms free) (vx_Post XC mc ms free) := by
  intro m meth c A g ig mk a X hg hsize hdg hW hn hp
  have h1 : (headSpec ws rm).pre.before a A.U = true := atoms_intro fun w hw => hws w hw _ _ X.warmed
  have h2 : (Cond.code y bytes maxL ret).before a A.U = true := hws _ hcode _ _ X.warmed
  have h3 : (Cond.initialized y.cls).before a A.U = true := hinit _ _ X.warmed
  have h4 : A.cells + (headSpec ws rm).room.cells ≤ R.cells := by rw [show (headSpec ws rm).room.cells = mc from hrc]; exact hp.1
  have h5 : A.slots + (headSpec ws rm).room.slots ≤ R.slots := by rw [show (headSpec ws rm).room.slots = ms from hrs]; exact hp.2.1
  have hPc : Pc a (A.U.calling g mk a) := hblind _ _ _ _ hp.2.2
  obtain ⟨U, Ls, c0, s0⟩ := A
  dsimp only [Pt.U, Pt.locs, Pt.cells, Pt.slots] at h1 h2 h3 h4 h5 X hn hPc ⊢
  obtain ⟨methY, cY, hmY, hcY, -, hlY, -, -, -, -⟩ := Cond.code_spec hn h2
  obtain ⟨kY, hkY, -⟩ := className_of_methodNamed hn
  have hinitY : kY.init = .initialized := Cond.initialized_spec (findClass_of_methodNamed hn) hkY h3
  have h : At U g.method c below := by rw [hg]; exact X.here
  have hlocals9 : W9 + (maxL + 11) + (headSpec ws rm).room.locals ≤ R.locals := hlocals
  have happ : (headSpec ws rm).appliesLoose y e.platform (U.calling g mk a) = true :=
    Spec.appliesLoose_calling (g := g) h hdg hn hkY hinitY
      (X.room_calling (g := g) (R' := (headSpec ws rm).room) hsize hmY hcY hframes (by rw [hlY]; omega) h4 h5) h1
  obtain ⟨mid, hmid⟩ := h.above
  have hfr : (U.setTop g).frames = (.java g :: mid) ++ below := by rw [State.frames_setTop' g h.top, hmid]; rfl
  obtain ⟨o, s₂, hsteps, -, hend, hq⟩ := Steps.callFree hM p X.admits X.cas X.clock (acts := []) hfr happ hPc trivial
  have hq' : vx_Q Qc XC mc ms free a (U.calling g mk a) o s₂ := hq
  rw [State.frames_setTop' g h.top] at hend
  obtain ⟨g₀, hg0⟩ := Option.isSome_iff_exists.mp h.top
  obtain ⟨r, hr⟩ := State.topJava?_eq_some.mp hg0
  have hr' : (({ U with heap := s₂.heap, slotsUsed := s₂.slotsUsed } : State).setVm s₂.vm).frames = .java g₀ :: r := hr
  rcases hq' with ⟨hqc, L, hfe, hL⟩ | ⟨q, rfl, E, ce, L, hx, hce, hcv, hcl, hW₂, hsm, hL⟩
  · obtain ⟨⟨v, rfl⟩, hW₂, e2, q2, q3, q4, q5, q6⟩ := id hfe
    have e3 : s₂ = ({ (U.calling g mk a).setFrames s₂.frames with heap := s₂.heap, slotsUsed := s₂.slotsUsed } : State).setVm s₂.vm := by
      have : s₂ = ({ s₂ with vm := (U.calling g mk a).vm } : State).setVm s₂.vm := rfl
      rw [e2] at this
      exact this
    obtain ⟨c₂, i₂, len₂, hc₂, hd₂, hf₂⟩ := hend
    have hW' : U.WarmedH s₂.vm := hW₂
    have hcc : c₂ = c := by
      have h1 : s₂.code? g.method = U.code? g.method := by
        rw [State.code?_eq, State.code?_eq, hW'.alike.method?]
      exact Option.some.inj (hc₂.symm.trans (h1.trans h.code))
    subst hcc
    have hlen : len₂ = len := by rw [hdg] at hd₂; cases hd₂; rfl
    subst hlen
    have hs₂ : s₂ = (({ U with heap := s₂.heap, slotsUsed := s₂.slotsUsed } : State).setVm s₂.vm).setTop { g with pc := g.pc + len₂, stack := v.toList ++ g.stack } := by
      refine e3.trans ?_
      rw [hf₂, State.calling_eq h.top, State.setFrames_setFrames, State.setTop_of_frames _ hr', hr]
      rfl
    have hsame : U.sameButNew ({ U with heap := s₂.heap, slotsUsed := s₂.slotsUsed } : State) L mc ms := by
      refine ⟨?_, q2, q3, q4, q5, q6⟩
      obtain ⟨t, ht, -⟩ := State.frames_cons hr
      show ({ U with heap := s₂.heap, slotsUsed := s₂.slotsUsed } : State) = { U.setFrames U.frames with heap := s₂.heap, slotsUsed := s₂.slotsUsed }
      rw [State.setFrames_self ht]
    subst hg
    refine Or.inl ⟨v, ⟨(({ U with heap := s₂.heap, slotsUsed := s₂.slotsUsed } : State).setVm s₂.vm), Ls ++ L, c0 + mc, s0 + ms⟩,
      ⟨X.admits, X.cas, X.clock, X.frames, X.room, X.hears, X.method, X.code, (X.here.setHeapUsed s₂.heap s₂.slotsUsed).setVm hW'.alike, X.tail, State.WarmedH.trans X.warmed hW', X.limits, X.bytes, X.same.trans (hsame.setVm s.vm)⟩,
      ⟨g, mk, s₂, L, rfl, rfl, hqc, rfl, hL, rfl, rfl⟩, ?_⟩
    show Steps p.tables e below _ ((({ U with heap := s₂.heap, slotsUsed := s₂.slotsUsed } : State).setVm s₂.vm).setTop { g with pc := g.pc + len₂, stack := v.toList ++ g.stack })
    rw [← hs₂]
    exact hsteps
  · obtain ⟨e2, q2, q3, q4, q5, q6⟩ := id hsm
    have e3 : s₂ = ({ (U.calling g mk a).setFrames s₂.frames with heap := s₂.heap, slotsUsed := s₂.slotsUsed } : State).setVm s₂.vm := by
      have : s₂ = ({ s₂ with vm := (U.calling g mk a).vm } : State).setVm s₂.vm := rfl
      rw [e2] at this
      exact this
    have hf₂ : s₂.frames = .throwing q :: .java g :: U.frames.tail := hend
    have hW' : U.WarmedH s₂.vm := hW₂
    have hs₂ : s₂ = ((({ U with heap := s₂.heap, slotsUsed := s₂.slotsUsed } : State).setVm s₂.vm).setTop g).pushFrame (.throwing q) := by
      refine e3.trans ?_
      rw [hf₂, State.calling_eq h.top, State.setFrames_setFrames, State.pushFrame, State.frames_setTop _ hr', State.setTop_of_frames _ hr', State.setFrames_setFrames, hr]
      rfl
    have hsame : U.sameButNew ({ U with heap := s₂.heap, slotsUsed := s₂.slotsUsed } : State) L mc ms := by
      refine ⟨?_, q2, q3, q4, q5, q6⟩
      obtain ⟨t, ht, -⟩ := State.frames_cons hr
      show ({ U with heap := s₂.heap, slotsUsed := s₂.slotsUsed } : State) = { U.setFrames U.frames with heap := s₂.heap, slotsUsed := s₂.slotsUsed }
      rw [State.setFrames_self ht]
    subst hg
    refine Or.inr ⟨q, ⟨(({ U with heap := s₂.heap, slotsUsed := s₂.slotsUsed } : State).setVm s₂.vm), Ls ++ L, c0 + mc, s0 + ms⟩,
      ⟨X.admits, X.cas, X.clock, X.frames, X.room, X.hears, X.method, X.code, (X.here.setHeapUsed s₂.heap s₂.slotsUsed).setVm hW'.alike, X.tail, State.WarmedH.trans X.warmed hW', X.limits, X.bytes, X.same.trans (hsame.setVm s.vm)⟩,
      ⟨g, mk, s₂, L, E, ce, rfl, rfl, hx, hce, hcv, hcl, rfl, hL, rfl, rfl⟩, ?_⟩
    show Steps p.tables e below _ (((({ U with heap := s₂.heap, slotsUsed := s₂.slotsUsed } : State).setVm s₂.vm).setTop g).pushFrame (.throwing q))
    rw [← hs₂]
    exact hsteps
end Payer
section Calls
variable {p : Program} {l : Launch} {e : Env} {R : Room} {s : State} {m : MethodId} {args : Array Value} {below : List Frame} {meth : Method} {c : Code} {T : State} {locs : List Loc} {cells slots : Nat}
theorem vx_callV (X : Stand p l e R s m args below meth c T locs cells slots) (hexec : p.tables.exec = Jvm.exec) {own C : String} {index : Nat} {y : MethodName} {bytes : ByteArray} {maxL : Nat} {ret : Option FieldType}
    (hown : s.vm.findClass own = some m.cls) (hlink : (Cond.methodLink own index y).before args s = true) (hinst : (Cond.instanceMethod y).before args s = true) (hsel : (Cond.selects C y y).before args s = true)
    (hcode : (Cond.code y bytes maxL ret).before args s = true) (hy : y.cls ≠ "java/lang/invoke/MethodHandle" ∧ y.cls ≠ "java/lang/invoke/VarHandle")
    {W9 : Nat} {Pre : Pt → Array Value → Prop} {Post : Pt → Array Value → Option Value → Pt → Prop} {PostX : Pt → Array Value → Addr → Pt → Prop} (hK : vx_Back l R p e below s args y 3 W9 Pre Post PostX)
    {b : Addr} {cellB : Cell} (hcell : T.heap[b]? = some cellB) (hobj : cellB.vm.isStatics = false) (hcls : s.vm.findClass C = some cellB.cls)
    {g : JFrame} (hg : g.method = m) (hsize : g.locals.size = c.maxLocals) {argsL rest : List Value} (hlen : ∀ sig, parseMethodDescriptor y.desc = some sig → argsL.length = sig.parameters.length)
    (hstack : g.stack = argsL.reverse ++ .ref b :: rest) (hW : 2 * g.monitorRoom + (rest.map fun v => v.category).sum ≤ W9) (hdg : decode c.code g.pc = .ok (.invokevirtual index, 3))
    (hpre : ∀ vm₁, s.WarmedH vm₁ → Pre ⟨T.setVm vm₁, locs, cells, slots⟩ (Value.ref b :: argsL).toArray) :
    (∃ (v : Option Value) (vm₁ : Vm) (B : Pt), s.WarmedH vm₁ ∧ Stand p l e R s m args below meth c B.U B.locs B.cells B.slots ∧ Post ⟨T.setVm vm₁, locs, cells, slots⟩ (Value.ref b :: argsL).toArray v B ∧
      ∀ target, Steps p.tables e below (B.U.setTop { g with pc := g.pc + 3, stack := v.toList ++ rest }) target → Steps p.tables e below (T.setTop g) target) ∨
    (∃ (q : Addr) (vm₁ : Vm) (B : Pt), s.WarmedH vm₁ ∧ Stand p l e R s m args below meth c B.U B.locs B.cells B.slots ∧ PostX ⟨T.setVm vm₁, locs, cells, slots⟩ (Value.ref b :: argsL).toArray q B ∧
      Steps p.tables e below (T.setTop g) ((B.U.setTop { g with stack := rest }).pushFrame (.throwing q))) := by
  obtain ⟨mk, methM, hnamed, hmethM, hstM, habM⟩ := Cond.instanceMethod_spec hinst
  obtain ⟨methM', cM, hmethM', -, -, -, -, -, -, hsigM⟩ := Cond.code_spec hnamed hcode
  cases hmethM.symm.trans hmethM'
  obtain ⟨c2, r2, m2, q1, q2, q3, q4, kP, hkP, hkPi⟩ := Cond.selects_spec hsel
  cases hcls.symm.trans q1
  cases (State.methodFound?_of_named hnamed hy).symm.trans q2
  cases hnamed.symm.trans q3
  have hselP : selectMethod e.platform s.vm cellB.cls mk = .method mk := by rw [Launch.admits_selectMethod X.admits]; exact q4
  obtain ⟨vm₁, X₁, hstep₁⟩ := X.invokevirtual hexec hown hlink hnamed hmethM hstM hkP hkPi hy (a := b) (cell := cellB) hcell
    (fun z h => by rw [h] at hobj; cases hobj) hselP hmethM habM hkP hkPi (g := g) hg (argsL := argsL) (rest := rest) (hlen _ hsigM) hstack hdg
  rcases hK m meth c ⟨T.setVm vm₁, locs, cells, slots⟩ { g with stack := rest } (.invokevirtual index) mk (Value.ref b :: argsL).toArray X₁ hg hsize hdg hW (X₁.named hnamed) (hpre vm₁ X₁.warmed) with ⟨v, B, X', hpost, hsteps⟩ | ⟨q, B, X', hpost, hsteps⟩
  · exact Or.inl ⟨v, vm₁, B, X₁.warmed, X', hpost, fun target h => hstep₁ _ fun acts => by rw [doInvoke_state]; exact hsteps.trans h⟩
  · exact Or.inr ⟨q, vm₁, B, X₁.warmed, X', hpost, hstep₁ _ fun acts => by rw [doInvoke_state]; exact hsteps⟩
theorem vx_callS (X : Stand p l e R s m args below meth c T locs cells slots) (hexec : p.tables.exec = Jvm.exec) {own : String} {index : Nat} {y : MethodName} {bytes : ByteArray} {maxL : Nat} {ret : Option FieldType}
    (hown : s.vm.findClass own = some m.cls) (hlink : (Cond.methodLink own index y).before args s = true) (hstat : (Cond.static y).before args s = true) (hinit : (Cond.initialized y.cls).before args s = true)
    (hcode : (Cond.code y bytes maxL ret).before args s = true) (hy : y.cls ≠ "java/lang/invoke/MethodHandle" ∧ y.cls ≠ "java/lang/invoke/VarHandle")
    {W9 : Nat} {Pre : Pt → Array Value → Prop} {Post : Pt → Array Value → Option Value → Pt → Prop} {PostX : Pt → Array Value → Addr → Pt → Prop} (hK : vx_Back l R p e below s args y 3 W9 Pre Post PostX)
    {g : JFrame} (hg : g.method = m) (hsize : g.locals.size = c.maxLocals) {argsL rest : List Value} (hlen : ∀ sig, parseMethodDescriptor y.desc = some sig → argsL.length = sig.parameters.length)
    (hstack : g.stack = argsL.reverse ++ rest) (hW : 2 * g.monitorRoom + (rest.map fun v => v.category).sum ≤ W9) (hdg : decode c.code g.pc = .ok (.invokestatic index, 3))
    (hpre : ∀ vm₁, s.WarmedH vm₁ → Pre ⟨T.setVm vm₁, locs, cells, slots⟩ argsL.toArray) :
    (∃ (v : Option Value) (vm₁ : Vm) (B : Pt), s.WarmedH vm₁ ∧ Stand p l e R s m args below meth c B.U B.locs B.cells B.slots ∧ Post ⟨T.setVm vm₁, locs, cells, slots⟩ argsL.toArray v B ∧
      ∀ target, Steps p.tables e below (B.U.setTop { g with pc := g.pc + 3, stack := v.toList ++ rest }) target → Steps p.tables e below (T.setTop g) target) ∨
    (∃ (q : Addr) (vm₁ : Vm) (B : Pt), s.WarmedH vm₁ ∧ Stand p l e R s m args below meth c B.U B.locs B.cells B.slots ∧ PostX ⟨T.setVm vm₁, locs, cells, slots⟩ argsL.toArray q B ∧
      Steps p.tables e below (T.setTop g) ((B.U.setTop { g with stack := rest }).pushFrame (.throwing q))) := by
  obtain ⟨mk, hnamed⟩ := Cond.code_named hcode
  obtain ⟨methM, cM, hmethM, -, -, -, -, -, -, hsigM⟩ := Cond.code_spec hnamed hcode
  have hstatic : methM.isStatic = true := Cond.static_spec hnamed hmethM hstat
  obtain ⟨kP, hkP, -⟩ := className_of_methodNamed hnamed
  have hinitP : kP.init = .initialized := Cond.initialized_spec (findClass_of_methodNamed hnamed) hkP hinit
  obtain ⟨vm₁, X₁, hstep₁⟩ := X.invokestatic hexec hown hlink hnamed hmethM hstatic hkP hinitP hy (g := g) hg (argsL := argsL) (rest := rest) (hlen _ hsigM) hstack hdg
  rcases hK m meth c ⟨T.setVm vm₁, locs, cells, slots⟩ { g with stack := rest } (.invokestatic index) mk argsL.toArray X₁ hg hsize hdg hW (X₁.named hnamed) (hpre vm₁ X₁.warmed) with ⟨v, B, X', hpost, hsteps⟩ | ⟨q, B, X', hpost, hsteps⟩
  · exact Or.inl ⟨v, vm₁, B, X₁.warmed, X', hpost, fun target h => hstep₁ _ fun acts => by rw [doInvoke_state]; exact hsteps.trans h⟩
  · exact Or.inr ⟨q, vm₁, B, X₁.warmed, X', hpost, hstep₁ _ fun acts => by rw [doInvoke_state]; exact hsteps⟩
end Calls
theorem vx_cls {s : State} {T : State} {vm₁ : Vm} {E : String} {k : ClassId} (hW : s.WarmedH vm₁) (h : (T.setVm vm₁).vm.findClass E = some k) : s.vm.findClass E = some k := by
  have h1 : vm₁.findClass E = some k := h
  rw [hW.alike.findClass] at h1
  exact h1
/-- the method's frame g, with q thrown over it -/
def vx_W (p : Program) (l : Launch) (e : Env) (R : Room) (s : State) (m : MethodId) (args : Array Value) (below : List Frame) (meth : Method) (c : Code) (H : Heap) (locs : List Loc) (cells slots : Nat) (Q : State → Prop) (g : JFrame) (q : Addr) : Prop :=
  ∀ T : State, T.heap = H → Stand p l e R s m args below meth c T locs cells slots → ∃ t, Steps p.tables e below ((T.setTop g).pushFrame (.throwing q)) t ∧ Q t
def vx_Run (p : Program) (l : Launch) (e : Env) (R : Room) (s : State) (m : MethodId) (args : Array Value) (below : List Frame) (meth : Method) (c : Code) (H : Heap) (locs : List Loc) (cells slots mc ms : Nat) (g : JFrame) (rest : List Value) (Qa : State → Outcome → State → Prop) (XC : String → State → State → Prop) (free : Addr → Prop) : Prop :=
  ∀ T : State, T.heap = H → Stand p l e R s m args below meth c T locs cells slots →
    (∃ (v : Option Value) (st₀ t T' : State) (L : List Loc), st₀.heap = H ∧ Stand p l e R s m args below meth c T' (locs ++ L) (cells + mc) (slots + ms) ∧ (∀ q ∈ L, free q.base) ∧ T'.heap = t.heap ∧ T'.vm = t.vm ∧ Qa st₀ (.returned v) t ∧
      Goes p e below T g T' { g with pc := g.pc + 3, stack := v.toList ++ rest }) ∨
    (∃ (q : Addr) (st₀ t T' : State) (L : List Loc) (E : String) (ce : Cell), st₀.heap = H ∧ Stand p l e R s m args below meth c T' (locs ++ L) (cells + mc) (slots + ms) ∧ (∀ z ∈ L, free z.base) ∧ T'.heap = t.heap ∧ T'.vm = t.vm ∧ XC E st₀ t ∧ t.heap[q]? = some ce ∧ ce.vm = .none ∧ s.vm.findClass E = some ce.cls ∧
      Steps p.tables e below (T.setTop g) ((T'.setTop { g with stack := rest }).pushFrame (.throwing q)))
def vx_X {S : Type} (px : S → Prop) (B : String → S → State → Prop) (A : Nat → Prop) : String → State → State → Prop := fun E st t => ∃ u : S, px u ∧ B E u t ∧ va_F A st t
section Runs
variable {p : Program} {l : Launch} {e : Env} {R : Room} {s : State} {m : MethodId} {args : Array Value} {below : List Frame} {meth : Method} {c : Code} {H : Heap} {locs : List Loc} {cells slots : Nat}
variable {y : MethodName} {bytes cc : ByteArray} {maxL nL mc ms n index : Nat} {ret : Option FieldType} {ws : List Cond} {rm : Room} {Pc : Array Value → State → Prop} {Qc : Array Value → State → Outcome → State → Prop} {XC : String → State → State → Prop} {free : Addr → Prop} {Ts : List Cond} {own C : String} {b : Addr} {As rest : List Value} {g : JFrame}
theorem vx_callBack (cb : CallB R s args own index y bytes maxL ret ws rm mc ms n) (hM : vx_Met l y ws rm Pc Qc XC mc ms free) (hbl : FrameBlind Pc) : vx_Back l R p e below s args y 3 8 (PreOf R mc ms Pc) (PostOf Qc mc ms free) (vx_Post XC mc ms free) := by
  obtain ⟨hrc, hrs, hfr, hlo, hws, hcw, -, hini, -⟩ := cb
  exact vx_back (bytes := bytes) (maxL := maxL) (ret := ret) hM hbl hrc hrs hfr hlo hws hcw (fun a' U hW => word_at hW (Or.inl (by first | rfl | simp [Cond.onTables, Cond.keeps, Cond.steady])) hini)
theorem vx_runV (S : CallFix p m c cc nL s args Ts own) (hM : vx_Met l y ws rm Pc Qc XC mc ms free) (cw : CallW R s args own C index y bytes maxL ret ws rm mc ms n) (hp : PreV s H C b Pc As)
    (hg : g.method = m) (hn : As.length = n) (hsize : g.locals.size = nL) (hstack : g.stack = As.reverse ++ .ref b :: rest) (hW : 2 * g.monitorRoom + (rest.map fun v => v.category).sum ≤ 8) (hdg : decode cc g.pc = .ok (.invokevirtual index, 3)) (hf : cells + mc ≤ R.cells ∧ slots + ms ≤ R.slots) :
    vx_Run p l e R s m args below meth c H locs cells slots mc ms g rest (Qc (Value.ref b :: As).toArray) XC free := by
  have hK : vx_Back l R p e below s args y 3 8 (PreOf R mc ms Pc) (PostOf Qc mc ms free) (vx_Post XC mc ms free) := vx_callBack cw.1 hM hp.1
  obtain ⟨⟨-, -, -, -, -, -, hcode, -, hy, hlen, hl⟩, hin, hse⟩ := cw
  obtain ⟨hx, hb, hml, ho, -⟩ := S
  obtain ⟨-, ⟨cellB, hcB, hoB, hclB⟩, hPc⟩ := hp
  intro T hT X
  rcases vx_callV X hx (C := C) (bytes := bytes) (maxL := maxL) (ret := ret) ho hl hin hse hcode hy hK (by rw [hT]; exact hcB) hoB hclB hg (hsize.trans hml.symm) (argsL := As) (rest := rest) (fun sig h => hn.trans (hlen sig h)) hstack hW (by rw [hb]; exact hdg)
    (fun vm₁ hW₁ => ⟨hf.1, hf.2, hPc (T.setVm vm₁) hT hW₁⟩) with ⟨v, vm₁, ⟨U', l2, c2, s2⟩, hW₁, X', ⟨g', mk, t, L, e1, e2, hq, h1, hL, h2, h3⟩, st⟩ | ⟨q, vm₁, ⟨U', l2, c2, s2⟩, hW₁, X', ⟨g', mk, t, L, E, ce, e1, e2, hq, hce, hcv, hcl, h1, hL, h2, h3⟩, st⟩
  · dsimp only [Pt.U, Pt.locs, Pt.cells, Pt.slots] at X' e1 e2 h1 h2 h3 st
    subst h1; subst h2; subst h3
    exact Or.inl ⟨v, (T.setVm vm₁).calling g' mk (Value.ref b :: As).toArray, t, U', L, hT, X', hL, e1, e2, hq, st⟩
  · dsimp only [Pt.U, Pt.locs, Pt.cells, Pt.slots] at X' e1 e2 h1 h2 h3 st hcl
    subst h1; subst h2; subst h3
    exact Or.inr ⟨q, (T.setVm vm₁).calling g' mk (Value.ref b :: As).toArray, t, U', L, E, ce, hT, X', hL, e1, e2, hq, hce, hcv, vx_cls hW₁ hcl, st⟩
theorem vx_runS (S : CallFix p m c cc nL s args Ts own) (hM : vx_Met l y ws rm Pc Qc XC mc ms free) (cw : CallB R s args own index y bytes maxL ret ws rm mc ms n ∧ (Cond.static y).before args s = true) (hp : PreS s H Pc As)
    (hg : g.method = m) (hn : As.length = n) (hsize : g.locals.size = nL) (hstack : g.stack = As.reverse ++ rest) (hW : 2 * g.monitorRoom + (rest.map fun v => v.category).sum ≤ 8) (hdg : decode cc g.pc = .ok (.invokestatic index, 3)) (hf : cells + mc ≤ R.cells ∧ slots + ms ≤ R.slots) :
    vx_Run p l e R s m args below meth c H locs cells slots mc ms g rest (Qc As.toArray) XC free := by
  have hK : vx_Back l R p e below s args y 3 8 (PreOf R mc ms Pc) (PostOf Qc mc ms free) (vx_Post XC mc ms free) := vx_callBack cw.1 hM hp.1
  obtain ⟨⟨-, -, -, -, -, -, hcode, hini, hy, hlen, hl⟩, hstt⟩ := cw
  obtain ⟨hx, hb, hml, ho, -⟩ := S
  intro T hT X
  rcases vx_callS X hx (bytes := bytes) (maxL := maxL) (ret := ret) ho hl hstt hini hcode hy hK hg (hsize.trans hml.symm) (argsL := As) (rest := rest) (fun sig h => hn.trans (hlen sig h)) hstack hW (by rw [hb]; exact hdg)
    (fun vm₁ hW₁ => ⟨hf.1, hf.2, hp.2 (T.setVm vm₁) hT hW₁⟩) with ⟨v, vm₁, ⟨U', l2, c2, s2⟩, hW₁, X', ⟨g', mk, t, L, e1, e2, hq, h1, hL, h2, h3⟩, st⟩ | ⟨q, vm₁, ⟨U', l2, c2, s2⟩, hW₁, X', ⟨g', mk, t, L, E, ce, e1, e2, hq, hce, hcv, hcl, h1, hL, h2, h3⟩, st⟩
  · dsimp only [Pt.U, Pt.locs, Pt.cells, Pt.slots] at X' e1 e2 h1 h2 h3 st
    subst h1; subst h2; subst h3
    exact Or.inl ⟨v, (T.setVm vm₁).calling g' mk As.toArray, t, U', L, hT, X', hL, e1, e2, hq, st⟩
  · dsimp only [Pt.U, Pt.locs, Pt.cells, Pt.slots] at X' e1 e2 h1 h2 h3 st hcl
    subst h1; subst h2; subst h3
    exact Or.inr ⟨q, (T.setVm vm₁).calling g' mk As.toArray, t, U', L, E, ce, hT, X', hL, e1, e2, hq, hce, hcv, vx_cls hW₁ hcl, st⟩
end Runs
section Rows
variable {p : Program} {l : Launch} {e : Env} {R : Room} {s : State} {m : MethodId} {args : Array Value} {below : List Frame} {meth : Method} {c : Code} {H : Heap} {locs : List Loc} {cells slots : Nat} {Q : State → Prop}
variable {mc ms : Nat} {free : Addr → Prop} {A0 A1 : Nat → Prop} {H0 : Heap} {a : Array Value} {pc : Nat} {ls : Array Slot} {st0 rest : List Value}
theorem vx_keep {st₀ t T' : State} {L : List Loc} (h0 : st₀.heap = H) (e1 : T'.heap = t.heap) (hS : va_S A0 H0 H locs) (hA : ∀ q, q < H.size → A1 q → A0 q) (hf : ∀ q, free q → A0 q) (hL : ∀ q ∈ L, free q.base) (hF : va_F A1 st₀ t) :
    H.size ≤ T'.heap.size ∧ (∀ q : Nat, q < H.size → ¬ A1 q → T'.heap[q]? = H[q]?) ∧ va_S A0 H0 T'.heap (locs ++ L) := by
  obtain ⟨hz, hk⟩ := hF
  rw [h0] at hz hk
  exact ⟨by rw [e1]; exact hz, fun q h1 h2 => by rw [e1]; exact hk q h1 h2,
    ⟨Nat.le_trans hS.1 (by rw [e1]; exact hz), fun q h1 h2 => by rw [e1, hk q (Nat.lt_of_lt_of_le h1 hS.1) (fun z => h2 (hA q (Nat.lt_of_lt_of_le h1 hS.1) z))]; exact hS.2.1 q h1 h2, fun q hq => by
      rcases List.mem_append.mp hq with h | h
      · exact hS.2.2 q h
      · exact hf _ (hL q h)⟩⟩
theorem vx_calli {S SX : Type} {post : Int32 → S → Prop} {px : SX → Prop} {B : S → State → Prop} {BX : String → SX → State → Prop} {AX : Nat → Prop} (hr : vx_Run p l e R s m args below meth c H locs cells slots mc ms (F0 m pc ls st0) rest (va_Qi post B A1 a) (vx_X px BX AX) free) (hS : va_S A0 H0 H locs) (hA : ∀ q, q < H.size → A1 q → A0 q) (hf : ∀ q, free q → A0 q) (hAX : ∀ q, q < H.size → AX q → A0 q)
    (kx : ∀ (E : String) (ce : Cell) (q9 : Addr) (u : SX) (t : State) (H1 : Heap) (locs1 : List Loc), t.heap = H1 → s.vm.Alike t.vm → px u → BX E u t → H.size ≤ H1.size → (∀ q : Nat, q < H.size → ¬ AX q → H1[q]? = H[q]?) → va_S A0 H0 H1 locs1 → H1[q9]? = some ce → ce.vm = .none → s.vm.findClass E = some ce.cls → vx_W p l e R s m args below meth c H1 locs1 (cells + mc) (slots + ms) Q (F0 m pc ls rest) q9)
    (kk : ∀ (r : Int32) (u : S) (t : State) (H1 : Heap) (locs1 : List Loc), t.heap = H1 → s.vm.Alike t.vm → post r u → B u t → H.size ≤ H1.size → (∀ q : Nat, q < H.size → ¬ A1 q → H1[q]? = H[q]?) → va_S A0 H0 H1 locs1 → W p l e R s m args below meth c H1 locs1 (cells + mc) (slots + ms) Q (F0 m (pc + 3) ls (.int r :: rest))) : W p l e R s m args below meth c H locs cells slots Q (F0 m pc ls st0) := by
  intro T hT X
  rcases hr T hT X with ⟨v, st₀, t, T', L, h0, X', hL, e1, e2, ⟨⟨r, u, hv, hp, hb⟩, hF⟩, st⟩ | ⟨q, st₀, t, T', L, E, ce, h0, X', hL, e1, e2, ⟨u, hp, hb, hF⟩, hce, hcv, hcl, st⟩
  · cases hv
    obtain ⟨k1, k2, k3⟩ := vx_keep h0 e1 hS hA hf hL hF
    obtain ⟨t2, a1, b1⟩ := kk r u t T'.heap (locs ++ L) e1.symm (by rw [← e2]; exact X'.warmed.alike) hp hb k1 k2 k3 T' rfl X'
    exact ⟨t2, st t2 a1, b1⟩
  · obtain ⟨k1, k2, k3⟩ := vx_keep h0 e1 hS hAX hf hL hF
    obtain ⟨t2, a1, b1⟩ := kx E ce q u t T'.heap (locs ++ L) e1.symm (by rw [← e2]; exact X'.warmed.alike) hp hb k1 k2 k3 (by rw [e1]; exact hce) hcv hcl T' rfl X'
    exact ⟨t2, st.trans a1, b1⟩
theorem vx_calll {S SX : Type} {post : Int64 → S → Prop} {px : SX → Prop} {B : S → State → Prop} {BX : String → SX → State → Prop} {AX : Nat → Prop} (hr : vx_Run p l e R s m args below meth c H locs cells slots mc ms (F0 m pc ls st0) rest (va_Ql post B A1 a) (vx_X px BX AX) free) (hS : va_S A0 H0 H locs) (hA : ∀ q, q < H.size → A1 q → A0 q) (hf : ∀ q, free q → A0 q) (hAX : ∀ q, q < H.size → AX q → A0 q)
    (kx : ∀ (E : String) (ce : Cell) (q9 : Addr) (u : SX) (t : State) (H1 : Heap) (locs1 : List Loc), t.heap = H1 → s.vm.Alike t.vm → px u → BX E u t → H.size ≤ H1.size → (∀ q : Nat, q < H.size → ¬ AX q → H1[q]? = H[q]?) → va_S A0 H0 H1 locs1 → H1[q9]? = some ce → ce.vm = .none → s.vm.findClass E = some ce.cls → vx_W p l e R s m args below meth c H1 locs1 (cells + mc) (slots + ms) Q (F0 m pc ls rest) q9)
    (kk : ∀ (r : Int64) (u : S) (t : State) (H1 : Heap) (locs1 : List Loc), t.heap = H1 → s.vm.Alike t.vm → post r u → B u t → H.size ≤ H1.size → (∀ q : Nat, q < H.size → ¬ A1 q → H1[q]? = H[q]?) → va_S A0 H0 H1 locs1 → W p l e R s m args below meth c H1 locs1 (cells + mc) (slots + ms) Q (F0 m (pc + 3) ls (.long r :: rest))) : W p l e R s m args below meth c H locs cells slots Q (F0 m pc ls st0) := by
  intro T hT X
  rcases hr T hT X with ⟨v, st₀, t, T', L, h0, X', hL, e1, e2, ⟨⟨r, u, hv, hp, hb⟩, hF⟩, st⟩ | ⟨q, st₀, t, T', L, E, ce, h0, X', hL, e1, e2, ⟨u, hp, hb, hF⟩, hce, hcv, hcl, st⟩
  · cases hv
    obtain ⟨k1, k2, k3⟩ := vx_keep h0 e1 hS hA hf hL hF
    obtain ⟨t2, a1, b1⟩ := kk r u t T'.heap (locs ++ L) e1.symm (by rw [← e2]; exact X'.warmed.alike) hp hb k1 k2 k3 T' rfl X'
    exact ⟨t2, st t2 a1, b1⟩
  · obtain ⟨k1, k2, k3⟩ := vx_keep h0 e1 hS hAX hf hL hF
    obtain ⟨t2, a1, b1⟩ := kx E ce q u t T'.heap (locs ++ L) e1.symm (by rw [← e2]; exact X'.warmed.alike) hp hb k1 k2 k3 (by rw [e1]; exact hce) hcv hcl T' rfl X'
    exact ⟨t2, st.trans a1, b1⟩
theorem vx_callf {S SX : Type} {post : UInt32 → S → Prop} {px : SX → Prop} {B : S → State → Prop} {BX : String → SX → State → Prop} {AX : Nat → Prop} (hr : vx_Run p l e R s m args below meth c H locs cells slots mc ms (F0 m pc ls st0) rest (va_Qf post B A1 a) (vx_X px BX AX) free) (hS : va_S A0 H0 H locs) (hA : ∀ q, q < H.size → A1 q → A0 q) (hf : ∀ q, free q → A0 q) (hAX : ∀ q, q < H.size → AX q → A0 q)
    (kx : ∀ (E : String) (ce : Cell) (q9 : Addr) (u : SX) (t : State) (H1 : Heap) (locs1 : List Loc), t.heap = H1 → s.vm.Alike t.vm → px u → BX E u t → H.size ≤ H1.size → (∀ q : Nat, q < H.size → ¬ AX q → H1[q]? = H[q]?) → va_S A0 H0 H1 locs1 → H1[q9]? = some ce → ce.vm = .none → s.vm.findClass E = some ce.cls → vx_W p l e R s m args below meth c H1 locs1 (cells + mc) (slots + ms) Q (F0 m pc ls rest) q9)
    (kk : ∀ (r : UInt32) (u : S) (t : State) (H1 : Heap) (locs1 : List Loc), t.heap = H1 → s.vm.Alike t.vm → post r u → B u t → H.size ≤ H1.size → (∀ q : Nat, q < H.size → ¬ A1 q → H1[q]? = H[q]?) → va_S A0 H0 H1 locs1 → W p l e R s m args below meth c H1 locs1 (cells + mc) (slots + ms) Q (F0 m (pc + 3) ls (.float r :: rest))) : W p l e R s m args below meth c H locs cells slots Q (F0 m pc ls st0) := by
  intro T hT X
  rcases hr T hT X with ⟨v, st₀, t, T', L, h0, X', hL, e1, e2, ⟨⟨r, u, hv, hp, hb⟩, hF⟩, st⟩ | ⟨q, st₀, t, T', L, E, ce, h0, X', hL, e1, e2, ⟨u, hp, hb, hF⟩, hce, hcv, hcl, st⟩
  · cases hv
    obtain ⟨k1, k2, k3⟩ := vx_keep h0 e1 hS hA hf hL hF
    obtain ⟨t2, a1, b1⟩ := kk r u t T'.heap (locs ++ L) e1.symm (by rw [← e2]; exact X'.warmed.alike) hp hb k1 k2 k3 T' rfl X'
    exact ⟨t2, st t2 a1, b1⟩
  · obtain ⟨k1, k2, k3⟩ := vx_keep h0 e1 hS hAX hf hL hF
    obtain ⟨t2, a1, b1⟩ := kx E ce q u t T'.heap (locs ++ L) e1.symm (by rw [← e2]; exact X'.warmed.alike) hp hb k1 k2 k3 (by rw [e1]; exact hce) hcv hcl T' rfl X'
    exact ⟨t2, st.trans a1, b1⟩
theorem vx_calld {S SX : Type} {post : UInt64 → S → Prop} {px : SX → Prop} {B : S → State → Prop} {BX : String → SX → State → Prop} {AX : Nat → Prop} (hr : vx_Run p l e R s m args below meth c H locs cells slots mc ms (F0 m pc ls st0) rest (va_Qd post B A1 a) (vx_X px BX AX) free) (hS : va_S A0 H0 H locs) (hA : ∀ q, q < H.size → A1 q → A0 q) (hf : ∀ q, free q → A0 q) (hAX : ∀ q, q < H.size → AX q → A0 q)
    (kx : ∀ (E : String) (ce : Cell) (q9 : Addr) (u : SX) (t : State) (H1 : Heap) (locs1 : List Loc), t.heap = H1 → s.vm.Alike t.vm → px u → BX E u t → H.size ≤ H1.size → (∀ q : Nat, q < H.size → ¬ AX q → H1[q]? = H[q]?) → va_S A0 H0 H1 locs1 → H1[q9]? = some ce → ce.vm = .none → s.vm.findClass E = some ce.cls → vx_W p l e R s m args below meth c H1 locs1 (cells + mc) (slots + ms) Q (F0 m pc ls rest) q9)
    (kk : ∀ (r : UInt64) (u : S) (t : State) (H1 : Heap) (locs1 : List Loc), t.heap = H1 → s.vm.Alike t.vm → post r u → B u t → H.size ≤ H1.size → (∀ q : Nat, q < H.size → ¬ A1 q → H1[q]? = H[q]?) → va_S A0 H0 H1 locs1 → W p l e R s m args below meth c H1 locs1 (cells + mc) (slots + ms) Q (F0 m (pc + 3) ls (.double r :: rest))) : W p l e R s m args below meth c H locs cells slots Q (F0 m pc ls st0) := by
  intro T hT X
  rcases hr T hT X with ⟨v, st₀, t, T', L, h0, X', hL, e1, e2, ⟨⟨r, u, hv, hp, hb⟩, hF⟩, st⟩ | ⟨q, st₀, t, T', L, E, ce, h0, X', hL, e1, e2, ⟨u, hp, hb, hF⟩, hce, hcv, hcl, st⟩
  · cases hv
    obtain ⟨k1, k2, k3⟩ := vx_keep h0 e1 hS hA hf hL hF
    obtain ⟨t2, a1, b1⟩ := kk r u t T'.heap (locs ++ L) e1.symm (by rw [← e2]; exact X'.warmed.alike) hp hb k1 k2 k3 T' rfl X'
    exact ⟨t2, st t2 a1, b1⟩
  · obtain ⟨k1, k2, k3⟩ := vx_keep h0 e1 hS hAX hf hL hF
    obtain ⟨t2, a1, b1⟩ := kx E ce q u t T'.heap (locs ++ L) e1.symm (by rw [← e2]; exact X'.warmed.alike) hp hb k1 k2 k3 (by rw [e1]; exact hce) hcv hcl T' rfl X'
    exact ⟨t2, st.trans a1, b1⟩
theorem vx_callv {S SX : Type} {post : S → Prop} {px : SX → Prop} {B : S → State → Prop} {BX : String → SX → State → Prop} {AX : Nat → Prop} (hr : vx_Run p l e R s m args below meth c H locs cells slots mc ms (F0 m pc ls st0) rest (va_Qv post B A1 a) (vx_X px BX AX) free) (hS : va_S A0 H0 H locs) (hA : ∀ q, q < H.size → A1 q → A0 q) (hf : ∀ q, free q → A0 q) (hAX : ∀ q, q < H.size → AX q → A0 q)
    (kx : ∀ (E : String) (ce : Cell) (q9 : Addr) (u : SX) (t : State) (H1 : Heap) (locs1 : List Loc), t.heap = H1 → s.vm.Alike t.vm → px u → BX E u t → H.size ≤ H1.size → (∀ q : Nat, q < H.size → ¬ AX q → H1[q]? = H[q]?) → va_S A0 H0 H1 locs1 → H1[q9]? = some ce → ce.vm = .none → s.vm.findClass E = some ce.cls → vx_W p l e R s m args below meth c H1 locs1 (cells + mc) (slots + ms) Q (F0 m pc ls rest) q9)
    (kk : ∀ (u : S) (t : State) (H1 : Heap) (locs1 : List Loc), t.heap = H1 → s.vm.Alike t.vm → post u → B u t → H.size ≤ H1.size → (∀ q : Nat, q < H.size → ¬ A1 q → H1[q]? = H[q]?) → va_S A0 H0 H1 locs1 → W p l e R s m args below meth c H1 locs1 (cells + mc) (slots + ms) Q (F0 m (pc + 3) ls (rest))) : W p l e R s m args below meth c H locs cells slots Q (F0 m pc ls st0) := by
  intro T hT X
  rcases hr T hT X with ⟨v, st₀, t, T', L, h0, X', hL, e1, e2, ⟨⟨u, hv, hp, hb⟩, hF⟩, st⟩ | ⟨q, st₀, t, T', L, E, ce, h0, X', hL, e1, e2, ⟨u, hp, hb, hF⟩, hce, hcv, hcl, st⟩
  · cases hv
    obtain ⟨k1, k2, k3⟩ := vx_keep h0 e1 hS hA hf hL hF
    obtain ⟨t2, a1, b1⟩ := kk u t T'.heap (locs ++ L) e1.symm (by rw [← e2]; exact X'.warmed.alike) hp hb k1 k2 k3 T' rfl X'
    exact ⟨t2, st t2 a1, b1⟩
  · obtain ⟨k1, k2, k3⟩ := vx_keep h0 e1 hS hAX hf hL hF
    obtain ⟨t2, a1, b1⟩ := kx E ce q u t T'.heap (locs ++ L) e1.symm (by rw [← e2]; exact X'.warmed.alike) hp hb k1 k2 k3 (by rw [e1]; exact hce) hcv hcl T' rfl X'
    exact ⟨t2, st.trans a1, b1⟩
/-- caught by the row x of this method's table; the rows ahead don't take it -/
theorem vx_catch {own name : String} {E : String} {ce : Cell} {q : Addr} (hown : s.vm.findClass own = some m.cls) (pre : List ExceptionTableEntry) (x : ExceptionTableEntry) (suf : List ExceptionTableEntry) (hsplit : c.exceptionTable.toList = pre ++ x :: suf)
    (hpass : ∀ z ∈ pre, covers z pc = false ∨ (z.catchType ≠ 0 ∧ ∃ nm : String, (Cond.classLink own z.catchType nm).before args s = true ∧ va_Nc E nm s)) (hx : covers x pc = true) (h0 : x.catchType ≠ 0)
    (hlink : (Cond.classLink own x.catchType name).before args s = true) (hcast : (Cond.castable E name).before args s = true) (hcell : H[q]? = some ce) (hv : ce.vm = .none) (hcl : s.vm.findClass E = some ce.cls)
    (kk : W p l e R s m args below meth c H locs cells slots Q (F0 m x.handlerPc ls [.ref q])) : vx_W p l e R s m args below meth c H locs cells slots Q (F0 m pc ls rest) q := by
  intro T hT X
  have hpl : e.platform.magicAccessors = ({} : Platform).magicAccessors := by rw [X.admits.platform]
  obtain ⟨c3, c4, hc3, hc4, hasg⟩ := Cond.castable_spec hcast
  cases Option.some.inj (hc3.symm.trans hcl)
  obtain ⟨c5, hc5, hcl5⟩ := Cond.classLink_spec hown hlink e.platform hpl
  cases Option.some.inj (hc4.symm.trans hc5)
  obtain ⟨vm', X', st⟩ := X.thenCaughtThrough q (g := F0 m pc ls rest) rfl (Steps.refl _) (by rw [hT]; exact hcell) (by rw [hv]; rfl) (by obtain ⟨k9, h9, -⟩ := Vm.findClass_spec hcl; exact ⟨k9, h9⟩) pre x suf hsplit
    (fun z hz => by
      rcases hpass z hz with h | ⟨hz0, nm, hl1, hn1⟩
      · exact Or.inl h
      · obtain ⟨c6, hc6, hcl6⟩ := Cond.classLink_spec hown hl1 e.platform hpl
        obtain ⟨a8, b8, h1, h2, h3⟩ := hn1
        cases Option.some.inj (h1.symm.trans hcl)
        cases Option.some.inj (h2.symm.trans hc6)
        exact Or.inr ⟨hz0, _, hcl6, h3⟩) hx (Or.inr ⟨h0, c4, hcl5, hasg⟩)
  obtain ⟨t, a1, b1⟩ := kk (T.setVm vm') hT X'
  exact ⟨t, st.trans a1, b1⟩
end Rows
section Ends
variable {p : Program} {l : Launch} {e : Env} {R : Room} {s : State} {m : MethodId} {args : Array Value} {below : List Frame} {meth : Method} {c : Code} {H : Heap} {locs : List Loc} {cells slots : Nat} {Q : State → Prop}
variable {mc ms : Nat} {free : Addr → Prop} {A0 A1 : Nat → Prop} {H0 : Heap} {a : Array Value} {ls : Array Slot} {st0 rest : List Value}
variable {Qc : Array Value → State → Outcome → State → Prop} {XC : String → State → State → Prop}
/-- what a body that may throw owes at its end -/
def vx_MQ (below : List Frame) (Qc : Array Value → State → Outcome → State → Prop) (XC : String → State → State → Prop) (a : Array Value) (s : State) (mc ms : Nat) (free : Addr → Prop) : State → Prop := fun t =>
  ∃ o, t.status = .running ∧ Ended t below o ∧ vx_Q Qc XC mc ms free a s o t
theorem vx_ret {g : JFrame} {mc ms : Nat} (k : W p l e R s m args below meth c H locs cells slots (MQ below Qc args s mc ms free) g) : W p l e R s m args below meth c H locs cells slots (vx_MQ below Qc XC args s mc ms free) g := by
  intro T hT X
  obtain ⟨t, a1, o, b1, b2, b3, b4⟩ := k T hT X
  exact ⟨t, a1, o, b1, b2, Or.inl ⟨b3, b4⟩⟩
/-- not caught here: it goes on to the caller -/
theorem vx_widen {g : JFrame} {q : Addr} {k n : Nat} (h1 : cells ≤ k) (h2 : slots ≤ n) (kk : vx_W p l e R s m args below meth c H locs k n Q g q) : vx_W p l e R s m args below meth c H locs cells slots Q g q := fun T hT X => kk T hT (stand_widen X h1 h2)
theorem vx_out {pc : Nat} {E : String} {ce : Cell} {q : Addr} {mc ms : Nat} (hout : ∀ x ∈ c.exceptionTable.toList, covers x pc = false) (hlocks : meth.locks = false) (hcell : H[q]? = some ce) (hv : ce.vm = .none) (hcl : s.vm.findClass E = some ce.cls)
    (hx : ∀ t : State, t.heap = H → s.vm.Alike t.vm → XC E s t) (hf : ∀ z ∈ locs, free z.base) (hc : cells ≤ mc) (hs : slots ≤ ms) :
    vx_W p l e R s m args below meth c H locs cells slots (vx_MQ below Qc XC args s mc ms free) (F0 m pc ls rest) q := by
  intro T hT X
  obtain ⟨st1, hrun, hend, hW, hsm⟩ := X.leaveThrown q (g := F0 m pc ls rest) rfl rfl rfl hout hlocks
  have hcell9 : (T.setFrames (.throwing q :: below)).heap[q]? = some ce := by
    show T.heap[q]? = some ce
    rw [hT]; exact hcell
  exact ⟨_, st1, .threw q, hrun, hend, Or.inr ⟨q, rfl, E, ce, locs, hx _ hT hW.alike, hcell9, hv, hcl, hW, hsm.mono hc hs, hf⟩⟩
theorem vx_frame {U : State} {k n : Nat} (h : s.sameButNew ({ U with vm := s.vm } : State) locs k n) : s.heap.size ≤ U.heap.size ∧ ∀ q : Nat, q < s.heap.size → (∀ z ∈ locs, z.base ≠ q) → U.heap[q]? = s.heap[q]? := by
  obtain ⟨-, h2, -, -, -, h6⟩ := h
  refine ⟨h2, fun q hq hz => ?_⟩
  obtain ⟨c9, e1, e2, e3, e4⟩ := h6 q _ (Array.getElem?_eq_getElem hq)
  have hs : c9.slots = (s.heap[q]).slots := Array.ext_getElem? fun i => e4 i fun hm => hz _ hm rfl
  have h9 : c9 = s.heap[q] := by
    rw [hs] at e2
    exact e2
  have e5 : U.heap[q]? = some c9 := e1
  rw [e5, h9, Array.getElem?_eq_getElem hq]
/-- the words of a throw but the four that speak of the heap -/
def vx_no (w : Cond) : Bool := decide (w ≠ .isRef (.static Bundle.tN "UNASSIGNED_STACK" Bundle.steD)) && decide (w ≠ .isRef (.static Bundle.tN "SUPPRESSED_SENTINEL" Bundle.listD)) && decide (w ≠ .laysStatic Bundle.tN "UNASSIGNED_STACK" Bundle.steD) && decide (w ≠ .laysStatic Bundle.tN "SUPPRESSED_SENTINEL" Bundle.listD)
def vx_at0 (own : String) (ic : Nat) (X : String) (names : List String) : List Cond := (Bundle.ownAtoms0 own ic X names).filter vx_no
def vx_atS (own : String) (ic : Nat) (X : String) (names : List String) : List Cond := (Bundle.ownAtoms own ic X names).filter vx_no
/-- a word that the tables alone decide, or a good one -/
def vx_ot (w : Cond) : Bool := w.onTables || goodWord w
theorem vx_ot_at {args a' : Array Value} {s U : State} {w : Cond} (hW : s.WarmedH U.vm) (hvm : s.vm = U.vm) (hg : vx_ot w = true) (h : w.before args s = true) : w.before a' U = true := by
  simp only [vx_ot, Bool.or_eq_true] at hg
  rcases hg with hg | hg
  · exact va_tabs hg hvm h
  · exact word_at hW (good_of_word hg) h
/-- a list's words: the good ones out of the method's own list, the others by premises of their own -/
theorem vx_hat {args : Array Value} {s : State} {L B : List Cond} (h1 : ∀ w ∈ L.filter goodWord, w.before args s = true) (h2 : ∀ w ∈ L.filter (fun w => !goodWord w), w ∈ B) (h3 : ∀ w ∈ B, w.before args s = true) : ∀ w ∈ L, w.before args s = true := by
  intro w hw
  by_cases g : goodWord w = true
  · exact h1 w (List.mem_filter.mpr ⟨hw, g⟩)
  · refine h3 w (h2 w (List.mem_filter.mpr ⟨hw, ?_⟩))
    show (!goodWord w) = true
    cases hgw : goodWord w
    · rfl
    · exact absurd hgw g
theorem vx_c {args : Array Value} {s : State} {w : Cond} {B : List Cond} (h : w.before args s = true) (t : ∀ w ∈ B, w.before args s = true) : ∀ w' ∈ w :: B, w'.before args s = true := fun w' h' => (List.mem_cons.mp h').elim (fun e => by rw [e]; exact h) (t w')
theorem vx_n {args : Array Value} {s : State} : ∀ w ∈ ([] : List Cond), w.before args s = true := fun _ h => nomatch h
theorem vx_own {args : Array Value} {s : State} {L : List Cond} (h1 : ∀ w ∈ L.filter vx_no, w.before args s = true)
    (hU : (Cond.isRef (.static Bundle.tN "UNASSIGNED_STACK" Bundle.steD)).before args s = true) (hN : (Cond.isRef (.static Bundle.tN "SUPPRESSED_SENTINEL" Bundle.listD)).before args s = true)
    (lU : (Cond.laysStatic Bundle.tN "UNASSIGNED_STACK" Bundle.steD).before args s = true) (lN : (Cond.laysStatic Bundle.tN "SUPPRESSED_SENTINEL" Bundle.listD).before args s = true) : ∀ w ∈ L, w.before args s = true := by
  intro w hw
  by_cases e1 : w = .isRef (.static Bundle.tN "UNASSIGNED_STACK" Bundle.steD)
  · rw [e1]; exact hU
  · by_cases e2 : w = .isRef (.static Bundle.tN "SUPPRESSED_SENTINEL" Bundle.listD)
    · rw [e2]; exact hN
    · by_cases e3 : w = .laysStatic Bundle.tN "UNASSIGNED_STACK" Bundle.steD
      · rw [e3]; exact lU
      · by_cases e4 : w = .laysStatic Bundle.tN "SUPPRESSED_SENTINEL" Bundle.listD
        · rw [e4]; exact lN
        · exact h1 w (List.mem_filter.mpr ⟨hw, by unfold vx_no; rw [decide_eq_true e1, decide_eq_true e2, decide_eq_true e3, decide_eq_true e4]; rfl⟩)
/-- where a static field lies, its class's statics cell in H -/
def vx_L (C n d : String) (A : Nat → Prop) (U : State) (H : Heap) : Prop := ∃ (c : ClassId) (k : Class) (i : Nat) (f : Field) (a : Nat) (cell : Cell), U.vm.findClass C = some c ∧ U.fieldFound? C n d = some (c, k, i, f) ∧ f.isStatic = true ∧ k.statics = some a ∧ H[a]? = some cell ∧ cell.vm.isStatics = true ∧ cell.cls = c ∧ f.slot < cell.slots.size ∧ k.staticTypes[f.slot]? = some f.type ∧ ¬ A a
theorem vx_L.moved {C n d : String} {A : Nat → Prop} {u U : State} {H : Heap} (hvm : u.vm.Alike U.vm) (h : vx_L C n d A u H) : vx_L C n d A U H := by
  obtain ⟨c, k, i, f, a, cell, h1, h2, h3, h4, h5, h6, h7, h8, h9, h10⟩ := h
  obtain ⟨k', hi', he⟩ := State.fieldFound?_setVm hvm h2
  exact ⟨c, k', i, f, a, cell, by rw [hvm.findClass]; exact h1, hi', h3, by rw [he]; exact h4, h5, h6, h7, h8, by rw [he]; exact h9, h10⟩
theorem vx_L.kept {C n d : String} {A : Nat → Prop} {U : State} {H H1 : Heap} (h : vx_L C n d A U H) (hq : ∀ a : Nat, a < H.size → ¬ A a → H1[a]? = H[a]?) : vx_L C n d A U H1 := by
  obtain ⟨c, k, i, f, a, cell, h1, h2, h3, h4, h5, h6, h7, h8, h9, h10⟩ := h
  exact ⟨c, k, i, f, a, cell, h1, h2, h3, h4, by rw [hq a (Array.getElem?_eq_some_iff.mp h5).1 h10]; exact h5, h6, h7, h8, h9, h10⟩
theorem vx_L.narrow {C n d : String} {A B : Nat → Prop} {U : State} {H : Heap} (h : vx_L C n d A U H) (hAB : ∀ q, B q → A q) : vx_L C n d B U H := by
  obtain ⟨c, k, i, f, a, cell, h1, h2, h3, h4, h5, h6, h7, h8, h9, h10⟩ := h
  exact ⟨c, k, i, f, a, cell, h1, h2, h3, h4, h5, h6, h7, h8, h9, fun z => h10 (hAB _ z)⟩
theorem vx_L.word {C n d : String} {A : Nat → Prop} {s : State} {args : Array Value} (h : vx_L C n d A s s.heap) : (Cond.laysStatic C n d).before args s = true := by
  obtain ⟨c, k, i, f, a, cell, h1, h2, h3, h4, h5, h6, h7, h8, h9, -⟩ := h
  show (Cond.laysStatic C n d).holds args s none s [] = true
  exact Cond.laysStatic_of h1 h2 h3 h4 h5 h6 h7 h8 h9
/-- .. and what it holds: null or some reference -/
def vx_Zq (C n d : String) (A : Nat → Prop) (U : State) (H : Heap) : Prop := va_Zq C n d A U H ∧ vx_L C n d A U H
theorem vx_Zq.moved {C n d : String} {A : Nat → Prop} {u U : State} {H : Heap} (hvm : u.vm.Alike U.vm) (h : vx_Zq C n d A u H) : vx_Zq C n d A U H := ⟨va_Zq.moved hvm h.1, vx_L.moved hvm h.2⟩
theorem vx_Zq.kept {C n d : String} {A : Nat → Prop} {U : State} {H H1 : Heap} (h : vx_Zq C n d A U H) (hq : ∀ a : Nat, a < H.size → ¬ A a → H1[a]? = H[a]?) : vx_Zq C n d A U H1 := ⟨va_Zq.kept h.1 hq, vx_L.kept h.2 hq⟩
theorem vx_Zq.narrow {C n d : String} {A B : Nat → Prop} {U : State} {H : Heap} (h : vx_Zq C n d A U H) (hAB : ∀ q, B q → A q) : vx_Zq C n d B U H := ⟨va_Zq.narrow h.1 hAB, vx_L.narrow h.2 hAB⟩
theorem vx_Zqof {args : Array Value} {s : State} {C n d : String} {A : Nat → Prop} (hl : (Cond.laysStatic C n d).before args s = true) (hini : (Cond.initialized C).before args s = true) (h : (Cond.isRef (.static C n d)).before args s = true) (hA : ∀ a : Nat, a < s.heap.size → ¬ A a) : vx_Zq C n d A s s.heap := by
  refine ⟨va_Zqof hl hini h hA, ?_⟩
  obtain ⟨c, k, i, f, a, cell, h1, h2, h3, h4, h5, h6, h7, h8, h9⟩ := Cond.laysStatic_spec hl
  exact ⟨c, k, i, f, a, cell, h1, h2, h3, h4, h5, h6, h7, h8, h9, hA a (Array.getElem?_eq_some_iff.mp h5).1⟩
theorem vx_isRef {C n d : String} {v : Value} {A : Nat → Prop} {s : State} {args : Array Value} (h : va_Z C n d v A s s.heap) (hv : v.isRef = true) : (Cond.isRef (.static C n d)).before args s = true := by
  obtain ⟨cf, kf, fi, f, a, cell, h1, h2, h3, h4, h5, h6, h7, -⟩ := h
  have he : (Term.static C n d).eval args s none [] s = some v := by
    simp [Term.eval, State.fieldNamed?, h1, h2, h4, h5, h6, h7]
  simp only [Cond.before, Cond.holds, Cond.value, he]
  cases v <;> simp_all [Value.isRef]
theorem vx_isRefq {C n d : String} {A : Nat → Prop} {s : State} {args : Array Value} (h : va_Zq C n d A s s.heap) : (Cond.isRef (.static C n d)).before args s = true := by
  rcases h with h | ⟨t, h⟩
  · exact vx_isRef h rfl
  · exact vx_isRef h rfl
/-- the same frame, seen from here: as if the method were called anew in this heap -/
theorem vx_rebase {T : State} (X : Stand p l e R s m args below meth c T locs cells slots) {R' : Room} (hf : R'.frames ≤ R.frames) (hl : R'.locals ≤ R.locals) (hc : cells + R'.cells ≤ R.cells) (hs : slots + R'.slots ≤ R.slots) :
    Stand p l e R' ((T.setVm s.vm).setFrames (.invoking m args :: below)) m args below meth c T [] 0 0 := by
  have htop : (T.setVm s.vm).topJava?.isSome := X.here.top
  have hF : ((T.setVm s.vm).setFrames (.invoking m args :: below)).frames = .invoking m args :: below := State.frames_setFrames _ (State.cur_lt_of_top htop)
  obtain ⟨g₀, hg0⟩ := Option.isSome_iff_exists.mp htop
  obtain ⟨r, hr⟩ := State.topJava?_eq_some.mp hg0
  have hl9 : e.platform.stackLimits (T.setVm s.vm).me = e.platform.stackLimits s.me := X.limits
  have hb9 : (T.setVm s.vm).me.stackBytes = s.me.stackBytes := X.bytes
  refine ⟨X.admits, X.cas, X.clock, hF, ?_, X.hears, X.method, X.code, X.here, X.tail, X.warmed, ?_, ?_, ?_⟩
  · have h := X.room
    have hU : ((T.setVm s.vm).setFrames (.invoking m args :: below)).localsInUse = s.localsInUse := by
      rw [State.localsInUse_invoking hF (meth := meth) (c := c) X.method X.code, State.localsInUse_invoking X.frames X.method X.code]
    simp only [State.hasRoom, Bool.and_eq_true, decide_eq_true_eq] at h ⊢
    obtain ⟨⟨⟨⟨h1, h2, h3, h4, h5, h6⟩, h7⟩, h8⟩, h9⟩ := h
    rw [X.frames, List.length_cons] at h2 h3
    have q1 := X.heapSize
    have q2 := X.used
    simp only [hF, hU, List.length_cons, State.stackLimits_setFrames, State.stackBytes_setFrames, hl9, hb9]
    refine ⟨⟨⟨⟨by omega, by omega, by omega, by omega, by omega, h6⟩, ?_⟩, ?_⟩, X.book⟩
    · show T.heap.size + R'.cells ≤ e.platform.maxCells
      omega
    · show T.slotsUsed + R'.slots ≤ e.platform.maxSlots
      omega
  · rw [State.stackLimits_setFrames]; rfl
  · rw [State.stackBytes_setFrames]; rfl
  · refine ⟨?_, Nat.le_refl _, Nat.le_refl _, ?_, ?_, fun a c9 h9 => ⟨c9, h9, rfl, rfl, fun _ _ => rfl⟩⟩
    · obtain ⟨t, ht, -⟩ := State.frames_cons hr
      show T.setVm s.vm = { ((T.setVm s.vm).setFrames (.invoking m args :: below)).setFrames (T.setVm s.vm).frames with heap := T.heap, slotsUsed := T.slotsUsed }
      rw [State.setFrames_setFrames, State.setFrames_self ht]
      rfl
    · show T.slotsUsed = T.slotsUsed + ((T.heap.toList.drop T.heap.size).map (·.slots.size)).sum
      rw [List.drop_eq_nil_of_le (Nat.le_of_eq Array.length_toList)]
      rfl
    · show ((T.heap.toList.drop T.heap.size).map (·.slots.size)).sum ≤ 0
      rw [List.drop_eq_nil_of_le (Nat.le_of_eq Array.length_toList)]
      exact Nat.le_refl _
/-- 'throw new E()': new; dup; invokespecial; athrow -/
theorem vx_throw0 {cc : ByteArray} {pc : Nat} (hexec : p.tables.exec = Jvm.exec) (hb : c.code = cc) (hl : l.stackTraces = false) {own cls : String} {names : List String} {ik ic mc ms : Nat} {A : Nat → Prop}
    (hown : s.vm.findClass own = some m.cls) (hcls : Bundle.fit cls = true) (hnames : ∀ n ∈ names, Bundle.fit n = true)
    (hk : (Cond.classLink own ik cls).before args s = true) (hini : (Cond.initialized cls).before args s = true) (hat : ∀ w ∈ vx_at0 own ic cls names, w.before args s = true)
    (hgood : ∀ w ∈ Cond.classLink own ik cls :: Cond.initialized cls :: vx_at0 own ic cls names, vx_ot w = true)
    (hU : vx_Zq Bundle.tN "UNASSIGNED_STACK" Bundle.steD A s s.heap) (hN : vx_Zq Bundle.tN "SUPPRESSED_SENTINEL" Bundle.listD A s s.heap) (hS : va_S A s.heap H locs) (hsize : ls.size = c.maxLocals)
    (d0 : decode cc pc = .ok (.new ik, 3)) (d3 : decode cc (pc + 3) = .ok (.dup, 1)) (d4 : decode cc (pc + 4) = .ok (.invokespecial ic, 3)) (d7 : decode cc (pc + 7) = .ok (.athrow, 1))
    (hout : ∀ x ∈ c.exceptionTable.toList, covers x (pc + 7) = false)
    (hRframes : names.length + 3 < R.frames) (hRlocals : (rest.map fun v => v.category).sum + (13 * (names.length + 1) + 42) ≤ R.locals) (hRcells : cells + 1 ≤ R.cells) (hRslots : slots + 6 ≤ R.slots) (hlocks : meth.locks = false)
    (hx : ∀ t : State, s.vm.Alike t.vm → H.size ≤ t.heap.size → (∀ q : Nat, q < H.size → t.heap[q]? = H[q]?) → XC cls s t)
    (hf : ∀ z ∈ locs, free z.base) (hc : cells + 1 ≤ mc) (hs : slots + 6 ≤ ms) :
    W p l e R s m args below meth c H locs cells slots (vx_MQ below Qc XC args s mc ms free) (F0 m pc ls rest) := by
  intro T hT X
  have htr : e.platform.stackTraces = false := (show e.platform.stackTraces = l.stackTraces by rw [X.admits.platform]).trans hl
  have Y := vx_rebase X (R' := { frames := R.frames, locals := R.locals, cells := 1, slots := 6 }) (Nat.le_refl _) (Nat.le_refl _) hRcells hRslots
  obtain ⟨s', hA⟩ : ∃ z, z = (T.setVm s.vm).setFrames (.invoking m args :: below) := ⟨_, rfl⟩
  rw [← hA] at Y
  have hvm : s'.vm = s.vm := by rw [hA]; rfl
  have hhp : s'.heap = H := by rw [hA]; exact hT
  have hW0 : s.WarmedH s'.vm := by rw [hvm]; exact State.WarmedH.refl s
  have hat' : ∀ w ∈ vx_at0 own ic cls names, w.before args s' = true := fun w hw => vx_ot_at hW0 hvm.symm (hgood w (List.mem_cons_of_mem _ (List.mem_cons_of_mem _ hw))) (hat w hw)
  have hk' : (Cond.classLink own ik cls).before args s' = true := vx_ot_at hW0 hvm.symm (hgood _ List.mem_cons_self) hk
  have hini' : (Cond.initialized cls).before args s' = true := vx_ot_at hW0 hvm.symm (hgood _ (List.mem_cons_of_mem _ List.mem_cons_self)) hini
  have hU' : vx_Zq Bundle.tN "UNASSIGNED_STACK" Bundle.steD A s' s'.heap := by rw [hhp]; exact vx_Zq.moved hW0.alike (hU.kept hS.2.1)
  have hN' : vx_Zq Bundle.tN "SUPPRESSED_SENTINEL" Bundle.listD A s' s'.heap := by rw [hhp]; exact vx_Zq.moved hW0.alike (hN.kept hS.2.1)
  have h : ∀ w ∈ Bundle.ownAtoms0 own ic cls names, w.before args s' = true := vx_own hat' (vx_isRefq hU'.1) (vx_isRefq hN'.1) hU'.2.word hN'.2.word
  have hown' : s'.vm.findClass own = some m.cls := by rw [hvm]; exact hown
  have hins : (Cond.instantiable cls 6).before args s' = true := h _ (by simp [Bundle.ownAtoms0])
  obtain ⟨vm₁, cX, kX, hfX, hkX, -, -, X₁, st1⟩ := Y.newCold hexec (own := own) (C := cls) (index := ik) (n := 6) hown' hk' hins hini'
    (g := F0 m pc ls rest) rfl (by rw [hb]; exact d0) (Nat.le_refl _) (Nat.le_refl _)
  generalize hT1 : (T.setVm vm₁).pushCell { cls := cX, slots := kX.instanceTypes.map defaultValue, vm := .none } = T1 at X₁ st1
  have hcat : (Value.ref T.heap.size).category = 1 := rfl
  have hcellA : T1.heap[T.heap.size]? = some (freshCell cX kX) := by rw [← hT1]; exact State.heap_pushCell_size _ _
  have d3' : decode c.code (pc + 3) = .ok (.dup, 1) := by rw [hb]; exact d3
  obtain ⟨U, hsteps, hrun, hend, hW, hsame, ce, hce, hO⟩ := X₁.ctorThrow0 hexec htr (own := own) (cls := cls) (names := names) (ic := ic) hown' hcls hnames h (fun x hx => nomatch hx) hfX hkX hcellA (by rw [hhp, hT]; exact Nat.le_refl _)
    (g := { method := m, pc := pc + 4, locals := ls, stack := .ref T.heap.size :: .ref T.heap.size :: rest, locked := none }) rfl hsize rfl rfl (rest := rest) rfl
    (by rw [hb]; exact d4) (by rw [hb]; exact d7) hout hRframes (by simp only [List.map_cons, List.sum_cons, hcat]; omega) hlocks
  obtain ⟨f1, f2⟩ := vx_frame hsame
  rw [hhp] at f1 f2
  have hWs : s.WarmedH U.vm := State.WarmedH.trans hW0 hW
  have hcl : s.vm.findClass cls = some ce.cls := by
    have h9 := hO.cls
    rw [hvm] at h9
    exact h9
  have hall : s.sameButNew ({ U with vm := s.vm } : State) locs mc ms := by
    subst hA
    obtain ⟨e1, e2⟩ := hsame
    rw [State.setFrames_setFrames] at e1
    have h2 : (T.setVm s.vm).sameButNew ({ U with vm := s.vm } : State) [] (0 + 1) (0 + 6) := ⟨e1, e2⟩
    have h3 := X.same.trans h2
    rw [List.append_nil] at h3
    exact h3.mono hc hs
  refine ⟨U, ?_, .threw T.heap.size, hrun, hend, Or.inr ⟨T.heap.size, rfl, cls, ce, locs, hx U hWs.alike f1 (fun q hq => f2 q hq (fun z hz => nomatch hz)), hce, hO.vm, hcl, hWs, hall, hf⟩⟩
  refine st1 _ ?_
  show Steps p.tables e below (T1.setTop { method := m, pc := pc + 3, locals := ls, stack := .ref T.heap.size :: rest, locked := none }) _
  jvm_step X₁.here [X₁.here.top, hexec, d3', Value.category]
  exact hsteps
/-- 'throw new E("text")': new; dup; ldc; invokespecial; athrow -/
theorem vx_throwS {cc : ByteArray} {pc : Nat} (hexec : p.tables.exec = Jvm.exec) (hb : c.code = cc) (hl : l.stackTraces = false) {own cls text : String} {names : List String} {ik is ic mc ms sa : Nat} {A : Nat → Prop}
    (hown : s.vm.findClass own = some m.cls) (hcls : Bundle.fit cls = true) (hnames : ∀ n ∈ names, Bundle.fit n = true)
    (hk : (Cond.classLink own ik cls).before args s = true) (hini : (Cond.initialized cls).before args s = true) (hstr : vk_R own is text sa s) (hat : ∀ w ∈ vx_atS own ic cls names, w.before args s = true)
    (hgood : ∀ w ∈ Cond.classLink own ik cls :: Cond.initialized cls :: vx_atS own ic cls names, vx_ot w = true)
    (hU : vx_Zq Bundle.tN "UNASSIGNED_STACK" Bundle.steD A s s.heap) (hN : vx_Zq Bundle.tN "SUPPRESSED_SENTINEL" Bundle.listD A s s.heap) (hS : va_S A s.heap H locs) (hsize : ls.size = c.maxLocals)
    (d0 : decode cc pc = .ok (.new ik, 3)) (d3 : decode cc (pc + 3) = .ok (.dup, 1)) (d4 : decode cc (pc + 4) = .ok (.ldc is, 2)) (d6 : decode cc (pc + 6) = .ok (.invokespecial ic, 3)) (d9 : decode cc (pc + 9) = .ok (.athrow, 1))
    (hout : ∀ x ∈ c.exceptionTable.toList, covers x (pc + 9) = false)
    (hRframes : names.length + 3 < R.frames) (hRlocals : (rest.map fun v => v.category).sum + (13 * (names.length + 1) + 43) ≤ R.locals) (hRcells : cells + 1 ≤ R.cells) (hRslots : slots + 6 ≤ R.slots) (hlocks : meth.locks = false)
    (hx : ∀ t : State, s.vm.Alike t.vm → H.size ≤ t.heap.size → (∀ q : Nat, q < H.size → t.heap[q]? = H[q]?) → XC cls s t)
    (hf : ∀ z ∈ locs, free z.base) (hc : cells + 1 ≤ mc) (hs : slots + 6 ≤ ms) :
    W p l e R s m args below meth c H locs cells slots (vx_MQ below Qc XC args s mc ms free) (F0 m pc ls rest) := by
  intro T hT X
  have htr : e.platform.stackTraces = false := (show e.platform.stackTraces = l.stackTraces by rw [X.admits.platform]).trans hl
  have Y := vx_rebase X (R' := { frames := R.frames, locals := R.locals, cells := 1, slots := 6 }) (Nat.le_refl _) (Nat.le_refl _) hRcells hRslots
  obtain ⟨s', hA⟩ : ∃ z, z = (T.setVm s.vm).setFrames (.invoking m args :: below) := ⟨_, rfl⟩
  rw [← hA] at Y
  have hvm : s'.vm = s.vm := by rw [hA]; rfl
  have hhp : s'.heap = H := by rw [hA]; exact hT
  have hW0 : s.WarmedH s'.vm := by rw [hvm]; exact State.WarmedH.refl s
  have hat' : ∀ w ∈ vx_atS own ic cls names, w.before args s' = true := fun w hw => vx_ot_at hW0 hvm.symm (hgood w (List.mem_cons_of_mem _ (List.mem_cons_of_mem _ hw))) (hat w hw)
  have hk' : (Cond.classLink own ik cls).before args s' = true := vx_ot_at hW0 hvm.symm (hgood _ List.mem_cons_self) hk
  have hini' : (Cond.initialized cls).before args s' = true := vx_ot_at hW0 hvm.symm (hgood _ (List.mem_cons_of_mem _ List.mem_cons_self)) hini
  have hU' : vx_Zq Bundle.tN "UNASSIGNED_STACK" Bundle.steD A s' s'.heap := by rw [hhp]; exact vx_Zq.moved hW0.alike (hU.kept hS.2.1)
  have hN' : vx_Zq Bundle.tN "SUPPRESSED_SENTINEL" Bundle.listD A s' s'.heap := by rw [hhp]; exact vx_Zq.moved hW0.alike (hN.kept hS.2.1)
  have h : ∀ w ∈ Bundle.ownAtoms own ic cls names, w.before args s' = true := vx_own hat' (vx_isRefq hU'.1) (vx_isRefq hN'.1) hU'.2.word hN'.2.word
  have hown' : s'.vm.findClass own = some m.cls := by rw [hvm]; exact hown
  have hins : (Cond.instantiable cls 6).before args s' = true := h _ (by simp [Bundle.ownAtoms])
  obtain ⟨vm₁, cX, kX, hfX, hkX, -, -, X₁, st1⟩ := Y.newCold hexec (own := own) (C := cls) (index := ik) (n := 6) hown' hk' hins hini'
    (g := F0 m pc ls rest) rfl (by rw [hb]; exact d0) (Nat.le_refl _) (Nat.le_refl _)
  generalize hT1 : (T.setVm vm₁).pushCell { cls := cX, slots := kX.instanceTypes.map defaultValue, vm := .none } = T1 at X₁ st1
  have hcat : (Value.ref T.heap.size).category = 1 := rfl
  have hcellA : T1.heap[T.heap.size]? = some (freshCell cX kX) := by rw [← hT1]; exact State.heap_pushCell_size _ _
  have d3' : decode c.code (pc + 3) = .ok (.dup, 1) := by rw [hb]; exact d3
  have d4' : decode c.code (pc + 4) = .ok (.ldc is, 2) := by rw [hb]; exact d4
  have hstr' : vk_R own is text sa s' := vk_R.warm hW0 hstr
  obtain ⟨U, hsteps, hrun, hend, hW, hsame, ce, hce, hO⟩ := X₁.ctorThrowS hexec htr (own := own) (cls := cls) (names := names) (ic := ic) hown' hcls hnames h (fun x hx => nomatch hx) hfX hkX hcellA (by rw [hhp, hT]; exact Nat.le_refl _) (msg := .ref sa) rfl
    (g := { method := m, pc := pc + 6, locals := ls, stack := .ref sa :: .ref T.heap.size :: .ref T.heap.size :: rest, locked := none }) rfl hsize rfl rfl (rest := rest) rfl
    (by rw [hb]; exact d6) (by rw [hb]; exact d9) hout hRframes (by simp only [List.map_cons, List.sum_cons, hcat]; omega) hlocks
  obtain ⟨f1, f2⟩ := vx_frame hsame
  rw [hhp] at f1 f2
  have hWs : s.WarmedH U.vm := State.WarmedH.trans hW0 hW
  have hcl : s.vm.findClass cls = some ce.cls := by
    have h9 := hO.cls
    rw [hvm] at h9
    exact h9
  have hall : s.sameButNew ({ U with vm := s.vm } : State) locs mc ms := by
    subst hA
    obtain ⟨e1, e2⟩ := hsame
    rw [State.setFrames_setFrames] at e1
    have h2 : (T.setVm s.vm).sameButNew ({ U with vm := s.vm } : State) [] (0 + 1) (0 + 6) := ⟨e1, e2⟩
    have h3 := X.same.trans h2
    rw [List.append_nil] at h3
    exact h3.mono hc hs
  refine ⟨U, ?_, .threw T.heap.size, hrun, hend, Or.inr ⟨T.heap.size, rfl, cls, ce, locs, hx U hWs.alike f1 (fun q hq => f2 q hq (fun z hz => nomatch hz)), hce, hO.vm, hcl, hWs, hall, hf⟩⟩
  refine st1 _ ?_
  show Steps p.tables e below (T1.setTop { method := m, pc := pc + 3, locals := ls, stack := .ref T.heap.size :: rest, locked := none }) _
  jvm_step X₁.here [X₁.here.top, hexec, d3', Value.category]
  exact X₁.ldcString hexec (own := own) (text := text) (index := is) (a := sa) hown' hstr'.1 hstr'.2
    (g := { method := m, pc := pc + 4, locals := ls, stack := .ref T.heap.size :: .ref T.heap.size :: rest, locked := none }) rfl d4' _ hsteps
/-- 'throw new E("text")', the text by a wide index -/
theorem vx_throwSW {cc : ByteArray} {pc : Nat} (hexec : p.tables.exec = Jvm.exec) (hb : c.code = cc) (hl : l.stackTraces = false) {own cls text : String} {names : List String} {ik is ic mc ms sa : Nat} {A : Nat → Prop}
    (hown : s.vm.findClass own = some m.cls) (hcls : Bundle.fit cls = true) (hnames : ∀ n ∈ names, Bundle.fit n = true)
    (hk : (Cond.classLink own ik cls).before args s = true) (hini : (Cond.initialized cls).before args s = true) (hstr : vk_R own is text sa s) (hat : ∀ w ∈ vx_atS own ic cls names, w.before args s = true)
    (hgood : ∀ w ∈ Cond.classLink own ik cls :: Cond.initialized cls :: vx_atS own ic cls names, vx_ot w = true)
    (hU : vx_Zq Bundle.tN "UNASSIGNED_STACK" Bundle.steD A s s.heap) (hN : vx_Zq Bundle.tN "SUPPRESSED_SENTINEL" Bundle.listD A s s.heap) (hS : va_S A s.heap H locs) (hsize : ls.size = c.maxLocals)
    (d0 : decode cc pc = .ok (.new ik, 3)) (d3 : decode cc (pc + 3) = .ok (.dup, 1)) (d4 : decode cc (pc + 4) = .ok (.ldc_w is, 3)) (d7 : decode cc (pc + 7) = .ok (.invokespecial ic, 3)) (d10 : decode cc (pc + 10) = .ok (.athrow, 1))
    (hout : ∀ x ∈ c.exceptionTable.toList, covers x (pc + 10) = false)
    (hRframes : names.length + 3 < R.frames) (hRlocals : (rest.map fun v => v.category).sum + (13 * (names.length + 1) + 43) ≤ R.locals) (hRcells : cells + 1 ≤ R.cells) (hRslots : slots + 6 ≤ R.slots) (hlocks : meth.locks = false)
    (hx : ∀ t : State, s.vm.Alike t.vm → H.size ≤ t.heap.size → (∀ q : Nat, q < H.size → t.heap[q]? = H[q]?) → XC cls s t)
    (hf : ∀ z ∈ locs, free z.base) (hc : cells + 1 ≤ mc) (hs : slots + 6 ≤ ms) :
    W p l e R s m args below meth c H locs cells slots (vx_MQ below Qc XC args s mc ms free) (F0 m pc ls rest) := by
  intro T hT X
  have htr : e.platform.stackTraces = false := (show e.platform.stackTraces = l.stackTraces by rw [X.admits.platform]).trans hl
  have Y := vx_rebase X (R' := { frames := R.frames, locals := R.locals, cells := 1, slots := 6 }) (Nat.le_refl _) (Nat.le_refl _) hRcells hRslots
  obtain ⟨s', hA⟩ : ∃ z, z = (T.setVm s.vm).setFrames (.invoking m args :: below) := ⟨_, rfl⟩
  rw [← hA] at Y
  have hvm : s'.vm = s.vm := by rw [hA]; rfl
  have hhp : s'.heap = H := by rw [hA]; exact hT
  have hW0 : s.WarmedH s'.vm := by rw [hvm]; exact State.WarmedH.refl s
  have hat' : ∀ w ∈ vx_atS own ic cls names, w.before args s' = true := fun w hw => vx_ot_at hW0 hvm.symm (hgood w (List.mem_cons_of_mem _ (List.mem_cons_of_mem _ hw))) (hat w hw)
  have hk' : (Cond.classLink own ik cls).before args s' = true := vx_ot_at hW0 hvm.symm (hgood _ List.mem_cons_self) hk
  have hini' : (Cond.initialized cls).before args s' = true := vx_ot_at hW0 hvm.symm (hgood _ (List.mem_cons_of_mem _ List.mem_cons_self)) hini
  have hU' : vx_Zq Bundle.tN "UNASSIGNED_STACK" Bundle.steD A s' s'.heap := by rw [hhp]; exact vx_Zq.moved hW0.alike (hU.kept hS.2.1)
  have hN' : vx_Zq Bundle.tN "SUPPRESSED_SENTINEL" Bundle.listD A s' s'.heap := by rw [hhp]; exact vx_Zq.moved hW0.alike (hN.kept hS.2.1)
  have h : ∀ w ∈ Bundle.ownAtoms own ic cls names, w.before args s' = true := vx_own hat' (vx_isRefq hU'.1) (vx_isRefq hN'.1) hU'.2.word hN'.2.word
  have hown' : s'.vm.findClass own = some m.cls := by rw [hvm]; exact hown
  have hins : (Cond.instantiable cls 6).before args s' = true := h _ (by simp [Bundle.ownAtoms])
  obtain ⟨vm₁, cX, kX, hfX, hkX, -, -, X₁, st1⟩ := Y.newCold hexec (own := own) (C := cls) (index := ik) (n := 6) hown' hk' hins hini'
    (g := F0 m pc ls rest) rfl (by rw [hb]; exact d0) (Nat.le_refl _) (Nat.le_refl _)
  generalize hT1 : (T.setVm vm₁).pushCell { cls := cX, slots := kX.instanceTypes.map defaultValue, vm := .none } = T1 at X₁ st1
  have hcat : (Value.ref T.heap.size).category = 1 := rfl
  have hcellA : T1.heap[T.heap.size]? = some (freshCell cX kX) := by rw [← hT1]; exact State.heap_pushCell_size _ _
  have d3' : decode c.code (pc + 3) = .ok (.dup, 1) := by rw [hb]; exact d3
  have d4' : decode c.code (pc + 4) = .ok (.ldc_w is, 3) := by rw [hb]; exact d4
  have hstr' : vk_R own is text sa s' := vk_R.warm hW0 hstr
  obtain ⟨U, hsteps, hrun, hend, hW, hsame, ce, hce, hO⟩ := X₁.ctorThrowS hexec htr (own := own) (cls := cls) (names := names) (ic := ic) hown' hcls hnames h (fun x hx => nomatch hx) hfX hkX hcellA (by rw [hhp, hT]; exact Nat.le_refl _) (msg := .ref sa) rfl
    (g := { method := m, pc := pc + 7, locals := ls, stack := .ref sa :: .ref T.heap.size :: .ref T.heap.size :: rest, locked := none }) rfl hsize rfl rfl (rest := rest) rfl
    (by rw [hb]; exact d7) (by rw [hb]; exact d10) hout hRframes (by simp only [List.map_cons, List.sum_cons, hcat]; omega) hlocks
  obtain ⟨f1, f2⟩ := vx_frame hsame
  rw [hhp] at f1 f2
  have hWs : s.WarmedH U.vm := State.WarmedH.trans hW0 hW
  have hcl : s.vm.findClass cls = some ce.cls := by
    have h9 := hO.cls
    rw [hvm] at h9
    exact h9
  have hall : s.sameButNew ({ U with vm := s.vm } : State) locs mc ms := by
    subst hA
    obtain ⟨e1, e2⟩ := hsame
    rw [State.setFrames_setFrames] at e1
    have h2 : (T.setVm s.vm).sameButNew ({ U with vm := s.vm } : State) [] (0 + 1) (0 + 6) := ⟨e1, e2⟩
    have h3 := X.same.trans h2
    rw [List.append_nil] at h3
    exact h3.mono hc hs
  refine ⟨U, ?_, .threw T.heap.size, hrun, hend, Or.inr ⟨T.heap.size, rfl, cls, ce, locs, hx U hWs.alike f1 (fun q hq => f2 q hq (fun z hz => nomatch hz)), hce, hO.vm, hcl, hWs, hall, hf⟩⟩
  refine st1 _ ?_
  show Steps p.tables e below (T1.setTop { method := m, pc := pc + 3, locals := ls, stack := .ref T.heap.size :: rest, locked := none }) _
  jvm_step X₁.here [X₁.here.top, hexec, d3', Value.category]
  exact X₁.ldcStringW hexec (own := own) (text := text) (index := is) (a := sa) hown' hstr'.1 hstr'.2
    (g := { method := m, pc := pc + 4, locals := ls, stack := .ref T.heap.size :: .ref T.heap.size :: rest, locked := none }) rfl d4' _ hsteps
end Ends
section Bodies
variable {l : Launch}
theorem vx_ofW {y : MethodName} {ws ws' : List Cond} {rm : Room} {Pc : Array Value → State → Prop} {Qc : Array Value → State → Outcome → State → Prop} {XC : String → State → State → Prop} {mc ms : Nat} {free : Addr → Prop} {cc : ByteArray} {maxL : Nat} {ret : Option FieldType}
    (hy : plainName y.cls = true) (hw : ws = Cond.code y cc maxL ret :: ws')
    (body : ∀ p e s m args below meth c s₁, BodyLoose p l y (headSpec ws rm) cc maxL ret e s m args below meth c s₁ → c.maxLocals = maxL → (∀ x ∈ c.exceptionTable.toList, False) → Pc args s →
      W p l e (headSpec ws rm).room s m args below meth c s.heap [] 0 0 (vx_MQ below Qc XC args s mc ms free) (entryFrame m args maxL)) : vx_Met l y ws rm Pc Qc XC mc ms free := by
  refine MetFree.of_bodyS (code := cc) (maxLocals := maxL) (ret := ret) hy ?_ ?_
  · intro args s m h hn
    obtain ⟨meth, c, h1, h2, h3, h4, h5, h6, -, -⟩ := Cond.code_spec hn (atoms_spec (ws := ws) h _ (by rw [hw]; exact List.mem_cons_self))
    exact ⟨meth, c, h1, h2, h3, h4, h5, h6⟩
  · intro p e s m args below meth c s₁ B hml hP _
    have hh0 : s₁.heap = s.heap := by rw [B.state]; rfl
    have ht : ∀ x ∈ c.exceptionTable.toList, False := by
      obtain ⟨meth9, c9, h1, h2, -, -, -, -, h7, -⟩ := Cond.code_spec B.named (atoms_spec (ws := ws) B.pre _ (by rw [hw]; exact List.mem_cons_self))
      cases Option.some.inj (h1.symm.trans B.method)
      cases Option.some.inj (h2.symm.trans (Stand.of_body B).code)
      intro x hx
      rw [Array.isEmpty_iff.mp h7] at hx
      cases hx
    obtain ⟨t, a1, o, b1, b2, b3⟩ := body p e s m args below meth c s₁ B hml ht hP s₁ hh0 (Stand.of_body B)
    exact ⟨t, o, a1, b1, b2, b3⟩
/-- the table of a body with handlers -/
theorem vx_table {p : Program} {x y : MethodName} {S : Spec} {cc bytes : ByteArray} {maxL maxL' : Nat} {ret ret' : Option FieldType} {e : Env} {s s₁ : State} {m : MethodId} {args : Array Value} {below : List Frame} {meth : Method} {c : Code} {hh : List (Nat × Nat × Nat × Nat)}
    (B : BodyLoose p l y S cc maxL ret e s m args below meth c s₁) (h : (Cond.codeWith y bytes maxL' ret' hh).before args s = true) : c.exceptionTable.toList = tableOf hh := by
  obtain ⟨m9, meth9, c9, hn9, h1, h2, -, -, h6, -⟩ := Cond.codeWith_spec h
  cases Option.some.inj (hn9.symm.trans B.named)
  cases Option.some.inj (h1.symm.trans B.method)
  cases Option.some.inj (h2.symm.trans (Stand.of_body B).code)
  rw [← h6, table_eq]
end Bodies
end VXA
/-! ===== END ===== -/
/-! ===== BEGIN a static call of a method with an exception table ===== -/
section VXS
variable {p : Program} {l : Launch} {e : Env} {R : Room} {s : State} {m : MethodId} {args : Array Value} {below : List Frame} {meth : Method} {c : Code} {T : State} {H : Heap} {locs : List Loc} {cells slots : Nat}
abbrev vx_CSW (R : Room) (s : State) (args : Array Value) (own : String) (index : Nat) (y : MethodName) (bytes : ByteArray) (maxL : Nat) (ret : Option FieldType) (hh : List (Nat × Nat × Nat × Nat)) (ws : List Cond) (rm : Room) (mc ms n : Nat) : Prop :=
  (rm.cells = mc ∧ rm.slots = ms ∧ rm.frames + 1 ≤ R.frames ∧ 8 + (maxL + 11) + rm.locals ≤ R.locals ∧ (∀ w ∈ ws, ∀ (a' : Array Value) (U : State), s.WarmedH U.vm → w.before a' U = true) ∧ Cond.codeWith y bytes maxL ret hh ∈ ws) ∧
  (Cond.codeWith y bytes maxL ret hh).before args s = true ∧ (Cond.initialized y.cls).before args s = true ∧ (y.cls ≠ "java/lang/invoke/MethodHandle" ∧ y.cls ≠ "java/lang/invoke/VarHandle") ∧
  (∀ sig, parseMethodDescriptor y.desc = some sig → n = sig.parameters.length) ∧ (Cond.methodLink own index y).before args s = true ∧ (Cond.static y).before args s = true
theorem vx_cwSW {own : String} {index maxL mc ms : Nat} {y : MethodName} {bytes : ByteArray} {ret : Option FieldType} {hh : List (Nat × Nat × Nat × Nat)} {Ts ws ws' : List Cond} {rm : Room} (n : Nat) (ht : ∀ w ∈ Ts, w.before args s = true) (hT : GoodIn Ts (va_wsS own index y ws)) (hw : ws = Cond.codeWith y bytes maxL ret hh :: ws') (hrc : rm.cells = mc) (hrs : rm.slots = ms)
    (hd : y.cls ≠ "java/lang/invoke/MethodHandle" ∧ y.cls ≠ "java/lang/invoke/VarHandle" ∧ (parseMethodDescriptor y.desc).map (fun d => d.parameters.length) = some n) (hR : rm.frames + 1 ≤ R.frames ∧ 8 + (maxL + 11) + rm.locals ≤ R.locals) :
    vx_CSW R s args own index y bytes maxL ret hh ws rm mc ms n := by
  have ok : ∀ w ∈ va_wsS own index y ws, w.before args s = true := fun w h => ht w (hT w h).1
  have hG : GoodIn Ts ws := fun w h => hT w (by unfold va_wsS; exact List.mem_append_right _ h)
  have hc : Cond.codeWith y bytes maxL ret hh ∈ ws := by rw [hw]; exact List.mem_cons_self
  refine ⟨⟨hrc, hrs, hR.1, hR.2, pay_in ht hG, hc⟩, ht _ (hG _ hc).1, ok _ (by simp [va_wsS]), ⟨hd.1, hd.2.1⟩, fun sig h => ?_, ok _ (by simp [va_wsS]), ok _ (by simp [va_wsS])⟩
  have h2 := hd.2.2
  rw [h] at h2
  exact (Option.some.inj h2).symm
theorem vx_callSW (X : Stand p l e R s m args below meth c T locs cells slots) (hexec : p.tables.exec = Jvm.exec) {own : String} {index : Nat} {y : MethodName} {bytes : ByteArray} {maxL : Nat} {ret : Option FieldType} {hh : List (Nat × Nat × Nat × Nat)}
    (hown : s.vm.findClass own = some m.cls) (hlink : (Cond.methodLink own index y).before args s = true) (hstat : (Cond.static y).before args s = true) (hinit : (Cond.initialized y.cls).before args s = true)
    (hcode : (Cond.codeWith y bytes maxL ret hh).before args s = true) (hy : y.cls ≠ "java/lang/invoke/MethodHandle" ∧ y.cls ≠ "java/lang/invoke/VarHandle")
    {W9 : Nat} {Pre : Pt → Array Value → Prop} {Post : Pt → Array Value → Option Value → Pt → Prop} (hK : Back l R p e below s args y 3 W9 Pre Post)
    {g : JFrame} (hg : g.method = m) (hsize : g.locals.size = c.maxLocals) {argsL rest : List Value} (hlen : ∀ sig, parseMethodDescriptor y.desc = some sig → argsL.length = sig.parameters.length)
    (hstack : g.stack = argsL.reverse ++ rest) (hW : 2 * g.monitorRoom + (rest.map fun v => v.category).sum ≤ W9) (hdg : decode c.code g.pc = .ok (.invokestatic index, 3))
    (hpre : ∀ vm₁, s.WarmedH vm₁ → Pre ⟨T.setVm vm₁, locs, cells, slots⟩ argsL.toArray) :
    ∃ (v : Option Value) (vm₁ : Vm) (B : Pt), s.WarmedH vm₁ ∧ Stand p l e R s m args below meth c B.U B.locs B.cells B.slots ∧ Post ⟨T.setVm vm₁, locs, cells, slots⟩ argsL.toArray v B ∧
      ∀ target, Steps p.tables e below (B.U.setTop { g with pc := g.pc + 3, stack := v.toList ++ rest }) target → Steps p.tables e below (T.setTop g) target := by
  obtain ⟨mk, methM, cM, hnamed, hmethM, -, -, -, -, -, -, hsigM⟩ := Cond.codeWith_spec hcode
  have hstatic : methM.isStatic = true := Cond.static_spec hnamed hmethM hstat
  obtain ⟨kP, hkP, -⟩ := className_of_methodNamed hnamed
  have hinitP : kP.init = .initialized := Cond.initialized_spec (findClass_of_methodNamed hnamed) hkP hinit
  obtain ⟨vm₁, X₁, hstep₁⟩ := X.invokestatic hexec hown hlink hnamed hmethM hstatic hkP hinitP hy (g := g) hg (argsL := argsL) (rest := rest) (hlen _ hsigM) hstack hdg
  obtain ⟨v, B, X', hpost, hsteps⟩ := hK m meth c ⟨T.setVm vm₁, locs, cells, slots⟩ { g with stack := rest } (.invokestatic index) mk argsL.toArray X₁ hg hsize hdg hW (X₁.named hnamed) (hpre vm₁ X₁.warmed)
  exact ⟨v, vm₁, B, X₁.warmed, X', hpost, fun target h => hstep₁ _ fun acts => by rw [doInvoke_state]; exact hsteps.trans h⟩
theorem vx_runSW {y : MethodName} {bytes cc : ByteArray} {maxL nL mc ms n index : Nat} {ret : Option FieldType} {hh : List (Nat × Nat × Nat × Nat)} {ws : List Cond} {rm : Room} {Pc : Array Value → State → Prop} {Qc : Array Value → State → Outcome → State → Prop} {free : Addr → Prop} {Ts : List Cond} {own : String} {As rest : List Value} {g : JFrame}
    (S : CallFix p m c cc nL s args Ts own) (hM : Met l y ws rm Pc Qc mc ms free) (cw : vx_CSW R s args own index y bytes maxL ret hh ws rm mc ms n) (hp : PreS s H Pc As)
    (hg : g.method = m) (hn : As.length = n) (hsize : g.locals.size = nL) (hstack : g.stack = As.reverse ++ rest) (hW : 2 * g.monitorRoom + (rest.map fun v => v.category).sum ≤ 8) (hdg : decode cc g.pc = .ok (.invokestatic index, 3)) (hf : cells + mc ≤ R.cells ∧ slots + ms ≤ R.slots) :
    va_Run p l e R s m args below meth c H locs cells slots mc ms g rest (Qc As.toArray) (free) := by
  obtain ⟨⟨hrc, hrs, hfr, hlo, hws, hcw⟩, hcode, hini, hy, hlen, hl, hstt⟩ := cw
  have hK : Back l R p e below s args y 3 8 (PreOf R mc ms Pc) (PostOf Qc mc ms free) := va_backW (hh := hh) (bytes := bytes) (maxL := maxL) (ret := ret) hM hp.1 hrc hrs hfr hlo hws hcw (fun a' U hW => word_at hW (Or.inl (by first | rfl | simp [Cond.onTables, Cond.keeps, Cond.steady])) hini)
  obtain ⟨hx, hb, hml, ho, -⟩ := S
  intro T hT X
  obtain ⟨v, vm₁, ⟨U', l2, c2, s2⟩, hW₁, X', ⟨g', mk, t, L, e1, e2, hq, h1, hL, h2, h3⟩, st⟩ := vx_callSW X hx (hh := hh) (bytes := bytes) (maxL := maxL) (ret := ret) ho hl hstt hini hcode hy hK hg (hsize.trans hml.symm) (argsL := As) (rest := rest) (fun sig h => hn.trans (hlen sig h)) hstack hW (by rw [hb]; exact hdg)
    (fun vm₁ hW₁ => ⟨hf.1, hf.2, hp.2 (T.setVm vm₁) hT hW₁⟩)
  dsimp only [Pt.U, Pt.locs, Pt.cells, Pt.slots] at X' e1 e2 h1 h2 h3 st
  subst h1; subst h2; subst h3
  exact ⟨v, (T.setVm vm₁).calling g' mk As.toArray, t, U', L, hT, X', hL, e1, e2, hq, st⟩
/-- not caught here, past rows that name other classes: it goes on to the caller -/
theorem vx_outP {p : Program} {l : Launch} {e : Env} {R : Room} {s : State} {m : MethodId} {args : Array Value} {below : List Frame} {meth : Method} {c : Code} {H : Heap} {locs : List Loc} {cells slots : Nat} {free : Addr → Prop} {ls : Array Slot} {rest : List Value} {Qc : Array Value → State → Outcome → State → Prop} {XC : String → State → State → Prop}
    {pc : Nat} {own E : String} {ce : Cell} {q : Addr} {mc ms : Nat} (hown : s.vm.findClass own = some m.cls) (hlocks : meth.locks = false)
    (hpass : ∀ z ∈ c.exceptionTable.toList, covers z pc = false ∨ (z.catchType ≠ 0 ∧ ∃ nm : String, (Cond.classLink own z.catchType nm).before args s = true ∧ va_Nc E nm s)) (hcell : H[q]? = some ce) (hv : ce.vm = .none) (hcl : s.vm.findClass E = some ce.cls)
    (hx : ∀ t : State, t.heap = H → s.vm.Alike t.vm → XC E s t) (hf : ∀ z ∈ locs, free z.base) (hc : cells ≤ mc) (hs : slots ≤ ms) :
    vx_W p l e R s m args below meth c H locs cells slots (vx_MQ below Qc XC args s mc ms free) (F0 m pc ls rest) q := by
  intro T hT X
  have hpl : e.platform.magicAccessors = ({} : Platform).magicAccessors := by rw [X.admits.platform]
  obtain ⟨vm', hW', X', st⟩ := X.outThrough hlocks q (g := F0 m pc ls rest) rfl rfl rfl (cell := ce) (by rw [hT]; exact hcell) (by rw [hv]; rfl)
    (by obtain ⟨k9, h9, -⟩ := Vm.findClass_spec hcl; exact ⟨k9, h9⟩) (fun z hz => by
      rcases hpass z hz with h | ⟨hz0, nm, hl1, hn1⟩
      · exact Or.inl h
      · obtain ⟨c6, hc6, hcl6⟩ := Cond.classLink_spec hown hl1 e.platform hpl
        obtain ⟨a8, b8, h1, h2, h3⟩ := hn1
        cases Option.some.inj (h1.symm.trans hcl)
        cases Option.some.inj (h2.symm.trans hc6)
        exact Or.inr ⟨hz0, _, hcl6, h3⟩)
  obtain ⟨g₀, hfr⟩ := X'.frames_eq
  have hcell9 : ((T.setVm vm').setFrames (.throwing q :: below)).heap[q]? = some ce := by
    show T.heap[q]? = some ce
    rw [hT]; exact hcell
  have hend : Ended ((T.setVm vm').setFrames (.throwing q :: below)) below (.threw q) := State.frames_setFrames _ (State.cur_lt_of_frames hfr)
  refine ⟨(T.setVm vm').setFrames (.throwing q :: below), ?_, .threw q, X'.here.running, hend, Or.inr ⟨q, rfl, E, ce, locs, hx _ hT (X'.ends _).1.alike, hcell9, hv, hcl, (X'.ends _).1, (X'.ends _).2.mono hc hs, hf⟩⟩
  rw [X.pushThrowing_eq]
  exact st
/-- a thing of a world lies in the heap -/
theorem vx_lt {D : va_G} {cl : List vw_C} {ws : va_W} {H1 : Heap} (h : va_P D cl ws H1) {k : Nat} {q : Nat × va_E} (hk : ws[k]? = some q) : q.1 < H1.size := (h k q hk).lt
end VXS
/-! ===== END ===== -/
/-! ===== BEGIN methods with a table of their own: called by a name, returning or throwing ===== -/
section VXH
/-! vx_backW, vx_callVX, vx_callSX, vx_callVW, vx_runVW, vx_runVX, vx_runSX, vx_ofWH follow the same proofs as their sisters above (Free/Laws.lean, Shelf42/LK1.lean); vx_outP calls Shelf42/NT130.lean (outThrough). -/
section
variable {l : Launch} {R : Room} {p : Program} {e : Env} {below : List Frame} {s : State} {sargs : Array Value} {y : MethodName} {len W9 : Nat}
theorem vx_backW {ws : List Cond} {rm : Room} {Pc : Array Value → State → Prop} {Qc : Array Value → State → Outcome → State → Prop} {XC : String → State → State → Prop} {mc ms : Nat} {free : Addr → Prop} {bytes : ByteArray} {maxL : Nat} {ret : Option FieldType} {hh : List (Nat × Nat × Nat × Nat)}
    (hM : vx_Met l y ws rm Pc Qc XC mc ms free) (hblind : FrameBlind Pc) (hrc : rm.cells = mc) (hrs : rm.slots = ms)
    (hframes : rm.frames + 1 ≤ R.frames) (hlocals : W9 + (maxL + 11) + rm.locals ≤ R.locals)
    (hws : ∀ w ∈ ws, ∀ a' U, s.WarmedH U.vm → w.before a' U = true) (hcode : Cond.codeWith y bytes maxL ret hh ∈ ws) (hinit : ∀ a' U, s.WarmedH U.vm → (Cond.initialized y.cls).before a' U = true) :
    vx_Back l R p e below s sargs y len W9 (PreOf R mc ms Pc) (PostOf Qc mc ms free) (vx_Post XC mc ms free) := by
  intro m meth c A g ig mk a X hg hsize hdg hW hn hp
  have h1 : (headSpec ws rm).pre.before a A.U = true := atoms_intro fun w hw => hws w hw _ _ X.warmed
  have h2 : (Cond.codeWith y bytes maxL ret hh).before a A.U = true := hws _ hcode _ _ X.warmed
  have h3 : (Cond.initialized y.cls).before a A.U = true := hinit _ _ X.warmed
  have h4 : A.cells + (headSpec ws rm).room.cells ≤ R.cells := by rw [show (headSpec ws rm).room.cells = mc from hrc]; exact hp.1
  have h5 : A.slots + (headSpec ws rm).room.slots ≤ R.slots := by rw [show (headSpec ws rm).room.slots = ms from hrs]; exact hp.2.1
  have hPc : Pc a (A.U.calling g mk a) := hblind _ _ _ _ hp.2.2
  obtain ⟨U, Ls, c0, s0⟩ := A
  dsimp only [Pt.U, Pt.locs, Pt.cells, Pt.slots] at h1 h2 h3 h4 h5 X hn hPc ⊢
  obtain ⟨m9, methY, cY, hn9, hmY, hcY, -, hlY, -⟩ := Cond.codeWith_spec h2
  cases Option.some.inj (hn9.symm.trans hn)
  obtain ⟨kY, hkY, -⟩ := className_of_methodNamed hn
  have hinitY : kY.init = .initialized := Cond.initialized_spec (findClass_of_methodNamed hn) hkY h3
  have h : At U g.method c below := by rw [hg]; exact X.here
  have hlocals9 : W9 + (maxL + 11) + (headSpec ws rm).room.locals ≤ R.locals := hlocals
  have happ : (headSpec ws rm).appliesLoose y e.platform (U.calling g mk a) = true :=
    Spec.appliesLoose_calling (g := g) h hdg hn hkY hinitY
      (X.room_calling (g := g) (R' := (headSpec ws rm).room) hsize hmY hcY hframes (by rw [hlY]; omega) h4 h5) h1
  obtain ⟨mid, hmid⟩ := h.above
  have hfr : (U.setTop g).frames = (.java g :: mid) ++ below := by rw [State.frames_setTop' g h.top, hmid]; rfl
  obtain ⟨o, s₂, hsteps, -, hend, hq⟩ := Steps.callFree hM p X.admits X.cas X.clock (acts := []) hfr happ hPc trivial
  have hq' : vx_Q Qc XC mc ms free a (U.calling g mk a) o s₂ := hq
  rw [State.frames_setTop' g h.top] at hend
  obtain ⟨g₀, hg0⟩ := Option.isSome_iff_exists.mp h.top
  obtain ⟨r, hr⟩ := State.topJava?_eq_some.mp hg0
  have hr' : (({ U with heap := s₂.heap, slotsUsed := s₂.slotsUsed } : State).setVm s₂.vm).frames = .java g₀ :: r := hr
  rcases hq' with ⟨hqc, L, hfe, hL⟩ | ⟨q, rfl, E, ce, L, hx, hce, hcv, hcl, hW₂, hsm, hL⟩
  · obtain ⟨⟨v, rfl⟩, hW₂, e2, q2, q3, q4, q5, q6⟩ := id hfe
    have e3 : s₂ = ({ (U.calling g mk a).setFrames s₂.frames with heap := s₂.heap, slotsUsed := s₂.slotsUsed } : State).setVm s₂.vm := by
      have : s₂ = ({ s₂ with vm := (U.calling g mk a).vm } : State).setVm s₂.vm := rfl
      rw [e2] at this
      exact this
    obtain ⟨c₂, i₂, len₂, hc₂, hd₂, hf₂⟩ := hend
    have hW' : U.WarmedH s₂.vm := hW₂
    have hcc : c₂ = c := by
      have h1 : s₂.code? g.method = U.code? g.method := by
        rw [State.code?_eq, State.code?_eq, hW'.alike.method?]
      exact Option.some.inj (hc₂.symm.trans (h1.trans h.code))
    subst hcc
    have hlen : len₂ = len := by rw [hdg] at hd₂; cases hd₂; rfl
    subst hlen
    have hs₂ : s₂ = (({ U with heap := s₂.heap, slotsUsed := s₂.slotsUsed } : State).setVm s₂.vm).setTop { g with pc := g.pc + len₂, stack := v.toList ++ g.stack } := by
      refine e3.trans ?_
      rw [hf₂, State.calling_eq h.top, State.setFrames_setFrames, State.setTop_of_frames _ hr', hr]
      rfl
    have hsame : U.sameButNew ({ U with heap := s₂.heap, slotsUsed := s₂.slotsUsed } : State) L mc ms := by
      refine ⟨?_, q2, q3, q4, q5, q6⟩
      obtain ⟨t, ht, -⟩ := State.frames_cons hr
      show ({ U with heap := s₂.heap, slotsUsed := s₂.slotsUsed } : State) = { U.setFrames U.frames with heap := s₂.heap, slotsUsed := s₂.slotsUsed }
      rw [State.setFrames_self ht]
    subst hg
    refine Or.inl ⟨v, ⟨(({ U with heap := s₂.heap, slotsUsed := s₂.slotsUsed } : State).setVm s₂.vm), Ls ++ L, c0 + mc, s0 + ms⟩,
      ⟨X.admits, X.cas, X.clock, X.frames, X.room, X.hears, X.method, X.code, (X.here.setHeapUsed s₂.heap s₂.slotsUsed).setVm hW'.alike, X.tail, State.WarmedH.trans X.warmed hW', X.limits, X.bytes, X.same.trans (hsame.setVm s.vm)⟩,
      ⟨g, mk, s₂, L, rfl, rfl, hqc, rfl, hL, rfl, rfl⟩, ?_⟩
    show Steps p.tables e below _ ((({ U with heap := s₂.heap, slotsUsed := s₂.slotsUsed } : State).setVm s₂.vm).setTop { g with pc := g.pc + len₂, stack := v.toList ++ g.stack })
    rw [← hs₂]
    exact hsteps
  · obtain ⟨e2, q2, q3, q4, q5, q6⟩ := id hsm
    have e3 : s₂ = ({ (U.calling g mk a).setFrames s₂.frames with heap := s₂.heap, slotsUsed := s₂.slotsUsed } : State).setVm s₂.vm := by
      have : s₂ = ({ s₂ with vm := (U.calling g mk a).vm } : State).setVm s₂.vm := rfl
      rw [e2] at this
      exact this
    have hf₂ : s₂.frames = .throwing q :: .java g :: U.frames.tail := hend
    have hW' : U.WarmedH s₂.vm := hW₂
    have hs₂ : s₂ = ((({ U with heap := s₂.heap, slotsUsed := s₂.slotsUsed } : State).setVm s₂.vm).setTop g).pushFrame (.throwing q) := by
      refine e3.trans ?_
      rw [hf₂, State.calling_eq h.top, State.setFrames_setFrames, State.pushFrame, State.frames_setTop _ hr', State.setTop_of_frames _ hr', State.setFrames_setFrames, hr]
      rfl
    have hsame : U.sameButNew ({ U with heap := s₂.heap, slotsUsed := s₂.slotsUsed } : State) L mc ms := by
      refine ⟨?_, q2, q3, q4, q5, q6⟩
      obtain ⟨t, ht, -⟩ := State.frames_cons hr
      show ({ U with heap := s₂.heap, slotsUsed := s₂.slotsUsed } : State) = { U.setFrames U.frames with heap := s₂.heap, slotsUsed := s₂.slotsUsed }
      rw [State.setFrames_self ht]
    subst hg
    refine Or.inr ⟨q, ⟨(({ U with heap := s₂.heap, slotsUsed := s₂.slotsUsed } : State).setVm s₂.vm), Ls ++ L, c0 + mc, s0 + ms⟩,
      ⟨X.admits, X.cas, X.clock, X.frames, X.room, X.hears, X.method, X.code, (X.here.setHeapUsed s₂.heap s₂.slotsUsed).setVm hW'.alike, X.tail, State.WarmedH.trans X.warmed hW', X.limits, X.bytes, X.same.trans (hsame.setVm s.vm)⟩,
      ⟨g, mk, s₂, L, E, ce, rfl, rfl, hx, hce, hcv, hcl, rfl, hL, rfl, rfl⟩, ?_⟩
    show Steps p.tables e below _ (((({ U with heap := s₂.heap, slotsUsed := s₂.slotsUsed } : State).setVm s₂.vm).setTop g).pushFrame (.throwing q))
    rw [← hs₂]
    exact hsteps
end
variable {p : Program} {l : Launch} {e : Env} {R : Room} {s : State} {m : MethodId} {args : Array Value} {below : List Frame} {meth : Method} {c : Code} {T : State} {H : Heap} {locs : List Loc} {cells slots : Nat}
theorem vx_callVX (X : Stand p l e R s m args below meth c T locs cells slots) (hexec : p.tables.exec = Jvm.exec) {own C : String} {index : Nat} {y : MethodName} {bytes : ByteArray} {maxL : Nat} {ret : Option FieldType} {hh : List (Nat × Nat × Nat × Nat)}
    (hown : s.vm.findClass own = some m.cls) (hlink : (Cond.methodLink own index y).before args s = true) (hinst : (Cond.instanceMethod y).before args s = true) (hsel : (Cond.selects C y y).before args s = true)
    (hcode : (Cond.codeWith y bytes maxL ret hh).before args s = true) (hy : y.cls ≠ "java/lang/invoke/MethodHandle" ∧ y.cls ≠ "java/lang/invoke/VarHandle")
    {W9 : Nat} {Pre : Pt → Array Value → Prop} {Post : Pt → Array Value → Option Value → Pt → Prop} {PostX : Pt → Array Value → Addr → Pt → Prop} (hK : vx_Back l R p e below s args y 3 W9 Pre Post PostX)
    {b : Addr} {cellB : Cell} (hcell : T.heap[b]? = some cellB) (hobj : cellB.vm.isStatics = false) (hcls : s.vm.findClass C = some cellB.cls)
    {g : JFrame} (hg : g.method = m) (hsize : g.locals.size = c.maxLocals) {argsL rest : List Value} (hlen : ∀ sig, parseMethodDescriptor y.desc = some sig → argsL.length = sig.parameters.length)
    (hstack : g.stack = argsL.reverse ++ .ref b :: rest) (hW : 2 * g.monitorRoom + (rest.map fun v => v.category).sum ≤ W9) (hdg : decode c.code g.pc = .ok (.invokevirtual index, 3))
    (hpre : ∀ vm₁, s.WarmedH vm₁ → Pre ⟨T.setVm vm₁, locs, cells, slots⟩ (Value.ref b :: argsL).toArray) :
    (∃ (v : Option Value) (vm₁ : Vm) (B : Pt), s.WarmedH vm₁ ∧ Stand p l e R s m args below meth c B.U B.locs B.cells B.slots ∧ Post ⟨T.setVm vm₁, locs, cells, slots⟩ (Value.ref b :: argsL).toArray v B ∧
      ∀ target, Steps p.tables e below (B.U.setTop { g with pc := g.pc + 3, stack := v.toList ++ rest }) target → Steps p.tables e below (T.setTop g) target) ∨
    (∃ (q : Addr) (vm₁ : Vm) (B : Pt), s.WarmedH vm₁ ∧ Stand p l e R s m args below meth c B.U B.locs B.cells B.slots ∧ PostX ⟨T.setVm vm₁, locs, cells, slots⟩ (Value.ref b :: argsL).toArray q B ∧
      Steps p.tables e below (T.setTop g) ((B.U.setTop { g with stack := rest }).pushFrame (.throwing q))) := by
  obtain ⟨mk, methM, hnamed, hmethM, hstM, habM⟩ := Cond.instanceMethod_spec hinst
  obtain ⟨m8, methM', cM, hn8, hmethM', -, -, -, -, -, -, hsigM⟩ := Cond.codeWith_spec hcode
  cases Option.some.inj (hn8.symm.trans hnamed)
  cases hmethM.symm.trans hmethM'
  obtain ⟨c2, r2, m2, q1, q2, q3, q4, kP, hkP, hkPi⟩ := Cond.selects_spec hsel
  cases hcls.symm.trans q1
  cases (State.methodFound?_of_named hnamed hy).symm.trans q2
  cases hnamed.symm.trans q3
  have hselP : selectMethod e.platform s.vm cellB.cls mk = .method mk := by rw [Launch.admits_selectMethod X.admits]; exact q4
  obtain ⟨vm₁, X₁, hstep₁⟩ := X.invokevirtual hexec hown hlink hnamed hmethM hstM hkP hkPi hy (a := b) (cell := cellB) hcell
    (fun z h => by rw [h] at hobj; cases hobj) hselP hmethM habM hkP hkPi (g := g) hg (argsL := argsL) (rest := rest) (hlen _ hsigM) hstack hdg
  rcases hK m meth c ⟨T.setVm vm₁, locs, cells, slots⟩ { g with stack := rest } (.invokevirtual index) mk (Value.ref b :: argsL).toArray X₁ hg hsize hdg hW (X₁.named hnamed) (hpre vm₁ X₁.warmed) with ⟨v, B, X', hpost, hsteps⟩ | ⟨q, B, X', hpost, hsteps⟩
  · exact Or.inl ⟨v, vm₁, B, X₁.warmed, X', hpost, fun target h => hstep₁ _ fun acts => by rw [doInvoke_state]; exact hsteps.trans h⟩
  · exact Or.inr ⟨q, vm₁, B, X₁.warmed, X', hpost, hstep₁ _ fun acts => by rw [doInvoke_state]; exact hsteps⟩
theorem vx_callSX (X : Stand p l e R s m args below meth c T locs cells slots) (hexec : p.tables.exec = Jvm.exec) {own : String} {index : Nat} {y : MethodName} {bytes : ByteArray} {maxL : Nat} {ret : Option FieldType} {hh : List (Nat × Nat × Nat × Nat)}
    (hown : s.vm.findClass own = some m.cls) (hlink : (Cond.methodLink own index y).before args s = true) (hstat : (Cond.static y).before args s = true) (hinit : (Cond.initialized y.cls).before args s = true)
    (hcode : (Cond.codeWith y bytes maxL ret hh).before args s = true) (hy : y.cls ≠ "java/lang/invoke/MethodHandle" ∧ y.cls ≠ "java/lang/invoke/VarHandle")
    {W9 : Nat} {Pre : Pt → Array Value → Prop} {Post : Pt → Array Value → Option Value → Pt → Prop} {PostX : Pt → Array Value → Addr → Pt → Prop} (hK : vx_Back l R p e below s args y 3 W9 Pre Post PostX)
    {g : JFrame} (hg : g.method = m) (hsize : g.locals.size = c.maxLocals) {argsL rest : List Value} (hlen : ∀ sig, parseMethodDescriptor y.desc = some sig → argsL.length = sig.parameters.length)
    (hstack : g.stack = argsL.reverse ++ rest) (hW : 2 * g.monitorRoom + (rest.map fun v => v.category).sum ≤ W9) (hdg : decode c.code g.pc = .ok (.invokestatic index, 3))
    (hpre : ∀ vm₁, s.WarmedH vm₁ → Pre ⟨T.setVm vm₁, locs, cells, slots⟩ argsL.toArray) :
    (∃ (v : Option Value) (vm₁ : Vm) (B : Pt), s.WarmedH vm₁ ∧ Stand p l e R s m args below meth c B.U B.locs B.cells B.slots ∧ Post ⟨T.setVm vm₁, locs, cells, slots⟩ argsL.toArray v B ∧
      ∀ target, Steps p.tables e below (B.U.setTop { g with pc := g.pc + 3, stack := v.toList ++ rest }) target → Steps p.tables e below (T.setTop g) target) ∨
    (∃ (q : Addr) (vm₁ : Vm) (B : Pt), s.WarmedH vm₁ ∧ Stand p l e R s m args below meth c B.U B.locs B.cells B.slots ∧ PostX ⟨T.setVm vm₁, locs, cells, slots⟩ argsL.toArray q B ∧
      Steps p.tables e below (T.setTop g) ((B.U.setTop { g with stack := rest }).pushFrame (.throwing q))) := by
  obtain ⟨mk, methM, cM, hnamed, hmethM, -, -, -, -, -, -, hsigM⟩ := Cond.codeWith_spec hcode
  have hstatic : methM.isStatic = true := Cond.static_spec hnamed hmethM hstat
  obtain ⟨kP, hkP, -⟩ := className_of_methodNamed hnamed
  have hinitP : kP.init = .initialized := Cond.initialized_spec (findClass_of_methodNamed hnamed) hkP hinit
  obtain ⟨vm₁, X₁, hstep₁⟩ := X.invokestatic hexec hown hlink hnamed hmethM hstatic hkP hinitP hy (g := g) hg (argsL := argsL) (rest := rest) (hlen _ hsigM) hstack hdg
  rcases hK m meth c ⟨T.setVm vm₁, locs, cells, slots⟩ { g with stack := rest } (.invokestatic index) mk argsL.toArray X₁ hg hsize hdg hW (X₁.named hnamed) (hpre vm₁ X₁.warmed) with ⟨v, B, X', hpost, hsteps⟩ | ⟨q, B, X', hpost, hsteps⟩
  · exact Or.inl ⟨v, vm₁, B, X₁.warmed, X', hpost, fun target h => hstep₁ _ fun acts => by rw [doInvoke_state]; exact hsteps.trans h⟩
  · exact Or.inr ⟨q, vm₁, B, X₁.warmed, X', hpost, hstep₁ _ fun acts => by rw [doInvoke_state]; exact hsteps⟩
theorem vx_callVW (X : Stand p l e R s m args below meth c T locs cells slots) (hexec : p.tables.exec = Jvm.exec) {own C : String} {index : Nat} {y : MethodName} {bytes : ByteArray} {maxL : Nat} {ret : Option FieldType} {hh : List (Nat × Nat × Nat × Nat)}
    (hown : s.vm.findClass own = some m.cls) (hlink : (Cond.methodLink own index y).before args s = true) (hinst : (Cond.instanceMethod y).before args s = true) (hsel : (Cond.selects C y y).before args s = true)
    (hcode : (Cond.codeWith y bytes maxL ret hh).before args s = true) (hy : y.cls ≠ "java/lang/invoke/MethodHandle" ∧ y.cls ≠ "java/lang/invoke/VarHandle")
    {W9 : Nat} {Pre : Pt → Array Value → Prop} {Post : Pt → Array Value → Option Value → Pt → Prop} (hK : Back l R p e below s args y 3 W9 Pre Post)
    {b : Addr} {cellB : Cell} (hcell : T.heap[b]? = some cellB) (hobj : cellB.vm.isStatics = false) (hcls : s.vm.findClass C = some cellB.cls)
    {g : JFrame} (hg : g.method = m) (hsize : g.locals.size = c.maxLocals) {argsL rest : List Value} (hlen : ∀ sig, parseMethodDescriptor y.desc = some sig → argsL.length = sig.parameters.length)
    (hstack : g.stack = argsL.reverse ++ .ref b :: rest) (hW : 2 * g.monitorRoom + (rest.map fun v => v.category).sum ≤ W9) (hdg : decode c.code g.pc = .ok (.invokevirtual index, 3))
    (hpre : ∀ vm₁, s.WarmedH vm₁ → Pre ⟨T.setVm vm₁, locs, cells, slots⟩ (Value.ref b :: argsL).toArray) :
    ∃ (v : Option Value) (vm₁ : Vm) (B : Pt), s.WarmedH vm₁ ∧ Stand p l e R s m args below meth c B.U B.locs B.cells B.slots ∧ Post ⟨T.setVm vm₁, locs, cells, slots⟩ (Value.ref b :: argsL).toArray v B ∧
      ∀ target, Steps p.tables e below (B.U.setTop { g with pc := g.pc + 3, stack := v.toList ++ rest }) target → Steps p.tables e below (T.setTop g) target := by
  obtain ⟨mk, methM, hnamed, hmethM, hstM, habM⟩ := Cond.instanceMethod_spec hinst
  obtain ⟨m8, methM', cM, hn8, hmethM', -, -, -, -, -, -, hsigM⟩ := Cond.codeWith_spec hcode
  cases Option.some.inj (hn8.symm.trans hnamed)
  cases hmethM.symm.trans hmethM'
  obtain ⟨c2, r2, m2, q1, q2, q3, q4, kP, hkP, hkPi⟩ := Cond.selects_spec hsel
  cases hcls.symm.trans q1
  cases (State.methodFound?_of_named hnamed hy).symm.trans q2
  cases hnamed.symm.trans q3
  have hselP : selectMethod e.platform s.vm cellB.cls mk = .method mk := by rw [Launch.admits_selectMethod X.admits]; exact q4
  obtain ⟨vm₁, X₁, hstep₁⟩ := X.invokevirtual hexec hown hlink hnamed hmethM hstM hkP hkPi hy (a := b) (cell := cellB) hcell
    (fun z h => by rw [h] at hobj; cases hobj) hselP hmethM habM hkP hkPi (g := g) hg (argsL := argsL) (rest := rest) (hlen _ hsigM) hstack hdg
  obtain ⟨v, B, X', hpost, hsteps⟩ := hK m meth c ⟨T.setVm vm₁, locs, cells, slots⟩ { g with stack := rest } (.invokevirtual index) mk (Value.ref b :: argsL).toArray X₁ hg hsize hdg hW (X₁.named hnamed) (hpre vm₁ X₁.warmed)
  exact ⟨v, vm₁, B, X₁.warmed, X', hpost, fun target h => hstep₁ _ fun acts => by rw [doInvoke_state]; exact hsteps.trans h⟩
abbrev vx_CVW (R : Room) (s : State) (args : Array Value) (own C : String) (index : Nat) (y : MethodName) (bytes : ByteArray) (maxL : Nat) (ret : Option FieldType) (hh : List (Nat × Nat × Nat × Nat)) (ws : List Cond) (rm : Room) (mc ms n : Nat) : Prop :=
  (rm.cells = mc ∧ rm.slots = ms ∧ rm.frames + 1 ≤ R.frames ∧ 8 + (maxL + 11) + rm.locals ≤ R.locals ∧ (∀ w ∈ ws, ∀ (a' : Array Value) (U : State), s.WarmedH U.vm → w.before a' U = true) ∧ Cond.codeWith y bytes maxL ret hh ∈ ws) ∧
  (Cond.codeWith y bytes maxL ret hh).before args s = true ∧ (Cond.initialized y.cls).before args s = true ∧ (y.cls ≠ "java/lang/invoke/MethodHandle" ∧ y.cls ≠ "java/lang/invoke/VarHandle") ∧
  (∀ sig, parseMethodDescriptor y.desc = some sig → n = sig.parameters.length) ∧ (Cond.methodLink own index y).before args s = true ∧ (Cond.instanceMethod y).before args s = true ∧ (Cond.selects C y y).before args s = true
theorem vx_cwVW {own C : String} {index maxL mc ms : Nat} {y : MethodName} {bytes : ByteArray} {ret : Option FieldType} {hh : List (Nat × Nat × Nat × Nat)} {Ts ws ws' : List Cond} {rm : Room} (n : Nat) (ht : ∀ w ∈ Ts, w.before args s = true) (hT : GoodIn Ts (wsV own index C y ws)) (hw : ws = Cond.codeWith y bytes maxL ret hh :: ws') (hrc : rm.cells = mc) (hrs : rm.slots = ms)
    (hd : y.cls = C ∧ y.cls ≠ "java/lang/invoke/MethodHandle" ∧ y.cls ≠ "java/lang/invoke/VarHandle" ∧ (parseMethodDescriptor y.desc).map (fun d => d.parameters.length) = some n) (hR : rm.frames + 1 ≤ R.frames ∧ 8 + (maxL + 11) + rm.locals ≤ R.locals) :
    vx_CVW R s args own C index y bytes maxL ret hh ws rm mc ms n := by
  obtain ⟨hC, hd⟩ := hd
  subst hC
  have ok : ∀ w ∈ wsV own index y.cls y ws, w.before args s = true := fun w h => ht w (hT w h).1
  have hG : GoodIn Ts ws := fun w h => hT w (by unfold wsV; exact List.mem_append_right _ h)
  have hc : Cond.codeWith y bytes maxL ret hh ∈ ws := by rw [hw]; exact List.mem_cons_self
  refine ⟨⟨hrc, hrs, hR.1, hR.2, pay_in ht hG, hc⟩, ht _ (hG _ hc).1, ok _ (by simp [wsV]), ⟨hd.1, hd.2.1⟩, fun sig h => ?_, ok _ (by simp [wsV]), ok _ (by simp [wsV]), ok _ (by simp [wsV])⟩
  have h2 := hd.2.2
  rw [h] at h2
  exact (Option.some.inj h2).symm
theorem vx_runVW {y : MethodName} {bytes cc : ByteArray} {maxL nL mc ms n index : Nat} {ret : Option FieldType} {hh : List (Nat × Nat × Nat × Nat)} {ws : List Cond} {rm : Room} {Pc : Array Value → State → Prop} {Qc : Array Value → State → Outcome → State → Prop} {free : Addr → Prop} {Ts : List Cond} {own C : String} {b : Addr} {As rest : List Value} {g : JFrame}
    (S : CallFix p m c cc nL s args Ts own) (hM : Met l y ws rm Pc Qc mc ms free) (cw : vx_CVW R s args own C index y bytes maxL ret hh ws rm mc ms n) (hp : PreV s H C b Pc As)
    (hg : g.method = m) (hn : As.length = n) (hsize : g.locals.size = nL) (hstack : g.stack = As.reverse ++ .ref b :: rest) (hW : 2 * g.monitorRoom + (rest.map fun v => v.category).sum ≤ 8) (hdg : decode cc g.pc = .ok (.invokevirtual index, 3)) (hf : cells + mc ≤ R.cells ∧ slots + ms ≤ R.slots) :
    va_Run p l e R s m args below meth c H locs cells slots mc ms g rest (Qc (Value.ref b :: As).toArray) free := by
  obtain ⟨⟨hrc, hrs, hfr, hlo, hws, hcw⟩, hcode, hini, hy, hlen, hl, hin, hse⟩ := cw
  have hK : Back l R p e below s args y 3 8 (PreOf R mc ms Pc) (PostOf Qc mc ms free) := va_backW (hh := hh) (bytes := bytes) (maxL := maxL) (ret := ret) hM hp.1 hrc hrs hfr hlo hws hcw (fun a' U hW => word_at hW (Or.inl (by first | rfl | simp [Cond.onTables, Cond.keeps, Cond.steady])) hini)
  obtain ⟨hx, hb, hml, ho, -⟩ := S
  obtain ⟨-, ⟨cellB, hcB, hoB, hclB⟩, hPc⟩ := hp
  intro T hT X
  obtain ⟨v, vm₁, ⟨U', l2, c2, s2⟩, hW₁, X', ⟨g', mk, t, L, e1, e2, hq, h1, hL, h2, h3⟩, st⟩ := vx_callVW X hx (C := C) (hh := hh) (bytes := bytes) (maxL := maxL) (ret := ret) ho hl hin hse hcode hy hK (by rw [hT]; exact hcB) hoB hclB hg (hsize.trans hml.symm) (argsL := As) (rest := rest) (fun sig h => hn.trans (hlen sig h)) hstack hW (by rw [hb]; exact hdg)
    (fun vm₁ hW₁ => ⟨hf.1, hf.2, hPc (T.setVm vm₁) hT hW₁⟩)
  dsimp only [Pt.U, Pt.locs, Pt.cells, Pt.slots] at X' e1 e2 h1 h2 h3 st
  subst h1; subst h2; subst h3
  exact ⟨v, (T.setVm vm₁).calling g' mk (Value.ref b :: As).toArray, t, U', L, hT, X', hL, e1, e2, hq, st⟩
section
variable {y : MethodName} {bytes cc : ByteArray} {maxL nL mc ms n index : Nat} {ret : Option FieldType} {ws : List Cond} {rm : Room} {Pc : Array Value → State → Prop} {Qc : Array Value → State → Outcome → State → Prop} {XC : String → State → State → Prop} {free : Addr → Prop} {Ts : List Cond} {own C : String} {b : Addr} {As rest : List Value} {g : JFrame}
theorem vx_runVX {hh : List (Nat × Nat × Nat × Nat)} (S : CallFix p m c cc nL s args Ts own) (hM : vx_Met l y ws rm Pc Qc XC mc ms free) (cw : vx_CVW R s args own C index y bytes maxL ret hh ws rm mc ms n) (hp : PreV s H C b Pc As)
    (hg : g.method = m) (hn : As.length = n) (hsize : g.locals.size = nL) (hstack : g.stack = As.reverse ++ .ref b :: rest) (hW : 2 * g.monitorRoom + (rest.map fun v => v.category).sum ≤ 8) (hdg : decode cc g.pc = .ok (.invokevirtual index, 3)) (hf : cells + mc ≤ R.cells ∧ slots + ms ≤ R.slots) :
    vx_Run p l e R s m args below meth c H locs cells slots mc ms g rest (Qc (Value.ref b :: As).toArray) XC free := by
  obtain ⟨⟨hrc, hrs, hfr, hlo, hws, hcw⟩, hcode, hini, hy, hlen, hl, hin, hse⟩ := cw
  have hK : vx_Back l R p e below s args y 3 8 (PreOf R mc ms Pc) (PostOf Qc mc ms free) (vx_Post XC mc ms free) := vx_backW (hh := hh) (bytes := bytes) (maxL := maxL) (ret := ret) hM hp.1 hrc hrs hfr hlo hws hcw (fun a' U hW => word_at hW (Or.inl (by first | rfl | simp [Cond.onTables, Cond.keeps, Cond.steady])) hini)
  obtain ⟨hx, hb, hml, ho, -⟩ := S
  obtain ⟨-, ⟨cellB, hcB, hoB, hclB⟩, hPc⟩ := hp
  intro T hT X
  rcases vx_callVX X hx (C := C) (hh := hh) (bytes := bytes) (maxL := maxL) (ret := ret) ho hl hin hse hcode hy hK (by rw [hT]; exact hcB) hoB hclB hg (hsize.trans hml.symm) (argsL := As) (rest := rest) (fun sig h => hn.trans (hlen sig h)) hstack hW (by rw [hb]; exact hdg)
    (fun vm₁ hW₁ => ⟨hf.1, hf.2, hPc (T.setVm vm₁) hT hW₁⟩) with ⟨v, vm₁, ⟨U', l2, c2, s2⟩, hW₁, X', ⟨g', mk, t, L, e1, e2, hq, h1, hL, h2, h3⟩, st⟩ | ⟨q, vm₁, ⟨U', l2, c2, s2⟩, hW₁, X', ⟨g', mk, t, L, E, ce, e1, e2, hq, hce, hcv, hcl, h1, hL, h2, h3⟩, st⟩
  · dsimp only [Pt.U, Pt.locs, Pt.cells, Pt.slots] at X' e1 e2 h1 h2 h3 st
    subst h1; subst h2; subst h3
    exact Or.inl ⟨v, (T.setVm vm₁).calling g' mk (Value.ref b :: As).toArray, t, U', L, hT, X', hL, e1, e2, hq, st⟩
  · dsimp only [Pt.U, Pt.locs, Pt.cells, Pt.slots] at X' e1 e2 h1 h2 h3 st hcl
    subst h1; subst h2; subst h3
    exact Or.inr ⟨q, (T.setVm vm₁).calling g' mk (Value.ref b :: As).toArray, t, U', L, E, ce, hT, X', hL, e1, e2, hq, hce, hcv, vx_cls hW₁ hcl, st⟩
theorem vx_runSX {hh : List (Nat × Nat × Nat × Nat)} (S : CallFix p m c cc nL s args Ts own) (hM : vx_Met l y ws rm Pc Qc XC mc ms free) (cw : vx_CSW R s args own index y bytes maxL ret hh ws rm mc ms n) (hp : PreS s H Pc As)
    (hg : g.method = m) (hn : As.length = n) (hsize : g.locals.size = nL) (hstack : g.stack = As.reverse ++ rest) (hW : 2 * g.monitorRoom + (rest.map fun v => v.category).sum ≤ 8) (hdg : decode cc g.pc = .ok (.invokestatic index, 3)) (hf : cells + mc ≤ R.cells ∧ slots + ms ≤ R.slots) :
    vx_Run p l e R s m args below meth c H locs cells slots mc ms g rest (Qc As.toArray) XC free := by
  obtain ⟨⟨hrc, hrs, hfr, hlo, hws, hcw⟩, hcode, hini, hy, hlen, hl, hstt⟩ := cw
  have hK : vx_Back l R p e below s args y 3 8 (PreOf R mc ms Pc) (PostOf Qc mc ms free) (vx_Post XC mc ms free) := vx_backW (hh := hh) (bytes := bytes) (maxL := maxL) (ret := ret) hM hp.1 hrc hrs hfr hlo hws hcw (fun a' U hW => word_at hW (Or.inl (by first | rfl | simp [Cond.onTables, Cond.keeps, Cond.steady])) hini)
  obtain ⟨hx, hb, hml, ho, -⟩ := S
  intro T hT X
  rcases vx_callSX X hx (hh := hh) (bytes := bytes) (maxL := maxL) (ret := ret) ho hl hstt hini hcode hy hK hg (hsize.trans hml.symm) (argsL := As) (rest := rest) (fun sig h => hn.trans (hlen sig h)) hstack hW (by rw [hb]; exact hdg)
    (fun vm₁ hW₁ => ⟨hf.1, hf.2, hp.2 (T.setVm vm₁) hT hW₁⟩) with ⟨v, vm₁, ⟨U', l2, c2, s2⟩, hW₁, X', ⟨g', mk, t, L, e1, e2, hq, h1, hL, h2, h3⟩, st⟩ | ⟨q, vm₁, ⟨U', l2, c2, s2⟩, hW₁, X', ⟨g', mk, t, L, E, ce, e1, e2, hq, hce, hcv, hcl, h1, hL, h2, h3⟩, st⟩
  · dsimp only [Pt.U, Pt.locs, Pt.cells, Pt.slots] at X' e1 e2 h1 h2 h3 st
    subst h1; subst h2; subst h3
    exact Or.inl ⟨v, (T.setVm vm₁).calling g' mk As.toArray, t, U', L, hT, X', hL, e1, e2, hq, st⟩
  · dsimp only [Pt.U, Pt.locs, Pt.cells, Pt.slots] at X' e1 e2 h1 h2 h3 st hcl
    subst h1; subst h2; subst h3
    exact Or.inr ⟨q, (T.setVm vm₁).calling g' mk As.toArray, t, U', L, E, ce, hT, X', hL, e1, e2, hq, hce, hcv, vx_cls hW₁ hcl, st⟩
end
end VXH
theorem vx_ofWH {l : Launch} {y : MethodName} {ws ws' : List Cond} {rm : Room} {Pc : Array Value → State → Prop} {Qc : Array Value → State → Outcome → State → Prop} {XC : String → State → State → Prop} {mc ms : Nat} {free : Addr → Prop} {cc : ByteArray} {maxL : Nat} {ret : Option FieldType} {hh : List (Nat × Nat × Nat × Nat)}
    (hy : plainName y.cls = true) (hw : ws = Cond.codeWith y cc maxL ret hh :: ws')
    (body : ∀ p e s m args below meth c s₁, BodyLoose p l y (headSpec ws rm) cc maxL ret e s m args below meth c s₁ → c.maxLocals = maxL → Pc args s →
      W p l e (headSpec ws rm).room s m args below meth c s.heap [] 0 0 (vx_MQ below Qc XC args s mc ms free) (entryFrame m args maxL)) : vx_Met l y ws rm Pc Qc XC mc ms free := by
  refine MetFree.of_bodyS (code := cc) (maxLocals := maxL) (ret := ret) hy ?_ ?_
  · intro args s m h hn
    obtain ⟨m9, meth, c, hn9, h1, h2, h3, h4, -, h5, h6, -⟩ := Cond.codeWith_spec (atoms_spec (ws := ws) h _ (by rw [hw]; exact List.mem_cons_self))
    cases hn.symm.trans hn9
    exact ⟨meth, c, h1, h2, h3, h4, h5, h6⟩
  · intro p e s m args below meth c s₁ B hml hP _
    have hh0 : s₁.heap = s.heap := by rw [B.state]; rfl
    obtain ⟨t, a1, o, b1, b2, b3⟩ := body p e s m args below meth c s₁ B hml hP s₁ hh0 (Stand.of_body B)
    exact ⟨t, o, a1, b1, b2, b3⟩
/-! ===== END ===== -/
end
section
def RX0 : String := "SkinLeague$Match"
def TX0 : u_T := fun k => match k with
  | 0 => ("SkinLeague$Match", "winner", "LSkinLeague$Player;", true)
  | 1 => ("SkinLeague$Match", "loser", "LSkinLeague$Player;", true)
  | 2 => ("SkinLeague$Match", "season", "LSkinLeague$Season;", true)
  | _ => ("SkinLeague$Match", "day", "I", true)
def tyX0 : Nat → FieldType := fun k => match k with
  | 0 => .object "SkinLeague$Player"
  | 1 => .object "SkinLeague$Player"
  | 2 => .object "SkinLeague$Season"
  | _ => .int
abbrev wsX00 : List Cond := u_ws RX0 TX0 4
theorem nmX0 : ∀ a, a < 4 → ∀ b, b < 4 → a ≠ b → (TX0 a).2.1 ≠ (TX0 b).2.1 := by decide +kernel
theorem tyX0_ok : ∀ k, k < 4 → parseFieldDescriptor (TX0 k).2.2.1 = some (tyX0 k) := by decide +kernel
abbrev cX0_init : ByteArray := prog_2_method_1_code
def yX0_init : MethodName := ⟨RX0, "<init>", "(LSkinLeague$Player;LSkinLeague$Player;LSkinLeague$Season;I)V"⟩
abbrev cX0_isStanding : ByteArray := prog_2_method_2_code
def yX0_isStanding : MethodName := ⟨RX0, "isStanding", "()Z"⟩
abbrev cX0_addPoints : ByteArray := prog_2_method_3_code
def yX0_addPoints : MethodName := ⟨RX0, "addPoints", "()V"⟩
def RX1 : String := "SkinLeague$Player"
def TX1 : u_T := fun k => match k with
  | 0 => ("SkinLeague$Player", "number", "I", true)
  | 1 => ("SkinLeague$Player", "balance", "I", false)
  | 2 => ("SkinLeague$Player", "cheatedSince", "I", false)
  | _ => ("SkinLeague$Player", "freeFrom", "I", false)
def tyX1 : Nat → FieldType := fun k => match k with
  | 0 => .int
  | 1 => .int
  | 2 => .int
  | _ => .int
abbrev wsX10 : List Cond := u_ws RX1 TX1 4
theorem nmX1 : ∀ a, a < 4 → ∀ b, b < 4 → a ≠ b → (TX1 a).2.1 ≠ (TX1 b).2.1 := by decide +kernel
theorem tyX1_ok : ∀ k, k < 4 → parseFieldDescriptor (TX1 k).2.2.1 = some (tyX1 k) := by decide +kernel
abbrev cX1_init : ByteArray := prog_3_method_1_code
def yX1_init : MethodName := ⟨RX1, "<init>", "(I)V"⟩
abbrev cX1_isBanned : ByteArray := prog_3_method_2_code
def yX1_isBanned : MethodName := ⟨RX1, "isBanned", "(I)Z"⟩
abbrev cX1_isProven : ByteArray := prog_3_method_3_code
def yX1_isProven : MethodName := ⟨RX1, "isProven", "()Z"⟩
abbrev cX1_isProvenOn : ByteArray := prog_3_method_4_code
def yX1_isProvenOn : MethodName := ⟨RX1, "isProvenOn", "(I)Z"⟩
abbrev cX1_prove : ByteArray := prog_3_method_5_code
def yX1_prove : MethodName := ⟨RX1, "prove", "(I)V"⟩
def RX2 : String := "SkinLeague$Region"
def TX2 : u_T := fun k => match k with
  | 0 => ("SkinLeague$Region", "roomADay", "I", false)
  | _ => ("SkinLeague$Region", "matchesToday", "I", false)
def tyX2 : Nat → FieldType := fun k => match k with
  | 0 => .int
  | _ => .int
abbrev wsX20 : List Cond := u_ws RX2 TX2 2
theorem nmX2 : ∀ a, a < 2 → ∀ b, b < 2 → a ≠ b → (TX2 a).2.1 ≠ (TX2 b).2.1 := by decide +kernel
theorem tyX2_ok : ∀ k, k < 2 → parseFieldDescriptor (TX2 k).2.2.1 = some (tyX2 k) := by decide +kernel
abbrev cX2_init : ByteArray := prog_4_method_1_code
def yX2_init : MethodName := ⟨RX2, "<init>", "()V"⟩
abbrev cX2_isFull : ByteArray := prog_4_method_2_code
def yX2_isFull : MethodName := ⟨RX2, "isFull", "()Z"⟩
def RX3 : String := "SkinLeague$Sale"
def TX3 : u_T := fun k => match k with
  | 0 => ("SkinLeague$Sale", "seller", "LSkinLeague$Player;", true)
  | 1 => ("SkinLeague$Sale", "buyer", "LSkinLeague$Player;", true)
  | _ => ("SkinLeague$Sale", "price", "I", true)
def tyX3 : Nat → FieldType := fun k => match k with
  | 0 => .object "SkinLeague$Player"
  | 1 => .object "SkinLeague$Player"
  | _ => .int
abbrev wsX30 : List Cond := u_ws RX3 TX3 3
theorem nmX3 : ∀ a, a < 3 → ∀ b, b < 3 → a ≠ b → (TX3 a).2.1 ≠ (TX3 b).2.1 := by decide +kernel
theorem tyX3_ok : ∀ k, k < 3 → parseFieldDescriptor (TX3 k).2.2.1 = some (tyX3 k) := by decide +kernel
abbrev cX3_init : ByteArray := prog_5_method_1_code
def yX3_init : MethodName := ⟨RX3, "<init>", "(LSkinLeague$Player;LSkinLeague$Player;I)V"⟩
abbrev cX3_isInFaithNow : ByteArray := prog_5_method_2_code
def yX3_isInFaithNow : MethodName := ⟨RX3, "isInFaithNow", "()Z"⟩
def RX4 : String := "SkinLeague$Season"
def TX4 : u_T := fun k => match k with
  | 0 => ("SkinLeague$Season", "number", "I", true)
  | 1 => ("SkinLeague$Season", "points", "[I", true)
  | _ => ("SkinLeague$Season", "games", "[I", true)
def tyX4 : Nat → FieldType := fun k => match k with
  | 0 => .int
  | 1 => .array .int
  | _ => .array .int
abbrev wsX40 : List Cond := u_ws RX4 TX4 3
theorem nmX4 : ∀ a, a < 3 → ∀ b, b < 3 → a ≠ b → (TX4 a).2.1 ≠ (TX4 b).2.1 := by decide +kernel
theorem tyX4_ok : ∀ k, k < 3 → parseFieldDescriptor (TX4 k).2.2.1 = some (tyX4 k) := by decide +kernel
abbrev cX4_init : ByteArray := prog_6_method_1_code
def yX4_init : MethodName := ⟨RX4, "<init>", "(I)V"⟩
abbrev cX4_forgetPoints : ByteArray := prog_6_method_2_code
def yX4_forgetPoints : MethodName := ⟨RX4, "forgetPoints", "()V"⟩
abbrev cX4_add : ByteArray := prog_6_method_3_code
def yX4_add : MethodName := ⟨RX4, "add", "(II)V"⟩
abbrev cX4_pointsOf : ByteArray := prog_6_method_4_code
def yX4_pointsOf : MethodName := ⟨RX4, "pointsOf", "(I)I"⟩
abbrev cX4_gamesOf : ByteArray := prog_6_method_5_code
def yX4_gamesOf : MethodName := ⟨RX4, "gamesOf", "(I)I"⟩
abbrev cX4_placeOf : ByteArray := prog_6_method_6_code
def yX4_placeOf : MethodName := ⟨RX4, "placeOf", "(I)I"⟩
abbrev cX4_playerOn : ByteArray := prog_6_method_7_code
def yX4_playerOn : MethodName := ⟨RX4, "playerOn", "(I)I"⟩
abbrev cX4_firstBehind : ByteArray := prog_6_method_8_code
def yX4_firstBehind : MethodName := ⟨RX4, "firstBehind", "(I)I"⟩
abbrev cX4_isAhead : ByteArray := prog_6_method_9_code
def yX4_isAhead : MethodName := ⟨RX4, "isAhead", "(II)Z"⟩
def RX5 : String := "SkinLeague$Skin"
def TX5 : u_T := fun k => match k with
  | 0 => ("SkinLeague$Skin", "number", "I", true)
  | 1 => ("SkinLeague$Skin", "season", "LSkinLeague$Season;", true)
  | 2 => ("SkinLeague$Skin", "place", "I", true)
  | 3 => ("SkinLeague$Skin", "sales", "[LSkinLeague$Sale;", true)
  | 4 => ("SkinLeague$Skin", "saleCount", "I", false)
  | 5 => ("SkinLeague$Skin", "firstInFaith", "LSkinLeague$Sale;", false)
  | 6 => ("SkinLeague$Skin", "heir", "LSkinLeague$Player;", false)
  | 7 => ("SkinLeague$Skin", "holder", "LSkinLeague$Player;", false)
  | 8 => ("SkinLeague$Skin", "borrower", "LSkinLeague$Player;", false)
  | _ => ("SkinLeague$Skin", "lastLentDay", "I", false)
def tyX5 : Nat → FieldType := fun k => match k with
  | 0 => .int
  | 1 => .object "SkinLeague$Season"
  | 2 => .int
  | 3 => .array (.object "SkinLeague$Sale")
  | 4 => .int
  | 5 => .object "SkinLeague$Sale"
  | 6 => .object "SkinLeague$Player"
  | 7 => .object "SkinLeague$Player"
  | 8 => .object "SkinLeague$Player"
  | _ => .int
abbrev wsX50 : List Cond := u_ws RX5 TX5 10
theorem nmX5 : ∀ a, a < 10 → ∀ b, b < 10 → a ≠ b → (TX5 a).2.1 ≠ (TX5 b).2.1 := by decide +kernel
theorem tyX5_ok : ∀ k, k < 10 → parseFieldDescriptor (TX5 k).2.2.1 = some (tyX5 k) := by decide +kernel
abbrev cX5_init : ByteArray := prog_7_method_1_code
def yX5_init : MethodName := ⟨RX5, "<init>", "(ILSkinLeague$Season;ILSkinLeague$Player;)V"⟩
abbrev cX5_isGood : ByteArray := prog_7_method_2_code
def yX5_isGood : MethodName := ⟨RX5, "isGood", "()Z"⟩
abbrev cX5_isSoldOften : ByteArray := prog_7_method_3_code
def yX5_isSoldOften : MethodName := ⟨RX5, "isSoldOften", "()Z"⟩
abbrev cX5_userOn : ByteArray := prog_7_method_4_code
def yX5_userOn : MethodName := ⟨RX5, "userOn", "(I)LSkinLeague$Player;"⟩
abbrev cX5_sellTo : ByteArray := prog_7_method_5_code
def yX5_sellTo : MethodName := ⟨RX5, "sellTo", "(LSkinLeague$Player;I)Z"⟩
abbrev cX5_passTo : ByteArray := prog_7_method_6_code
def yX5_passTo : MethodName := ⟨RX5, "passTo", "(LSkinLeague$Player;)V"⟩
abbrev cX5_undoSales : ByteArray := prog_7_method_7_code
def yX5_undoSales : MethodName := ⟨RX5, "undoSales", "()V"⟩
abbrev cX5_pay : ByteArray := prog_7_method_8_code
def yX5_pay : MethodName := ⟨RX5, "pay", "(LSkinLeague$Player;LSkinLeague$Player;I)V"⟩
abbrev cX5_writeLabel : ByteArray := prog_7_method_9_code
def yX5_writeLabel : MethodName := ⟨RX5, "writeLabel", "(Ljava/lang/StringBuilder;)V"⟩
def RX6 : String := "SkinLeague"
def TX6 : u_T := fun k => match k with
  | 0 => ("SkinLeague", "players", "[LSkinLeague$Player;", true)
  | 1 => ("SkinLeague", "matches", "[LSkinLeague$Match;", true)
  | 2 => ("SkinLeague", "seasons", "[LSkinLeague$Season;", true)
  | 3 => ("SkinLeague", "skins", "[LSkinLeague$Skin;", true)
  | 4 => ("SkinLeague", "regions", "[LSkinLeague$Region;", true)
  | 5 => ("SkinLeague", "playerCount", "I", false)
  | 6 => ("SkinLeague", "matchCount", "I", false)
  | 7 => ("SkinLeague", "skinCount", "I", false)
  | 8 => ("SkinLeague", "today", "I", false)
  | _ => ("SkinLeague", "current", "LSkinLeague$Season;", false)
def tyX6 : Nat → FieldType := fun k => match k with
  | 0 => .array (.object "SkinLeague$Player")
  | 1 => .array (.object "SkinLeague$Match")
  | 2 => .array (.object "SkinLeague$Season")
  | 3 => .array (.object "SkinLeague$Skin")
  | 4 => .array (.object "SkinLeague$Region")
  | 5 => .int
  | 6 => .int
  | 7 => .int
  | 8 => .int
  | _ => .object "SkinLeague$Season"
abbrev wsX60 : List Cond := u_ws RX6 TX6 10
theorem nmX6 : ∀ a, a < 10 → ∀ b, b < 10 → a ≠ b → (TX6 a).2.1 ≠ (TX6 b).2.1 := by decide +kernel
theorem tyX6_ok : ∀ k, k < 10 → parseFieldDescriptor (TX6 k).2.2.1 = some (tyX6 k) := by decide +kernel
abbrev cX6_init : ByteArray := prog_1_method_1_code
def yX6_init : MethodName := ⟨RX6, "<init>", "()V"⟩
abbrev cX6_player : ByteArray := prog_1_method_2_code
def yX6_player : MethodName := ⟨RX6, "player", "()I"⟩
abbrev cX6_room : ByteArray := prog_1_method_3_code
def yX6_room : MethodName := ⟨RX6, "room", "(II)I"⟩
abbrev cX6_match : ByteArray := prog_1_method_4_code
def yX6_match : MethodName := ⟨RX6, "match", "(III)I"⟩
abbrev cX6_end : ByteArray := prog_1_method_5_code
def yX6_end : MethodName := ⟨RX6, "end", "()I"⟩
abbrev cX6_sell : ByteArray := prog_1_method_6_code
def yX6_sell : MethodName := ⟨RX6, "sell", "(III)Z"⟩
abbrev cX6_lend : ByteArray := prog_1_method_7_code
def yX6_lend : MethodName := ⟨RX6, "lend", "(III)I"⟩
abbrev cX6_proof : ByteArray := prog_1_method_8_code
def yX6_proof : MethodName := ⟨RX6, "proof", "(II)I"⟩
abbrev cX6_clear : ByteArray := prog_1_method_9_code
def yX6_clear : MethodName := ⟨RX6, "clear", "(I)I"⟩
abbrev cX6_ban : ByteArray := prog_1_method_10_code
def yX6_ban : MethodName := ⟨RX6, "ban", "(II)I"⟩
abbrev cX6_pass : ByteArray := prog_1_method_11_code
def yX6_pass : MethodName := ⟨RX6, "pass", "(I)I"⟩
abbrev cX6_stands : ByteArray := prog_1_method_12_code
def yX6_stands : MethodName := ⟨RX6, "stands", "(I)Z"⟩
abbrev cX6_ranked : ByteArray := prog_1_method_13_code
def yX6_ranked : MethodName := ⟨RX6, "ranked", "(III)I"⟩
abbrev cX6_skinOf : ByteArray := prog_1_method_14_code
def yX6_skinOf : MethodName := ⟨RX6, "skinOf", "(II)I"⟩
abbrev cX6_money : ByteArray := prog_1_method_15_code
def yX6_money : MethodName := ⟨RX6, "money", "(I)I"⟩
abbrev cX6_label : ByteArray := prog_1_method_16_code
def yX6_label : MethodName := ⟨RX6, "label", "(II)C"⟩
abbrev cX6_findPlayer : ByteArray := prog_1_method_17_code
def yX6_findPlayer : MethodName := ⟨RX6, "findPlayer", "(I)LSkinLeague$Player;"⟩
abbrev cX6_playerAt : ByteArray := prog_1_method_18_code
def yX6_playerAt : MethodName := ⟨RX6, "playerAt", "(I)LSkinLeague$Player;"⟩
abbrev cX6_regionAt : ByteArray := prog_1_method_19_code
def yX6_regionAt : MethodName := ⟨RX6, "regionAt", "(I)LSkinLeague$Region;"⟩
abbrev cX6_matchAt : ByteArray := prog_1_method_20_code
def yX6_matchAt : MethodName := ⟨RX6, "matchAt", "(I)LSkinLeague$Match;"⟩
abbrev cX6_seasonAt : ByteArray := prog_1_method_21_code
def yX6_seasonAt : MethodName := ⟨RX6, "seasonAt", "(I)LSkinLeague$Season;"⟩
abbrev cX6_skinAt : ByteArray := prog_1_method_22_code
def yX6_skinAt : MethodName := ⟨RX6, "skinAt", "(I)LSkinLeague$Skin;"⟩
abbrev cX6_numberOf : ByteArray := prog_1_method_23_code
def yX6_numberOf : MethodName := ⟨RX6, "numberOf", "(LSkinLeague$Player;)I"⟩
abbrev cX6_awardPrizes : ByteArray := prog_1_method_24_code
def yX6_awardPrizes : MethodName := ⟨RX6, "awardPrizes", "()I"⟩
abbrev cX6_mayDeal : ByteArray := prog_1_method_25_code
def yX6_mayDeal : MethodName := ⟨RX6, "mayDeal", "(LSkinLeague$Player;LSkinLeague$Player;)Z"⟩
abbrev cX6_findHeirsAnew : ByteArray := prog_1_method_26_code
def yX6_findHeirsAnew : MethodName := ⟨RX6, "findHeirsAnew", "()V"⟩
abbrev cX6_countPointsAnew : ByteArray := prog_1_method_27_code
def yX6_countPointsAnew : MethodName := ⟨RX6, "countPointsAnew", "()V"⟩
abbrev cX6_countFallenMatches : ByteArray := prog_1_method_28_code
def yX6_countFallenMatches : MethodName := ⟨RX6, "countFallenMatches", "()I"⟩
def RX7 : String := "SkinLeagueModel"
def TX7 : u_T := fun k => match k with
  | 0 => ("SkinLeagueModel", "day", "I", false)
  | 1 => ("SkinLeagueModel", "players", "I", false)
  | 2 => ("SkinLeagueModel", "since", "[I", true)
  | 3 => ("SkinLeagueModel", "banned", "[I", true)
  | 4 => ("SkinLeagueModel", "money", "[I", true)
  | 5 => ("SkinLeagueModel", "room", "[I", true)
  | 6 => ("SkinLeagueModel", "matches", "I", false)
  | 7 => ("SkinLeagueModel", "winner", "[I", true)
  | 8 => ("SkinLeagueModel", "loser", "[I", true)
  | 9 => ("SkinLeagueModel", "region", "[I", true)
  | 10 => ("SkinLeagueModel", "played", "[I", true)
  | 11 => ("SkinLeagueModel", "inSeason", "[I", true)
  | 12 => ("SkinLeagueModel", "season", "I", false)
  | 13 => ("SkinLeagueModel", "skins", "I", false)
  | 14 => ("SkinLeagueModel", "skinSeason", "[I", true)
  | 15 => ("SkinLeagueModel", "skinPlace", "[I", true)
  | 16 => ("SkinLeagueModel", "heir", "[I", true)
  | 17 => ("SkinLeagueModel", "holder", "[I", true)
  | 18 => ("SkinLeagueModel", "borrower", "[I", true)
  | 19 => ("SkinLeagueModel", "until", "[I", true)
  | 20 => ("SkinLeagueModel", "faith", "[I", true)
  | 21 => ("SkinLeagueModel", "sales", "[I", true)
  | 22 => ("SkinLeagueModel", "seller", "[I", true)
  | 23 => ("SkinLeagueModel", "buyer", "[I", true)
  | 24 => ("SkinLeagueModel", "price", "[I", true)
  | 25 => ("SkinLeagueModel", "points", "[I", true)
  | 26 => ("SkinLeagueModel", "many", "[I", true)
  | 27 => ("SkinLeagueModel", "text", "[I", true)
  | 28 => ("SkinLeagueModel", "written", "I", false)
  | _ => ("SkinLeagueModel", "thrown", "I", false)
def tyX7 : Nat → FieldType := fun k => match k with
  | 0 => .int
  | 1 => .int
  | 2 => .array .int
  | 3 => .array .int
  | 4 => .array .int
  | 5 => .array .int
  | 6 => .int
  | 7 => .array .int
  | 8 => .array .int
  | 9 => .array .int
  | 10 => .array .int
  | 11 => .array .int
  | 12 => .int
  | 13 => .int
  | 14 => .array .int
  | 15 => .array .int
  | 16 => .array .int
  | 17 => .array .int
  | 18 => .array .int
  | 19 => .array .int
  | 20 => .array .int
  | 21 => .array .int
  | 22 => .array .int
  | 23 => .array .int
  | 24 => .array .int
  | 25 => .array .int
  | 26 => .array .int
  | 27 => .array .int
  | 28 => .int
  | _ => .int
abbrev wsX70 : List Cond := u_ws RX7 TX7 30
theorem nmX7 : ∀ a, a < 30 → ∀ b, b < 30 → a ≠ b → (TX7 a).2.1 ≠ (TX7 b).2.1 := by decide +kernel
theorem tyX7_ok : ∀ k, k < 30 → parseFieldDescriptor (TX7 k).2.2.1 = some (tyX7 k) := by decide +kernel
abbrev cX7_init : ByteArray := prog_9_method_1_code
def yX7_init : MethodName := ⟨RX7, "<init>", "()V"⟩
abbrev cX7_thrown : ByteArray := prog_9_method_2_code
def yX7_thrown : MethodName := ⟨RX7, "thrown", "()I"⟩
abbrev cX7_fails : ByteArray := prog_9_method_3_code
def yX7_fails : MethodName := ⟨RX7, "fails", "(I)Z"⟩
abbrev cX7_isIn : ByteArray := prog_9_method_4_code
def yX7_isIn : MethodName := ⟨RX7, "isIn", "(III)Z"⟩
abbrev cX7_isPlayer : ByteArray := prog_9_method_5_code
def yX7_isPlayer : MethodName := ⟨RX7, "isPlayer", "(I)Z"⟩
abbrev cX7_isBanned : ByteArray := prog_9_method_6_code
def yX7_isBanned : MethodName := ⟨RX7, "isBanned", "(I)Z"⟩
abbrev cX7_player : ByteArray := prog_9_method_7_code
def yX7_player : MethodName := ⟨RX7, "player", "()I"⟩
abbrev cX7_isRegion : ByteArray := prog_9_method_8_code
def yX7_isRegion : MethodName := ⟨RX7, "isRegion", "(I)Z"⟩
abbrev cX7_today : ByteArray := prog_9_method_9_code
def yX7_today : MethodName := ⟨RX7, "today", "(I)I"⟩
abbrev cX7_room : ByteArray := prog_9_method_10_code
def yX7_room : MethodName := ⟨RX7, "room", "(II)I"⟩
abbrev cX7_match : ByteArray := prog_9_method_11_code
def yX7_match : MethodName := ⟨RX7, "match", "(III)I"⟩
abbrev cX7_isGood : ByteArray := prog_9_method_12_code
def yX7_isGood : MethodName := ⟨RX7, "isGood", "(I)Z"⟩
abbrev cX7_counts : ByteArray := prog_9_method_13_code
def yX7_counts : MethodName := ⟨RX7, "counts", "(I)V"⟩
abbrev cX7_isAhead : ByteArray := prog_9_method_14_code
def yX7_isAhead : MethodName := ⟨RX7, "isAhead", "(II)Z"⟩
abbrev cX7_placeOf : ByteArray := prog_9_method_15_code
def yX7_placeOf : MethodName := ⟨RX7, "placeOf", "(I)I"⟩
abbrev cX7_who : ByteArray := prog_9_method_16_code
def yX7_who : MethodName := ⟨RX7, "who", "(I)I"⟩
abbrev cX7_end : ByteArray := prog_9_method_17_code
def yX7_end : MethodName := ⟨RX7, "end", "()I"⟩
abbrev cX7_isSkin : ByteArray := prog_9_method_18_code
def yX7_isSkin : MethodName := ⟨RX7, "isSkin", "(I)Z"⟩
abbrev cX7_sell : ByteArray := prog_9_method_19_code
def yX7_sell : MethodName := ⟨RX7, "sell", "(III)Z"⟩
abbrev cX7_lend : ByteArray := prog_9_method_20_code
def yX7_lend : MethodName := ⟨RX7, "lend", "(III)I"⟩
abbrev cX7_pays : ByteArray := prog_9_method_21_code
def yX7_pays : MethodName := ⟨RX7, "pays", "(III)V"⟩
abbrev cX7_inherits : ByteArray := prog_9_method_22_code
def yX7_inherits : MethodName := ⟨RX7, "inherits", "(II)V"⟩
abbrev cX7_looks : ByteArray := prog_9_method_23_code
def yX7_looks : MethodName := ⟨RX7, "looks", "()V"⟩
abbrev cX7_proof : ByteArray := prog_9_method_24_code
def yX7_proof : MethodName := ⟨RX7, "proof", "(II)I"⟩
abbrev cX7_clear : ByteArray := prog_9_method_25_code
def yX7_clear : MethodName := ⟨RX7, "clear", "(I)I"⟩
abbrev cX7_ban : ByteArray := prog_9_method_26_code
def yX7_ban : MethodName := ⟨RX7, "ban", "(II)I"⟩
abbrev cX7_pass : ByteArray := prog_9_method_27_code
def yX7_pass : MethodName := ⟨RX7, "pass", "(I)I"⟩
abbrev cX7_stands : ByteArray := prog_9_method_28_code
def yX7_stands : MethodName := ⟨RX7, "stands", "(I)Z"⟩
abbrev cX7_ranked : ByteArray := prog_9_method_29_code
def yX7_ranked : MethodName := ⟨RX7, "ranked", "(III)I"⟩
abbrev cX7_user : ByteArray := prog_9_method_30_code
def yX7_user : MethodName := ⟨RX7, "user", "(I)I"⟩
abbrev cX7_skinOf : ByteArray := prog_9_method_31_code
def yX7_skinOf : MethodName := ⟨RX7, "skinOf", "(II)I"⟩
abbrev cX7_money : ByteArray := prog_9_method_32_code
def yX7_money : MethodName := ⟨RX7, "money", "(I)I"⟩
abbrev cX7_puts : ByteArray := prog_9_method_33_code
def yX7_puts : MethodName := ⟨RX7, "puts", "(I)V"⟩
abbrev cX7_putsNumber : ByteArray := prog_9_method_34_code
def yX7_putsNumber : MethodName := ⟨RX7, "putsNumber", "(I)V"⟩
abbrev cX7_label : ByteArray := prog_9_method_35_code
def yX7_label : MethodName := ⟨RX7, "label", "(II)C"⟩
def RJ5 : String := "java/lang/AbstractStringBuilder"
def TJ5 : u_T := fun k => match k with
  | _ => ("", "", "", false)
def tyJ5 : Nat → FieldType := fun k => match k with
  | _ => .int
abbrev wsJ50 : List Cond := u_ws RJ5 TJ5 0
theorem nmJ5 : ∀ a, a < 0 → ∀ b, b < 0 → a ≠ b → (TJ5 a).2.1 ≠ (TJ5 b).2.1 := by decide +kernel
theorem tyJ5_ok : ∀ k, k < 0 → parseFieldDescriptor (TJ5 k).2.2.1 = some (tyJ5 k) := by decide +kernel
abbrev cJ5_init_d00df : ByteArray := prog_10_method_2_code
def yJ5_init_d00df : MethodName := ⟨RJ5, "<init>", "(I)V"⟩
abbrev cJ5_length_8abf5 : ByteArray := prog_10_method_6_code
def yJ5_length_8abf5 : MethodName := ⟨RJ5, "length", "()I"⟩
abbrev cJ5_ensureCapacityInternal_d00df : ByteArray := prog_10_method_9_code
def yJ5_ensureCapacityInternal_d00df : MethodName := ⟨RJ5, "ensureCapacityInternal", "(I)V"⟩
abbrev cJ5_newCapacity_0f7a4 : ByteArray := prog_10_method_10_code
def yJ5_newCapacity_0f7a4 : MethodName := ⟨RJ5, "newCapacity", "(I)I"⟩
abbrev cJ5_inflate_da8c8 : ByteArray := prog_10_method_11_code
def yJ5_inflate_da8c8 : MethodName := ⟨RJ5, "inflate", "()V"⟩
abbrev cJ5_charAt_5068e : ByteArray := prog_10_method_14_code
def yJ5_charAt_5068e : MethodName := ⟨RJ5, "charAt", "(I)C"⟩
abbrev cJ5_append_3fe6f : ByteArray := prog_10_method_31_code
def yJ5_append_3fe6f : MethodName := ⟨RJ5, "append", "(C)Ljava/lang/AbstractStringBuilder;"⟩
abbrev cJ5_append_c97b9 : ByteArray := prog_10_method_32_code
def yJ5_append_c97b9 : MethodName := ⟨RJ5, "append", "(I)Ljava/lang/AbstractStringBuilder;"⟩
abbrev cJ5_isLatin1_aae02 : ByteArray := prog_10_method_68_code
def yJ5_isLatin1_aae02 : MethodName := ⟨RJ5, "isLatin1", "()Z"⟩
def RJx8e188 : String := "java/lang/Cloneable"
def TJx8e188 : u_T := fun k => match k with
  | _ => ("", "", "", false)
def tyJx8e188 : Nat → FieldType := fun k => match k with
  | _ => .int
abbrev wsJx8e1880 : List Cond := u_ws RJx8e188 TJx8e188 0
theorem nmJx8e188 : ∀ a, a < 0 → ∀ b, b < 0 → a ≠ b → (TJx8e188 a).2.1 ≠ (TJx8e188 b).2.1 := by decide +kernel
theorem tyJx8e188_ok : ∀ k, k < 0 → parseFieldDescriptor (TJx8e188 k).2.2.1 = some (tyJx8e188 k) := by decide +kernel
def RJ6 : String := "java/lang/Integer"
def TJ6 : u_T := fun k => match k with
  | _ => ("", "", "", false)
def tyJ6 : Nat → FieldType := fun k => match k with
  | _ => .int
abbrev wsJ60 : List Cond := u_ws RJ6 TJ6 0
theorem nmJ6 : ∀ a, a < 0 → ∀ b, b < 0 → a ≠ b → (TJ6 a).2.1 ≠ (TJ6 b).2.1 := by decide +kernel
theorem tyJ6_ok : ∀ k, k < 0 → parseFieldDescriptor (TJ6 k).2.2.1 = some (tyJ6 k) := by decide +kernel
abbrev cJ6_getChars_ba4f3 : ByteArray := prog_16_method_12_code
def yJ6_getChars_ba4f3 : MethodName := ⟨RJ6, "getChars", "(II[B)I"⟩
abbrev cJ6_stringSize_0f7a4 : ByteArray := prog_16_method_13_code
def yJ6_stringSize_0f7a4 : MethodName := ⟨RJ6, "stringSize", "(I)I"⟩
def RJ9 : String := "java/lang/Math"
def TJ9 : u_T := fun k => match k with
  | _ => ("", "", "", false)
def tyJ9 : Nat → FieldType := fun k => match k with
  | _ => .int
abbrev wsJ90 : List Cond := u_ws RJ9 TJ9 0
theorem nmJ9 : ∀ a, a < 0 → ∀ b, b < 0 → a ≠ b → (TJ9 a).2.1 ≠ (TJ9 b).2.1 := by decide +kernel
theorem tyJ9_ok : ∀ k, k < 0 → parseFieldDescriptor (TJ9 k).2.2.1 = some (tyJ9 k) := by decide +kernel
abbrev cJ9_max_7cf53 : ByteArray := prog_17_method_65_code
def yJ9_max_7cf53 : MethodName := ⟨RJ9, "max", "(II)I"⟩
abbrev cJ9_min_7cf53 : ByteArray := prog_17_method_69_code
def yJ9_min_7cf53 : MethodName := ⟨RJ9, "min", "(II)I"⟩
def RJ0 : String := "java/lang/String"
def TJ0 : u_T := fun k => match k with
  | _ => ("", "", "", false)
def tyJ0 : Nat → FieldType := fun k => match k with
  | _ => .int
abbrev wsJ00 : List Cond := u_ws RJ0 TJ0 0
theorem nmJ0 : ∀ a, a < 0 → ∀ b, b < 0 → a ≠ b → (TJ0 a).2.1 ≠ (TJ0 b).2.1 := by decide +kernel
theorem tyJ0_ok : ∀ k, k < 0 → parseFieldDescriptor (TJ0 k).2.2.1 = some (tyJ0 k) := by decide +kernel
abbrev cJ0_checkIndex_df160 : ByteArray := prog_19_method_155_code
def yJ0_checkIndex_df160 : MethodName := ⟨RJ0, "checkIndex", "(II)V"⟩
abbrev cJ0_checkBoundsOffCount_cabcc : ByteArray := prog_19_method_157_code
def yJ0_checkBoundsOffCount_cabcc : MethodName := ⟨RJ0, "checkBoundsOffCount", "(III)I"⟩
abbrev cJ0_checkBoundsBeginEnd_23922 : ByteArray := prog_19_method_158_code
def yJ0_checkBoundsBeginEnd_23922 : MethodName := ⟨RJ0, "checkBoundsBeginEnd", "(III)V"⟩
def RJ4 : String := "java/lang/StringBuilder"
def TJ4 : u_T := fun k => match k with
  | 0 => ("java/lang/AbstractStringBuilder", "value", "[B", false)
  | 1 => ("java/lang/AbstractStringBuilder", "coder", "B", false)
  | 2 => ("java/lang/AbstractStringBuilder", "maybeLatin1", "Z", false)
  | _ => ("java/lang/AbstractStringBuilder", "count", "I", false)
def tyJ4 : Nat → FieldType := fun k => match k with
  | 0 => .array .byte
  | 1 => .byte
  | 2 => .boolean
  | _ => .int
abbrev wsJ40 : List Cond := u_ws RJ4 TJ4 4
theorem nmJ4 : ∀ a, a < 4 → ∀ b, b < 4 → a ≠ b → (TJ4 a).2.1 ≠ (TJ4 b).2.1 := by decide +kernel
theorem tyJ4_ok : ∀ k, k < 4 → parseFieldDescriptor (TJ4 k).2.2.1 = some (tyJ4 k) := by decide +kernel
abbrev cJ4_init_da8c8 : ByteArray := prog_20_method_1_code
def yJ4_init_da8c8 : MethodName := ⟨RJ4, "<init>", "()V"⟩
abbrev cJ4_append_cf468 : ByteArray := prog_20_method_14_code
def yJ4_append_cf468 : MethodName := ⟨RJ4, "append", "(C)Ljava/lang/StringBuilder;"⟩
abbrev cJ4_append_bf812 : ByteArray := prog_20_method_15_code
def yJ4_append_bf812 : MethodName := ⟨RJ4, "append", "(I)Ljava/lang/StringBuilder;"⟩
abbrev cJ4_charAt_5068e : ByteArray := prog_20_method_88_code
def yJ4_charAt_5068e : MethodName := ⟨RJ4, "charAt", "(I)C"⟩
abbrev cJ4_length_8abf5 : ByteArray := prog_20_method_93_code
def yJ4_length_8abf5 : MethodName := ⟨RJ4, "length", "()I"⟩
def RJ1 : String := "java/lang/StringLatin1"
def TJ1 : u_T := fun k => match k with
  | _ => ("", "", "", false)
def tyJ1 : Nat → FieldType := fun k => match k with
  | _ => .int
abbrev wsJ10 : List Cond := u_ws RJ1 TJ1 0
theorem nmJ1 : ∀ a, a < 0 → ∀ b, b < 0 → a ≠ b → (TJ1 a).2.1 ≠ (TJ1 b).2.1 := by decide +kernel
theorem tyJ1_ok : ∀ k, k < 0 → parseFieldDescriptor (TJ1 k).2.2.1 = some (tyJ1 k) := by decide +kernel
abbrev cJ1_canEncode_fc78d : ByteArray := prog_21_method_3_code
def yJ1_canEncode_fc78d : MethodName := ⟨RJ1, "canEncode", "(C)Z"⟩
abbrev cJ1_inflate_0e8fd : ByteArray := prog_21_method_50_code
def yJ1_inflate_0e8fd : MethodName := ⟨RJ1, "inflate", "([BI[BII)V"⟩
def RJ2 : String := "java/lang/StringUTF16"
def TJ2 : u_T := fun k => match k with
  | _ => ("", "", "", false)
def tyJ2 : Nat → FieldType := fun k => match k with
  | _ => .int
abbrev wsJ20 : List Cond := u_ws RJ2 TJ2 0
theorem nmJ2 : ∀ a, a < 0 → ∀ b, b < 0 → a ≠ b → (TJ2 a).2.1 ≠ (TJ2 b).2.1 := by decide +kernel
theorem tyJ2_ok : ∀ k, k < 0 → parseFieldDescriptor (TJ2 k).2.2.1 = some (tyJ2 k) := by decide +kernel
abbrev cJ2_newBytesFor_77867 : ByteArray := prog_22_method_2_code
def yJ2_newBytesFor_77867 : MethodName := ⟨RJ2, "newBytesFor", "(I)[B"⟩
abbrev cJ2_newBytesLength_0f7a4 : ByteArray := prog_22_method_3_code
def yJ2_newBytesLength_0f7a4 : MethodName := ⟨RJ2, "newBytesLength", "(I)I"⟩
abbrev cJ2_putChar_b72d1 : ByteArray := prog_22_method_4_code
def yJ2_putChar_b72d1 : MethodName := ⟨RJ2, "putChar", "([BII)V"⟩
abbrev cJ2_getChar_3b067 : ByteArray := prog_22_method_5_code
def yJ2_getChar_3b067 : MethodName := ⟨RJ2, "getChar", "([BI)C"⟩
abbrev cJ2_length_9d52b : ByteArray := prog_22_method_6_code
def yJ2_length_9d52b : MethodName := ⟨RJ2, "length", "([B)I"⟩
abbrev cJ2_putCharSB_b72d1 : ByteArray := prog_22_method_71_code
def yJ2_putCharSB_b72d1 : MethodName := ⟨RJ2, "putCharSB", "([BII)V"⟩
abbrev cJ2_getChars_46870 : ByteArray := prog_22_method_77_code
def yJ2_getChars_46870 : MethodName := ⟨RJ2, "getChars", "(III[B)I"⟩
abbrev cJ2_inflate_0e8fd : ByteArray := prog_22_method_86_code
def yJ2_inflate_0e8fd : MethodName := ⟨RJ2, "inflate", "([BI[BII)V"⟩
abbrev cJ2_getChars_ba4f3 : ByteArray := prog_22_method_89_code
def yJ2_getChars_ba4f3 : MethodName := ⟨RJ2, "getChars", "(II[B)I"⟩
abbrev cJ2_checkIndex_2214a : ByteArray := prog_22_method_91_code
def yJ2_checkIndex_2214a : MethodName := ⟨RJ2, "checkIndex", "(I[B)V"⟩
abbrev cJ2_checkBoundsBeginEnd_d044e : ByteArray := prog_22_method_93_code
def yJ2_checkBoundsBeginEnd_d044e : MethodName := ⟨RJ2, "checkBoundsBeginEnd", "(II[B)V"⟩
abbrev cJ2_checkBoundsOffCount_d044e : ByteArray := prog_22_method_94_code
def yJ2_checkBoundsOffCount_d044e : MethodName := ⟨RJ2, "checkBoundsOffCount", "(II[B)V"⟩
def RJ10 : String := "java/lang/System"
def TJ10 : u_T := fun k => match k with
  | _ => ("", "", "", false)
def tyJ10 : Nat → FieldType := fun k => match k with
  | _ => .int
abbrev wsJ100 : List Cond := u_ws RJ10 TJ10 0
theorem nmJ10 : ∀ a, a < 0 → ∀ b, b < 0 → a ≠ b → (TJ10 a).2.1 ≠ (TJ10 b).2.1 := by decide +kernel
theorem tyJ10_ok : ∀ k, k < 0 → parseFieldDescriptor (TJ10 k).2.2.1 = some (tyJ10 k) := by decide +kernel
def RJ7 : String := "java/util/Arrays"
def TJ7 : u_T := fun k => match k with
  | _ => ("", "", "", false)
def tyJ7 : Nat → FieldType := fun k => match k with
  | _ => .int
abbrev wsJ70 : List Cond := u_ws RJ7 TJ7 0
theorem nmJ7 : ∀ a, a < 0 → ∀ b, b < 0 → a ≠ b → (TJ7 a).2.1 ≠ (TJ7 b).2.1 := by decide +kernel
theorem tyJ7_ok : ∀ k, k < 0 → parseFieldDescriptor (TJ7 k).2.2.1 = some (tyJ7 k) := by decide +kernel
abbrev cJ7_copyOf_9075b : ByteArray := prog_25_method_121_code
def yJ7_copyOf_9075b : MethodName := ⟨RJ7, "copyOf", "([BI)[B"⟩
def RJ8 : String := "jdk/internal/util/ArraysSupport"
def TJ8 : u_T := fun k => match k with
  | _ => ("", "", "", false)
def tyJ8 : Nat → FieldType := fun k => match k with
  | _ => .int
abbrev wsJ80 : List Cond := u_ws RJ8 TJ8 0
theorem nmJ8 : ∀ a, a < 0 → ∀ b, b < 0 → a ≠ b → (TJ8 a).2.1 ≠ (TJ8 b).2.1 := by decide +kernel
theorem tyJ8_ok : ∀ k, k < 0 → parseFieldDescriptor (TJ8 k).2.2.1 = some (tyJ8 k) := by decide +kernel
abbrev cJ8_newLength_cabcc : ByteArray := prog_26_method_27_code
def yJ8_newLength_cabcc : MethodName := ⟨RJ8, "newLength", "(III)I"⟩
abbrev cJ8_hugeLength_7cf53 : ByteArray := prog_26_method_28_code
def yJ8_hugeLength_7cf53 : MethodName := ⟨RJ8, "hugeLength", "(II)I"⟩
def RJ3 : String := "jdk/internal/util/Preconditions"
def TJ3 : u_T := fun k => match k with
  | _ => ("", "", "", false)
def tyJ3 : Nat → FieldType := fun k => match k with
  | _ => .int
abbrev wsJ30 : List Cond := u_ws RJ3 TJ3 0
theorem nmJ3 : ∀ a, a < 0 → ∀ b, b < 0 → a ≠ b → (TJ3 a).2.1 ≠ (TJ3 b).2.1 := by decide +kernel
theorem tyJ3_ok : ∀ k, k < 0 → parseFieldDescriptor (TJ3 k).2.2.1 = some (tyJ3 k) := by decide +kernel
abbrev cJ3_checkIndex_8e157 : ByteArray := prog_27_method_11_code
def yJ3_checkIndex_8e157 : MethodName := ⟨RJ3, "checkIndex", "(IILjava/util/function/BiFunction;)I"⟩
abbrev cJ3_checkFromToIndex_8c36e : ByteArray := prog_27_method_12_code
def yJ3_checkFromToIndex_8c36e : MethodName := ⟨RJ3, "checkFromToIndex", "(IIILjava/util/function/BiFunction;)I"⟩
abbrev cJ3_checkFromIndexSize_8c36e : ByteArray := prog_27_method_13_code
def yJ3_checkFromIndexSize_8c36e : MethodName := ⟨RJ3, "checkFromIndexSize", "(IIILjava/util/function/BiFunction;)I"⟩
def RL : String := "SkinLeagueLaw"
abbrev cL_player : ByteArray := method_3_code
def yL_player : MethodName := ⟨RL, "player", "(LSkinLeague;[J)I"⟩
abbrev cL_room : ByteArray := method_4_code
def yL_room : MethodName := ⟨RL, "room", "(LSkinLeague;II[J)I"⟩
abbrev cL_match : ByteArray := method_5_code
def yL_match : MethodName := ⟨RL, "match", "(LSkinLeague;III[J)I"⟩
abbrev cL_end : ByteArray := method_6_code
def yL_end : MethodName := ⟨RL, "end", "(LSkinLeague;[J)I"⟩
abbrev cL_sell : ByteArray := method_7_code
def yL_sell : MethodName := ⟨RL, "sell", "(LSkinLeague;III[J)I"⟩
abbrev cL_lend : ByteArray := method_8_code
def yL_lend : MethodName := ⟨RL, "lend", "(LSkinLeague;III[J)I"⟩
abbrev cL_proof : ByteArray := method_9_code
def yL_proof : MethodName := ⟨RL, "proof", "(LSkinLeague;II[J)I"⟩
abbrev cL_clear : ByteArray := method_10_code
def yL_clear : MethodName := ⟨RL, "clear", "(LSkinLeague;I[J)I"⟩
abbrev cL_ban : ByteArray := method_11_code
def yL_ban : MethodName := ⟨RL, "ban", "(LSkinLeague;II[J)I"⟩
abbrev cL_pass : ByteArray := method_12_code
def yL_pass : MethodName := ⟨RL, "pass", "(LSkinLeague;I[J)I"⟩
abbrev cL_stands : ByteArray := method_13_code
def yL_stands : MethodName := ⟨RL, "stands", "(LSkinLeague;I[J)I"⟩
abbrev cL_ranked : ByteArray := method_14_code
def yL_ranked : MethodName := ⟨RL, "ranked", "(LSkinLeague;III[J)I"⟩
abbrev cL_skinOf : ByteArray := method_15_code
def yL_skinOf : MethodName := ⟨RL, "skinOf", "(LSkinLeague;II[J)I"⟩
abbrev cL_money : ByteArray := method_16_code
def yL_money : MethodName := ⟨RL, "money", "(LSkinLeague;I[J)I"⟩
abbrev cL_label : ByteArray := method_17_code
def yL_label : MethodName := ⟨RL, "label", "(LSkinLeague;II[J)I"⟩
abbrev cL_law : ByteArray := code
def yL_law : MethodName := ⟨RL, "law", "([I)Z"⟩
abbrev vwCl : List vw_C := [(RJ4, TJ4, 4), (RX0, TX0, 4), (RX1, TX1, 4), (RX2, TX2, 2), (RX3, TX3, 3), (RX4, TX4, 3), (RX5, TX5, 10), (RX6, TX6, 10), (RX7, TX7, 30)]
end
section
/-! The world as a function from addresses to cells: rows over it. Rows of this file are ours; their proofs follow the kit's own (va_get, va_put, va_iast ..). -/
abbrev Mem : Type := Nat → Option va_E
def mU (M : Mem) (a : Nat) (e : va_E) : Mem := fun q => if q = a then some e else M q
theorem mU_eq (M : Mem) (a : Nat) (e : va_E) : mU M a e a = some e := by simp [mU]
theorem mU_ne {M : Mem} {a b : Nat} {e : va_E} (h : b ≠ a) : mU M a e b = M b := by simp [mU, h]
theorem mU_at {M : Mem} {a b : Nat} {e e0 : va_E} (h : b ≠ a) (hb : M b = some e0) : mU M a e b = some e0 := by rw [mU_ne h]; exact hb
theorem mem_ne {M : Mem} {a b : Nat} {e e0 : va_E} (ha : M a = some e) (hb : M b = some e0) (h : e ≠ e0) : b ≠ a := fun q => by subst q; exact h (Option.some.inj (ha.symm.trans hb))
abbrev mG : Type := va_G × (Nat → ClassId)
abbrev mTys (G : mG) : List (ClassId × FieldType) := [(G.2 0, .int), (G.2 1, .long), (G.2 2, .byte), (G.2 3, .object RX1), (G.2 4, .object RX0), (G.2 5, .object RX4), (G.2 6, .object RX5), (G.2 7, .object RX2), (G.2 8, .object RX3)]
def mK (G : mG) (U : State) : Prop := va_K G.1 vwCl (mTys G) U
theorem mK.moved {G : mG} {u U : State} (hvm : u.vm.Alike U.vm) (h : mK G u) : mK G U := va_K.moved hvm h
/-- the words that stay true -/
def ktN (w : Cond) : Bool := match w with
  | .fieldLinkNest _ _ _ _ _ _ => true
  | .methodLinkNest _ _ _ _ => true
  | .declares _ => true
  | .castable _ _ => true
  | _ => false
def ktA (w : Cond) : Bool := match w with
  | .arrayOver (.object _) => true
  | _ => false
def ktok (w : Cond) : Bool := goodWord w || (ktN w || ktA w)
def KTW : List Cond := lw_tbl.filter ktok
def KT (U : State) : Prop := ∀ w ∈ KTW, w.before #[] U = true
theorem ktN_tabs {w : Cond} (h : ktN w = true) : w.onTables = true := by
  cases w <;> first | rfl | (simp [ktN] at h)
theorem ktA_is {w : Cond} (h : ktA w = true) : ∃ C : String, w = .arrayOver (.object C) := by
  unfold ktA at h
  split at h
  · exact ⟨_, rfl⟩
  · cases h
theorem KT.one {s U : State} {args a' : Array Value} {w : Cond} (hW : s.WarmedH U.vm) (hk : ktok w = true) (h : w.before args s = true) : w.before a' U = true := by
  simp only [ktok, Bool.or_eq_true] at hk
  rcases hk with hk | hk | hk
  · exact word_at hW (good_of_word hk) h
  · have h0 : w.before #[] s = true := va_tabs (ktN_tabs hk) rfl h
    have h1 : w.before #[] U = true := by
      cases w <;> first | exact va_Nw.warmF hW h0 | exact va_Nw.warmM hW h0 | exact va_Nw.warmD hW h0 | exact va_Nw.warmC hW h0 | (simp [ktN] at hk)
    exact va_tabs (ktN_tabs hk) rfl h1
  · obtain ⟨C, rfl⟩ := ktA_is hk
    exact va_AO.use (va_AO.moved hW.alike (va_AO.of h))
theorem KT.use {s : State} {args : Array Value} {w : Cond} (h : KT s) (hw : w ∈ KTW) : w.before args s = true := KT.one (State.WarmedH.refl s) (List.mem_filter.mp hw).2 (h w hw)
theorem KT.ws {s : State} {args : Array Value} (h : KT s) : ∀ w ∈ KTW, w.before args s = true := fun _ hw => h.use hw
theorem KT.warm {s U : State} (hW : s.WarmedH U.vm) (h : KT s) : KT U := fun w hw => KT.one hW (List.mem_filter.mp hw).2 (h w hw)
theorem KT.of {s : State} {args : Array Value} (h : ∀ w ∈ lw_tbl, w.before args s = true) : KT s := fun w hw => KT.one (State.WarmedH.refl s) (List.mem_filter.mp hw).2 (h w (List.mem_filter.mp hw).1)
theorem kt_in {w : Cond} (i : Nat) (h : lw_tbl[i]? = some w) (hk : ktok w = true) : w ∈ KTW := List.mem_filter.mpr ⟨List.mem_of_getElem? h, hk⟩
/-- the memory lies in the heap -/
def mP (G : mG) (M : Mem) (H : Heap) : Prop := ∀ (a : Nat) (e : va_E), M a = some e → va_at G.1 vwCl (a, e) H
def mIn (A : Nat → Prop) (M : Mem) : Prop := ∀ (a : Nat) (e : va_E), M a = some e → A a
def mW (G : mG) (A : Nat → Prop) (H0 : Heap) (M : Mem) (H : Heap) (locs : List Loc) : Prop := mP G M H ∧ mIn A M ∧ va_S A H0 H locs ∧ ∀ q, H0.size ≤ q → A q
theorem mP.one {G : mG} {M : Mem} {H : Heap} (h : mP G M H) {a : Nat} {e : va_E} (hc : M a = some e) : va_P G.1 vwCl [(a, e)] H := by
  intro k q hk
  cases k with
  | zero => cases hk; exact h a e hc
  | succ k => simp at hk
theorem mP.two {G : mG} {M : Mem} {H : Heap} (h : mP G M H) {a b : Nat} {e f : va_E} (hc : M a = some e) (hd : M b = some f) : va_P G.1 vwCl [(a, e), (b, f)] H := by
  intro k q hk
  match k with
  | 0 => cases hk; exact h a e hc
  | 1 => cases hk; exact h b f hd
  | k + 2 => simp at hk
theorem mP.lt {G : mG} {M : Mem} {H : Heap} (h : mP G M H) {a : Nat} {e : va_E} (hc : M a = some e) : a < H.size := (h a e hc).lt
theorem mW.put {G : mG} {A : Nat → Prop} {H0 : Heap} {M : Mem} {H : Heap} {locs : List Loc} (h : mW G A H0 M H locs) {a : Nat} {e0 e : va_E} (hc : M a = some e0) {H1 : Heap} (he : va_at G.1 vwCl (a, e) H1) (z : H1.size = H.size) (oq : ∀ q : Nat, q ≠ a → H1[q]? = H[q]?) (k : Nat) : mW G A H0 (mU M a e) H1 (locs ++ [⟨a, k⟩]) := by
  refine ⟨fun q e' hq => ?_, fun q e' hq => ?_, h.2.2.1.put z oq (h.2.1 a e0 hc), h.2.2.2⟩
  · by_cases hqa : q = a
    · subst hqa
      rw [mU_eq] at hq
      cases hq
      exact he
    · rw [mU_ne hqa] at hq
      exact (h.1 q e' hq).kept (oq q hqa)
  · by_cases hqa : q = a
    · subst hqa
      exact h.2.1 q e0 hc
    · rw [mU_ne hqa] at hq
      exact h.2.1 q e' hq
theorem mW.push {G : mG} {A : Nat → Prop} {H0 : Heap} {M : Mem} {H : Heap} {locs : List Loc} (h : mW G A H0 M H locs) {e : va_E} {H1 : Heap} (he : va_at G.1 vwCl (H.size, e) H1) (z : H1.size = H.size + 1) (oq : ∀ q : Nat, q < H.size → H1[q]? = H[q]?) : M H.size = none ∧ mW G A H0 (mU M H.size e) H1 locs := by
  have hn : M H.size = none := by
    cases hq : M H.size with
    | none => rfl
    | some e' => exact absurd (h.1.lt hq) (Nat.lt_irrefl _)
  refine ⟨hn, fun q e' hq => ?_, fun q e' hq => ?_, ⟨Nat.le_trans h.2.2.1.1 (by omega), fun x h1 h2 => (oq x (Nat.lt_of_lt_of_le h1 h.2.2.1.1)).trans (h.2.2.1.2.1 x h1 h2), h.2.2.1.2.2⟩, h.2.2.2⟩
  · by_cases hqa : q = H.size
    · subst hqa
      rw [mU_eq] at hq
      cases hq
      exact he
    · rw [mU_ne hqa] at hq
      exact (h.1 q e' hq).kept (oq q (h.1.lt hq))
  · by_cases hqa : q = H.size
    · subst hqa
      exact h.2.2.2 _ h.2.2.1.1
    · rw [mU_ne hqa] at hq
      exact h.2.1 q e' hq
def Cx (p : Program) (c : Code) (s : State) (m : MethodId) (cc : ByteArray) (own : String) (nL : Nat) (G : mG) : Prop :=
  p.tables.exec = Jvm.exec ∧ c.code = cc ∧ c.maxLocals = nL ∧ s.vm.findClass own = some m.cls ∧ KT s ∧ mK G s
section MROWS
variable {p : Program} {l : Launch} {e : Env} {R : Room} {s : State} {m : MethodId} {args : Array Value} {below : List Frame} {meth : Method} {c : Code} {H : Heap} {locs : List Loc} {cells slots : Nat} {Q : State → Prop}
variable {cc : ByteArray} {pc nL : Nat} {ls : Array Slot} {rest : List Value} {G : mG} {A : Nat → Prop} {a : Nat} {M : Mem} {own : String} {H0 : Heap}
theorem mg_get (X : Cx p c s m cc own nL G) (hM : mW G A H0 M H locs) {ci k index N : Nat} {C : String} {T : u_T} (hci : vwCl[ci]? = some (C, T, N)) (hin : ∀ w ∈ u_ws C T N, w ∈ KTW) (hk : k < N) (hl : Cond.fieldLink own index (T k).1 (T k).2.1 (T k).2.2.1 ∈ KTW) (hdg : decode cc pc = .ok (.getfield index, 3)) {fs : List Value} (hc : M a = some (.inr (ci, fs))) {v : Value} (hv : fs[k]? = some v)
    (kk : W p l e R s m args below meth c H locs cells slots Q (F0 m (pc + 3) ls (v :: rest))) : W p l e R s m args below meth c H locs cells slots Q (F0 m pc ls (.ref a :: rest)) :=
  va_get (D := G.1) (cl := vwCl) (tys := mTys G) (ws := [(a, .inr (ci, fs))]) X.1 X.2.1 (Ts := KTW) X.2.2.2.2.1.ws hin X.2.2.2.1 X.2.2.2.2.2 (hM.1.one hc) 0 rfl hci k hk (X.2.2.2.2.1.use hl) (fun _ h => h) hv hdg kk
theorem mg_getN (X : Cx p c s m cc own nL G) (hM : mW G A H0 M H locs) {ci k index N : Nat} {C host : String} {T : u_T} (hci : vwCl[ci]? = some (C, T, N)) (hin : ∀ w ∈ u_ws C T N, w ∈ KTW) (hk : k < N) (hl : Cond.fieldLinkNest own index (T k).1 (T k).2.1 (T k).2.2.1 host ∈ KTW) (hdg : decode cc pc = .ok (.getfield index, 3)) {fs : List Value} (hc : M a = some (.inr (ci, fs))) {v : Value} (hv : fs[k]? = some v)
    (kk : W p l e R s m args below meth c H locs cells slots Q (F0 m (pc + 3) ls (v :: rest))) : W p l e R s m args below meth c H locs cells slots Q (F0 m pc ls (.ref a :: rest)) :=
  va_getN (D := G.1) (cl := vwCl) (tys := mTys G) (ws := [(a, .inr (ci, fs))]) X.1 X.2.1 (Ts := KTW) X.2.2.2.2.1.ws hin X.2.2.2.1 X.2.2.2.2.2 (hM.1.one hc) 0 rfl hci k hk (X.2.2.2.2.1.use hl) (fun _ h => h) hv hdg kk
theorem mg_put (X : Cx p c s m cc own nL G) (hM : mW G A H0 M H locs) {ci k index N : Nat} {C : String} {T : u_T} (ty0 : Nat → FieldType) (hty : ∀ k, k < N → parseFieldDescriptor (T k).2.2.1 = some (ty0 k)) (hnm : ∀ a, a < N → ∀ b, b < N → a ≠ b → (T a).2.1 ≠ (T b).2.1) (hci : vwCl[ci]? = some (C, T, N)) (hin : ∀ w ∈ u_ws C T N, w ∈ KTW) (hk : k < N) (hl : Cond.fieldLink own index (T k).1 (T k).2.1 (T k).2.2.1 ∈ KTW) (hfin : (T k).2.2.2 = false) (hdg : decode cc pc = .ok (.putfield index, 3)) {fs : List Value} (hc : M a = some (.inr (ci, fs))) {v : Value} (hn : narrow (ty0 k) v = v) (hfit : fits (ty0 k) v = true) (hlen : k < fs.length)
    (kk : ∀ (H1 : Heap) (locs1 : List Loc), mW G A H0 (mU M a (.inr (ci, fs.set k v))) H1 locs1 → W p l e R s m args below meth c H1 locs1 cells slots Q (F0 m (pc + 3) ls rest)) : W p l e R s m args below meth c H locs cells slots Q (F0 m pc ls (v :: .ref a :: rest)) := by
  have hts : ∀ w ∈ KTW, w.before args s = true := X.2.2.2.2.1.ws
  have hK : va_K G.1 vwCl (mTys G) s := X.2.2.2.2.2
  have hap := va_apart (own := own) hts hin ty0 hty hnm hK hci
  obtain ⟨r, h1, cell, q1, q2, q3, q4⟩ := hM.1 a _ hc
  have hr : r = (C, T, N) := Option.some.inj (h1.symm.trans hci)
  subst hr
  obtain ⟨hS, hfc, kC, hkC, hkind⟩ := hK.1 ci _ hci
  obtain ⟨cf, kf, fi, f, hi, hsl⟩ := hS k hk
  have hlay := hts _ (hin _ (u_in_lay hk))
  unfold u_lay at hlay
  rw [if_neg (by rw [hfin]; decide)] at hlay
  have hst := (u_facts hfc hkC (u_lays hts hin hk) hi).1
  have h6 := u_store hfc hkC hkind hlay hi (hty k hk) hn hfit
  refine W.putK X.1 X.2.1 (f := f) ⟨X.2.2.2.1, X.2.2.2.2.1.use hl, ⟨_, _, _, hi⟩, hst⟩ (by rw [q2]; exact h6) q1 q3 (by rw [hsl]; exact k2_hasslot (q4 k hk)) rfl rfl hdg fun H' e1 e2 e3 => ?_
  rw [hsl] at e1 ⊢
  exact kk H' _ (hM.put (e := .inr (ci, fs.set k v)) hc ⟨_, hci, t_OB.to (V := updV (vp_V fs) k v) ⟨_, e1, q2, q3, t_set q4 hap hk v⟩ (fun j _ => vp_updV_set hlen v j)⟩ e2 e3 _)
theorem mg_putN (X : Cx p c s m cc own nL G) (hM : mW G A H0 M H locs) {ci k index N : Nat} {C host : String} {T : u_T} (ty0 : Nat → FieldType) (hty : ∀ k, k < N → parseFieldDescriptor (T k).2.2.1 = some (ty0 k)) (hnm : ∀ a, a < N → ∀ b, b < N → a ≠ b → (T a).2.1 ≠ (T b).2.1) (hci : vwCl[ci]? = some (C, T, N)) (hin : ∀ w ∈ u_ws C T N, w ∈ KTW) (hk : k < N) (hl : Cond.fieldLinkNest own index (T k).1 (T k).2.1 (T k).2.2.1 host ∈ KTW) (hfin : (T k).2.2.2 = false) (hdg : decode cc pc = .ok (.putfield index, 3)) {fs : List Value} (hc : M a = some (.inr (ci, fs))) {v : Value} (hn : narrow (ty0 k) v = v) (hfit : fits (ty0 k) v = true) (hlen : k < fs.length)
    (kk : ∀ (H1 : Heap) (locs1 : List Loc), mW G A H0 (mU M a (.inr (ci, fs.set k v))) H1 locs1 → W p l e R s m args below meth c H1 locs1 cells slots Q (F0 m (pc + 3) ls rest)) : W p l e R s m args below meth c H locs cells slots Q (F0 m pc ls (v :: .ref a :: rest)) := by
  have hts : ∀ w ∈ KTW, w.before args s = true := X.2.2.2.2.1.ws
  have hK : va_K G.1 vwCl (mTys G) s := X.2.2.2.2.2
  have hap := va_apart (own := own) hts hin ty0 hty hnm hK hci
  obtain ⟨r, h1, cell, q1, q2, q3, q4⟩ := hM.1 a _ hc
  have hr : r = (C, T, N) := Option.some.inj (h1.symm.trans hci)
  subst hr
  obtain ⟨hS, hfc, kC, hkC, hkind⟩ := hK.1 ci _ hci
  obtain ⟨cf, kf, fi, f, hi, hsl⟩ := hS k hk
  have hlay := hts _ (hin _ (u_in_lay hk))
  unfold u_lay at hlay
  rw [if_neg (by rw [hfin]; decide)] at hlay
  have hst := (u_facts hfc hkC (u_lays hts hin hk) hi).1
  have h6 := u_store hfc hkC hkind hlay hi (hty k hk) hn hfit
  refine va_WputK X.1 X.2.1 (f := f) X.2.2.2.1 (X.2.2.2.2.1.use hl) hi hst (by rw [q2]; exact h6) q1 q3 (by rw [hsl]; exact k2_hasslot (q4 k hk)) rfl rfl hdg fun H' e1 e2 e3 => ?_
  rw [hsl] at e1 ⊢
  exact kk H' _ (hM.put (e := .inr (ci, fs.set k v)) hc ⟨_, hci, t_OB.to (V := updV (vp_V fs) k v) ⟨_, e1, q2, q3, t_set q4 hap hk v⟩ (fun j _ => vp_updV_set hlen v j)⟩ e2 e3 _)
theorem mg_putF (X : Cx p c s m cc own nL G) (hM : mW G A H0 M H locs) {ci k index N : Nat} {C : String} {T : u_T} (ty0 : Nat → FieldType) (hty : ∀ k, k < N → parseFieldDescriptor (T k).2.2.1 = some (ty0 k)) (hnm : ∀ a, a < N → ∀ b, b < N → a ≠ b → (T a).2.1 ≠ (T b).2.1) (hci : vwCl[ci]? = some (C, T, N)) (hin : ∀ w ∈ u_ws C T N, w ∈ KTW) (hk : k < N) (hl : Cond.fieldLink own index (T k).1 (T k).2.1 (T k).2.2.1 ∈ KTW) (hfin : (T k).2.2.2 = true) (hdecl : (T k).1 = own) (hdg : decode cc pc = .ok (.putfield index, 3)) (hin2 : meth.name = "<init>") {fs : List Value} (hc : M a = some (.inr (ci, fs))) {v : Value} (hn : narrow (ty0 k) v = v) (hfit : fits (ty0 k) v = true) (hlen : k < fs.length)
    (kk : ∀ (H1 : Heap) (locs1 : List Loc), mW G A H0 (mU M a (.inr (ci, fs.set k v))) H1 locs1 → W p l e R s m args below meth c H1 locs1 cells slots Q (F0 m (pc + 3) ls rest)) : W p l e R s m args below meth c H locs cells slots Q (F0 m pc ls (v :: .ref a :: rest)) := by
  have hts : ∀ w ∈ KTW, w.before args s = true := X.2.2.2.2.1.ws
  have hK : va_K G.1 vwCl (mTys G) s := X.2.2.2.2.2
  have hap := va_apart (own := own) hts hin ty0 hty hnm hK hci
  obtain ⟨r, h1, cell, q1, q2, q3, q4⟩ := hM.1 a _ hc
  have hr : r = (C, T, N) := Option.some.inj (h1.symm.trans hci)
  subst hr
  obtain ⟨hS, hfc, kC, hkC, hkind⟩ := hK.1 ci _ hci
  obtain ⟨cf, kf, fi, f, hi, hsl⟩ := hS k hk
  have hlay := hts _ (hin _ (u_in_lay hk))
  unfold u_lay at hlay
  rw [if_pos hfin] at hlay
  have hst := (u_facts hfc hkC (u_lays hts hin hk) hi).1
  have hown := X.2.2.2.1
  have hcf : m.cls = cf := by
    obtain ⟨_, _, c', _, _, _, -, -, hf', -, -, -, hown2, -⟩ := Cond.laysFinal_spec hlay
    have e1 : c' = cf := by have := hi.symm.trans hf'; simp at this; exact this.1.symm
    rw [hdecl] at hown2
    rw [← e1]; exact Option.some.inj (hown.symm.trans hown2)
  have h6 := u_fits hfc hkC hkind (Or.inr hlay) hi (hty k hk) hn hfit
  refine W.putFinK X.1 X.2.1 hown (X.2.2.2.2.1.use hl) hi hst hcf hin2 (by rw [q2]; exact h6) q1 q3 (by rw [hsl]; exact k2_hasslot (q4 k hk)) rfl rfl hdg fun H' e1 e2 e3 => ?_
  rw [hsl] at e1 ⊢
  exact kk H' _ (hM.put (e := .inr (ci, fs.set k v)) hc ⟨_, hci, t_OB.to (V := updV (vp_V fs) k v) ⟨_, e1, q2, q3, t_set q4 hap hk v⟩ (fun j _ => vp_updV_set hlen v j)⟩ e2 e3 _)
theorem mg_new (X : Cx p c s m cc own nL G) (hM : mW G A H0 M H locs) {ci index N : Nat} {C : String} {T : u_T} (ty : Nat → FieldType) (hty : ∀ k, k < N → parseFieldDescriptor (T k).2.2.1 = some (ty k)) (hci : vwCl[ci]? = some (C, T, N)) (hin : ∀ w ∈ u_ws C T N, w ∈ KTW) (hcl : Cond.classLink own index C ∈ KTW) (hinst : Cond.instantiable C N ∈ KTW) (hini : Cond.initialized C ∈ KTW) {fs : List Value} (hfs : ∀ j, j < N → defaultValue (ty j) = vp_V fs j) (hdg : decode cc pc = .ok (.new index, 3)) (hcells : cells + 1 ≤ R.cells) (hslots : slots + N ≤ R.slots)
    (kk : ∀ (q : Nat) (H1 : Heap), M q = none → mW G A H0 (mU M q (.inr (ci, fs))) H1 locs → W p l e R s m args below meth c H1 locs (cells + 1) (slots + N) Q (F0 m (pc + 3) ls (.ref q :: rest))) : W p l e R s m args below meth c H locs cells slots Q (F0 m pc ls rest) := by
  have hts : ∀ w ∈ KTW, w.before args s = true := X.2.2.2.2.1.ws
  have hK : va_K G.1 vwCl (mTys G) s := X.2.2.2.2.2
  have hKn := hK.1 ci _ hci
  refine W.newcK X.1 X.2.1 X.2.2.2.1 (X.2.2.2.2.1.use hcl) (X.2.2.2.2.1.use hinst) (X.2.2.2.2.1.use hini) rfl hdg hcells hslots hKn.2.1 rfl fun H1 kC hkC e1 z1 o1 => ?_
  have h := hM.push (e := .inr (ci, fs)) ⟨_, hci, (u_born ty hts hin hKn hkC e1 hty).to hfs⟩ z1 o1
  exact kk H.size H1 h.1 h.2
theorem mg_iald (X : Cx p c s m cc own nL G) (hM : mW G A H0 M H locs) {n : Nat} {f : Nat → Int32} (hdg : decode cc pc = .ok (.iaload, 1)) (hc : M a = some (.inl (G.2 0, n, .inl f))) {i : Int32} (hin : vp_in i n)
    (kk : W p l e R s m args below meth c H locs cells slots Q (F0 m (pc + 1) ls (.int (f i.toNatClampNeg) :: rest))) : W p l e R s m args below meth c H locs cells slots Q (F0 m pc ls (.int i :: .ref a :: rest)) :=
  va_iald (D := G.1) (cl := vwCl) (tys := mTys G) (ws := [(a, .inl (G.2 0, n, .inl f))]) X.1 X.2.1 X.2.2.2.2.2 (hM.1.one hc) 0 0 rfl rfl hin hdg kk
theorem mg_lald (X : Cx p c s m cc own nL G) (hM : mW G A H0 M H locs) {n : Nat} {f : Nat → Int64} (hdg : decode cc pc = .ok (.laload, 1)) (hc : M a = some (.inl (G.2 1, n, .inr (.inl f)))) {i : Int32} (hin : vp_in i n)
    (kk : W p l e R s m args below meth c H locs cells slots Q (F0 m (pc + 1) ls (.long (f i.toNatClampNeg) :: rest))) : W p l e R s m args below meth c H locs cells slots Q (F0 m pc ls (.int i :: .ref a :: rest)) :=
  va_lald (D := G.1) (cl := vwCl) (tys := mTys G) (ws := [(a, .inl (G.2 1, n, .inr (.inl f)))]) X.1 X.2.1 X.2.2.2.2.2 (hM.1.one hc) 0 1 rfl rfl hin hdg kk
theorem mg_bald (X : Cx p c s m cc own nL G) (hM : mW G A H0 M H locs) {n : Nat} {f : Nat → Int32} (hdg : decode cc pc = .ok (.baload, 1)) (hc : M a = some (.inl (G.2 2, n, .inl f))) {i : Int32} (hin : vp_in i n)
    (kk : W p l e R s m args below meth c H locs cells slots Q (F0 m (pc + 1) ls (.int (f i.toNatClampNeg) :: rest))) : W p l e R s m args below meth c H locs cells slots Q (F0 m pc ls (.int i :: .ref a :: rest)) :=
  va_bald (D := G.1) (cl := vwCl) (tys := mTys G) (ws := [(a, .inl (G.2 2, n, .inl f))]) X.1 X.2.1 X.2.2.2.2.2 (hM.1.one hc) 0 2 rfl rfl hin hdg kk
theorem mg_aald (X : Cx p c s m cc own nL G) (hM : mW G A H0 M H locs) {n : Nat} {f : Nat → Option Nat} (t0 : Nat) {cA : ClassId} {C : String} (ht : (mTys G)[t0]? = some (cA, .object C)) (hdg : decode cc pc = .ok (.aaload, 1)) (hc : M a = some (.inl (cA, n, .inr (.inr (.inr (.inr f)))))) {i : Int32} (hin : vp_in i n)
    (kk : W p l e R s m args below meth c H locs cells slots Q (F0 m (pc + 1) ls (va_rf (f i.toNatClampNeg) :: rest))) : W p l e R s m args below meth c H locs cells slots Q (F0 m pc ls (.int i :: .ref a :: rest)) :=
  va_aldq (D := G.1) (cl := vwCl) (tys := mTys G) (ws := [(a, .inl (cA, n, .inr (.inr (.inr (.inr f)))))]) X.1 X.2.1 X.2.2.2.2.2 (hM.1.one hc) 0 t0 rfl ht hin hdg kk
theorem mg_alen (X : Cx p c s m cc own nL G) (hM : mW G A H0 M H locs) (t0 : Nat) {cA : ClassId} {ty : FieldType} (ht : (mTys G)[t0]? = some (cA, ty)) (hdg : decode cc pc = .ok (.arraylength, 1)) {x : vp_A} (hc : M a = some (.inl (cA, x)))
    (kk : W p l e R s m args below meth c H locs cells slots Q (F0 m (pc + 1) ls (.int (nI x.1) :: rest))) : W p l e R s m args below meth c H locs cells slots Q (F0 m pc ls (.ref a :: rest)) :=
  va_alen (D := G.1) (cl := vwCl) (tys := mTys G) (ws := [(a, .inl (cA, x))]) X.1 X.2.1 X.2.2.2.2.2 (hM.1.one hc) 0 t0 rfl ht rfl hdg kk
theorem mg_iast (X : Cx p c s m cc own nL G) (hM : mW G A H0 M H locs) {n : Nat} {f : Nat → Int32} (hdg : decode cc pc = .ok (.iastore, 1)) (hc : M a = some (.inl (G.2 0, n, .inl f))) {i x : Int32} (hin : vp_in i n)
    (kk : ∀ (H1 : Heap) (locs1 : List Loc), mW G A H0 (mU M a (.inl (G.2 0, n, .inl (upd f i.toNatClampNeg x)))) H1 locs1 → W p l e R s m args below meth c H1 locs1 cells slots Q (F0 m (pc + 1) ls rest)) : W p l e R s m args below meth c H locs cells slots Q (F0 m pc ls (.int x :: .int i :: .ref a :: rest)) := by
  have hK : va_K G.1 vwCl (mTys G) s := X.2.2.2.2.2
  refine W.iast X.1 X.2.1 (hM.1 a _ hc) ((hK.2 0 _ rfl).1 n (fun j => .int (f j))) (fun q => by cases q) (by show ¬ (i < 0 ∨ (arrV _ _ _).slots.size ≤ _); rw [arrV_size]; exact hin) rfl rfl hdg fun H1 e z oq => ?_
  refine kk H1 _ (hM.put hc ?_ z oq _)
  show H1[a]? = some (vp_cell _ _)
  rw [e]
  rw [vp_cell_i, vp_cell_i, arrV_store]
  congr 2
  funext q
  by_cases hq : q = i.toNatClampNeg
  · subst hq
    simp [updV, upd]
  · simp [updV, upd, hq]
theorem mg_last (X : Cx p c s m cc own nL G) (hM : mW G A H0 M H locs) {n : Nat} {f : Nat → Int64} (hdg : decode cc pc = .ok (.lastore, 1)) (hc : M a = some (.inl (G.2 1, n, .inr (.inl f)))) {i : Int32} {x : Int64} (hin : vp_in i n)
    (kk : ∀ (H1 : Heap) (locs1 : List Loc), mW G A H0 (mU M a (.inl (G.2 1, n, .inr (.inl (vp_updL f i.toNatClampNeg x))))) H1 locs1 → W p l e R s m args below meth c H1 locs1 cells slots Q (F0 m (pc + 1) ls rest)) : W p l e R s m args below meth c H locs cells slots Q (F0 m pc ls (.long x :: .int i :: .ref a :: rest)) := by
  have hK : va_K G.1 vwCl (mTys G) s := X.2.2.2.2.2
  refine W.last X.1 X.2.1 (hM.1 a _ hc) ((hK.2 1 _ rfl).1 n (fun j => .long (f j))) (fun q => by cases q) (by show ¬ (i < 0 ∨ (arrV _ _ _).slots.size ≤ _); rw [arrV_size]; exact hin) rfl rfl hdg fun H1 e z oq => ?_
  refine kk H1 _ (hM.put hc ?_ z oq _)
  show H1[a]? = some (vp_cell _ _)
  rw [e]
  rw [vp_cell_l, vp_cell_l, arrV_store]
  congr 2
  funext q
  by_cases hq : q = i.toNatClampNeg
  · subst hq
    simp [updV, vp_updL]
  · simp [updV, vp_updL, hq]
theorem mg_aast (X : Cx p c s m cc own nL G) (hM : mW G A H0 M H locs) {n v ci : Nat} {vs : List Value} {f : Nat → Option Nat} (t0 : Nat) {cA : ClassId} {r : vw_C} (ht : (mTys G)[t0]? = some (cA, .object r.1)) (hci : vwCl[ci]? = some r) (hdg : decode cc pc = .ok (.aastore, 1)) (hc : M a = some (.inl (cA, n, .inr (.inr (.inr (.inr f)))))) (hv : M v = some (.inr (ci, vs))) {i : Int32} (hin : vp_in i n)
    (kk : ∀ (H1 : Heap) (locs1 : List Loc), mW G A H0 (mU M a (.inl (cA, n, .inr (.inr (.inr (.inr (va_up f i.toNatClampNeg (some v)))))))) H1 locs1 → W p l e R s m args below meth c H1 locs1 cells slots Q (F0 m (pc + 1) ls rest)) : W p l e R s m args below meth c H locs cells slots Q (F0 m pc ls (.ref v :: .int i :: .ref a :: rest)) := by
  have hK : va_K G.1 vwCl (mTys G) s := X.2.2.2.2.2
  have hlt : i.toNatClampNeg < n := Nat.not_le.mp fun q => hin (Or.inr q)
  have h0 : ¬ i < 0 := fun q => hin (Or.inl q)
  obtain ⟨r', hr', cellV, g1, g2, g3, -⟩ := hM.1 v _ hv
  have hcls := (hK.1 ci r hci).2
  obtain ⟨kA, comp, k1, k2, k3, -⟩ := (hK.2 t0 _ ht).2
  have hcomp : comp = G.1.1 ci := Option.some.inj (k3.symm.trans hcls.1)
  subst hcomp
  obtain ⟨kC, hkC, -⟩ := hcls.2
  refine W.aast X.1 X.2.1 (hM.1 a _ hc) (fun q h => by cases h) (fun h => by cases h) k1 k2 rfl hkC ⟨h0, by show _ < (arrV _ _ _).slots.size; rw [arrV_size]; exact hlt⟩ g1 (fun q h => by rw [g3] at h; cases h) (by rw [g2]; exact hkC) (by rw [g2]; exact va_assign hcls) rfl rfl hdg fun H1 e z oq => ?_
  refine kk H1 _ (hM.put hc ?_ z oq _)
  show H1[a]? = some (vp_cell _ _)
  rw [e]
  rw [vp_cell_q, vp_cell_q, arrV_store]
  congr 2
  funext q
  by_cases hq : q = i.toNatClampNeg
  · subst hq
    simp [updV, va_up, va_rf]
  · simp [updV, va_up, hq]
theorem mg_aastN (X : Cx p c s m cc own nL G) (hM : mW G A H0 M H locs) {n : Nat} {f : Nat → Option Nat} (t0 : Nat) {cA : ClassId} {C : String} (ht : (mTys G)[t0]? = some (cA, .object C)) (hdg : decode cc pc = .ok (.aastore, 1)) (hc : M a = some (.inl (cA, n, .inr (.inr (.inr (.inr f)))))) {i : Int32} (hin : vp_in i n)
    (kk : ∀ (H1 : Heap) (locs1 : List Loc), mW G A H0 (mU M a (.inl (cA, n, .inr (.inr (.inr (.inr (va_up f i.toNatClampNeg none))))))) H1 locs1 → W p l e R s m args below meth c H1 locs1 cells slots Q (F0 m (pc + 1) ls rest)) : W p l e R s m args below meth c H locs cells slots Q (F0 m pc ls (.null :: .int i :: .ref a :: rest)) := by
  have hK : va_K G.1 vwCl (mTys G) s := X.2.2.2.2.2
  refine va_WaastN (C := C) X.1 X.2.1 (hM.1 a _ hc) ((hK.2 t0 _ ht).1 n (fun j => va_rf (f j))) (fun h => by cases h) (by show ¬ (i < 0 ∨ (arrV _ _ _).slots.size ≤ _); rw [arrV_size]; exact hin) rfl rfl hdg fun H1 e z oq => ?_
  refine kk H1 _ (hM.put hc ?_ z oq _)
  show H1[a]? = some (vp_cell _ _)
  rw [e]
  rw [vp_cell_q, vp_cell_q, arrV_store]
  congr 2
  funext q
  by_cases hq : q = i.toNatClampNeg
  · subst hq
    simp [updV, va_up, va_rf]
  · simp [updV, va_up, hq]
/-- a new array of a primitive type whose array class is the k-th of the known ones -/
theorem mg_newa (X : Cx p c s m cc own nL G) (hM : mW G A H0 M H locs) {atype : ArrayType} (t0 : Nat) {cA : ClassId} {ty : FieldType} (hnm : ∀ D : ClassId, va_RA s D ty → s.vm.findClass ("[" ++ ty.toString) = some D) (hty : newarray.typeOf atype = ty) (ht : (mTys G)[t0]? = some (cA, ty)) (harr : Cond.arrayClass ty ∈ KTW) {n : Int32} {N' : Nat} {a0 : vp_A} (ha : vp_cell cA a0 = arrV cA N' (fun _ => defaultValue ty)) (hn : ¬ n < 0) (hN : n.toNatClampNeg = N') (hbytes : N' * componentBytes ty ≤ 536870912) (hdg : decode cc pc = .ok (.newarray atype, 2)) (hcells : cells + 1 ≤ R.cells) (hslots : slots + N' ≤ R.slots)
    (kk : ∀ (q : Nat) (H1 : Heap), M q = none → mW G A H0 (mU M q (.inl (cA, a0))) H1 locs → W p l e R s m args below meth c H1 locs (cells + 1) (slots + N') Q (F0 m (pc + 2) ls (.ref q :: rest))) : W p l e R s m args below meth c H locs cells slots Q (F0 m pc ls (.int n :: rest)) := by
  subst hty
  have hK : va_K G.1 vwCl (mTys G) s := X.2.2.2.2.2
  refine va_newaK X.1 X.2.1 (X.2.2.2.2.1.use harr) rfl hdg rfl hn hN hbytes hcells hslots rfl fun H1 cA' e1 z1 o1 hAr hNm => ?_
  have hc' : cA' = cA := Option.some.inj (hNm.symm.trans (hnm cA (hK.2 t0 _ ht).2))
  subst hc'
  have h := hM.push (e := .inl (cA', a0)) (H1 := H1) (by show H1[H.size]? = some (vp_cell _ _); rw [ha]; exact e1) z1 o1
  exact kk H.size H1 h.1 h.2
/-- a new array of references -/
theorem mg_newq (X : Cx p c s m cc own nL G) (hM : mW G A H0 M H locs) (t0 : Nat) {cA : ClassId} {C : String} {index : Nat} (ht : (mTys G)[t0]? = some (cA, .object C)) (hcl : Cond.classLink own index C ∈ KTW) (hov : Cond.arrayOver (.object C) ∈ KTW) {n : Int32} {N' : Nat} (hn : ¬ n < 0) (hN : n.toNatClampNeg = N') (hbytes : N' * 4 ≤ 536870912) (hdg : decode cc pc = .ok (.anewarray index, 3)) (hcells : cells + 1 ≤ R.cells) (hslots : slots + N' ≤ R.slots)
    (kk : ∀ (q : Nat) (H1 : Heap), M q = none → mW G A H0 (mU M q (.inl (cA, N', .inr (.inr (.inr (.inr (fun _ => none))))))) H1 locs → W p l e R s m args below meth c H1 locs (cells + 1) (slots + N') Q (F0 m (pc + 3) ls (.ref q :: rest))) : W p l e R s m args below meth c H locs cells slots Q (F0 m pc ls (.int n :: rest)) := by
  have hK : va_K G.1 vwCl (mTys G) s := X.2.2.2.2.2
  subst hN
  refine W.anew X.1 X.2.1 X.2.2.2.1 (X.2.2.2.2.1.use hcl) (X.2.2.2.2.1.use hov) rfl hdg rfl hn hbytes hcells hslots fun cA' kA comp f1 f2 f3 f4 => ?_
  obtain ⟨kA2, comp2, k1, k2, k3, k4⟩ := (hK.2 t0 _ ht).2
  have hc' : cA' = cA := Option.some.inj (f1.symm.trans k4)
  subst hc'
  generalize hH1 : H.push ({ cls := cA', slots := Array.replicate n.toNatClampNeg .null, vm := .none } : Cell) = H1
  have z1 : H1.size = H.size + 1 := by rw [← hH1, Array.size_push]
  have e1 : H1[H.size]? = some (arrV cA' n.toNatClampNeg (fun _ => .null)) := by rw [← hH1, Array.getElem?_push_size, ← arrV_new]
  have o1 : ∀ q : Nat, q < H.size → H1[q]? = H[q]? := fun q hq => by rw [← hH1, Array.getElem?_push, if_neg (Nat.ne_of_lt hq)]
  have h := hM.push (e := .inl (cA', n.toNatClampNeg, .inr (.inr (.inr (.inr (fun _ => none)))))) (H1 := H1) (by show H1[H.size]? = some (vp_cell _ _); rw [vp_cell_q]; exact e1) z1 o1
  exact kk H.size H1 h.1 h.2
theorem mg_objInit (X : Cx p c s m cc own nL G) {idx : Nat} (hl : Cond.methodLink own idx objectInit ∈ KTW) (hi : Cond.instanceMethod objectInit ∈ KTW) (hcode : Cond.code objectInit ⟨#[0xb1]⟩ 1 none ∈ KTW) (hdg : decode cc pc = .ok (.invokespecial idx, 3)) {lv : List (Nat × Value)} (hls : lv_has ls nL lv) (hframes : 1 ≤ R.frames) (hlocals : (rest.map fun v => v.category).sum + 12 ≤ R.locals)
    (kk : W p l e R s m args below meth c H locs cells slots Q (F0 m (pc + 3) ls rest)) : W p l e R s m args below meth c H locs cells slots Q (F0 m pc ls (.ref a :: rest)) :=
  W.objInit X.1 X.2.1 X.2.2.2.1 (X.2.2.2.2.1.use hl) (X.2.2.2.2.1.use hi) (X.2.2.2.2.1.use hcode) rfl (by rw [X.2.2.1]; exact hls.1) rfl hdg hframes (by show 2 * 0 + _ + 12 ≤ _; omega) kk
end MROWS
/-! contracts over a memory -/
def mPre (G : mG) (A : Nat → Prop) (sz : Nat) (av : List Value) (M : Mem) : Array Value → State → Prop := va_Pc av (fun U => U.heap.size = sz ∧ KT U ∧ mK G U ∧ mP G M U.heap ∧ mIn A M ∧ ∀ q, sz ≤ q → A q)
def mQ (G : mG) (A : Nat → Prop) (Post : Option Value → Mem → Prop) : Array Value → State → Outcome → State → Prop := fun _ st oc t => (∃ (r : Option Value) (M' : Mem), oc = .returned r ∧ Post r M' ∧ mP G M' t.heap ∧ mIn A M') ∧ va_F A st t
def mMet (l : Launch) (y : MethodName) (bc : ByteArray) (nL : Nat) (ret : Option FieldType) (rm : Room) (G : mG) (av : List Value) (M : Mem) (Post : Option Value → Mem → Prop) : Prop :=
  ∀ (A : Nat → Prop) (sz : Nat), Met l y [.code y bc nL ret] rm (mPre G A sz av M) (mQ G A Post) rm.cells rm.slots A
theorem mPre.blind {G : mG} {A : Nat → Prop} {sz : Nat} {av : List Value} {M : Mem} : FrameBlind (mPre G A sz av M) := by
  intro a U g mk h
  obtain ⟨h1, h2, h3, h4, h5, h6, h7⟩ := h
  exact ⟨h1, h2, KT.warm (s := U) (U := U.calling g mk a) (State.WarmedH.refl U) h3, mK.moved (u := U) (U := U.calling g mk a) (Vm.Alike.refl U.vm) h4, h5, h6, h7⟩
theorem mPre.at {p : Program} {c : Code} {s : State} {m : MethodId} {cc : ByteArray} {own : String} {nL : Nat} {G : mG} {A : Nat → Prop} {M : Mem} {H : Heap} {locs : List Loc} {H0 : Heap} (X : Cx p c s m cc own nL G) (hM : mW G A H0 M H locs) {av : List Value} {U : State} (hU : U.heap = H) (hW : s.WarmedH U.vm) : mPre G A H.size av M av.toArray U :=
  ⟨rfl, by rw [hU], KT.warm hW X.2.2.2.2.1, mK.moved hW.alike X.2.2.2.2.2, by rw [hU]; exact hM.1, hM.2.1, fun q hq => hM.2.2.2 q (Nat.le_trans hM.2.2.1.1 hq)⟩
section MCALL
variable {p : Program} {l : Launch} {e : Env} {R : Room} {s : State} {m : MethodId} {args : Array Value} {below : List Frame} {meth : Method} {c : Code} {H : Heap} {locs : List Loc} {cells slots : Nat} {Q : State → Prop}
variable {cc : ByteArray} {pc nL : Nat} {ls : Array Slot} {st0 rest : List Value} {G : mG} {A : Nat → Prop} {a : Nat} {M : Mem} {own : String} {H0 : Heap}
theorem mMet.of {y : MethodName} {bc : ByteArray} {ret : Option FieldType} {rm : Room} {av : List Value} {Post : Option Value → Mem → Prop} (hy : plainName y.cls = true) (hav : (lg_sl av).length ≤ nL)
    (body : ∀ (p : Program) (e : Env) (s : State) (m : MethodId) (args : Array Value) (below : List Frame) (meth : Method) (c : Code) (A : Nat → Prop) (ls : Array Slot), Cx p c s m bc y.cls nL G → meth.sig.returnType = ret → meth.locks = false → meth.name = y.name → mW G A s.heap M s.heap [] → lv_has ls nL (lv_args 0 av) →
      W p l e rm s m args below meth c s.heap [] 0 0 (MQ below (mQ G A Post) args s rm.cells rm.slots A) (F0 m 0 ls [])) : mMet l y bc nL ret rm G av M Post := by
  intro A sz
  refine Met.ofW (cc := bc) (maxL := nL) (ret := ret) (ws' := []) hy rfl ?_
  intro p e s m args below meth c s₁ B hml hv
  obtain ⟨rfl, hsz, h3, h4, h5, h6, h7⟩ := hv
  rw [lg_entry_eq]
  exact body p e s m _ below meth c A _ ⟨B.exec, B.bytes, hml, findClass_of_methodNamed B.named, h3, h4⟩ B.returns B.notSynchronized (name_of_methodNamed B.named B.method).1 ⟨h5, h6, va_S.rf, fun q hq => h7 q (by rw [← hsz]; exact hq)⟩ (lv_entry av hav)
theorem m_call {mc ms : Nat} {a : Array Value} {Post : Option Value → Mem → Prop} (hr : va_Run p l e R s m args below meth c H locs cells slots mc ms (F0 m pc ls st0) rest (mQ G A Post a) A) (hM : mW G A H0 M H locs)
    (kk : ∀ (r : Option Value) (M1 : Mem) (H1 : Heap) (locs1 : List Loc), Post r M1 → mW G A H0 M1 H1 locs1 → W p l e R s m args below meth c H1 locs1 (cells + mc) (slots + ms) Q (F0 m (pc + 3) ls (r.toList ++ rest))) : W p l e R s m args below meth c H locs cells slots Q (F0 m pc ls st0) := by
  intro T hT X
  obtain ⟨v, st₀, t, T', L, h0, X', hL, e1, e2, ⟨⟨r, M1, hv, hp, hP, hI⟩, hF⟩, st⟩ := hr T hT X
  cases hv
  obtain ⟨hz, hk⟩ := hF
  rw [h0] at hz hk
  obtain ⟨t2, a1, b1⟩ := kk v M1 T'.heap (locs ++ L) hp ⟨by rw [e1]; exact hP, hI, ⟨Nat.le_trans hM.2.2.1.1 (by rw [e1]; exact hz), fun q h1 h2 => by rw [e1, hk q (Nat.lt_of_lt_of_le h1 hM.2.2.1.1) h2]; exact hM.2.2.1.2.1 q h1 h2, fun q hq => (List.mem_append.mp hq).elim (hM.2.2.1.2.2 q) (hL q)⟩, hM.2.2.2⟩ T' rfl X'
  exact ⟨t2, st t2 a1, b1⟩
/-- the words of a contract of one word -/
theorem m_w1 {s : State} (h : KT s) {w : Cond} (hw : w ∈ KTW) : ∀ w' ∈ [w], ∀ (a' : Array Value) (U : State), s.WarmedH U.vm → w'.before a' U = true := by
  intro w' hw' a' U hW
  rw [List.mem_singleton.mp hw']
  exact (KT.warm hW h).use hw
theorem m_recv {s : State} (hK : mK G s) (hP : mP G M H) {ci : Nat} {C : String} {T : u_T} {N : Nat} {fs : List Value} (hci : vwCl[ci]? = some (C, T, N)) (hc : M a = some (.inr (ci, fs))) : ∃ cell : Cell, H[a]? = some cell ∧ cell.vm.isStatics = false ∧ s.vm.findClass C = some cell.cls :=
  va_recv (q0 := 0) hK (hP.one hc) hci rfl
/-- what a call of y by the link index of own rests on, but its room and its arguments -/
def mCk (own : String) (index : Nat) (y : MethodName) (bytes : ByteArray) (maxL : Nat) (ret : Option FieldType) (n : Nat) : Prop :=
  Cond.code y bytes maxL ret ∈ KTW ∧ Cond.initialized y.cls ∈ KTW ∧ (y.cls ≠ "java/lang/invoke/MethodHandle" ∧ y.cls ≠ "java/lang/invoke/VarHandle") ∧ (∀ sig, parseMethodDescriptor y.desc = some sig → n = sig.parameters.length) ∧ Cond.methodLink own index y ∈ KTW
def mCkN (own : String) (index : Nat) (y : MethodName) (host : String) (bytes : ByteArray) (maxL : Nat) (ret : Option FieldType) (n : Nat) : Prop :=
  Cond.code y bytes maxL ret ∈ KTW ∧ Cond.initialized y.cls ∈ KTW ∧ (y.cls ≠ "java/lang/invoke/MethodHandle" ∧ y.cls ≠ "java/lang/invoke/VarHandle") ∧ (∀ sig, parseMethodDescriptor y.desc = some sig → n = sig.parameters.length) ∧ Cond.methodLinkNest own index y host ∈ KTW
theorem mCk.ar {d : String} {n : Nat} (h : (parseMethodDescriptor d).map (fun d => d.parameters.length) = some n) : ∀ sig, parseMethodDescriptor d = some sig → n = sig.parameters.length := by
  intro sig hs
  rw [hs] at h
  exact (Option.some.inj h).symm
theorem m_callV (X : Cx p c s m cc own nL G) (hM : mW G A H0 M H locs) {ci index n : Nat} {C : String} {T : u_T} {N : Nat} {y : MethodName} {bytes : ByteArray} {maxL : Nat} {ret : Option FieldType} {rm : Room} {b : Nat} {As : List Value} {Post : Option Value → Mem → Prop} (K : mCk own index y bytes maxL ret n) (hi : Cond.instanceMethod y ∈ KTW) (hs : Cond.selects C y y ∈ KTW) (hci : vwCl[ci]? = some (C, T, N))
    (hdg : decode cc pc = .ok (.invokevirtual index, 3)) (hC : mMet l y bytes maxL ret rm G (.ref b :: As) M Post) {fs : List Value} (hc : M b = some (.inr (ci, fs))) (hn : As.length = n) {lv : List (Nat × Value)} (hls : lv_has ls nL lv) (hst : st0 = As.reverse ++ .ref b :: rest) (hW : (rest.map fun v => v.category).sum ≤ 8) (hR : rm.frames + 1 ≤ R.frames ∧ 8 + (maxL + 11) + rm.locals ≤ R.locals) (hf : cells + rm.cells ≤ R.cells ∧ slots + rm.slots ≤ R.slots)
    (kk : ∀ (r : Option Value) (M1 : Mem) (H1 : Heap) (locs1 : List Loc), Post r M1 → mW G A H0 M1 H1 locs1 → W p l e R s m args below meth c H1 locs1 (cells + rm.cells) (slots + rm.slots) Q (F0 m (pc + 3) ls (r.toList ++ rest))) : W p l e R s m args below meth c H locs cells slots Q (F0 m pc ls st0) := by
  subst hst
  obtain ⟨k1, k2, k3, k4, k5⟩ := K
  have hKT := X.2.2.2.2.1
  exact m_call (va_runV (As := As) (rest := rest) (g := F0 m pc ls (As.reverse ++ .ref b :: rest)) (Ts := KTW) ⟨X.1, X.2.1, X.2.2.1, X.2.2.2.1, hKT.ws⟩ (hC A H.size) ⟨⟨rfl, rfl, hR.1, hR.2, m_w1 hKT k1, List.mem_singleton.mpr rfl, hKT.use k1, hKT.use k2, k3, k4, hKT.use k5⟩, hKT.use hi, hKT.use hs⟩ ⟨mPre.blind, m_recv X.2.2.2.2.2 hM.1 hci hc, fun U hU hW => mPre.at X hM hU hW⟩ rfl hn hls.1 rfl (by show 2 * 0 + _ ≤ 8; omega) hdg hf) hM kk
theorem m_callS (X : Cx p c s m cc own nL G) (hM : mW G A H0 M H locs) {index n : Nat} {y : MethodName} {bytes : ByteArray} {maxL : Nat} {ret : Option FieldType} {rm : Room} {As : List Value} {Post : Option Value → Mem → Prop} (K : mCk own index y bytes maxL ret n) (hs : Cond.static y ∈ KTW)
    (hdg : decode cc pc = .ok (.invokestatic index, 3)) (hC : mMet l y bytes maxL ret rm G As M Post) (hn : As.length = n) {lv : List (Nat × Value)} (hls : lv_has ls nL lv) (hst : st0 = As.reverse ++ rest) (hW : (rest.map fun v => v.category).sum ≤ 8) (hR : rm.frames + 1 ≤ R.frames ∧ 8 + (maxL + 11) + rm.locals ≤ R.locals) (hf : cells + rm.cells ≤ R.cells ∧ slots + rm.slots ≤ R.slots)
    (kk : ∀ (r : Option Value) (M1 : Mem) (H1 : Heap) (locs1 : List Loc), Post r M1 → mW G A H0 M1 H1 locs1 → W p l e R s m args below meth c H1 locs1 (cells + rm.cells) (slots + rm.slots) Q (F0 m (pc + 3) ls (r.toList ++ rest))) : W p l e R s m args below meth c H locs cells slots Q (F0 m pc ls st0) := by
  subst hst
  obtain ⟨k1, k2, k3, k4, k5⟩ := K
  have hKT := X.2.2.2.2.1
  exact m_call (va_runS (As := As) (rest := rest) (g := F0 m pc ls (As.reverse ++ rest)) (Ts := KTW) ⟨X.1, X.2.1, X.2.2.1, X.2.2.2.1, hKT.ws⟩ (hC A H.size) ⟨⟨rfl, rfl, hR.1, hR.2, m_w1 hKT k1, List.mem_singleton.mpr rfl, hKT.use k1, hKT.use k2, k3, k4, hKT.use k5⟩, hKT.use hs⟩ ⟨mPre.blind, fun U hU hW => mPre.at X hM hU hW⟩ rfl hn hls.1 rfl (by show 2 * 0 + _ ≤ 8; omega) hdg hf) hM kk
theorem m_callI (X : Cx p c s m cc own nL G) (hM : mW G A H0 M H locs) {index n : Nat} {y : MethodName} {bytes : ByteArray} {maxL : Nat} {rm : Room} {b : Nat} {As : List Value} {Post : Option Value → Mem → Prop} (K : mCk own index y bytes maxL none n) (hi : Cond.instanceMethod y ∈ KTW) (hy1 : y.name = "<init>")
    (hdg : decode cc pc = .ok (.invokespecial index, 3)) (hC : mMet l y bytes maxL none rm G (.ref b :: As) M Post) (hn : As.length = n) {lv : List (Nat × Value)} (hls : lv_has ls nL lv) (hst : st0 = As.reverse ++ .ref b :: rest) (hW : (rest.map fun v => v.category).sum ≤ 8) (hR : rm.frames + 1 ≤ R.frames ∧ 8 + (maxL + 11) + rm.locals ≤ R.locals) (hf : cells + rm.cells ≤ R.cells ∧ slots + rm.slots ≤ R.slots)
    (kk : ∀ (r : Option Value) (M1 : Mem) (H1 : Heap) (locs1 : List Loc), Post r M1 → mW G A H0 M1 H1 locs1 → W p l e R s m args below meth c H1 locs1 (cells + rm.cells) (slots + rm.slots) Q (F0 m (pc + 3) ls (r.toList ++ rest))) : W p l e R s m args below meth c H locs cells slots Q (F0 m pc ls st0) := by
  subst hst
  obtain ⟨k1, k2, k3, k4, k5⟩ := K
  have hKT := X.2.2.2.2.1
  exact m_call (va_runI (As := As) (rest := rest) (g := F0 m pc ls (As.reverse ++ .ref b :: rest)) (Ts := KTW) ⟨X.1, X.2.1, X.2.2.1, X.2.2.2.1, hKT.ws⟩ (hC A H.size) ⟨⟨rfl, rfl, hR.1, hR.2, m_w1 hKT k1, List.mem_singleton.mpr rfl, hKT.use k1, hKT.use k2, k3, k4, hKT.use k5⟩, hy1, hKT.use hi⟩ ⟨mPre.blind, fun U hU hW => mPre.at X hM hU hW⟩ rfl hn hls.1 rfl (by show 2 * 0 + _ ≤ 8; omega) hdg hf) hM kk
theorem m_callVN (X : Cx p c s m cc own nL G) (hM : mW G A H0 M H locs) {ci index n : Nat} {C host : String} {T : u_T} {N : Nat} {y : MethodName} {bytes : ByteArray} {maxL : Nat} {ret : Option FieldType} {rm : Room} {b : Nat} {As : List Value} {Post : Option Value → Mem → Prop} (K : mCkN own index y host bytes maxL ret n) (hi : Cond.instanceMethod y ∈ KTW) (hs : Cond.selects C y y ∈ KTW) (hci : vwCl[ci]? = some (C, T, N))
    (hdg : decode cc pc = .ok (.invokevirtual index, 3)) (hC : mMet l y bytes maxL ret rm G (.ref b :: As) M Post) {fs : List Value} (hc : M b = some (.inr (ci, fs))) (hn : As.length = n) {lv : List (Nat × Value)} (hls : lv_has ls nL lv) (hst : st0 = As.reverse ++ .ref b :: rest) (hW : (rest.map fun v => v.category).sum ≤ 8) (hR : rm.frames + 1 ≤ R.frames ∧ 8 + (maxL + 11) + rm.locals ≤ R.locals) (hf : cells + rm.cells ≤ R.cells ∧ slots + rm.slots ≤ R.slots)
    (kk : ∀ (r : Option Value) (M1 : Mem) (H1 : Heap) (locs1 : List Loc), Post r M1 → mW G A H0 M1 H1 locs1 → W p l e R s m args below meth c H1 locs1 (cells + rm.cells) (slots + rm.slots) Q (F0 m (pc + 3) ls (r.toList ++ rest))) : W p l e R s m args below meth c H locs cells slots Q (F0 m pc ls st0) := by
  subst hst
  obtain ⟨k1, k2, k3, k4, k5⟩ := K
  have hKT := X.2.2.2.2.1
  exact m_call (va_runVN (As := As) (rest := rest) (g := F0 m pc ls (As.reverse ++ .ref b :: rest)) (Ts := KTW) ⟨X.1, X.2.1, X.2.2.1, X.2.2.2.1, hKT.ws⟩ (hC A H.size) ⟨⟨⟨rfl, rfl, hR.1, hR.2, m_w1 hKT k1, List.mem_singleton.mpr rfl⟩, hKT.use k1, hKT.use k2, k3, k4, hKT.use k5⟩, hKT.use hi, hKT.use hs⟩ ⟨mPre.blind, m_recv X.2.2.2.2.2 hM.1 hci hc, fun U hU hW => mPre.at X hM hU hW⟩ rfl hn hls.1 rfl (by show 2 * 0 + _ ≤ 8; omega) hdg hf) hM kk
theorem m_callIN (X : Cx p c s m cc own nL G) (hM : mW G A H0 M H locs) {index n : Nat} {host : String} {y : MethodName} {bytes : ByteArray} {maxL : Nat} {rm : Room} {b : Nat} {As : List Value} {Post : Option Value → Mem → Prop} (K : mCkN own index y host bytes maxL none n) (hi : Cond.instanceMethod y ∈ KTW) (hy1 : y.name = "<init>")
    (hdg : decode cc pc = .ok (.invokespecial index, 3)) (hC : mMet l y bytes maxL none rm G (.ref b :: As) M Post) (hn : As.length = n) {lv : List (Nat × Value)} (hls : lv_has ls nL lv) (hst : st0 = As.reverse ++ .ref b :: rest) (hW : (rest.map fun v => v.category).sum ≤ 8) (hR : rm.frames + 1 ≤ R.frames ∧ 8 + (maxL + 11) + rm.locals ≤ R.locals) (hf : cells + rm.cells ≤ R.cells ∧ slots + rm.slots ≤ R.slots)
    (kk : ∀ (r : Option Value) (M1 : Mem) (H1 : Heap) (locs1 : List Loc), Post r M1 → mW G A H0 M1 H1 locs1 → W p l e R s m args below meth c H1 locs1 (cells + rm.cells) (slots + rm.slots) Q (F0 m (pc + 3) ls (r.toList ++ rest))) : W p l e R s m args below meth c H locs cells slots Q (F0 m pc ls st0) := by
  subst hst
  obtain ⟨k1, k2, k3, k4, k5⟩ := K
  have hKT := X.2.2.2.2.1
  exact m_call (va_runIN (As := As) (rest := rest) (g := F0 m pc ls (As.reverse ++ .ref b :: rest)) (Ts := KTW) ⟨X.1, X.2.1, X.2.2.1, X.2.2.2.1, hKT.ws⟩ (hC A H.size) ⟨⟨⟨rfl, rfl, hR.1, hR.2, m_w1 hKT k1, List.mem_singleton.mpr rfl⟩, hKT.use k1, hKT.use k2, k3, k4, hKT.use k5⟩, hy1, hKT.use hi⟩ ⟨mPre.blind, fun U hU hW => mPre.at X hM hU hW⟩ rfl hn hls.1 rfl (by show 2 * 0 + _ ≤ 8; omega) hdg hf) hM kk
theorem m_post {Post : Option Value → Mem → Prop} {r : Option Value} (hM : mW G A s.heap M H locs) (hp : Post r M) : ∀ t : State, t.heap = H → s.WarmedH t.vm → mQ G A Post args s (.returned r) t :=
  fun _ ht _ => ⟨⟨r, M, rfl, hp, by rw [ht]; exact hM.1, hM.2.1⟩, hM.2.2.1.F ht⟩
theorem m_iret {Post : Option Value → Mem → Prop} {mc ms : Nat} {v : Int32} (X : Cx p c s m cc own nL G) (hr : meth.sig.returnType = some .int) (hlocks : meth.locks = false) (hM : mW G A s.heap M H locs) (hdg : decode cc pc = .ok (.ireturn, 1)) (hcs : cells ≤ mc ∧ slots ≤ ms) (hp : Post (some (.int v)) M) : W p l e R s m args below meth c H locs cells slots (MQ below (mQ G A Post) args s mc ms A) (F0 m pc ls [.int v]) :=
  W.widen hcs.1 hcs.2 (W.iret X.1 X.2.1 hr (m_post hM hp) hM.2.2.1.2.2 hdg hlocks)
theorem m_zret {Post : Option Value → Mem → Prop} {mc ms : Nat} {v : Int32} {ty : FieldType} (X : Cx p c s m cc own nL G) (hr : meth.sig.returnType = some ty) (hlocks : meth.locks = false) (hM : mW G A s.heap M H locs) (hdg : decode cc pc = .ok (.ireturn, 1)) (hcs : cells ≤ mc ∧ slots ≤ ms) (hn : narrow ty (.int v) = .int v) (hp : Post (some (.int v)) M) : W p l e R s m args below meth c H locs cells slots (MQ below (mQ G A Post) args s mc ms A) (F0 m pc ls [.int v]) :=
  W.widen hcs.1 hcs.2 (W.zret X.1 X.2.1 hr hn (m_post hM hp) hM.2.2.1.2.2 hdg hlocks)
theorem m_vret {Post : Option Value → Mem → Prop} {mc ms : Nat} (X : Cx p c s m cc own nL G) (hr : meth.sig.returnType = none) (hlocks : meth.locks = false) (hM : mW G A s.heap M H locs) (hdg : decode cc pc = .ok (.return_, 1)) (hcs : cells ≤ mc ∧ slots ≤ ms) (hp : Post none M) : W p l e R s m args below meth c H locs cells slots (MQ below (mQ G A Post) args s mc ms A) (F0 m pc ls []) :=
  W.widen hcs.1 hcs.2 (W.vret X.1 X.2.1 hr (m_post hM hp) hM.2.2.1.2.2 hdg hlocks)
theorem m_aret {Post : Option Value → Mem → Prop} {mc ms : Nat} {r : Option Nat} {nm : String} (X : Cx p c s m cc own nL G) (hr : meth.sig.returnType = some (.object nm)) (hlocks : meth.locks = false) (hM : mW G A s.heap M H locs) (hdg : decode cc pc = .ok (.areturn, 1)) (hcs : cells ≤ mc ∧ slots ≤ ms) (hp : Post (some (va_rf r)) M) : W p l e R s m args below meth c H locs cells slots (MQ below (mQ G A Post) args s mc ms A) (F0 m pc ls [va_rf r]) :=
  W.widen hcs.1 hcs.2 (W.aret X.1 X.2.1 hr (Or.inl ⟨nm, rfl⟩) (va_rf_or r) (m_post hM hp) hM.2.2.1.2.2 hdg hlocks)
end MCALL
end
section
/-! branches told by whole numbers; tops by another name -/
theorem nI_ti {n : Nat} (h : n < 2 ^ 31) : (nI n).toInt = (n : Int) := nI_toInt h
theorem eI_ti {n : Nat} (h : n < 2 ^ 31) : (nI n - 1).toInt = (n : Int) - 1 := by
  cases n with
  | zero => rfl
  | succ k =>
    rw [nI_pred, nI_toInt (by omega)]
    omega
theorem eI_pos {n : Nat} (h : 0 < n) : nI n - 1 = nI (n - 1) := by
  cases n with
  | zero => omega
  | succ k => exact nI_pred k
theorem eI_suc (n : Nat) : nI n = nI (n + 1) - 1 := (nI_pred n).symm
def bI (b : Bool) : Int32 := if b then 1 else 0
theorem bI_nar (b : Bool) : narrow .boolean (.int (bI b)) = .int (bI b) := by cases b <;> rfl
section BROWS
variable {p : Program} {l : Launch} {e : Env} {R : Room} {s : State} {m : MethodId} {args : Array Value} {below : List Frame} {meth : Method} {c : Code} {H : Heap} {locs : List Loc} {cells slots : Nat} {Q : State → Prop}
variable {cc : ByteArray} {pc nL : Nat} {ls : Array Slot} {rest : List Value} {G : mG} {own : String}

theorem lv_top {x y : Int32} (h : x = y) (k : W p l e R s m args below meth c H locs cells slots Q (F0 m pc ls (.int y :: rest))) : W p l e R s m args below meth c H locs cells slots Q (F0 m pc ls (.int x :: rest)) := by rw [h]; exact k
theorem lv_topv {x y : Value} (h : x = y) (k : W p l e R s m args below meth c H locs cells slots Q (F0 m pc ls (y :: rest))) : W p l e R s m args below meth c H locs cells slots Q (F0 m pc ls (x :: rest)) := by rw [h]; exact k
theorem b_icmp_eq (X : Cx p c s m cc own nL G) {x y : Int32} {off : Int} {tgt : Nat} (hdg : decode cc pc = .ok (.if_icmp .eq off, 3)) (ht : (pc : Int) + off = (tgt : Int)) {a b : Int} (ha : x.toInt = a) (hb : y.toInt = b) (kt : a = b → W p l e R s m args below meth c H locs cells slots Q (F0 m tgt ls rest)) (kf : ¬ a = b → W p l e R s m args below meth c H locs cells slots Q (F0 m (pc + 3) ls rest)) : W p l e R s m args below meth c H locs cells slots Q (F0 m pc ls (.int y :: .int x :: rest)) :=
  lv_icmp_eq X.1 X.2.1 hdg ht (fun h => kt (by rw [← ha, ← hb, h])) (fun h => kf (fun q => h (Int32.toInt_inj.mp (by rw [ha, hb]; exact q))))
theorem b_icmp_ne (X : Cx p c s m cc own nL G) {x y : Int32} {off : Int} {tgt : Nat} (hdg : decode cc pc = .ok (.if_icmp .ne off, 3)) (ht : (pc : Int) + off = (tgt : Int)) {a b : Int} (ha : x.toInt = a) (hb : y.toInt = b) (kt : ¬ a = b → W p l e R s m args below meth c H locs cells slots Q (F0 m tgt ls rest)) (kf : a = b → W p l e R s m args below meth c H locs cells slots Q (F0 m (pc + 3) ls rest)) : W p l e R s m args below meth c H locs cells slots Q (F0 m pc ls (.int y :: .int x :: rest)) :=
  lv_icmp_ne X.1 X.2.1 hdg ht (fun h => kt (fun q => h (Int32.toInt_inj.mp (by rw [ha, hb]; exact q)))) (fun h => kf (by rw [← ha, ← hb, h]))
theorem b_icmp_lt (X : Cx p c s m cc own nL G) {x y : Int32} {off : Int} {tgt : Nat} (hdg : decode cc pc = .ok (.if_icmp .lt off, 3)) (ht : (pc : Int) + off = (tgt : Int)) {a b : Int} (ha : x.toInt = a) (hb : y.toInt = b) (kt : a < b → W p l e R s m args below meth c H locs cells slots Q (F0 m tgt ls rest)) (kf : b ≤ a → W p l e R s m args below meth c H locs cells slots Q (F0 m (pc + 3) ls rest)) : W p l e R s m args below meth c H locs cells slots Q (F0 m pc ls (.int y :: .int x :: rest)) :=
  lv_icmp_lt X.1 X.2.1 hdg ht (fun h => kt (by have := Int32.lt_iff_toInt_lt.mp h; omega)) (fun h => kf (by have : ¬ (x.toInt < y.toInt) := fun q => h (Int32.lt_iff_toInt_lt.mpr q); omega))
theorem b_icmp_ge (X : Cx p c s m cc own nL G) {x y : Int32} {off : Int} {tgt : Nat} (hdg : decode cc pc = .ok (.if_icmp .ge off, 3)) (ht : (pc : Int) + off = (tgt : Int)) {a b : Int} (ha : x.toInt = a) (hb : y.toInt = b) (kt : b ≤ a → W p l e R s m args below meth c H locs cells slots Q (F0 m tgt ls rest)) (kf : a < b → W p l e R s m args below meth c H locs cells slots Q (F0 m (pc + 3) ls rest)) : W p l e R s m args below meth c H locs cells slots Q (F0 m pc ls (.int y :: .int x :: rest)) :=
  lv_icmp_ge X.1 X.2.1 hdg ht (fun h => kt (by have := Int32.le_iff_toInt_le.mp h; omega)) (fun h => kf (by have : ¬ (y.toInt ≤ x.toInt) := fun q => h (Int32.le_iff_toInt_le.mpr q); omega))
theorem b_icmp_gt (X : Cx p c s m cc own nL G) {x y : Int32} {off : Int} {tgt : Nat} (hdg : decode cc pc = .ok (.if_icmp .gt off, 3)) (ht : (pc : Int) + off = (tgt : Int)) {a b : Int} (ha : x.toInt = a) (hb : y.toInt = b) (kt : b < a → W p l e R s m args below meth c H locs cells slots Q (F0 m tgt ls rest)) (kf : a ≤ b → W p l e R s m args below meth c H locs cells slots Q (F0 m (pc + 3) ls rest)) : W p l e R s m args below meth c H locs cells slots Q (F0 m pc ls (.int y :: .int x :: rest)) :=
  lv_icmp_gt X.1 X.2.1 hdg ht (fun h => kt (by have := Int32.lt_iff_toInt_lt.mp h; omega)) (fun h => kf (by have : ¬ (y.toInt < x.toInt) := fun q => h (Int32.lt_iff_toInt_lt.mpr q); omega))
theorem b_icmp_le (X : Cx p c s m cc own nL G) {x y : Int32} {off : Int} {tgt : Nat} (hdg : decode cc pc = .ok (.if_icmp .le off, 3)) (ht : (pc : Int) + off = (tgt : Int)) {a b : Int} (ha : x.toInt = a) (hb : y.toInt = b) (kt : a ≤ b → W p l e R s m args below meth c H locs cells slots Q (F0 m tgt ls rest)) (kf : b < a → W p l e R s m args below meth c H locs cells slots Q (F0 m (pc + 3) ls rest)) : W p l e R s m args below meth c H locs cells slots Q (F0 m pc ls (.int y :: .int x :: rest)) :=
  lv_icmp_le X.1 X.2.1 hdg ht (fun h => kt (by have := Int32.le_iff_toInt_le.mp h; omega)) (fun h => kf (by have : ¬ (x.toInt ≤ y.toInt) := fun q => h (Int32.le_iff_toInt_le.mpr q); omega))
theorem b_if_eq (X : Cx p c s m cc own nL G) {x : Int32} {off : Int} {tgt : Nat} (hdg : decode cc pc = .ok (.ifCond .eq off, 3)) (ht : (pc : Int) + off = (tgt : Int)) {a : Int} (ha : x.toInt = a) (kt : a = 0 → W p l e R s m args below meth c H locs cells slots Q (F0 m tgt ls rest)) (kf : ¬ a = 0 → W p l e R s m args below meth c H locs cells slots Q (F0 m (pc + 3) ls rest)) : W p l e R s m args below meth c H locs cells slots Q (F0 m pc ls (.int x :: rest)) :=
  lv_if_eq X.1 X.2.1 hdg ht (fun h => kt (by rw [← ha, h]; rfl)) (fun h => kf (fun q => h (Int32.toInt_inj.mp (by rw [ha]; exact q))))
theorem b_if_ne (X : Cx p c s m cc own nL G) {x : Int32} {off : Int} {tgt : Nat} (hdg : decode cc pc = .ok (.ifCond .ne off, 3)) (ht : (pc : Int) + off = (tgt : Int)) {a : Int} (ha : x.toInt = a) (kt : ¬ a = 0 → W p l e R s m args below meth c H locs cells slots Q (F0 m tgt ls rest)) (kf : a = 0 → W p l e R s m args below meth c H locs cells slots Q (F0 m (pc + 3) ls rest)) : W p l e R s m args below meth c H locs cells slots Q (F0 m pc ls (.int x :: rest)) :=
  lv_if_ne X.1 X.2.1 hdg ht (fun h => kt (fun q => h (Int32.toInt_inj.mp (by rw [ha]; exact q)))) (fun h => kf (by rw [← ha, h]; rfl))
theorem b_if_lt (X : Cx p c s m cc own nL G) {x : Int32} {off : Int} {tgt : Nat} (hdg : decode cc pc = .ok (.ifCond .lt off, 3)) (ht : (pc : Int) + off = (tgt : Int)) {a : Int} (ha : x.toInt = a) (kt : a < 0 → W p l e R s m args below meth c H locs cells slots Q (F0 m tgt ls rest)) (kf : 0 ≤ a → W p l e R s m args below meth c H locs cells slots Q (F0 m (pc + 3) ls rest)) : W p l e R s m args below meth c H locs cells slots Q (F0 m pc ls (.int x :: rest)) :=
  lv_if_lt X.1 X.2.1 hdg ht (fun h => kt (by have := Int32.lt_iff_toInt_lt.mp h; rw [Int32.toInt_zero] at this; omega)) (fun h => kf (by have : ¬ (x.toInt < 0) := fun q => h (Int32.lt_iff_toInt_lt.mpr (by rw [Int32.toInt_zero]; exact q)); omega))
theorem b_if_ge (X : Cx p c s m cc own nL G) {x : Int32} {off : Int} {tgt : Nat} (hdg : decode cc pc = .ok (.ifCond .ge off, 3)) (ht : (pc : Int) + off = (tgt : Int)) {a : Int} (ha : x.toInt = a) (kt : 0 ≤ a → W p l e R s m args below meth c H locs cells slots Q (F0 m tgt ls rest)) (kf : a < 0 → W p l e R s m args below meth c H locs cells slots Q (F0 m (pc + 3) ls rest)) : W p l e R s m args below meth c H locs cells slots Q (F0 m pc ls (.int x :: rest)) :=
  lv_if_ge X.1 X.2.1 hdg ht (fun h => kt (by have := Int32.le_iff_toInt_le.mp h; rw [Int32.toInt_zero] at this; omega)) (fun h => kf (by have : ¬ (0 ≤ x.toInt) := fun q => h (Int32.le_iff_toInt_le.mpr (by rw [Int32.toInt_zero]; exact q)); omega))
theorem b_if_gt (X : Cx p c s m cc own nL G) {x : Int32} {off : Int} {tgt : Nat} (hdg : decode cc pc = .ok (.ifCond .gt off, 3)) (ht : (pc : Int) + off = (tgt : Int)) {a : Int} (ha : x.toInt = a) (kt : 0 < a → W p l e R s m args below meth c H locs cells slots Q (F0 m tgt ls rest)) (kf : a ≤ 0 → W p l e R s m args below meth c H locs cells slots Q (F0 m (pc + 3) ls rest)) : W p l e R s m args below meth c H locs cells slots Q (F0 m pc ls (.int x :: rest)) :=
  lv_if_gt X.1 X.2.1 hdg ht (fun h => kt (by have := Int32.lt_iff_toInt_lt.mp h; rw [Int32.toInt_zero] at this; omega)) (fun h => kf (by have : ¬ (0 < x.toInt) := fun q => h (Int32.lt_iff_toInt_lt.mpr (by rw [Int32.toInt_zero]; exact q)); omega))
theorem b_if_le (X : Cx p c s m cc own nL G) {x : Int32} {off : Int} {tgt : Nat} (hdg : decode cc pc = .ok (.ifCond .le off, 3)) (ht : (pc : Int) + off = (tgt : Int)) {a : Int} (ha : x.toInt = a) (kt : a ≤ 0 → W p l e R s m args below meth c H locs cells slots Q (F0 m tgt ls rest)) (kf : 0 < a → W p l e R s m args below meth c H locs cells slots Q (F0 m (pc + 3) ls rest)) : W p l e R s m args below meth c H locs cells slots Q (F0 m pc ls (.int x :: rest)) :=
  lv_if_le X.1 X.2.1 hdg ht (fun h => kt (by have := Int32.le_iff_toInt_le.mp h; rw [Int32.toInt_zero] at this; omega)) (fun h => kf (by have : ¬ (x.toInt ≤ 0) := fun q => h (Int32.le_iff_toInt_le.mpr (by rw [Int32.toInt_zero]; exact q)); omega))
theorem b_bool_eq (X : Cx p c s m cc own nL G) {b : Bool} {off : Int} {tgt : Nat} (hdg : decode cc pc = .ok (.ifCond .eq off, 3)) (ht : (pc : Int) + off = (tgt : Int)) (kt : b = false → W p l e R s m args below meth c H locs cells slots Q (F0 m tgt ls rest)) (kf : b = true → W p l e R s m args below meth c H locs cells slots Q (F0 m (pc + 3) ls rest)) : W p l e R s m args below meth c H locs cells slots Q (F0 m pc ls (.int (bI b) :: rest)) :=
  lv_if_eq X.1 X.2.1 hdg ht (fun h => kt (by cases b with | false => rfl | true => exact absurd h (by decide))) (fun h => kf (by cases b with | false => exact absurd rfl h | true => rfl))
theorem b_bool_ne (X : Cx p c s m cc own nL G) {b : Bool} {off : Int} {tgt : Nat} (hdg : decode cc pc = .ok (.ifCond .ne off, 3)) (ht : (pc : Int) + off = (tgt : Int)) (kt : b = true → W p l e R s m args below meth c H locs cells slots Q (F0 m tgt ls rest)) (kf : b = false → W p l e R s m args below meth c H locs cells slots Q (F0 m (pc + 3) ls rest)) : W p l e R s m args below meth c H locs cells slots Q (F0 m pc ls (.int (bI b) :: rest)) :=
  lv_if_ne X.1 X.2.1 hdg ht (fun h => kt (by cases b with | false => exact absurd rfl h | true => rfl)) (fun h => kf (by cases b with | false => rfl | true => exact absurd h (by decide)))
theorem b_null (X : Cx p c s m cc own nL G) {r : Option Nat} {off : Int} {tgt : Nat} (hdg : decode cc pc = .ok (.ifnull off, 3)) (ht : (pc : Int) + off = (tgt : Int)) (kt : r = none → W p l e R s m args below meth c H locs cells slots Q (F0 m tgt ls rest)) (kf : ∀ a, r = some a → W p l e R s m args below meth c H locs cells slots Q (F0 m (pc + 3) ls rest)) : W p l e R s m args below meth c H locs cells slots Q (F0 m pc ls (va_rf r :: rest)) := by
  cases r with
  | none => exact lv_ifnullN X.1 X.2.1 hdg ht (kt rfl)
  | some a => exact lv_ifnull X.1 X.2.1 hdg (kf a rfl)
theorem b_nonnull (X : Cx p c s m cc own nL G) {r : Option Nat} {off : Int} {tgt : Nat} (hdg : decode cc pc = .ok (.ifnonnull off, 3)) (ht : (pc : Int) + off = (tgt : Int)) (kt : ∀ a, r = some a → W p l e R s m args below meth c H locs cells slots Q (F0 m tgt ls rest)) (kf : r = none → W p l e R s m args below meth c H locs cells slots Q (F0 m (pc + 3) ls rest)) : W p l e R s m args below meth c H locs cells slots Q (F0 m pc ls (va_rf r :: rest)) := by
  cases r with
  | none => exact lv_ifnonnullN X.1 X.2.1 hdg (kf rfl)
  | some a => exact lv_ifnonnull X.1 X.2.1 hdg ht (kt a rfl)
end BROWS
end
section
/-! the tables' words that the walks use, by their places -/
theorem kwX0 : ∀ w ∈ wsX00, w ∈ KTW := by decide +kernel
theorem kini_X0 : Cond.initialized RX0 ∈ KTW := kt_in 63 (by decide +kernel) (by decide +kernel)
theorem kwX1 : ∀ w ∈ wsX10, w ∈ KTW := by decide +kernel
theorem kini_X1 : Cond.initialized RX1 ∈ KTW := kt_in 60 (by decide +kernel) (by decide +kernel)
theorem kwX2 : ∀ w ∈ wsX20, w ∈ KTW := by decide +kernel
theorem kini_X2 : Cond.initialized RX2 ∈ KTW := kt_in 53 (by decide +kernel) (by decide +kernel)
theorem kwX3 : ∀ w ∈ wsX30, w ∈ KTW := by decide +kernel
theorem kini_X3 : Cond.initialized RX3 ∈ KTW := kt_in 65 (by decide +kernel) (by decide +kernel)
theorem kwX4 : ∀ w ∈ wsX40, w ∈ KTW := by decide +kernel
theorem kini_X4 : Cond.initialized RX4 ∈ KTW := kt_in 54 (by decide +kernel) (by decide +kernel)
theorem kwX5 : ∀ w ∈ wsX50, w ∈ KTW := by decide +kernel
theorem kini_X5 : Cond.initialized RX5 ∈ KTW := kt_in 64 (by decide +kernel) (by decide +kernel)
theorem kwX6 : ∀ w ∈ wsX60, w ∈ KTW := by decide +kernel
theorem kini_X6 : Cond.initialized RX6 ∈ KTW := kt_in 52 (by decide +kernel) (by decide +kernel)
theorem kwX7 : ∀ w ∈ wsX70, w ∈ KTW := by decide +kernel
theorem kini_X7 : Cond.initialized RX7 ∈ KTW := kt_in 55 (by decide +kernel) (by decide +kernel)
theorem kinst_X6 : Cond.instantiable RX6 10 ∈ KTW := kt_in 78 (by decide +kernel) (by decide +kernel)
theorem ki_X6_init : Cond.instanceMethod yX6_init ∈ KTW := kt_in 80 (by decide +kernel) (by decide +kernel)
-- no code: ['SkinLeague', 1, ('java/lang/Object', '<init>', '()V')]
theorem kcl_X6_9 : Cond.classLink RX6 9 RX1 ∈ KTW := kt_in 85 (by decide +kernel) (by decide +kernel)
theorem kcl_X6_15 : Cond.classLink RX6 15 RX0 ∈ KTW := kt_in 87 (by decide +kernel) (by decide +kernel)
theorem kcl_X6_21 : Cond.classLink RX6 21 RX4 ∈ KTW := kt_in 89 (by decide +kernel) (by decide +kernel)
theorem kcl_X6_27 : Cond.classLink RX6 27 RX5 ∈ KTW := kt_in 91 (by decide +kernel) (by decide +kernel)
theorem kcl_X6_33 : Cond.classLink RX6 33 RX2 ∈ KTW := kt_in 93 (by decide +kernel) (by decide +kernel)
theorem kinst_X2 : Cond.instantiable RX2 2 ∈ KTW := kt_in 95 (by decide +kernel) (by decide +kernel)
theorem ckN_X6_39 : mCkN RX6 39 yX2_init RX6 cX2_init 1 none 0 := ⟨kt_in 98 (by decide +kernel) (by decide +kernel), kt_in 53 (by decide +kernel) (by decide +kernel), by decide +kernel, mCk.ar (by decide +kernel), kt_in 96 (by decide +kernel) (by decide +kernel)⟩
theorem ki_X2_init : Cond.instanceMethod yX2_init ∈ KTW := kt_in 97 (by decide +kernel) (by decide +kernel)
-- no code: ['SkinLeague$Region', 3, ('java/lang/Object', '<init>', '()V')]
theorem kf_X2_9 : Cond.fieldLink RX2 9 (TX2 0).1 (TX2 0).2.1 (TX2 0).2.2.1 ∈ KTW := kt_in 100 (by decide +kernel) (by decide +kernel)
theorem kn_X6_68 : Cond.fieldLinkNest RX6 68 (TX2 0).1 (TX2 0).2.1 (TX2 0).2.2.1 RX6 ∈ KTW := kt_in 101 (by decide +kernel) (by decide +kernel)
theorem kf_X2_15 : Cond.fieldLink RX2 15 (TX2 1).1 (TX2 1).2.1 (TX2 1).2.2.1 ∈ KTW := kt_in 102 (by decide +kernel) (by decide +kernel)
theorem kn_X6_71 : Cond.fieldLinkNest RX6 71 (TX2 1).1 (TX2 1).2.1 (TX2 1).2.2.1 RX6 ∈ KTW := kt_in 103 (by decide +kernel) (by decide +kernel)
theorem kinst_X4 : Cond.instantiable RX4 3 ∈ KTW := kt_in 109 (by decide +kernel) (by decide +kernel)
theorem ckN_X6_40 : mCkN RX6 40 yX4_init RX6 cX4_init 2 none 1 := ⟨kt_in 112 (by decide +kernel) (by decide +kernel), kt_in 54 (by decide +kernel) (by decide +kernel), by decide +kernel, mCk.ar (by decide +kernel), kt_in 110 (by decide +kernel) (by decide +kernel)⟩
theorem ki_X4_init : Cond.instanceMethod yX4_init ∈ KTW := kt_in 111 (by decide +kernel) (by decide +kernel)
-- no code: ['SkinLeague$Season', 3, ('java/lang/Object', '<init>', '()V')]
theorem kf_X4_18 : Cond.fieldLink RX4 18 (TX4 0).1 (TX4 0).2.1 (TX4 0).2.2.1 ∈ KTW := kt_in 114 (by decide +kernel) (by decide +kernel)
theorem kn_X6_104 : Cond.fieldLinkNest RX6 104 (TX4 0).1 (TX4 0).2.1 (TX4 0).2.2.1 RX6 ∈ KTW := kt_in 115 (by decide +kernel) (by decide +kernel)
theorem kn_X5_87 : Cond.fieldLinkNest RX5 87 (TX4 0).1 (TX4 0).2.1 (TX4 0).2.2.1 RX6 ∈ KTW := kt_in 116 (by decide +kernel) (by decide +kernel)
theorem kf_X4_9 : Cond.fieldLink RX4 9 (TX4 1).1 (TX4 1).2.1 (TX4 1).2.2.1 ∈ KTW := kt_in 117 (by decide +kernel) (by decide +kernel)
theorem kf_X4_15 : Cond.fieldLink RX4 15 (TX4 2).1 (TX4 2).2.1 (TX4 2).2.2.1 ∈ KTW := kt_in 118 (by decide +kernel) (by decide +kernel)
theorem kf_X6_11 : Cond.fieldLink RX6 11 (TX6 0).1 (TX6 0).2.1 (TX6 0).2.2.1 ∈ KTW := kt_in 127 (by decide +kernel) (by decide +kernel)
theorem kf_X6_17 : Cond.fieldLink RX6 17 (TX6 1).1 (TX6 1).2.1 (TX6 1).2.2.1 ∈ KTW := kt_in 128 (by decide +kernel) (by decide +kernel)
theorem kf_X6_23 : Cond.fieldLink RX6 23 (TX6 2).1 (TX6 2).2.1 (TX6 2).2.2.1 ∈ KTW := kt_in 129 (by decide +kernel) (by decide +kernel)
theorem kf_X6_29 : Cond.fieldLink RX6 29 (TX6 3).1 (TX6 3).2.1 (TX6 3).2.2.1 ∈ KTW := kt_in 130 (by decide +kernel) (by decide +kernel)
theorem kf_X6_35 : Cond.fieldLink RX6 35 (TX6 4).1 (TX6 4).2.1 (TX6 4).2.2.1 ∈ KTW := kt_in 131 (by decide +kernel) (by decide +kernel)
theorem kf_X6_47 : Cond.fieldLink RX6 47 (TX6 5).1 (TX6 5).2.1 (TX6 5).2.2.1 ∈ KTW := kt_in 132 (by decide +kernel) (by decide +kernel)
theorem kf_X6_80 : Cond.fieldLink RX6 80 (TX6 6).1 (TX6 6).2.1 (TX6 6).2.2.1 ∈ KTW := kt_in 133 (by decide +kernel) (by decide +kernel)
theorem kf_X6_258 : Cond.fieldLink RX6 258 (TX6 7).1 (TX6 7).2.1 (TX6 7).2.2.1 ∈ KTW := kt_in 134 (by decide +kernel) (by decide +kernel)
theorem kf_X6_89 : Cond.fieldLink RX6 89 (TX6 8).1 (TX6 8).2.1 (TX6 8).2.2.1 ∈ KTW := kt_in 135 (by decide +kernel) (by decide +kernel)
theorem kf_X6_43 : Cond.fieldLink RX6 43 (TX6 9).1 (TX6 9).2.1 (TX6 9).2.2.1 ∈ KTW := kt_in 136 (by decide +kernel) (by decide +kernel)
theorem ki_X6_player : Cond.instanceMethod yX6_player ∈ KTW := kt_in 163 (by decide +kernel) (by decide +kernel)
theorem ks_X6_player : Cond.selects RX6 yX6_player yX6_player ∈ KTW := kt_in 164 (by decide +kernel) (by decide +kernel)
-- no code: ['SkinLeague', 55, ('java/lang/IllegalStateException', '<init>', '(Ljava/lang/String;)V')]
theorem kinst_X1 : Cond.instantiable RX1 4 ∈ KTW := kt_in 234 (by decide +kernel) (by decide +kernel)
theorem ckN_X6_58 : mCkN RX6 58 yX1_init RX6 cX1_init 2 none 1 := ⟨kt_in 237 (by decide +kernel) (by decide +kernel), kt_in 60 (by decide +kernel) (by decide +kernel), by decide +kernel, mCk.ar (by decide +kernel), kt_in 235 (by decide +kernel) (by decide +kernel)⟩
theorem ki_X1_init : Cond.instanceMethod yX1_init ∈ KTW := kt_in 236 (by decide +kernel) (by decide +kernel)
-- no code: ['SkinLeague$Player', 3, ('java/lang/Object', '<init>', '()V')]
theorem kf_X1_15 : Cond.fieldLink RX1 15 (TX1 0).1 (TX1 0).2.1 (TX1 0).2.2.1 ∈ KTW := kt_in 239 (by decide +kernel) (by decide +kernel)
theorem kn_X0_36 : Cond.fieldLinkNest RX0 36 (TX1 0).1 (TX1 0).2.1 (TX1 0).2.2.1 RX6 ∈ KTW := kt_in 240 (by decide +kernel) (by decide +kernel)
theorem kn_X5_90 : Cond.fieldLinkNest RX5 90 (TX1 0).1 (TX1 0).2.1 (TX1 0).2.2.1 RX6 ∈ KTW := kt_in 241 (by decide +kernel) (by decide +kernel)
theorem kn_X6_183 : Cond.fieldLinkNest RX6 183 (TX1 0).1 (TX1 0).2.1 (TX1 0).2.2.1 RX6 ∈ KTW := kt_in 242 (by decide +kernel) (by decide +kernel)
theorem kn_X5_73 : Cond.fieldLinkNest RX5 73 (TX1 1).1 (TX1 1).2.1 (TX1 1).2.2.1 RX6 ∈ KTW := kt_in 243 (by decide +kernel) (by decide +kernel)
theorem kn_X6_220 : Cond.fieldLinkNest RX6 220 (TX1 1).1 (TX1 1).2.1 (TX1 1).2.2.1 RX6 ∈ KTW := kt_in 244 (by decide +kernel) (by decide +kernel)
theorem kf_X1_9 : Cond.fieldLink RX1 9 (TX1 2).1 (TX1 2).2.1 (TX1 2).2.2.1 ∈ KTW := kt_in 245 (by decide +kernel) (by decide +kernel)
theorem kn_X6_162 : Cond.fieldLinkNest RX6 162 (TX1 2).1 (TX1 2).2.1 (TX1 2).2.2.1 RX6 ∈ KTW := kt_in 246 (by decide +kernel) (by decide +kernel)
theorem kf_X1_18 : Cond.fieldLink RX1 18 (TX1 3).1 (TX1 3).2.1 (TX1 3).2.2.1 ∈ KTW := kt_in 247 (by decide +kernel) (by decide +kernel)
theorem kn_X6_167 : Cond.fieldLinkNest RX6 167 (TX1 3).1 (TX1 3).2.1 (TX1 3).2.2.1 RX6 ∈ KTW := kt_in 248 (by decide +kernel) (by decide +kernel)
theorem ki_X6_room : Cond.instanceMethod yX6_room ∈ KTW := kt_in 264 (by decide +kernel) (by decide +kernel)
theorem ks_X6_room : Cond.selects RX6 yX6_room yX6_room ∈ KTW := kt_in 265 (by decide +kernel) (by decide +kernel)
theorem ck_X6_59 : mCk RX6 59 yX6_regionAt cX6_regionAt 3 (some (FieldType.object "SkinLeague$Region")) 1 := ⟨kt_in 270 (by decide +kernel) (by decide +kernel), kt_in 52 (by decide +kernel) (by decide +kernel), by decide +kernel, mCk.ar (by decide +kernel), kt_in 267 (by decide +kernel) (by decide +kernel)⟩
theorem ki_X6_regionAt : Cond.instanceMethod yX6_regionAt ∈ KTW := kt_in 269 (by decide +kernel) (by decide +kernel)
-- no code: ['SkinLeague', 227, ('java/lang/IndexOutOfBoundsException', '<init>', '(Ljava/lang/String;)V')]
-- no code: ['SkinLeague', 67, ('java/lang/IllegalArgumentException', '<init>', '(Ljava/lang/String;)V')]
theorem ki_X6_match : Cond.instanceMethod yX6_match ∈ KTW := kt_in 307 (by decide +kernel) (by decide +kernel)
theorem ks_X6_match : Cond.selects RX6 yX6_match yX6_match ∈ KTW := kt_in 308 (by decide +kernel) (by decide +kernel)
theorem ck_X6_74 : mCk RX6 74 yX6_playerAt cX6_playerAt 3 (some (FieldType.object "SkinLeague$Player")) 1 := ⟨kt_in 313 (by decide +kernel) (by decide +kernel), kt_in 52 (by decide +kernel) (by decide +kernel), by decide +kernel, mCk.ar (by decide +kernel), kt_in 310 (by decide +kernel) (by decide +kernel)⟩
theorem ki_X6_playerAt : Cond.instanceMethod yX6_playerAt ∈ KTW := kt_in 312 (by decide +kernel) (by decide +kernel)
theorem ck_X6_242 : mCk RX6 242 yX6_findPlayer cX6_findPlayer 2 (some (FieldType.object "SkinLeague$Player")) 1 := ⟨kt_in 317 (by decide +kernel) (by decide +kernel), kt_in 52 (by decide +kernel) (by decide +kernel), by decide +kernel, mCk.ar (by decide +kernel), kt_in 314 (by decide +kernel) (by decide +kernel)⟩
theorem ki_X6_findPlayer : Cond.instanceMethod yX6_findPlayer ∈ KTW := kt_in 316 (by decide +kernel) (by decide +kernel)
theorem ckN_X6_83 : mCkN RX6 83 yX2_isFull RX6 cX2_isFull 1 (some FieldType.boolean) 0 := ⟨kt_in 323 (by decide +kernel) (by decide +kernel), kt_in 53 (by decide +kernel) (by decide +kernel), by decide +kernel, mCk.ar (by decide +kernel), kt_in 320 (by decide +kernel) (by decide +kernel)⟩
theorem ki_X2_isFull : Cond.instanceMethod yX2_isFull ∈ KTW := kt_in 322 (by decide +kernel) (by decide +kernel)
theorem ckN_X6_92 : mCkN RX6 92 yX1_isBanned RX6 cX1_isBanned 2 (some FieldType.boolean) 1 := ⟨kt_in 328 (by decide +kernel) (by decide +kernel), kt_in 60 (by decide +kernel) (by decide +kernel), by decide +kernel, mCk.ar (by decide +kernel), kt_in 325 (by decide +kernel) (by decide +kernel)⟩
theorem ki_X1_isBanned : Cond.instanceMethod yX1_isBanned ∈ KTW := kt_in 327 (by decide +kernel) (by decide +kernel)
theorem kinst_X0 : Cond.instantiable RX0 4 ∈ KTW := kt_in 330 (by decide +kernel) (by decide +kernel)
theorem ckN_X6_98 : mCkN RX6 98 yX0_init RX6 cX0_init 5 none 4 := ⟨kt_in 333 (by decide +kernel) (by decide +kernel), kt_in 63 (by decide +kernel) (by decide +kernel), by decide +kernel, mCk.ar (by decide +kernel), kt_in 331 (by decide +kernel) (by decide +kernel)⟩
theorem ki_X0_init : Cond.instanceMethod yX0_init ∈ KTW := kt_in 332 (by decide +kernel) (by decide +kernel)
-- no code: ['SkinLeague$Match', 3, ('java/lang/Object', '<init>', '()V')]
theorem kf_X0_9 : Cond.fieldLink RX0 9 (TX0 0).1 (TX0 0).2.1 (TX0 0).2.2.1 ∈ KTW := kt_in 335 (by decide +kernel) (by decide +kernel)
theorem kf_X0_15 : Cond.fieldLink RX0 15 (TX0 1).1 (TX0 1).2.1 (TX0 1).2.2.1 ∈ KTW := kt_in 336 (by decide +kernel) (by decide +kernel)
theorem kf_X0_18 : Cond.fieldLink RX0 18 (TX0 2).1 (TX0 2).2.1 (TX0 2).2.2.1 ∈ KTW := kt_in 337 (by decide +kernel) (by decide +kernel)
theorem kf_X0_22 : Cond.fieldLink RX0 22 (TX0 3).1 (TX0 3).2.1 (TX0 3).2.2.1 ∈ KTW := kt_in 338 (by decide +kernel) (by decide +kernel)
theorem ckN_X6_101 : mCkN RX6 101 yX0_addPoints RX6 cX0_addPoints 1 none 0 := ⟨kt_in 351 (by decide +kernel) (by decide +kernel), kt_in 63 (by decide +kernel) (by decide +kernel), by decide +kernel, mCk.ar (by decide +kernel), kt_in 348 (by decide +kernel) (by decide +kernel)⟩
theorem ki_X0_addPoints : Cond.instanceMethod yX0_addPoints ∈ KTW := kt_in 350 (by decide +kernel) (by decide +kernel)
theorem ck_X0_32 : mCk RX0 32 yX0_isStanding cX0_isStanding 1 (some FieldType.boolean) 0 := ⟨kt_in 355 (by decide +kernel) (by decide +kernel), kt_in 63 (by decide +kernel) (by decide +kernel), by decide +kernel, mCk.ar (by decide +kernel), kt_in 352 (by decide +kernel) (by decide +kernel)⟩
theorem ki_X0_isStanding : Cond.instanceMethod yX0_isStanding ∈ KTW := kt_in 354 (by decide +kernel) (by decide +kernel)
theorem ckN_X0_26 : mCkN RX0 26 yX1_isProvenOn RX6 cX1_isProvenOn 2 (some FieldType.boolean) 1 := ⟨kt_in 359 (by decide +kernel) (by decide +kernel), kt_in 60 (by decide +kernel) (by decide +kernel), by decide +kernel, mCk.ar (by decide +kernel), kt_in 356 (by decide +kernel) (by decide +kernel)⟩
theorem ki_X1_isProvenOn : Cond.instanceMethod yX1_isProvenOn ∈ KTW := kt_in 358 (by decide +kernel) (by decide +kernel)
theorem ck_X1_21 : mCk RX1 21 yX1_isProven cX1_isProven 1 (some FieldType.boolean) 0 := ⟨kt_in 363 (by decide +kernel) (by decide +kernel), kt_in 60 (by decide +kernel) (by decide +kernel), by decide +kernel, mCk.ar (by decide +kernel), kt_in 360 (by decide +kernel) (by decide +kernel)⟩
theorem ki_X1_isProven : Cond.instanceMethod yX1_isProven ∈ KTW := kt_in 362 (by decide +kernel) (by decide +kernel)
theorem ckN_X0_39 : mCkN RX0 39 yX4_add RX6 cX4_add 3 none 2 := ⟨kt_in 367 (by decide +kernel) (by decide +kernel), kt_in 54 (by decide +kernel) (by decide +kernel), by decide +kernel, mCk.ar (by decide +kernel), kt_in 364 (by decide +kernel) (by decide +kernel)⟩
theorem ki_X4_add : Cond.instanceMethod yX4_add ∈ KTW := kt_in 366 (by decide +kernel) (by decide +kernel)
theorem ki_X6_end : Cond.instanceMethod yX6_end ∈ KTW := kt_in 372 (by decide +kernel) (by decide +kernel)
theorem ks_X6_end : Cond.selects RX6 yX6_end yX6_end ∈ KTW := kt_in 373 (by decide +kernel) (by decide +kernel)
theorem ck_X6_109 : mCk RX6 109 yX6_awardPrizes cX6_awardPrizes 4 (some FieldType.int) 0 := ⟨kt_in 379 (by decide +kernel) (by decide +kernel), kt_in 52 (by decide +kernel) (by decide +kernel), by decide +kernel, mCk.ar (by decide +kernel), kt_in 376 (by decide +kernel) (by decide +kernel)⟩
theorem ki_X6_awardPrizes : Cond.instanceMethod yX6_awardPrizes ∈ KTW := kt_in 378 (by decide +kernel) (by decide +kernel)
theorem ckN_X6_255 : mCkN RX6 255 yX4_playerOn RX6 cX4_playerOn 4 (some FieldType.int) 1 := ⟨kt_in 383 (by decide +kernel) (by decide +kernel), kt_in 54 (by decide +kernel) (by decide +kernel), by decide +kernel, mCk.ar (by decide +kernel), kt_in 380 (by decide +kernel) (by decide +kernel)⟩
theorem ki_X4_playerOn : Cond.instanceMethod yX4_playerOn ∈ KTW := kt_in 382 (by decide +kernel) (by decide +kernel)
theorem ck_X4_30 : mCk RX4 30 yX4_firstBehind cX4_firstBehind 4 (some FieldType.int) 1 := ⟨kt_in 387 (by decide +kernel) (by decide +kernel), kt_in 54 (by decide +kernel) (by decide +kernel), by decide +kernel, mCk.ar (by decide +kernel), kt_in 384 (by decide +kernel) (by decide +kernel)⟩
theorem ki_X4_firstBehind : Cond.instanceMethod yX4_firstBehind ∈ KTW := kt_in 386 (by decide +kernel) (by decide +kernel)
theorem ck_X4_26 : mCk RX4 26 yX4_isAhead cX4_isAhead 5 (some FieldType.boolean) 2 := ⟨kt_in 391 (by decide +kernel) (by decide +kernel), kt_in 54 (by decide +kernel) (by decide +kernel), by decide +kernel, mCk.ar (by decide +kernel), kt_in 388 (by decide +kernel) (by decide +kernel)⟩
theorem ki_X4_isAhead : Cond.instanceMethod yX4_isAhead ∈ KTW := kt_in 390 (by decide +kernel) (by decide +kernel)
theorem ck_X4_22 : mCk RX4 22 yX4_pointsOf cX4_pointsOf 2 (some FieldType.int) 1 := ⟨kt_in 395 (by decide +kernel) (by decide +kernel), kt_in 54 (by decide +kernel) (by decide +kernel), by decide +kernel, mCk.ar (by decide +kernel), kt_in 392 (by decide +kernel) (by decide +kernel)⟩
theorem ki_X4_pointsOf : Cond.instanceMethod yX4_pointsOf ∈ KTW := kt_in 394 (by decide +kernel) (by decide +kernel)
theorem ck_X4_33 : mCk RX4 33 yX4_gamesOf cX4_gamesOf 2 (some FieldType.int) 1 := ⟨kt_in 399 (by decide +kernel) (by decide +kernel), kt_in 54 (by decide +kernel) (by decide +kernel), by decide +kernel, mCk.ar (by decide +kernel), kt_in 396 (by decide +kernel) (by decide +kernel)⟩
theorem ki_X4_gamesOf : Cond.instanceMethod yX4_gamesOf ∈ KTW := kt_in 398 (by decide +kernel) (by decide +kernel)
theorem kinst_X5 : Cond.instantiable RX5 10 ∈ KTW := kt_in 400 (by decide +kernel) (by decide +kernel)
theorem ckN_X6_261 : mCkN RX6 261 yX5_init RX6 cX5_init 5 none 4 := ⟨kt_in 403 (by decide +kernel) (by decide +kernel), kt_in 64 (by decide +kernel) (by decide +kernel), by decide +kernel, mCk.ar (by decide +kernel), kt_in 401 (by decide +kernel) (by decide +kernel)⟩
theorem ki_X5_init : Cond.instanceMethod yX5_init ∈ KTW := kt_in 402 (by decide +kernel) (by decide +kernel)
-- no code: ['SkinLeague$Skin', 3, ('java/lang/Object', '<init>', '()V')]
theorem kcl_X5_9 : Cond.classLink RX5 9 RX3 ∈ KTW := kt_in 405 (by decide +kernel) (by decide +kernel)
theorem kf_X5_17 : Cond.fieldLink RX5 17 (TX5 0).1 (TX5 0).2.1 (TX5 0).2.2.1 ∈ KTW := kt_in 407 (by decide +kernel) (by decide +kernel)
theorem kf_X5_21 : Cond.fieldLink RX5 21 (TX5 1).1 (TX5 1).2.1 (TX5 1).2.2.1 ∈ KTW := kt_in 408 (by decide +kernel) (by decide +kernel)
theorem kn_X6_206 : Cond.fieldLinkNest RX6 206 (TX5 1).1 (TX5 1).2.1 (TX5 1).2.2.1 RX6 ∈ KTW := kt_in 409 (by decide +kernel) (by decide +kernel)
theorem kf_X5_25 : Cond.fieldLink RX5 25 (TX5 2).1 (TX5 2).2.1 (TX5 2).2.2.1 ∈ KTW := kt_in 410 (by decide +kernel) (by decide +kernel)
theorem kn_X6_209 : Cond.fieldLinkNest RX6 209 (TX5 2).1 (TX5 2).2.1 (TX5 2).2.2.1 RX6 ∈ KTW := kt_in 411 (by decide +kernel) (by decide +kernel)
theorem kf_X5_11 : Cond.fieldLink RX5 11 (TX5 3).1 (TX5 3).2.1 (TX5 3).2.2.1 ∈ KTW := kt_in 412 (by decide +kernel) (by decide +kernel)
theorem kf_X5_39 : Cond.fieldLink RX5 39 (TX5 4).1 (TX5 4).2.1 (TX5 4).2.2.1 ∈ KTW := kt_in 413 (by decide +kernel) (by decide +kernel)
theorem kn_X6_212 : Cond.fieldLinkNest RX6 212 (TX5 4).1 (TX5 4).2.1 (TX5 4).2.2.1 RX6 ∈ KTW := kt_in 414 (by decide +kernel) (by decide +kernel)
theorem kf_X5_35 : Cond.fieldLink RX5 35 (TX5 5).1 (TX5 5).2.1 (TX5 5).2.2.1 ∈ KTW := kt_in 415 (by decide +kernel) (by decide +kernel)
theorem kf_X5_28 : Cond.fieldLink RX5 28 (TX5 6).1 (TX5 6).2.1 (TX5 6).2.2.1 ∈ KTW := kt_in 416 (by decide +kernel) (by decide +kernel)
theorem kn_X6_200 : Cond.fieldLinkNest RX6 200 (TX5 6).1 (TX5 6).2.1 (TX5 6).2.2.1 RX6 ∈ KTW := kt_in 417 (by decide +kernel) (by decide +kernel)
theorem kf_X5_32 : Cond.fieldLink RX5 32 (TX5 7).1 (TX5 7).2.1 (TX5 7).2.2.1 ∈ KTW := kt_in 418 (by decide +kernel) (by decide +kernel)
theorem kn_X6_119 : Cond.fieldLinkNest RX6 119 (TX5 7).1 (TX5 7).2.1 (TX5 7).2.2.1 RX6 ∈ KTW := kt_in 419 (by decide +kernel) (by decide +kernel)
theorem kf_X5_42 : Cond.fieldLink RX5 42 (TX5 8).1 (TX5 8).2.1 (TX5 8).2.2.1 ∈ KTW := kt_in 420 (by decide +kernel) (by decide +kernel)
theorem kn_X6_140 : Cond.fieldLinkNest RX6 140 (TX5 8).1 (TX5 8).2.1 (TX5 8).2.2.1 RX6 ∈ KTW := kt_in 421 (by decide +kernel) (by decide +kernel)
theorem kf_X5_45 : Cond.fieldLink RX5 45 (TX5 9).1 (TX5 9).2.1 (TX5 9).2.2.1 ∈ KTW := kt_in 422 (by decide +kernel) (by decide +kernel)
theorem kn_X6_143 : Cond.fieldLinkNest RX6 143 (TX5 9).1 (TX5 9).2.1 (TX5 9).2.2.1 RX6 ∈ KTW := kt_in 423 (by decide +kernel) (by decide +kernel)
theorem ki_X6_sell : Cond.instanceMethod yX6_sell ∈ KTW := kt_in 449 (by decide +kernel) (by decide +kernel)
theorem ks_X6_sell : Cond.selects RX6 yX6_sell yX6_sell ∈ KTW := kt_in 450 (by decide +kernel) (by decide +kernel)
theorem ck_X6_113 : mCk RX6 113 yX6_skinAt cX6_skinAt 3 (some (FieldType.object "SkinLeague$Skin")) 1 := ⟨kt_in 455 (by decide +kernel) (by decide +kernel), kt_in 52 (by decide +kernel) (by decide +kernel), by decide +kernel, mCk.ar (by decide +kernel), kt_in 452 (by decide +kernel) (by decide +kernel)⟩
theorem ki_X6_skinAt : Cond.instanceMethod yX6_skinAt ∈ KTW := kt_in 454 (by decide +kernel) (by decide +kernel)
theorem ck_X6_123 : mCk RX6 123 yX6_mayDeal cX6_mayDeal 3 (some FieldType.boolean) 2 := ⟨kt_in 461 (by decide +kernel) (by decide +kernel), kt_in 52 (by decide +kernel) (by decide +kernel), by decide +kernel, mCk.ar (by decide +kernel), kt_in 458 (by decide +kernel) (by decide +kernel)⟩
theorem ki_X6_mayDeal : Cond.instanceMethod yX6_mayDeal ∈ KTW := kt_in 460 (by decide +kernel) (by decide +kernel)
theorem ckN_X6_127 : mCkN RX6 127 yX5_isSoldOften RX6 cX5_isSoldOften 1 (some FieldType.boolean) 0 := ⟨kt_in 465 (by decide +kernel) (by decide +kernel), kt_in 64 (by decide +kernel) (by decide +kernel), by decide +kernel, mCk.ar (by decide +kernel), kt_in 462 (by decide +kernel) (by decide +kernel)⟩
theorem ki_X5_isSoldOften : Cond.instanceMethod yX5_isSoldOften ∈ KTW := kt_in 464 (by decide +kernel) (by decide +kernel)
theorem ckN_X6_132 : mCkN RX6 132 yX5_sellTo RX6 cX5_sellTo 5 (some FieldType.boolean) 2 := ⟨kt_in 470 (by decide +kernel) (by decide +kernel), kt_in 64 (by decide +kernel) (by decide +kernel), by decide +kernel, mCk.ar (by decide +kernel), kt_in 467 (by decide +kernel) (by decide +kernel)⟩
theorem ki_X5_sellTo : Cond.instanceMethod yX5_sellTo ∈ KTW := kt_in 469 (by decide +kernel) (by decide +kernel)
theorem ck_X5_48 : mCk RX5 48 yX5_isSoldOften cX5_isSoldOften 1 (some FieldType.boolean) 0 := ⟨kt_in 465 (by decide +kernel) (by decide +kernel), kt_in 64 (by decide +kernel) (by decide +kernel), by decide +kernel, mCk.ar (by decide +kernel), kt_in 471 (by decide +kernel) (by decide +kernel)⟩
theorem kinst_X3 : Cond.instantiable RX3 3 ∈ KTW := kt_in 472 (by decide +kernel) (by decide +kernel)
theorem ckN_X5_52 : mCkN RX5 52 yX3_init RX6 cX3_init 4 none 3 := ⟨kt_in 475 (by decide +kernel) (by decide +kernel), kt_in 65 (by decide +kernel) (by decide +kernel), by decide +kernel, mCk.ar (by decide +kernel), kt_in 473 (by decide +kernel) (by decide +kernel)⟩
theorem ki_X3_init : Cond.instanceMethod yX3_init ∈ KTW := kt_in 474 (by decide +kernel) (by decide +kernel)
-- no code: ['SkinLeague$Sale', 1, ('java/lang/Object', '<init>', '()V')]
theorem kf_X3_7 : Cond.fieldLink RX3 7 (TX3 0).1 (TX3 0).2.1 (TX3 0).2.2.1 ∈ KTW := kt_in 477 (by decide +kernel) (by decide +kernel)
theorem kn_X5_67 : Cond.fieldLinkNest RX5 67 (TX3 0).1 (TX3 0).2.1 (TX3 0).2.2.1 RX6 ∈ KTW := kt_in 478 (by decide +kernel) (by decide +kernel)
theorem kf_X3_13 : Cond.fieldLink RX3 13 (TX3 1).1 (TX3 1).2.1 (TX3 1).2.2.1 ∈ KTW := kt_in 479 (by decide +kernel) (by decide +kernel)
theorem kn_X5_70 : Cond.fieldLinkNest RX5 70 (TX3 1).1 (TX3 1).2.1 (TX3 1).2.2.1 RX6 ∈ KTW := kt_in 480 (by decide +kernel) (by decide +kernel)
theorem kf_X3_16 : Cond.fieldLink RX3 16 (TX3 2).1 (TX3 2).2.1 (TX3 2).2.2.1 ∈ KTW := kt_in 481 (by decide +kernel) (by decide +kernel)
theorem kn_X5_61 : Cond.fieldLinkNest RX5 61 (TX3 2).1 (TX3 2).2.1 (TX3 2).2.2.1 RX6 ∈ KTW := kt_in 482 (by decide +kernel) (by decide +kernel)
theorem ckN_X5_55 : mCkN RX5 55 yX3_isInFaithNow RX6 cX3_isInFaithNow 1 (some FieldType.boolean) 0 := ⟨kt_in 493 (by decide +kernel) (by decide +kernel), kt_in 65 (by decide +kernel) (by decide +kernel), by decide +kernel, mCk.ar (by decide +kernel), kt_in 490 (by decide +kernel) (by decide +kernel)⟩
theorem ki_X3_isInFaithNow : Cond.instanceMethod yX3_isInFaithNow ∈ KTW := kt_in 492 (by decide +kernel) (by decide +kernel)
theorem ckN_X3_20 : mCkN RX3 20 yX1_isProven RX6 cX1_isProven 1 (some FieldType.boolean) 0 := ⟨kt_in 363 (by decide +kernel) (by decide +kernel), kt_in 60 (by decide +kernel) (by decide +kernel), by decide +kernel, mCk.ar (by decide +kernel), kt_in 494 (by decide +kernel) (by decide +kernel)⟩
theorem ck_X5_58 : mCk RX5 58 yX5_pay cX5_pay 3 none 3 := ⟨kt_in 497 (by decide +kernel) (by decide +kernel), kt_in 64 (by decide +kernel) (by decide +kernel), by decide +kernel, mCk.ar (by decide +kernel), kt_in 495 (by decide +kernel) (by decide +kernel)⟩
theorem kst_X5_pay : Cond.static yX5_pay ∈ KTW := kt_in 496 (by decide +kernel) (by decide +kernel)
theorem ki_X6_lend : Cond.instanceMethod yX6_lend ∈ KTW := kt_in 502 (by decide +kernel) (by decide +kernel)
theorem ks_X6_lend : Cond.selects RX6 yX6_lend yX6_lend ∈ KTW := kt_in 503 (by decide +kernel) (by decide +kernel)
theorem ki_X6_proof : Cond.instanceMethod yX6_proof ∈ KTW := kt_in 511 (by decide +kernel) (by decide +kernel)
theorem ks_X6_proof : Cond.selects RX6 yX6_proof yX6_proof ∈ KTW := kt_in 512 (by decide +kernel) (by decide +kernel)
theorem ckN_X6_148 : mCkN RX6 148 yX1_prove RX6 cX1_prove 2 none 1 := ⟨kt_in 518 (by decide +kernel) (by decide +kernel), kt_in 60 (by decide +kernel) (by decide +kernel), by decide +kernel, mCk.ar (by decide +kernel), kt_in 515 (by decide +kernel) (by decide +kernel)⟩
theorem ki_X1_prove : Cond.instanceMethod yX1_prove ∈ KTW := kt_in 517 (by decide +kernel) (by decide +kernel)
theorem ck_X6_151 : mCk RX6 151 yX6_findHeirsAnew cX6_findHeirsAnew 3 none 0 := ⟨kt_in 522 (by decide +kernel) (by decide +kernel), kt_in 52 (by decide +kernel) (by decide +kernel), by decide +kernel, mCk.ar (by decide +kernel), kt_in 519 (by decide +kernel) (by decide +kernel)⟩
theorem ki_X6_findHeirsAnew : Cond.instanceMethod yX6_findHeirsAnew ∈ KTW := kt_in 521 (by decide +kernel) (by decide +kernel)
theorem ck_X6_264 : mCk RX6 264 yX6_countPointsAnew cX6_countPointsAnew 3 none 0 := ⟨kt_in 526 (by decide +kernel) (by decide +kernel), kt_in 52 (by decide +kernel) (by decide +kernel), by decide +kernel, mCk.ar (by decide +kernel), kt_in 523 (by decide +kernel) (by decide +kernel)⟩
theorem ki_X6_countPointsAnew : Cond.instanceMethod yX6_countPointsAnew ∈ KTW := kt_in 525 (by decide +kernel) (by decide +kernel)
theorem ckN_X6_271 : mCkN RX6 271 yX4_forgetPoints RX6 cX4_forgetPoints 2 none 0 := ⟨kt_in 530 (by decide +kernel) (by decide +kernel), kt_in 54 (by decide +kernel) (by decide +kernel), by decide +kernel, mCk.ar (by decide +kernel), kt_in 527 (by decide +kernel) (by decide +kernel)⟩
theorem ki_X4_forgetPoints : Cond.instanceMethod yX4_forgetPoints ∈ KTW := kt_in 529 (by decide +kernel) (by decide +kernel)
theorem ckN_X6_267 : mCkN RX6 267 yX5_passTo RX6 cX5_passTo 2 none 1 := ⟨kt_in 534 (by decide +kernel) (by decide +kernel), kt_in 64 (by decide +kernel) (by decide +kernel), by decide +kernel, mCk.ar (by decide +kernel), kt_in 531 (by decide +kernel) (by decide +kernel)⟩
theorem ki_X5_passTo : Cond.instanceMethod yX5_passTo ∈ KTW := kt_in 533 (by decide +kernel) (by decide +kernel)
theorem ck_X5_64 : mCk RX5 64 yX5_undoSales cX5_undoSales 3 none 0 := ⟨kt_in 538 (by decide +kernel) (by decide +kernel), kt_in 64 (by decide +kernel) (by decide +kernel), by decide +kernel, mCk.ar (by decide +kernel), kt_in 535 (by decide +kernel) (by decide +kernel)⟩
theorem ki_X5_undoSales : Cond.instanceMethod yX5_undoSales ∈ KTW := kt_in 537 (by decide +kernel) (by decide +kernel)
theorem ck_X6_154 : mCk RX6 154 yX6_countFallenMatches cX6_countFallenMatches 4 (some FieldType.int) 0 := ⟨kt_in 542 (by decide +kernel) (by decide +kernel), kt_in 52 (by decide +kernel) (by decide +kernel), by decide +kernel, mCk.ar (by decide +kernel), kt_in 539 (by decide +kernel) (by decide +kernel)⟩
theorem ki_X6_countFallenMatches : Cond.instanceMethod yX6_countFallenMatches ∈ KTW := kt_in 541 (by decide +kernel) (by decide +kernel)
theorem ckN_X6_176 : mCkN RX6 176 yX0_isStanding RX6 cX0_isStanding 1 (some FieldType.boolean) 0 := ⟨kt_in 355 (by decide +kernel) (by decide +kernel), kt_in 63 (by decide +kernel) (by decide +kernel), by decide +kernel, mCk.ar (by decide +kernel), kt_in 543 (by decide +kernel) (by decide +kernel)⟩
theorem ki_X6_clear : Cond.instanceMethod yX6_clear ∈ KTW := kt_in 548 (by decide +kernel) (by decide +kernel)
theorem ks_X6_clear : Cond.selects RX6 yX6_clear yX6_clear ∈ KTW := kt_in 549 (by decide +kernel) (by decide +kernel)
theorem ckN_X6_157 : mCkN RX6 157 yX1_isProven RX6 cX1_isProven 1 (some FieldType.boolean) 0 := ⟨kt_in 363 (by decide +kernel) (by decide +kernel), kt_in 60 (by decide +kernel) (by decide +kernel), by decide +kernel, mCk.ar (by decide +kernel), kt_in 551 (by decide +kernel) (by decide +kernel)⟩
theorem ki_X6_ban : Cond.instanceMethod yX6_ban ∈ KTW := kt_in 557 (by decide +kernel) (by decide +kernel)
theorem ks_X6_ban : Cond.selects RX6 yX6_ban yX6_ban ∈ KTW := kt_in 558 (by decide +kernel) (by decide +kernel)
theorem ki_X6_pass : Cond.instanceMethod yX6_pass ∈ KTW := kt_in 565 (by decide +kernel) (by decide +kernel)
theorem ks_X6_pass : Cond.selects RX6 yX6_pass yX6_pass ∈ KTW := kt_in 566 (by decide +kernel) (by decide +kernel)
theorem ki_X6_stands : Cond.instanceMethod yX6_stands ∈ KTW := kt_in 573 (by decide +kernel) (by decide +kernel)
theorem ks_X6_stands : Cond.selects RX6 yX6_stands yX6_stands ∈ KTW := kt_in 574 (by decide +kernel) (by decide +kernel)
theorem ck_X6_172 : mCk RX6 172 yX6_matchAt cX6_matchAt 3 (some (FieldType.object "SkinLeague$Match")) 1 := ⟨kt_in 579 (by decide +kernel) (by decide +kernel), kt_in 52 (by decide +kernel) (by decide +kernel), by decide +kernel, mCk.ar (by decide +kernel), kt_in 576 (by decide +kernel) (by decide +kernel)⟩
theorem ki_X6_matchAt : Cond.instanceMethod yX6_matchAt ∈ KTW := kt_in 578 (by decide +kernel) (by decide +kernel)
theorem ki_X6_ranked : Cond.instanceMethod yX6_ranked ∈ KTW := kt_in 585 (by decide +kernel) (by decide +kernel)
theorem ks_X6_ranked : Cond.selects RX6 yX6_ranked yX6_ranked ∈ KTW := kt_in 586 (by decide +kernel) (by decide +kernel)
theorem ck_X6_179 : mCk RX6 179 yX6_seasonAt cX6_seasonAt 3 (some (FieldType.object "SkinLeague$Season")) 1 := ⟨kt_in 591 (by decide +kernel) (by decide +kernel), kt_in 52 (by decide +kernel) (by decide +kernel), by decide +kernel, mCk.ar (by decide +kernel), kt_in 588 (by decide +kernel) (by decide +kernel)⟩
theorem ki_X6_seasonAt : Cond.instanceMethod yX6_seasonAt ∈ KTW := kt_in 590 (by decide +kernel) (by decide +kernel)
theorem ckN_X6_184 : mCkN RX6 184 yX4_pointsOf RX6 cX4_pointsOf 2 (some FieldType.int) 1 := ⟨kt_in 395 (by decide +kernel) (by decide +kernel), kt_in 54 (by decide +kernel) (by decide +kernel), by decide +kernel, mCk.ar (by decide +kernel), kt_in 593 (by decide +kernel) (by decide +kernel)⟩
theorem ckN_X6_188 : mCkN RX6 188 yX4_gamesOf RX6 cX4_gamesOf 2 (some FieldType.int) 1 := ⟨kt_in 399 (by decide +kernel) (by decide +kernel), kt_in 54 (by decide +kernel) (by decide +kernel), by decide +kernel, mCk.ar (by decide +kernel), kt_in 594 (by decide +kernel) (by decide +kernel)⟩
theorem ckN_X6_191 : mCkN RX6 191 yX4_placeOf RX6 cX4_placeOf 4 (some FieldType.int) 1 := ⟨kt_in 598 (by decide +kernel) (by decide +kernel), kt_in 54 (by decide +kernel) (by decide +kernel), by decide +kernel, mCk.ar (by decide +kernel), kt_in 595 (by decide +kernel) (by decide +kernel)⟩
theorem ki_X4_placeOf : Cond.instanceMethod yX4_placeOf ∈ KTW := kt_in 597 (by decide +kernel) (by decide +kernel)
theorem ki_X6_skinOf : Cond.instanceMethod yX6_skinOf ∈ KTW := kt_in 604 (by decide +kernel) (by decide +kernel)
theorem ks_X6_skinOf : Cond.selects RX6 yX6_skinOf yX6_skinOf ∈ KTW := kt_in 605 (by decide +kernel) (by decide +kernel)
theorem ck_X6_196 : mCk RX6 196 yX6_numberOf cX6_numberOf 1 (some FieldType.int) 1 := ⟨kt_in 609 (by decide +kernel) (by decide +kernel), kt_in 52 (by decide +kernel) (by decide +kernel), by decide +kernel, mCk.ar (by decide +kernel), kt_in 607 (by decide +kernel) (by decide +kernel)⟩
theorem kst_X6_numberOf : Cond.static yX6_numberOf ∈ KTW := kt_in 608 (by decide +kernel) (by decide +kernel)
theorem ckN_X6_203 : mCkN RX6 203 yX5_userOn RX6 cX5_userOn 2 (some (FieldType.object "SkinLeague$Player")) 1 := ⟨kt_in 613 (by decide +kernel) (by decide +kernel), kt_in 64 (by decide +kernel) (by decide +kernel), by decide +kernel, mCk.ar (by decide +kernel), kt_in 610 (by decide +kernel) (by decide +kernel)⟩
theorem ki_X5_userOn : Cond.instanceMethod yX5_userOn ∈ KTW := kt_in 612 (by decide +kernel) (by decide +kernel)
theorem ckN_X6_215 : mCkN RX6 215 yX5_isGood RX6 cX5_isGood 1 (some FieldType.boolean) 0 := ⟨kt_in 617 (by decide +kernel) (by decide +kernel), kt_in 64 (by decide +kernel) (by decide +kernel), by decide +kernel, mCk.ar (by decide +kernel), kt_in 614 (by decide +kernel) (by decide +kernel)⟩
theorem ki_X5_isGood : Cond.instanceMethod yX5_isGood ∈ KTW := kt_in 616 (by decide +kernel) (by decide +kernel)
theorem ki_X6_money : Cond.instanceMethod yX6_money ∈ KTW := kt_in 623 (by decide +kernel) (by decide +kernel)
theorem ks_X6_money : Cond.selects RX6 yX6_money yX6_money ∈ KTW := kt_in 624 (by decide +kernel) (by decide +kernel)
theorem ki_X6_label : Cond.instanceMethod yX6_label ∈ KTW := kt_in 630 (by decide +kernel) (by decide +kernel)
theorem ks_X6_label : Cond.selects RX6 yX6_label yX6_label ∈ KTW := kt_in 631 (by decide +kernel) (by decide +kernel)
theorem kcl_X6_228 : Cond.classLink RX6 228 RJ4 ∈ KTW := kt_in 634 (by decide +kernel) (by decide +kernel)
theorem ck_X6_230 : mCk RX6 230 yJ4_init_da8c8 cJ4_init_da8c8 1 none 0 := ⟨kt_in 638 (by decide +kernel) (by decide +kernel), kt_in 67 (by decide +kernel) (by decide +kernel), by decide +kernel, mCk.ar (by decide +kernel), kt_in 636 (by decide +kernel) (by decide +kernel)⟩
theorem ckN_X6_231 : mCkN RX6 231 yX5_writeLabel RX6 cX5_writeLabel 2 none 1 := ⟨kt_in 667 (by decide +kernel) (by decide +kernel), kt_in 64 (by decide +kernel) (by decide +kernel), by decide +kernel, mCk.ar (by decide +kernel), kt_in 664 (by decide +kernel) (by decide +kernel)⟩
theorem ki_X5_writeLabel : Cond.instanceMethod yX5_writeLabel ∈ KTW := kt_in 666 (by decide +kernel) (by decide +kernel)
theorem ck_X5_78 : mCk RX5 78 yJ4_append_bf812 cJ4_append_bf812 2 (some (FieldType.object "java/lang/StringBuilder")) 1 := ⟨kt_in 671 (by decide +kernel) (by decide +kernel), kt_in 67 (by decide +kernel) (by decide +kernel), by decide +kernel, mCk.ar (by decide +kernel), kt_in 668 (by decide +kernel) (by decide +kernel)⟩
theorem ck_X5_84 : mCk RX5 84 yJ4_append_cf468 cJ4_append_cf468 2 (some (FieldType.object "java/lang/StringBuilder")) 1 := ⟨kt_in 759 (by decide +kernel) (by decide +kernel), kt_in 67 (by decide +kernel) (by decide +kernel), by decide +kernel, mCk.ar (by decide +kernel), kt_in 756 (by decide +kernel) (by decide +kernel)⟩
theorem ck_X6_235 : mCk RX6 235 yJ4_length_8abf5 cJ4_length_8abf5 1 (some FieldType.int) 0 := ⟨kt_in 800 (by decide +kernel) (by decide +kernel), kt_in 67 (by decide +kernel) (by decide +kernel), by decide +kernel, mCk.ar (by decide +kernel), kt_in 797 (by decide +kernel) (by decide +kernel)⟩
theorem ck_X6_238 : mCk RX6 238 yJ4_charAt_5068e cJ4_charAt_5068e 2 (some FieldType.char) 1 := ⟨kt_in 807 (by decide +kernel) (by decide +kernel), kt_in 67 (by decide +kernel) (by decide +kernel), by decide +kernel, mCk.ar (by decide +kernel), kt_in 804 (by decide +kernel) (by decide +kernel)⟩
theorem kinst_X7 : Cond.instantiable RX7 30 ∈ KTW := kt_in 817 (by decide +kernel) (by decide +kernel)
theorem ki_X7_init : Cond.instanceMethod yX7_init ∈ KTW := kt_in 819 (by decide +kernel) (by decide +kernel)
-- no code: ['SkinLeagueModel', 1, ('java/lang/Object', '<init>', '()V')]
theorem kf_X7_90 : Cond.fieldLink RX7 90 (TX7 0).1 (TX7 0).2.1 (TX7 0).2.2.1 ∈ KTW := kt_in 822 (by decide +kernel) (by decide +kernel)
theorem kf_X7_83 : Cond.fieldLink RX7 83 (TX7 1).1 (TX7 1).2.1 (TX7 1).2.2.1 ∈ KTW := kt_in 823 (by decide +kernel) (by decide +kernel)
theorem kf_X7_7 : Cond.fieldLink RX7 7 (TX7 2).1 (TX7 2).2.1 (TX7 2).2.2.1 ∈ KTW := kt_in 824 (by decide +kernel) (by decide +kernel)
theorem kf_X7_13 : Cond.fieldLink RX7 13 (TX7 3).1 (TX7 3).2.1 (TX7 3).2.2.1 ∈ KTW := kt_in 825 (by decide +kernel) (by decide +kernel)
theorem kf_X7_16 : Cond.fieldLink RX7 16 (TX7 4).1 (TX7 4).2.1 (TX7 4).2.2.1 ∈ KTW := kt_in 826 (by decide +kernel) (by decide +kernel)
theorem kf_X7_19 : Cond.fieldLink RX7 19 (TX7 5).1 (TX7 5).2.1 (TX7 5).2.2.1 ∈ KTW := kt_in 827 (by decide +kernel) (by decide +kernel)
theorem kf_X7_97 : Cond.fieldLink RX7 97 (TX7 6).1 (TX7 6).2.1 (TX7 6).2.2.1 ∈ KTW := kt_in 828 (by decide +kernel) (by decide +kernel)
theorem kf_X7_22 : Cond.fieldLink RX7 22 (TX7 7).1 (TX7 7).2.1 (TX7 7).2.2.1 ∈ KTW := kt_in 829 (by decide +kernel) (by decide +kernel)
theorem kf_X7_25 : Cond.fieldLink RX7 25 (TX7 8).1 (TX7 8).2.1 (TX7 8).2.2.1 ∈ KTW := kt_in 830 (by decide +kernel) (by decide +kernel)
theorem kf_X7_28 : Cond.fieldLink RX7 28 (TX7 9).1 (TX7 9).2.1 (TX7 9).2.2.1 ∈ KTW := kt_in 831 (by decide +kernel) (by decide +kernel)
theorem kf_X7_31 : Cond.fieldLink RX7 31 (TX7 10).1 (TX7 10).2.1 (TX7 10).2.2.1 ∈ KTW := kt_in 832 (by decide +kernel) (by decide +kernel)
theorem kf_X7_34 : Cond.fieldLink RX7 34 (TX7 11).1 (TX7 11).2.1 (TX7 11).2.2.1 ∈ KTW := kt_in 833 (by decide +kernel) (by decide +kernel)
theorem kf_X7_113 : Cond.fieldLink RX7 113 (TX7 12).1 (TX7 12).2.1 (TX7 12).2.2.1 ∈ KTW := kt_in 834 (by decide +kernel) (by decide +kernel)
theorem kf_X7_133 : Cond.fieldLink RX7 133 (TX7 13).1 (TX7 13).2.1 (TX7 13).2.2.1 ∈ KTW := kt_in 835 (by decide +kernel) (by decide +kernel)
theorem kf_X7_37 : Cond.fieldLink RX7 37 (TX7 14).1 (TX7 14).2.1 (TX7 14).2.2.1 ∈ KTW := kt_in 836 (by decide +kernel) (by decide +kernel)
theorem kf_X7_40 : Cond.fieldLink RX7 40 (TX7 15).1 (TX7 15).2.1 (TX7 15).2.2.1 ∈ KTW := kt_in 837 (by decide +kernel) (by decide +kernel)
theorem kf_X7_43 : Cond.fieldLink RX7 43 (TX7 16).1 (TX7 16).2.1 (TX7 16).2.2.1 ∈ KTW := kt_in 838 (by decide +kernel) (by decide +kernel)
theorem kf_X7_46 : Cond.fieldLink RX7 46 (TX7 17).1 (TX7 17).2.1 (TX7 17).2.2.1 ∈ KTW := kt_in 839 (by decide +kernel) (by decide +kernel)
theorem kf_X7_49 : Cond.fieldLink RX7 49 (TX7 18).1 (TX7 18).2.1 (TX7 18).2.2.1 ∈ KTW := kt_in 840 (by decide +kernel) (by decide +kernel)
theorem kf_X7_52 : Cond.fieldLink RX7 52 (TX7 19).1 (TX7 19).2.1 (TX7 19).2.2.1 ∈ KTW := kt_in 841 (by decide +kernel) (by decide +kernel)
theorem kf_X7_55 : Cond.fieldLink RX7 55 (TX7 20).1 (TX7 20).2.1 (TX7 20).2.2.1 ∈ KTW := kt_in 842 (by decide +kernel) (by decide +kernel)
theorem kf_X7_58 : Cond.fieldLink RX7 58 (TX7 21).1 (TX7 21).2.1 (TX7 21).2.2.1 ∈ KTW := kt_in 843 (by decide +kernel) (by decide +kernel)
theorem kf_X7_61 : Cond.fieldLink RX7 61 (TX7 22).1 (TX7 22).2.1 (TX7 22).2.2.1 ∈ KTW := kt_in 844 (by decide +kernel) (by decide +kernel)
theorem kf_X7_64 : Cond.fieldLink RX7 64 (TX7 23).1 (TX7 23).2.1 (TX7 23).2.2.1 ∈ KTW := kt_in 845 (by decide +kernel) (by decide +kernel)
theorem kf_X7_67 : Cond.fieldLink RX7 67 (TX7 24).1 (TX7 24).2.1 (TX7 24).2.2.1 ∈ KTW := kt_in 846 (by decide +kernel) (by decide +kernel)
theorem kf_X7_70 : Cond.fieldLink RX7 70 (TX7 25).1 (TX7 25).2.1 (TX7 25).2.2.1 ∈ KTW := kt_in 847 (by decide +kernel) (by decide +kernel)
theorem kf_X7_73 : Cond.fieldLink RX7 73 (TX7 26).1 (TX7 26).2.1 (TX7 26).2.2.1 ∈ KTW := kt_in 848 (by decide +kernel) (by decide +kernel)
theorem kf_X7_76 : Cond.fieldLink RX7 76 (TX7 27).1 (TX7 27).2.1 (TX7 27).2.2.1 ∈ KTW := kt_in 849 (by decide +kernel) (by decide +kernel)
theorem kf_X7_153 : Cond.fieldLink RX7 153 (TX7 28).1 (TX7 28).2.1 (TX7 28).2.2.1 ∈ KTW := kt_in 850 (by decide +kernel) (by decide +kernel)
theorem kf_X7_79 : Cond.fieldLink RX7 79 (TX7 29).1 (TX7 29).2.1 (TX7 29).2.2.1 ∈ KTW := kt_in 851 (by decide +kernel) (by decide +kernel)
theorem ki_X7_thrown : Cond.instanceMethod yX7_thrown ∈ KTW := kt_in 914 (by decide +kernel) (by decide +kernel)
theorem ks_X7_thrown : Cond.selects RX7 yX7_thrown yX7_thrown ∈ KTW := kt_in 915 (by decide +kernel) (by decide +kernel)
theorem ki_X7_player : Cond.instanceMethod yX7_player ∈ KTW := kt_in 918 (by decide +kernel) (by decide +kernel)
theorem ks_X7_player : Cond.selects RX7 yX7_player yX7_player ∈ KTW := kt_in 919 (by decide +kernel) (by decide +kernel)
theorem ck_X7_93 : mCk RX7 93 yX7_fails cX7_fails 2 (some FieldType.boolean) 1 := ⟨kt_in 924 (by decide +kernel) (by decide +kernel), kt_in 55 (by decide +kernel) (by decide +kernel), by decide +kernel, mCk.ar (by decide +kernel), kt_in 921 (by decide +kernel) (by decide +kernel)⟩
theorem ki_X7_fails : Cond.instanceMethod yX7_fails ∈ KTW := kt_in 923 (by decide +kernel) (by decide +kernel)
theorem ki_X7_room : Cond.instanceMethod yX7_room ∈ KTW := kt_in 926 (by decide +kernel) (by decide +kernel)
theorem ks_X7_room : Cond.selects RX7 yX7_room yX7_room ∈ KTW := kt_in 927 (by decide +kernel) (by decide +kernel)
theorem ck_X7_100 : mCk RX7 100 yX7_isRegion cX7_isRegion 1 (some FieldType.boolean) 1 := ⟨kt_in 931 (by decide +kernel) (by decide +kernel), kt_in 55 (by decide +kernel) (by decide +kernel), by decide +kernel, mCk.ar (by decide +kernel), kt_in 929 (by decide +kernel) (by decide +kernel)⟩
theorem kst_X7_isRegion : Cond.static yX7_isRegion ∈ KTW := kt_in 930 (by decide +kernel) (by decide +kernel)
theorem ck_X7_86 : mCk RX7 86 yX7_isIn cX7_isIn 3 (some FieldType.boolean) 3 := ⟨kt_in 934 (by decide +kernel) (by decide +kernel), kt_in 55 (by decide +kernel) (by decide +kernel), by decide +kernel, mCk.ar (by decide +kernel), kt_in 932 (by decide +kernel) (by decide +kernel)⟩
theorem kst_X7_isIn : Cond.static yX7_isIn ∈ KTW := kt_in 933 (by decide +kernel) (by decide +kernel)
theorem ck_X7_103 : mCk RX7 103 yX7_today cX7_today 4 (some FieldType.int) 1 := ⟨kt_in 938 (by decide +kernel) (by decide +kernel), kt_in 55 (by decide +kernel) (by decide +kernel), by decide +kernel, mCk.ar (by decide +kernel), kt_in 935 (by decide +kernel) (by decide +kernel)⟩
theorem ki_X7_today : Cond.instanceMethod yX7_today ∈ KTW := kt_in 937 (by decide +kernel) (by decide +kernel)
theorem ki_X7_match : Cond.instanceMethod yX7_match ∈ KTW := kt_in 940 (by decide +kernel) (by decide +kernel)
theorem ks_X7_match : Cond.selects RX7 yX7_match yX7_match ∈ KTW := kt_in 941 (by decide +kernel) (by decide +kernel)
theorem ck_X7_107 : mCk RX7 107 yX7_isPlayer cX7_isPlayer 2 (some FieldType.boolean) 1 := ⟨kt_in 946 (by decide +kernel) (by decide +kernel), kt_in 55 (by decide +kernel) (by decide +kernel), by decide +kernel, mCk.ar (by decide +kernel), kt_in 943 (by decide +kernel) (by decide +kernel)⟩
theorem ki_X7_isPlayer : Cond.instanceMethod yX7_isPlayer ∈ KTW := kt_in 945 (by decide +kernel) (by decide +kernel)
theorem ck_X7_110 : mCk RX7 110 yX7_isBanned cX7_isBanned 2 (some FieldType.boolean) 1 := ⟨kt_in 950 (by decide +kernel) (by decide +kernel), kt_in 55 (by decide +kernel) (by decide +kernel), by decide +kernel, mCk.ar (by decide +kernel), kt_in 947 (by decide +kernel) (by decide +kernel)⟩
theorem ki_X7_isBanned : Cond.instanceMethod yX7_isBanned ∈ KTW := kt_in 949 (by decide +kernel) (by decide +kernel)
theorem ki_X7_end : Cond.instanceMethod yX7_end ∈ KTW := kt_in 952 (by decide +kernel) (by decide +kernel)
theorem ks_X7_end : Cond.selects RX7 yX7_end yX7_end ∈ KTW := kt_in 953 (by decide +kernel) (by decide +kernel)
theorem ck_X7_126 : mCk RX7 126 yX7_counts cX7_counts 3 none 1 := ⟨kt_in 958 (by decide +kernel) (by decide +kernel), kt_in 55 (by decide +kernel) (by decide +kernel), by decide +kernel, mCk.ar (by decide +kernel), kt_in 955 (by decide +kernel) (by decide +kernel)⟩
theorem ki_X7_counts : Cond.instanceMethod yX7_counts ∈ KTW := kt_in 957 (by decide +kernel) (by decide +kernel)
theorem ck_X7_116 : mCk RX7 116 yX7_isGood cX7_isGood 3 (some FieldType.boolean) 1 := ⟨kt_in 962 (by decide +kernel) (by decide +kernel), kt_in 55 (by decide +kernel) (by decide +kernel), by decide +kernel, mCk.ar (by decide +kernel), kt_in 959 (by decide +kernel) (by decide +kernel)⟩
theorem ki_X7_isGood : Cond.instanceMethod yX7_isGood ∈ KTW := kt_in 961 (by decide +kernel) (by decide +kernel)
theorem ck_X7_130 : mCk RX7 130 yX7_who cX7_who 4 (some FieldType.int) 1 := ⟨kt_in 966 (by decide +kernel) (by decide +kernel), kt_in 55 (by decide +kernel) (by decide +kernel), by decide +kernel, mCk.ar (by decide +kernel), kt_in 963 (by decide +kernel) (by decide +kernel)⟩
theorem ki_X7_who : Cond.instanceMethod yX7_who ∈ KTW := kt_in 965 (by decide +kernel) (by decide +kernel)
theorem ck_X7_123 : mCk RX7 123 yX7_placeOf cX7_placeOf 4 (some FieldType.int) 1 := ⟨kt_in 970 (by decide +kernel) (by decide +kernel), kt_in 55 (by decide +kernel) (by decide +kernel), by decide +kernel, mCk.ar (by decide +kernel), kt_in 967 (by decide +kernel) (by decide +kernel)⟩
theorem ki_X7_placeOf : Cond.instanceMethod yX7_placeOf ∈ KTW := kt_in 969 (by decide +kernel) (by decide +kernel)
theorem ck_X7_119 : mCk RX7 119 yX7_isAhead cX7_isAhead 3 (some FieldType.boolean) 2 := ⟨kt_in 974 (by decide +kernel) (by decide +kernel), kt_in 55 (by decide +kernel) (by decide +kernel), by decide +kernel, mCk.ar (by decide +kernel), kt_in 971 (by decide +kernel) (by decide +kernel)⟩
theorem ki_X7_isAhead : Cond.instanceMethod yX7_isAhead ∈ KTW := kt_in 973 (by decide +kernel) (by decide +kernel)
theorem ki_X7_sell : Cond.instanceMethod yX7_sell ∈ KTW := kt_in 976 (by decide +kernel) (by decide +kernel)
theorem ks_X7_sell : Cond.selects RX7 yX7_sell yX7_sell ∈ KTW := kt_in 977 (by decide +kernel) (by decide +kernel)
theorem ck_X7_136 : mCk RX7 136 yX7_isSkin cX7_isSkin 2 (some FieldType.boolean) 1 := ⟨kt_in 982 (by decide +kernel) (by decide +kernel), kt_in 55 (by decide +kernel) (by decide +kernel), by decide +kernel, mCk.ar (by decide +kernel), kt_in 979 (by decide +kernel) (by decide +kernel)⟩
theorem ki_X7_isSkin : Cond.instanceMethod yX7_isSkin ∈ KTW := kt_in 981 (by decide +kernel) (by decide +kernel)
theorem ki_X7_lend : Cond.instanceMethod yX7_lend ∈ KTW := kt_in 984 (by decide +kernel) (by decide +kernel)
theorem ks_X7_lend : Cond.selects RX7 yX7_lend yX7_lend ∈ KTW := kt_in 985 (by decide +kernel) (by decide +kernel)
theorem ki_X7_proof : Cond.instanceMethod yX7_proof ∈ KTW := kt_in 988 (by decide +kernel) (by decide +kernel)
theorem ks_X7_proof : Cond.selects RX7 yX7_proof yX7_proof ∈ KTW := kt_in 989 (by decide +kernel) (by decide +kernel)
theorem ck_X7_147 : mCk RX7 147 yX7_looks cX7_looks 3 none 0 := ⟨kt_in 994 (by decide +kernel) (by decide +kernel), kt_in 55 (by decide +kernel) (by decide +kernel), by decide +kernel, mCk.ar (by decide +kernel), kt_in 991 (by decide +kernel) (by decide +kernel)⟩
theorem ki_X7_looks : Cond.instanceMethod yX7_looks ∈ KTW := kt_in 993 (by decide +kernel) (by decide +kernel)
theorem ck_X7_143 : mCk RX7 143 yX7_inherits cX7_inherits 4 none 2 := ⟨kt_in 998 (by decide +kernel) (by decide +kernel), kt_in 55 (by decide +kernel) (by decide +kernel), by decide +kernel, mCk.ar (by decide +kernel), kt_in 995 (by decide +kernel) (by decide +kernel)⟩
theorem ki_X7_inherits : Cond.instanceMethod yX7_inherits ∈ KTW := kt_in 997 (by decide +kernel) (by decide +kernel)
theorem ck_X7_139 : mCk RX7 139 yX7_pays cX7_pays 4 none 3 := ⟨kt_in 1002 (by decide +kernel) (by decide +kernel), kt_in 55 (by decide +kernel) (by decide +kernel), by decide +kernel, mCk.ar (by decide +kernel), kt_in 999 (by decide +kernel) (by decide +kernel)⟩
theorem ki_X7_pays : Cond.instanceMethod yX7_pays ∈ KTW := kt_in 1001 (by decide +kernel) (by decide +kernel)
theorem ki_X7_clear : Cond.instanceMethod yX7_clear ∈ KTW := kt_in 1004 (by decide +kernel) (by decide +kernel)
theorem ks_X7_clear : Cond.selects RX7 yX7_clear yX7_clear ∈ KTW := kt_in 1005 (by decide +kernel) (by decide +kernel)
theorem ki_X7_ban : Cond.instanceMethod yX7_ban ∈ KTW := kt_in 1008 (by decide +kernel) (by decide +kernel)
theorem ks_X7_ban : Cond.selects RX7 yX7_ban yX7_ban ∈ KTW := kt_in 1009 (by decide +kernel) (by decide +kernel)
theorem ki_X7_pass : Cond.instanceMethod yX7_pass ∈ KTW := kt_in 1012 (by decide +kernel) (by decide +kernel)
theorem ks_X7_pass : Cond.selects RX7 yX7_pass yX7_pass ∈ KTW := kt_in 1013 (by decide +kernel) (by decide +kernel)
theorem ki_X7_stands : Cond.instanceMethod yX7_stands ∈ KTW := kt_in 1016 (by decide +kernel) (by decide +kernel)
theorem ks_X7_stands : Cond.selects RX7 yX7_stands yX7_stands ∈ KTW := kt_in 1017 (by decide +kernel) (by decide +kernel)
theorem ki_X7_ranked : Cond.instanceMethod yX7_ranked ∈ KTW := kt_in 1020 (by decide +kernel) (by decide +kernel)
theorem ks_X7_ranked : Cond.selects RX7 yX7_ranked yX7_ranked ∈ KTW := kt_in 1021 (by decide +kernel) (by decide +kernel)
theorem ki_X7_skinOf : Cond.instanceMethod yX7_skinOf ∈ KTW := kt_in 1024 (by decide +kernel) (by decide +kernel)
theorem ks_X7_skinOf : Cond.selects RX7 yX7_skinOf yX7_skinOf ∈ KTW := kt_in 1025 (by decide +kernel) (by decide +kernel)
theorem ck_X7_150 : mCk RX7 150 yX7_user cX7_user 2 (some FieldType.int) 1 := ⟨kt_in 1030 (by decide +kernel) (by decide +kernel), kt_in 55 (by decide +kernel) (by decide +kernel), by decide +kernel, mCk.ar (by decide +kernel), kt_in 1027 (by decide +kernel) (by decide +kernel)⟩
theorem ki_X7_user : Cond.instanceMethod yX7_user ∈ KTW := kt_in 1029 (by decide +kernel) (by decide +kernel)
theorem ki_X7_money : Cond.instanceMethod yX7_money ∈ KTW := kt_in 1032 (by decide +kernel) (by decide +kernel)
theorem ks_X7_money : Cond.selects RX7 yX7_money yX7_money ∈ KTW := kt_in 1033 (by decide +kernel) (by decide +kernel)
theorem ki_X7_label : Cond.instanceMethod yX7_label ∈ KTW := kt_in 1036 (by decide +kernel) (by decide +kernel)
theorem ks_X7_label : Cond.selects RX7 yX7_label yX7_label ∈ KTW := kt_in 1037 (by decide +kernel) (by decide +kernel)
theorem ck_X7_159 : mCk RX7 159 yX7_putsNumber cX7_putsNumber 2 none 1 := ⟨kt_in 1042 (by decide +kernel) (by decide +kernel), kt_in 55 (by decide +kernel) (by decide +kernel), by decide +kernel, mCk.ar (by decide +kernel), kt_in 1039 (by decide +kernel) (by decide +kernel)⟩
theorem ki_X7_putsNumber : Cond.instanceMethod yX7_putsNumber ∈ KTW := kt_in 1041 (by decide +kernel) (by decide +kernel)
theorem ck_X7_156 : mCk RX7 156 yX7_puts cX7_puts 2 none 1 := ⟨kt_in 1046 (by decide +kernel) (by decide +kernel), kt_in 55 (by decide +kernel) (by decide +kernel), by decide +kernel, mCk.ar (by decide +kernel), kt_in 1043 (by decide +kernel) (by decide +kernel)⟩
theorem ki_X7_puts : Cond.instanceMethod yX7_puts ∈ KTW := kt_in 1045 (by decide +kernel) (by decide +kernel)
theorem ks_X6_regionAt : Cond.selects RX6 yX6_regionAt yX6_regionAt ∈ KTW := kt_in 1 (by decide +kernel) (by decide +kernel)
theorem ks_X6_playerAt : Cond.selects RX6 yX6_playerAt yX6_playerAt ∈ KTW := kt_in 2 (by decide +kernel) (by decide +kernel)
theorem ks_X6_findPlayer : Cond.selects RX6 yX6_findPlayer yX6_findPlayer ∈ KTW := kt_in 3 (by decide +kernel) (by decide +kernel)
theorem ks_X2_isFull : Cond.selects RX2 yX2_isFull yX2_isFull ∈ KTW := kt_in 4 (by decide +kernel) (by decide +kernel)
theorem ks_X1_isBanned : Cond.selects RX1 yX1_isBanned yX1_isBanned ∈ KTW := kt_in 5 (by decide +kernel) (by decide +kernel)
theorem ks_X0_addPoints : Cond.selects RX0 yX0_addPoints yX0_addPoints ∈ KTW := kt_in 6 (by decide +kernel) (by decide +kernel)
theorem ks_X0_isStanding : Cond.selects RX0 yX0_isStanding yX0_isStanding ∈ KTW := kt_in 7 (by decide +kernel) (by decide +kernel)
theorem ks_X1_isProvenOn : Cond.selects RX1 yX1_isProvenOn yX1_isProvenOn ∈ KTW := kt_in 8 (by decide +kernel) (by decide +kernel)
theorem ks_X1_isProven : Cond.selects RX1 yX1_isProven yX1_isProven ∈ KTW := kt_in 9 (by decide +kernel) (by decide +kernel)
theorem ks_X4_add : Cond.selects RX4 yX4_add yX4_add ∈ KTW := kt_in 10 (by decide +kernel) (by decide +kernel)
theorem ks_X6_awardPrizes : Cond.selects RX6 yX6_awardPrizes yX6_awardPrizes ∈ KTW := kt_in 11 (by decide +kernel) (by decide +kernel)
theorem ks_X4_playerOn : Cond.selects RX4 yX4_playerOn yX4_playerOn ∈ KTW := kt_in 12 (by decide +kernel) (by decide +kernel)
theorem ks_X4_firstBehind : Cond.selects RX4 yX4_firstBehind yX4_firstBehind ∈ KTW := kt_in 13 (by decide +kernel) (by decide +kernel)
theorem ks_X4_isAhead : Cond.selects RX4 yX4_isAhead yX4_isAhead ∈ KTW := kt_in 14 (by decide +kernel) (by decide +kernel)
theorem ks_X4_pointsOf : Cond.selects RX4 yX4_pointsOf yX4_pointsOf ∈ KTW := kt_in 15 (by decide +kernel) (by decide +kernel)
theorem ks_X4_gamesOf : Cond.selects RX4 yX4_gamesOf yX4_gamesOf ∈ KTW := kt_in 16 (by decide +kernel) (by decide +kernel)
theorem ks_X6_skinAt : Cond.selects RX6 yX6_skinAt yX6_skinAt ∈ KTW := kt_in 17 (by decide +kernel) (by decide +kernel)
theorem ks_X6_mayDeal : Cond.selects RX6 yX6_mayDeal yX6_mayDeal ∈ KTW := kt_in 18 (by decide +kernel) (by decide +kernel)
theorem ks_X5_isSoldOften : Cond.selects RX5 yX5_isSoldOften yX5_isSoldOften ∈ KTW := kt_in 19 (by decide +kernel) (by decide +kernel)
theorem ks_X5_sellTo : Cond.selects RX5 yX5_sellTo yX5_sellTo ∈ KTW := kt_in 20 (by decide +kernel) (by decide +kernel)
theorem ks_X3_isInFaithNow : Cond.selects RX3 yX3_isInFaithNow yX3_isInFaithNow ∈ KTW := kt_in 21 (by decide +kernel) (by decide +kernel)
theorem ks_X1_prove : Cond.selects RX1 yX1_prove yX1_prove ∈ KTW := kt_in 22 (by decide +kernel) (by decide +kernel)
theorem ks_X6_findHeirsAnew : Cond.selects RX6 yX6_findHeirsAnew yX6_findHeirsAnew ∈ KTW := kt_in 23 (by decide +kernel) (by decide +kernel)
theorem ks_X6_countPointsAnew : Cond.selects RX6 yX6_countPointsAnew yX6_countPointsAnew ∈ KTW := kt_in 24 (by decide +kernel) (by decide +kernel)
theorem ks_X4_forgetPoints : Cond.selects RX4 yX4_forgetPoints yX4_forgetPoints ∈ KTW := kt_in 25 (by decide +kernel) (by decide +kernel)
theorem ks_X5_passTo : Cond.selects RX5 yX5_passTo yX5_passTo ∈ KTW := kt_in 26 (by decide +kernel) (by decide +kernel)
theorem ks_X5_undoSales : Cond.selects RX5 yX5_undoSales yX5_undoSales ∈ KTW := kt_in 27 (by decide +kernel) (by decide +kernel)
theorem ks_X6_countFallenMatches : Cond.selects RX6 yX6_countFallenMatches yX6_countFallenMatches ∈ KTW := kt_in 28 (by decide +kernel) (by decide +kernel)
theorem ks_X6_matchAt : Cond.selects RX6 yX6_matchAt yX6_matchAt ∈ KTW := kt_in 29 (by decide +kernel) (by decide +kernel)
theorem ks_X6_seasonAt : Cond.selects RX6 yX6_seasonAt yX6_seasonAt ∈ KTW := kt_in 30 (by decide +kernel) (by decide +kernel)
theorem ks_X4_placeOf : Cond.selects RX4 yX4_placeOf yX4_placeOf ∈ KTW := kt_in 31 (by decide +kernel) (by decide +kernel)
theorem ks_X5_userOn : Cond.selects RX5 yX5_userOn yX5_userOn ∈ KTW := kt_in 32 (by decide +kernel) (by decide +kernel)
theorem ks_X5_isGood : Cond.selects RX5 yX5_isGood yX5_isGood ∈ KTW := kt_in 33 (by decide +kernel) (by decide +kernel)
theorem ks_X5_writeLabel : Cond.selects RX5 yX5_writeLabel yX5_writeLabel ∈ KTW := kt_in 34 (by decide +kernel) (by decide +kernel)
theorem ks_X7_fails : Cond.selects RX7 yX7_fails yX7_fails ∈ KTW := kt_in 35 (by decide +kernel) (by decide +kernel)
theorem ks_X7_today : Cond.selects RX7 yX7_today yX7_today ∈ KTW := kt_in 36 (by decide +kernel) (by decide +kernel)
theorem ks_X7_isPlayer : Cond.selects RX7 yX7_isPlayer yX7_isPlayer ∈ KTW := kt_in 37 (by decide +kernel) (by decide +kernel)
theorem ks_X7_isBanned : Cond.selects RX7 yX7_isBanned yX7_isBanned ∈ KTW := kt_in 38 (by decide +kernel) (by decide +kernel)
theorem ks_X7_counts : Cond.selects RX7 yX7_counts yX7_counts ∈ KTW := kt_in 39 (by decide +kernel) (by decide +kernel)
theorem ks_X7_isGood : Cond.selects RX7 yX7_isGood yX7_isGood ∈ KTW := kt_in 40 (by decide +kernel) (by decide +kernel)
theorem ks_X7_who : Cond.selects RX7 yX7_who yX7_who ∈ KTW := kt_in 41 (by decide +kernel) (by decide +kernel)
theorem ks_X7_placeOf : Cond.selects RX7 yX7_placeOf yX7_placeOf ∈ KTW := kt_in 42 (by decide +kernel) (by decide +kernel)
theorem ks_X7_isAhead : Cond.selects RX7 yX7_isAhead yX7_isAhead ∈ KTW := kt_in 43 (by decide +kernel) (by decide +kernel)
theorem ks_X7_isSkin : Cond.selects RX7 yX7_isSkin yX7_isSkin ∈ KTW := kt_in 44 (by decide +kernel) (by decide +kernel)
theorem ks_X7_looks : Cond.selects RX7 yX7_looks yX7_looks ∈ KTW := kt_in 45 (by decide +kernel) (by decide +kernel)
theorem ks_X7_inherits : Cond.selects RX7 yX7_inherits yX7_inherits ∈ KTW := kt_in 46 (by decide +kernel) (by decide +kernel)
theorem ks_X7_pays : Cond.selects RX7 yX7_pays yX7_pays ∈ KTW := kt_in 47 (by decide +kernel) (by decide +kernel)
theorem ks_X7_user : Cond.selects RX7 yX7_user yX7_user ∈ KTW := kt_in 48 (by decide +kernel) (by decide +kernel)
theorem ks_X7_putsNumber : Cond.selects RX7 yX7_putsNumber yX7_putsNumber ∈ KTW := kt_in 49 (by decide +kernel) (by decide +kernel)
theorem ks_X7_puts : Cond.selects RX7 yX7_puts yX7_puts ∈ KTW := kt_in 50 (by decide +kernel) (by decide +kernel)
theorem ki_obj : Cond.instanceMethod objectInit ∈ KTW := kt_in 83 (by decide +kernel) (by decide +kernel)
theorem kc_obj : Cond.code objectInit ⟨#[0xb1]⟩ 1 none ∈ KTW := kt_in 84 (by decide +kernel) (by decide +kernel)
theorem ko_X6_1 : Cond.methodLink RX6 1 objectInit ∈ KTW := kt_in 82 (by decide +kernel) (by decide +kernel)
theorem ko_X2_3 : Cond.methodLink RX2 3 objectInit ∈ KTW := kt_in 99 (by decide +kernel) (by decide +kernel)
theorem ko_X4_3 : Cond.methodLink RX4 3 objectInit ∈ KTW := kt_in 113 (by decide +kernel) (by decide +kernel)
theorem ko_X1_3 : Cond.methodLink RX1 3 objectInit ∈ KTW := kt_in 238 (by decide +kernel) (by decide +kernel)
theorem ko_X0_3 : Cond.methodLink RX0 3 objectInit ∈ KTW := kt_in 334 (by decide +kernel) (by decide +kernel)
theorem ko_X5_3 : Cond.methodLink RX5 3 objectInit ∈ KTW := kt_in 404 (by decide +kernel) (by decide +kernel)
theorem ko_X3_1 : Cond.methodLink RX3 1 objectInit ∈ KTW := kt_in 476 (by decide +kernel) (by decide +kernel)
theorem ko_X7_1 : Cond.methodLink RX7 1 objectInit ∈ KTW := kt_in 821 (by decide +kernel) (by decide +kernel)
theorem kac_int : Cond.arrayClass .int ∈ KTW := kt_in 126 (by decide +kernel) (by decide +kernel)
theorem kac_long : Cond.arrayClass .long ∈ KTW := kt_in 1047 (by decide +kernel) (by decide +kernel)
theorem kac_byte : Cond.arrayClass .byte ∈ KTW := kt_in 233 (by decide +kernel) (by decide +kernel)
theorem kao_X1 : Cond.arrayOver (.object RX1) ∈ KTW := kt_in 86 (by decide +kernel) (by decide +kernel)
theorem kao_X0 : Cond.arrayOver (.object RX0) ∈ KTW := kt_in 88 (by decide +kernel) (by decide +kernel)
theorem kao_X4 : Cond.arrayOver (.object RX4) ∈ KTW := kt_in 90 (by decide +kernel) (by decide +kernel)
theorem kao_X5 : Cond.arrayOver (.object RX5) ∈ KTW := kt_in 92 (by decide +kernel) (by decide +kernel)
theorem kao_X2 : Cond.arrayOver (.object RX2) ∈ KTW := kt_in 94 (by decide +kernel) (by decide +kernel)
theorem kao_X3 : Cond.arrayOver (.object RX3) ∈ KTW := kt_in 406 (by decide +kernel) (by decide +kernel)
end
section
theorem dX0_init_0 : decode cX0_init 0 = .ok (.aload_n 0, 1) := by decide +kernel
theorem dX0_init_1 : decode cX0_init 1 = .ok (.invokespecial 3, 3) := by decide +kernel
theorem dX0_init_4 : decode cX0_init 4 = .ok (.aload_n 0, 1) := by decide +kernel
theorem dX0_init_5 : decode cX0_init 5 = .ok (.aload_n 1, 1) := by decide +kernel
theorem dX0_init_6 : decode cX0_init 6 = .ok (.putfield 9, 3) := by decide +kernel
theorem dX0_init_9 : decode cX0_init 9 = .ok (.aload_n 0, 1) := by decide +kernel
theorem dX0_init_10 : decode cX0_init 10 = .ok (.aload_n 2, 1) := by decide +kernel
theorem dX0_init_11 : decode cX0_init 11 = .ok (.putfield 15, 3) := by decide +kernel
theorem dX0_init_14 : decode cX0_init 14 = .ok (.aload_n 0, 1) := by decide +kernel
theorem dX0_init_15 : decode cX0_init 15 = .ok (.aload_n 3, 1) := by decide +kernel
theorem dX0_init_16 : decode cX0_init 16 = .ok (.putfield 18, 3) := by decide +kernel
theorem dX0_init_19 : decode cX0_init 19 = .ok (.aload_n 0, 1) := by decide +kernel
theorem dX0_init_20 : decode cX0_init 20 = .ok (.iload 4, 2) := by decide +kernel
theorem dX0_init_22 : decode cX0_init 22 = .ok (.putfield 22, 3) := by decide +kernel
theorem dX0_init_25 : decode cX0_init 25 = .ok (.return_, 1) := by decide +kernel
theorem dX0_isStanding_0 : decode cX0_isStanding 0 = .ok (.aload_n 0, 1) := by decide +kernel
theorem dX0_isStanding_1 : decode cX0_isStanding 1 = .ok (.getfield 9, 3) := by decide +kernel
theorem dX0_isStanding_4 : decode cX0_isStanding 4 = .ok (.aload_n 0, 1) := by decide +kernel
theorem dX0_isStanding_5 : decode cX0_isStanding 5 = .ok (.getfield 22, 3) := by decide +kernel
theorem dX0_isStanding_8 : decode cX0_isStanding 8 = .ok (.invokevirtual 26, 3) := by decide +kernel
theorem dX0_isStanding_11 : decode cX0_isStanding 11 = .ok (.ifCond .ne 7, 3) := by decide +kernel
theorem dX0_isStanding_14 : decode cX0_isStanding 14 = .ok (.iconst 1, 1) := by decide +kernel
theorem dX0_isStanding_15 : decode cX0_isStanding 15 = .ok (.goto 4, 3) := by decide +kernel
theorem dX0_isStanding_18 : decode cX0_isStanding 18 = .ok (.iconst 0, 1) := by decide +kernel
theorem dX0_isStanding_19 : decode cX0_isStanding 19 = .ok (.ireturn, 1) := by decide +kernel
theorem dX0_addPoints_0 : decode cX0_addPoints 0 = .ok (.aload_n 0, 1) := by decide +kernel
theorem dX0_addPoints_1 : decode cX0_addPoints 1 = .ok (.invokevirtual 32, 3) := by decide +kernel
theorem dX0_addPoints_4 : decode cX0_addPoints 4 = .ok (.ifCond .eq 33, 3) := by decide +kernel
theorem dX0_addPoints_7 : decode cX0_addPoints 7 = .ok (.aload_n 0, 1) := by decide +kernel
theorem dX0_addPoints_8 : decode cX0_addPoints 8 = .ok (.getfield 18, 3) := by decide +kernel
theorem dX0_addPoints_11 : decode cX0_addPoints 11 = .ok (.aload_n 0, 1) := by decide +kernel
theorem dX0_addPoints_12 : decode cX0_addPoints 12 = .ok (.getfield 9, 3) := by decide +kernel
theorem dX0_addPoints_15 : decode cX0_addPoints 15 = .ok (.getfield 36, 3) := by decide +kernel
theorem dX0_addPoints_18 : decode cX0_addPoints 18 = .ok (.iconst 3, 1) := by decide +kernel
theorem dX0_addPoints_19 : decode cX0_addPoints 19 = .ok (.invokevirtual 39, 3) := by decide +kernel
theorem dX0_addPoints_22 : decode cX0_addPoints 22 = .ok (.aload_n 0, 1) := by decide +kernel
theorem dX0_addPoints_23 : decode cX0_addPoints 23 = .ok (.getfield 18, 3) := by decide +kernel
theorem dX0_addPoints_26 : decode cX0_addPoints 26 = .ok (.aload_n 0, 1) := by decide +kernel
theorem dX0_addPoints_27 : decode cX0_addPoints 27 = .ok (.getfield 15, 3) := by decide +kernel
theorem dX0_addPoints_30 : decode cX0_addPoints 30 = .ok (.getfield 36, 3) := by decide +kernel
theorem dX0_addPoints_33 : decode cX0_addPoints 33 = .ok (.iconst 1, 1) := by decide +kernel
theorem dX0_addPoints_34 : decode cX0_addPoints 34 = .ok (.invokevirtual 39, 3) := by decide +kernel
theorem dX0_addPoints_37 : decode cX0_addPoints 37 = .ok (.return_, 1) := by decide +kernel
theorem dX1_init_0 : decode cX1_init 0 = .ok (.aload_n 0, 1) := by decide +kernel
theorem dX1_init_1 : decode cX1_init 1 = .ok (.invokespecial 3, 3) := by decide +kernel
theorem dX1_init_4 : decode cX1_init 4 = .ok (.aload_n 0, 1) := by decide +kernel
theorem dX1_init_5 : decode cX1_init 5 = .ok (.iconst (-1), 1) := by decide +kernel
theorem dX1_init_6 : decode cX1_init 6 = .ok (.putfield 9, 3) := by decide +kernel
theorem dX1_init_9 : decode cX1_init 9 = .ok (.aload_n 0, 1) := by decide +kernel
theorem dX1_init_10 : decode cX1_init 10 = .ok (.iload_n 1, 1) := by decide +kernel
theorem dX1_init_11 : decode cX1_init 11 = .ok (.putfield 15, 3) := by decide +kernel
theorem dX1_init_14 : decode cX1_init 14 = .ok (.return_, 1) := by decide +kernel
theorem dX1_isBanned_0 : decode cX1_isBanned 0 = .ok (.iload_n 1, 1) := by decide +kernel
theorem dX1_isBanned_1 : decode cX1_isBanned 1 = .ok (.aload_n 0, 1) := by decide +kernel
theorem dX1_isBanned_2 : decode cX1_isBanned 2 = .ok (.getfield 18, 3) := by decide +kernel
theorem dX1_isBanned_5 : decode cX1_isBanned 5 = .ok (.if_icmp .ge 7, 3) := by decide +kernel
theorem dX1_isBanned_8 : decode cX1_isBanned 8 = .ok (.iconst 1, 1) := by decide +kernel
theorem dX1_isBanned_9 : decode cX1_isBanned 9 = .ok (.goto 4, 3) := by decide +kernel
theorem dX1_isBanned_12 : decode cX1_isBanned 12 = .ok (.iconst 0, 1) := by decide +kernel
theorem dX1_isBanned_13 : decode cX1_isBanned 13 = .ok (.ireturn, 1) := by decide +kernel
theorem dX1_isProven_0 : decode cX1_isProven 0 = .ok (.aload_n 0, 1) := by decide +kernel
theorem dX1_isProven_1 : decode cX1_isProven 1 = .ok (.getfield 9, 3) := by decide +kernel
theorem dX1_isProven_4 : decode cX1_isProven 4 = .ok (.iconst (-1), 1) := by decide +kernel
theorem dX1_isProven_5 : decode cX1_isProven 5 = .ok (.if_icmp .eq 7, 3) := by decide +kernel
theorem dX1_isProven_8 : decode cX1_isProven 8 = .ok (.iconst 1, 1) := by decide +kernel
theorem dX1_isProven_9 : decode cX1_isProven 9 = .ok (.goto 4, 3) := by decide +kernel
theorem dX1_isProven_12 : decode cX1_isProven 12 = .ok (.iconst 0, 1) := by decide +kernel
theorem dX1_isProven_13 : decode cX1_isProven 13 = .ok (.ireturn, 1) := by decide +kernel
theorem dX1_isProvenOn_0 : decode cX1_isProvenOn 0 = .ok (.aload_n 0, 1) := by decide +kernel
theorem dX1_isProvenOn_1 : decode cX1_isProvenOn 1 = .ok (.invokevirtual 21, 3) := by decide +kernel
theorem dX1_isProvenOn_4 : decode cX1_isProvenOn 4 = .ok (.ifCond .eq 15, 3) := by decide +kernel
theorem dX1_isProvenOn_7 : decode cX1_isProvenOn 7 = .ok (.aload_n 0, 1) := by decide +kernel
theorem dX1_isProvenOn_8 : decode cX1_isProvenOn 8 = .ok (.getfield 9, 3) := by decide +kernel
theorem dX1_isProvenOn_11 : decode cX1_isProvenOn 11 = .ok (.iload_n 1, 1) := by decide +kernel
theorem dX1_isProvenOn_12 : decode cX1_isProvenOn 12 = .ok (.if_icmp .gt 7, 3) := by decide +kernel
theorem dX1_isProvenOn_15 : decode cX1_isProvenOn 15 = .ok (.iconst 1, 1) := by decide +kernel
theorem dX1_isProvenOn_16 : decode cX1_isProvenOn 16 = .ok (.goto 4, 3) := by decide +kernel
theorem dX1_isProvenOn_19 : decode cX1_isProvenOn 19 = .ok (.iconst 0, 1) := by decide +kernel
theorem dX1_isProvenOn_20 : decode cX1_isProvenOn 20 = .ok (.ireturn, 1) := by decide +kernel
theorem dX1_prove_0 : decode cX1_prove 0 = .ok (.aload_n 0, 1) := by decide +kernel
theorem dX1_prove_1 : decode cX1_prove 1 = .ok (.invokevirtual 21, 3) := by decide +kernel
theorem dX1_prove_4 : decode cX1_prove 4 = .ok (.ifCond .eq 11, 3) := by decide +kernel
theorem dX1_prove_7 : decode cX1_prove 7 = .ok (.iload_n 1, 1) := by decide +kernel
theorem dX1_prove_8 : decode cX1_prove 8 = .ok (.aload_n 0, 1) := by decide +kernel
theorem dX1_prove_9 : decode cX1_prove 9 = .ok (.getfield 9, 3) := by decide +kernel
theorem dX1_prove_12 : decode cX1_prove 12 = .ok (.if_icmp .ge 8, 3) := by decide +kernel
theorem dX1_prove_15 : decode cX1_prove 15 = .ok (.aload_n 0, 1) := by decide +kernel
theorem dX1_prove_16 : decode cX1_prove 16 = .ok (.iload_n 1, 1) := by decide +kernel
theorem dX1_prove_17 : decode cX1_prove 17 = .ok (.putfield 9, 3) := by decide +kernel
theorem dX1_prove_20 : decode cX1_prove 20 = .ok (.return_, 1) := by decide +kernel
theorem dX2_init_0 : decode cX2_init 0 = .ok (.aload_n 0, 1) := by decide +kernel
theorem dX2_init_1 : decode cX2_init 1 = .ok (.invokespecial 3, 3) := by decide +kernel
theorem dX2_init_4 : decode cX2_init 4 = .ok (.aload_n 0, 1) := by decide +kernel
theorem dX2_init_5 : decode cX2_init 5 = .ok (.bipush 10, 2) := by decide +kernel
theorem dX2_init_7 : decode cX2_init 7 = .ok (.putfield 9, 3) := by decide +kernel
theorem dX2_init_10 : decode cX2_init 10 = .ok (.return_, 1) := by decide +kernel
theorem dX2_isFull_0 : decode cX2_isFull 0 = .ok (.aload_n 0, 1) := by decide +kernel
theorem dX2_isFull_1 : decode cX2_isFull 1 = .ok (.getfield 15, 3) := by decide +kernel
theorem dX2_isFull_4 : decode cX2_isFull 4 = .ok (.aload_n 0, 1) := by decide +kernel
theorem dX2_isFull_5 : decode cX2_isFull 5 = .ok (.getfield 9, 3) := by decide +kernel
theorem dX2_isFull_8 : decode cX2_isFull 8 = .ok (.if_icmp .lt 7, 3) := by decide +kernel
theorem dX2_isFull_11 : decode cX2_isFull 11 = .ok (.iconst 1, 1) := by decide +kernel
theorem dX2_isFull_12 : decode cX2_isFull 12 = .ok (.goto 4, 3) := by decide +kernel
theorem dX2_isFull_15 : decode cX2_isFull 15 = .ok (.iconst 0, 1) := by decide +kernel
theorem dX2_isFull_16 : decode cX2_isFull 16 = .ok (.ireturn, 1) := by decide +kernel
theorem dX3_init_0 : decode cX3_init 0 = .ok (.aload_n 0, 1) := by decide +kernel
theorem dX3_init_1 : decode cX3_init 1 = .ok (.invokespecial 1, 3) := by decide +kernel
theorem dX3_init_4 : decode cX3_init 4 = .ok (.aload_n 0, 1) := by decide +kernel
theorem dX3_init_5 : decode cX3_init 5 = .ok (.aload_n 1, 1) := by decide +kernel
theorem dX3_init_6 : decode cX3_init 6 = .ok (.putfield 7, 3) := by decide +kernel
theorem dX3_init_9 : decode cX3_init 9 = .ok (.aload_n 0, 1) := by decide +kernel
theorem dX3_init_10 : decode cX3_init 10 = .ok (.aload_n 2, 1) := by decide +kernel
theorem dX3_init_11 : decode cX3_init 11 = .ok (.putfield 13, 3) := by decide +kernel
theorem dX3_init_14 : decode cX3_init 14 = .ok (.aload_n 0, 1) := by decide +kernel
theorem dX3_init_15 : decode cX3_init 15 = .ok (.iload_n 3, 1) := by decide +kernel
theorem dX3_init_16 : decode cX3_init 16 = .ok (.putfield 16, 3) := by decide +kernel
theorem dX3_init_19 : decode cX3_init 19 = .ok (.return_, 1) := by decide +kernel
theorem dX3_isInFaithNow_0 : decode cX3_isInFaithNow 0 = .ok (.aload_n 0, 1) := by decide +kernel
theorem dX3_isInFaithNow_1 : decode cX3_isInFaithNow 1 = .ok (.getfield 7, 3) := by decide +kernel
theorem dX3_isInFaithNow_4 : decode cX3_isInFaithNow 4 = .ok (.ifnull 34, 3) := by decide +kernel
theorem dX3_isInFaithNow_7 : decode cX3_isInFaithNow 7 = .ok (.aload_n 0, 1) := by decide +kernel
theorem dX3_isInFaithNow_8 : decode cX3_isInFaithNow 8 = .ok (.getfield 13, 3) := by decide +kernel
theorem dX3_isInFaithNow_11 : decode cX3_isInFaithNow 11 = .ok (.ifnull 27, 3) := by decide +kernel
theorem dX3_isInFaithNow_14 : decode cX3_isInFaithNow 14 = .ok (.aload_n 0, 1) := by decide +kernel
theorem dX3_isInFaithNow_15 : decode cX3_isInFaithNow 15 = .ok (.getfield 7, 3) := by decide +kernel
theorem dX3_isInFaithNow_18 : decode cX3_isInFaithNow 18 = .ok (.invokevirtual 20, 3) := by decide +kernel
theorem dX3_isInFaithNow_21 : decode cX3_isInFaithNow 21 = .ok (.ifCond .ne 17, 3) := by decide +kernel
theorem dX3_isInFaithNow_24 : decode cX3_isInFaithNow 24 = .ok (.aload_n 0, 1) := by decide +kernel
theorem dX3_isInFaithNow_25 : decode cX3_isInFaithNow 25 = .ok (.getfield 13, 3) := by decide +kernel
theorem dX3_isInFaithNow_28 : decode cX3_isInFaithNow 28 = .ok (.invokevirtual 20, 3) := by decide +kernel
theorem dX3_isInFaithNow_31 : decode cX3_isInFaithNow 31 = .ok (.ifCond .ne 7, 3) := by decide +kernel
theorem dX3_isInFaithNow_34 : decode cX3_isInFaithNow 34 = .ok (.iconst 1, 1) := by decide +kernel
theorem dX3_isInFaithNow_35 : decode cX3_isInFaithNow 35 = .ok (.goto 4, 3) := by decide +kernel
theorem dX3_isInFaithNow_38 : decode cX3_isInFaithNow 38 = .ok (.iconst 0, 1) := by decide +kernel
theorem dX3_isInFaithNow_39 : decode cX3_isInFaithNow 39 = .ok (.ireturn, 1) := by decide +kernel
theorem dX4_init_0 : decode cX4_init 0 = .ok (.aload_n 0, 1) := by decide +kernel
theorem dX4_init_1 : decode cX4_init 1 = .ok (.invokespecial 3, 3) := by decide +kernel
theorem dX4_init_4 : decode cX4_init 4 = .ok (.aload_n 0, 1) := by decide +kernel
theorem dX4_init_5 : decode cX4_init 5 = .ok (.bipush 16, 2) := by decide +kernel
theorem dX4_init_7 : decode cX4_init 7 = .ok (.newarray .int, 2) := by decide +kernel
theorem dX4_init_9 : decode cX4_init 9 = .ok (.putfield 9, 3) := by decide +kernel
theorem dX4_init_12 : decode cX4_init 12 = .ok (.aload_n 0, 1) := by decide +kernel
theorem dX4_init_13 : decode cX4_init 13 = .ok (.bipush 16, 2) := by decide +kernel
theorem dX4_init_15 : decode cX4_init 15 = .ok (.newarray .int, 2) := by decide +kernel
theorem dX4_init_17 : decode cX4_init 17 = .ok (.putfield 15, 3) := by decide +kernel
theorem dX4_init_20 : decode cX4_init 20 = .ok (.aload_n 0, 1) := by decide +kernel
theorem dX4_init_21 : decode cX4_init 21 = .ok (.iload_n 1, 1) := by decide +kernel
theorem dX4_init_22 : decode cX4_init 22 = .ok (.putfield 18, 3) := by decide +kernel
theorem dX4_init_25 : decode cX4_init 25 = .ok (.return_, 1) := by decide +kernel
theorem dX4_forgetPoints_0 : decode cX4_forgetPoints 0 = .ok (.iconst 0, 1) := by decide +kernel
theorem dX4_forgetPoints_1 : decode cX4_forgetPoints 1 = .ok (.istore_n 1, 1) := by decide +kernel
theorem dX4_forgetPoints_2 : decode cX4_forgetPoints 2 = .ok (.iload_n 1, 1) := by decide +kernel
theorem dX4_forgetPoints_3 : decode cX4_forgetPoints 3 = .ok (.aload_n 0, 1) := by decide +kernel
theorem dX4_forgetPoints_4 : decode cX4_forgetPoints 4 = .ok (.getfield 9, 3) := by decide +kernel
theorem dX4_forgetPoints_7 : decode cX4_forgetPoints 7 = .ok (.arraylength, 1) := by decide +kernel
theorem dX4_forgetPoints_8 : decode cX4_forgetPoints 8 = .ok (.if_icmp .ge 16, 3) := by decide +kernel
theorem dX4_forgetPoints_11 : decode cX4_forgetPoints 11 = .ok (.aload_n 0, 1) := by decide +kernel
theorem dX4_forgetPoints_12 : decode cX4_forgetPoints 12 = .ok (.getfield 9, 3) := by decide +kernel
theorem dX4_forgetPoints_15 : decode cX4_forgetPoints 15 = .ok (.iload_n 1, 1) := by decide +kernel
theorem dX4_forgetPoints_16 : decode cX4_forgetPoints 16 = .ok (.iconst 0, 1) := by decide +kernel
theorem dX4_forgetPoints_17 : decode cX4_forgetPoints 17 = .ok (.iastore, 1) := by decide +kernel
theorem dX4_forgetPoints_18 : decode cX4_forgetPoints 18 = .ok (.iinc 1 1, 3) := by decide +kernel
theorem dX4_forgetPoints_21 : decode cX4_forgetPoints 21 = .ok (.goto (-19), 3) := by decide +kernel
theorem dX4_forgetPoints_24 : decode cX4_forgetPoints 24 = .ok (.iconst 0, 1) := by decide +kernel
theorem dX4_forgetPoints_25 : decode cX4_forgetPoints 25 = .ok (.istore_n 1, 1) := by decide +kernel
theorem dX4_forgetPoints_26 : decode cX4_forgetPoints 26 = .ok (.iload_n 1, 1) := by decide +kernel
theorem dX4_forgetPoints_27 : decode cX4_forgetPoints 27 = .ok (.aload_n 0, 1) := by decide +kernel
theorem dX4_forgetPoints_28 : decode cX4_forgetPoints 28 = .ok (.getfield 15, 3) := by decide +kernel
theorem dX4_forgetPoints_31 : decode cX4_forgetPoints 31 = .ok (.arraylength, 1) := by decide +kernel
theorem dX4_forgetPoints_32 : decode cX4_forgetPoints 32 = .ok (.if_icmp .ge 16, 3) := by decide +kernel
theorem dX4_forgetPoints_35 : decode cX4_forgetPoints 35 = .ok (.aload_n 0, 1) := by decide +kernel
theorem dX4_forgetPoints_36 : decode cX4_forgetPoints 36 = .ok (.getfield 15, 3) := by decide +kernel
theorem dX4_forgetPoints_39 : decode cX4_forgetPoints 39 = .ok (.iload_n 1, 1) := by decide +kernel
theorem dX4_forgetPoints_40 : decode cX4_forgetPoints 40 = .ok (.iconst 0, 1) := by decide +kernel
theorem dX4_forgetPoints_41 : decode cX4_forgetPoints 41 = .ok (.iastore, 1) := by decide +kernel
theorem dX4_forgetPoints_42 : decode cX4_forgetPoints 42 = .ok (.iinc 1 1, 3) := by decide +kernel
theorem dX4_forgetPoints_45 : decode cX4_forgetPoints 45 = .ok (.goto (-19), 3) := by decide +kernel
theorem dX4_forgetPoints_48 : decode cX4_forgetPoints 48 = .ok (.return_, 1) := by decide +kernel
theorem dX4_add_0 : decode cX4_add 0 = .ok (.iload_n 1, 1) := by decide +kernel
theorem dX4_add_1 : decode cX4_add 1 = .ok (.ifCond .lt 41, 3) := by decide +kernel
theorem dX4_add_4 : decode cX4_add 4 = .ok (.iload_n 1, 1) := by decide +kernel
theorem dX4_add_5 : decode cX4_add 5 = .ok (.aload_n 0, 1) := by decide +kernel
theorem dX4_add_6 : decode cX4_add 6 = .ok (.getfield 9, 3) := by decide +kernel
theorem dX4_add_9 : decode cX4_add 9 = .ok (.arraylength, 1) := by decide +kernel
theorem dX4_add_10 : decode cX4_add 10 = .ok (.if_icmp .ge 32, 3) := by decide +kernel
theorem dX4_add_13 : decode cX4_add 13 = .ok (.iload_n 1, 1) := by decide +kernel
theorem dX4_add_14 : decode cX4_add 14 = .ok (.aload_n 0, 1) := by decide +kernel
theorem dX4_add_15 : decode cX4_add 15 = .ok (.getfield 15, 3) := by decide +kernel
theorem dX4_add_18 : decode cX4_add 18 = .ok (.arraylength, 1) := by decide +kernel
theorem dX4_add_19 : decode cX4_add 19 = .ok (.if_icmp .ge 23, 3) := by decide +kernel
theorem dX4_add_22 : decode cX4_add 22 = .ok (.aload_n 0, 1) := by decide +kernel
theorem dX4_add_23 : decode cX4_add 23 = .ok (.getfield 9, 3) := by decide +kernel
theorem dX4_add_26 : decode cX4_add 26 = .ok (.iload_n 1, 1) := by decide +kernel
theorem dX4_add_27 : decode cX4_add 27 = .ok (.dup2, 1) := by decide +kernel
theorem dX4_add_28 : decode cX4_add 28 = .ok (.iaload, 1) := by decide +kernel
theorem dX4_add_29 : decode cX4_add 29 = .ok (.iload_n 2, 1) := by decide +kernel
theorem dX4_add_30 : decode cX4_add 30 = .ok (.iadd, 1) := by decide +kernel
theorem dX4_add_31 : decode cX4_add 31 = .ok (.iastore, 1) := by decide +kernel
theorem dX4_add_32 : decode cX4_add 32 = .ok (.aload_n 0, 1) := by decide +kernel
theorem dX4_add_33 : decode cX4_add 33 = .ok (.getfield 15, 3) := by decide +kernel
theorem dX4_add_36 : decode cX4_add 36 = .ok (.iload_n 1, 1) := by decide +kernel
theorem dX4_add_37 : decode cX4_add 37 = .ok (.dup2, 1) := by decide +kernel
theorem dX4_add_38 : decode cX4_add 38 = .ok (.iaload, 1) := by decide +kernel
theorem dX4_add_39 : decode cX4_add 39 = .ok (.iconst 1, 1) := by decide +kernel
theorem dX4_add_40 : decode cX4_add 40 = .ok (.iadd, 1) := by decide +kernel
theorem dX4_add_41 : decode cX4_add 41 = .ok (.iastore, 1) := by decide +kernel
theorem dX4_add_42 : decode cX4_add 42 = .ok (.return_, 1) := by decide +kernel
theorem dX4_pointsOf_0 : decode cX4_pointsOf 0 = .ok (.iload_n 1, 1) := by decide +kernel
theorem dX4_pointsOf_1 : decode cX4_pointsOf 1 = .ok (.ifCond .lt 21, 3) := by decide +kernel
theorem dX4_pointsOf_4 : decode cX4_pointsOf 4 = .ok (.iload_n 1, 1) := by decide +kernel
theorem dX4_pointsOf_5 : decode cX4_pointsOf 5 = .ok (.aload_n 0, 1) := by decide +kernel
theorem dX4_pointsOf_6 : decode cX4_pointsOf 6 = .ok (.getfield 9, 3) := by decide +kernel
theorem dX4_pointsOf_9 : decode cX4_pointsOf 9 = .ok (.arraylength, 1) := by decide +kernel
theorem dX4_pointsOf_10 : decode cX4_pointsOf 10 = .ok (.if_icmp .ge 12, 3) := by decide +kernel
theorem dX4_pointsOf_13 : decode cX4_pointsOf 13 = .ok (.aload_n 0, 1) := by decide +kernel
theorem dX4_pointsOf_14 : decode cX4_pointsOf 14 = .ok (.getfield 9, 3) := by decide +kernel
theorem dX4_pointsOf_17 : decode cX4_pointsOf 17 = .ok (.iload_n 1, 1) := by decide +kernel
theorem dX4_pointsOf_18 : decode cX4_pointsOf 18 = .ok (.iaload, 1) := by decide +kernel
theorem dX4_pointsOf_19 : decode cX4_pointsOf 19 = .ok (.goto 4, 3) := by decide +kernel
theorem dX4_pointsOf_22 : decode cX4_pointsOf 22 = .ok (.iconst 0, 1) := by decide +kernel
theorem dX4_pointsOf_23 : decode cX4_pointsOf 23 = .ok (.ireturn, 1) := by decide +kernel
theorem dX4_gamesOf_0 : decode cX4_gamesOf 0 = .ok (.iload_n 1, 1) := by decide +kernel
theorem dX4_gamesOf_1 : decode cX4_gamesOf 1 = .ok (.ifCond .lt 21, 3) := by decide +kernel
theorem dX4_gamesOf_4 : decode cX4_gamesOf 4 = .ok (.iload_n 1, 1) := by decide +kernel
theorem dX4_gamesOf_5 : decode cX4_gamesOf 5 = .ok (.aload_n 0, 1) := by decide +kernel
theorem dX4_gamesOf_6 : decode cX4_gamesOf 6 = .ok (.getfield 15, 3) := by decide +kernel
theorem dX4_gamesOf_9 : decode cX4_gamesOf 9 = .ok (.arraylength, 1) := by decide +kernel
theorem dX4_gamesOf_10 : decode cX4_gamesOf 10 = .ok (.if_icmp .ge 12, 3) := by decide +kernel
theorem dX4_gamesOf_13 : decode cX4_gamesOf 13 = .ok (.aload_n 0, 1) := by decide +kernel
theorem dX4_gamesOf_14 : decode cX4_gamesOf 14 = .ok (.getfield 15, 3) := by decide +kernel
theorem dX4_gamesOf_17 : decode cX4_gamesOf 17 = .ok (.iload_n 1, 1) := by decide +kernel
theorem dX4_gamesOf_18 : decode cX4_gamesOf 18 = .ok (.iaload, 1) := by decide +kernel
theorem dX4_gamesOf_19 : decode cX4_gamesOf 19 = .ok (.goto 4, 3) := by decide +kernel
theorem dX4_gamesOf_22 : decode cX4_gamesOf 22 = .ok (.iconst 0, 1) := by decide +kernel
theorem dX4_gamesOf_23 : decode cX4_gamesOf 23 = .ok (.ireturn, 1) := by decide +kernel
theorem dX4_placeOf_0 : decode cX4_placeOf 0 = .ok (.aload_n 0, 1) := by decide +kernel
theorem dX4_placeOf_1 : decode cX4_placeOf 1 = .ok (.iload_n 1, 1) := by decide +kernel
theorem dX4_placeOf_2 : decode cX4_placeOf 2 = .ok (.invokevirtual 22, 3) := by decide +kernel
theorem dX4_placeOf_5 : decode cX4_placeOf 5 = .ok (.ifCond .ne 5, 3) := by decide +kernel
theorem dX4_placeOf_8 : decode cX4_placeOf 8 = .ok (.iconst 0, 1) := by decide +kernel
theorem dX4_placeOf_9 : decode cX4_placeOf 9 = .ok (.ireturn, 1) := by decide +kernel
theorem dX4_placeOf_10 : decode cX4_placeOf 10 = .ok (.iconst 1, 1) := by decide +kernel
theorem dX4_placeOf_11 : decode cX4_placeOf 11 = .ok (.istore_n 2, 1) := by decide +kernel
theorem dX4_placeOf_12 : decode cX4_placeOf 12 = .ok (.iconst 0, 1) := by decide +kernel
theorem dX4_placeOf_13 : decode cX4_placeOf 13 = .ok (.istore_n 3, 1) := by decide +kernel
theorem dX4_placeOf_14 : decode cX4_placeOf 14 = .ok (.iload_n 3, 1) := by decide +kernel
theorem dX4_placeOf_15 : decode cX4_placeOf 15 = .ok (.aload_n 0, 1) := by decide +kernel
theorem dX4_placeOf_16 : decode cX4_placeOf 16 = .ok (.getfield 9, 3) := by decide +kernel
theorem dX4_placeOf_19 : decode cX4_placeOf 19 = .ok (.arraylength, 1) := by decide +kernel
theorem dX4_placeOf_20 : decode cX4_placeOf 20 = .ok (.if_icmp .ge 21, 3) := by decide +kernel
theorem dX4_placeOf_23 : decode cX4_placeOf 23 = .ok (.aload_n 0, 1) := by decide +kernel
theorem dX4_placeOf_24 : decode cX4_placeOf 24 = .ok (.iload_n 3, 1) := by decide +kernel
theorem dX4_placeOf_25 : decode cX4_placeOf 25 = .ok (.iload_n 1, 1) := by decide +kernel
theorem dX4_placeOf_26 : decode cX4_placeOf 26 = .ok (.invokevirtual 26, 3) := by decide +kernel
theorem dX4_placeOf_29 : decode cX4_placeOf 29 = .ok (.ifCond .eq 6, 3) := by decide +kernel
theorem dX4_placeOf_32 : decode cX4_placeOf 32 = .ok (.iinc 2 1, 3) := by decide +kernel
theorem dX4_placeOf_35 : decode cX4_placeOf 35 = .ok (.iinc 3 1, 3) := by decide +kernel
theorem dX4_placeOf_38 : decode cX4_placeOf 38 = .ok (.goto (-24), 3) := by decide +kernel
theorem dX4_placeOf_41 : decode cX4_placeOf 41 = .ok (.iload_n 2, 1) := by decide +kernel
theorem dX4_placeOf_42 : decode cX4_placeOf 42 = .ok (.ireturn, 1) := by decide +kernel
theorem dX4_playerOn_0 : decode cX4_playerOn 0 = .ok (.aload_n 0, 1) := by decide +kernel
theorem dX4_playerOn_1 : decode cX4_playerOn 1 = .ok (.iconst (-1), 1) := by decide +kernel
theorem dX4_playerOn_2 : decode cX4_playerOn 2 = .ok (.invokevirtual 30, 3) := by decide +kernel
theorem dX4_playerOn_5 : decode cX4_playerOn 5 = .ok (.istore_n 2, 1) := by decide +kernel
theorem dX4_playerOn_6 : decode cX4_playerOn 6 = .ok (.iconst 1, 1) := by decide +kernel
theorem dX4_playerOn_7 : decode cX4_playerOn 7 = .ok (.istore_n 3, 1) := by decide +kernel
theorem dX4_playerOn_8 : decode cX4_playerOn 8 = .ok (.iload_n 3, 1) := by decide +kernel
theorem dX4_playerOn_9 : decode cX4_playerOn 9 = .ok (.iload_n 1, 1) := by decide +kernel
theorem dX4_playerOn_10 : decode cX4_playerOn 10 = .ok (.if_icmp .ge 20, 3) := by decide +kernel
theorem dX4_playerOn_13 : decode cX4_playerOn 13 = .ok (.iload_n 2, 1) := by decide +kernel
theorem dX4_playerOn_14 : decode cX4_playerOn 14 = .ok (.iconst (-1), 1) := by decide +kernel
theorem dX4_playerOn_15 : decode cX4_playerOn 15 = .ok (.if_icmp .eq 15, 3) := by decide +kernel
theorem dX4_playerOn_18 : decode cX4_playerOn 18 = .ok (.aload_n 0, 1) := by decide +kernel
theorem dX4_playerOn_19 : decode cX4_playerOn 19 = .ok (.iload_n 2, 1) := by decide +kernel
theorem dX4_playerOn_20 : decode cX4_playerOn 20 = .ok (.invokevirtual 30, 3) := by decide +kernel
theorem dX4_playerOn_23 : decode cX4_playerOn 23 = .ok (.istore_n 2, 1) := by decide +kernel
theorem dX4_playerOn_24 : decode cX4_playerOn 24 = .ok (.iinc 3 1, 3) := by decide +kernel
theorem dX4_playerOn_27 : decode cX4_playerOn 27 = .ok (.goto (-19), 3) := by decide +kernel
theorem dX4_playerOn_30 : decode cX4_playerOn 30 = .ok (.iload_n 2, 1) := by decide +kernel
theorem dX4_playerOn_31 : decode cX4_playerOn 31 = .ok (.ireturn, 1) := by decide +kernel
theorem dX4_firstBehind_0 : decode cX4_firstBehind 0 = .ok (.iconst (-1), 1) := by decide +kernel
theorem dX4_firstBehind_1 : decode cX4_firstBehind 1 = .ok (.istore_n 2, 1) := by decide +kernel
theorem dX4_firstBehind_2 : decode cX4_firstBehind 2 = .ok (.iconst 0, 1) := by decide +kernel
theorem dX4_firstBehind_3 : decode cX4_firstBehind 3 = .ok (.istore_n 3, 1) := by decide +kernel
theorem dX4_firstBehind_4 : decode cX4_firstBehind 4 = .ok (.iload_n 3, 1) := by decide +kernel
theorem dX4_firstBehind_5 : decode cX4_firstBehind 5 = .ok (.aload_n 0, 1) := by decide +kernel
theorem dX4_firstBehind_6 : decode cX4_firstBehind 6 = .ok (.getfield 9, 3) := by decide +kernel
theorem dX4_firstBehind_9 : decode cX4_firstBehind 9 = .ok (.arraylength, 1) := by decide +kernel
theorem dX4_firstBehind_10 : decode cX4_firstBehind 10 = .ok (.if_icmp .ge 48, 3) := by decide +kernel
theorem dX4_firstBehind_13 : decode cX4_firstBehind 13 = .ok (.aload_n 0, 1) := by decide +kernel
theorem dX4_firstBehind_14 : decode cX4_firstBehind 14 = .ok (.getfield 9, 3) := by decide +kernel
theorem dX4_firstBehind_17 : decode cX4_firstBehind 17 = .ok (.iload_n 3, 1) := by decide +kernel
theorem dX4_firstBehind_18 : decode cX4_firstBehind 18 = .ok (.iaload, 1) := by decide +kernel
theorem dX4_firstBehind_19 : decode cX4_firstBehind 19 = .ok (.ifCond .le 33, 3) := by decide +kernel
theorem dX4_firstBehind_22 : decode cX4_firstBehind 22 = .ok (.iload_n 1, 1) := by decide +kernel
theorem dX4_firstBehind_23 : decode cX4_firstBehind 23 = .ok (.iconst (-1), 1) := by decide +kernel
theorem dX4_firstBehind_24 : decode cX4_firstBehind 24 = .ok (.if_icmp .eq 12, 3) := by decide +kernel
theorem dX4_firstBehind_27 : decode cX4_firstBehind 27 = .ok (.aload_n 0, 1) := by decide +kernel
theorem dX4_firstBehind_28 : decode cX4_firstBehind 28 = .ok (.iload_n 1, 1) := by decide +kernel
theorem dX4_firstBehind_29 : decode cX4_firstBehind 29 = .ok (.iload_n 3, 1) := by decide +kernel
theorem dX4_firstBehind_30 : decode cX4_firstBehind 30 = .ok (.invokevirtual 26, 3) := by decide +kernel
theorem dX4_firstBehind_33 : decode cX4_firstBehind 33 = .ok (.ifCond .eq 19, 3) := by decide +kernel
theorem dX4_firstBehind_36 : decode cX4_firstBehind 36 = .ok (.iload_n 2, 1) := by decide +kernel
theorem dX4_firstBehind_37 : decode cX4_firstBehind 37 = .ok (.iconst (-1), 1) := by decide +kernel
theorem dX4_firstBehind_38 : decode cX4_firstBehind 38 = .ok (.if_icmp .eq 12, 3) := by decide +kernel
theorem dX4_firstBehind_41 : decode cX4_firstBehind 41 = .ok (.aload_n 0, 1) := by decide +kernel
theorem dX4_firstBehind_42 : decode cX4_firstBehind 42 = .ok (.iload_n 3, 1) := by decide +kernel
theorem dX4_firstBehind_43 : decode cX4_firstBehind 43 = .ok (.iload_n 2, 1) := by decide +kernel
theorem dX4_firstBehind_44 : decode cX4_firstBehind 44 = .ok (.invokevirtual 26, 3) := by decide +kernel
theorem dX4_firstBehind_47 : decode cX4_firstBehind 47 = .ok (.ifCond .eq 5, 3) := by decide +kernel
theorem dX4_firstBehind_50 : decode cX4_firstBehind 50 = .ok (.iload_n 3, 1) := by decide +kernel
theorem dX4_firstBehind_51 : decode cX4_firstBehind 51 = .ok (.istore_n 2, 1) := by decide +kernel
theorem dX4_firstBehind_52 : decode cX4_firstBehind 52 = .ok (.iinc 3 1, 3) := by decide +kernel
theorem dX4_firstBehind_55 : decode cX4_firstBehind 55 = .ok (.goto (-51), 3) := by decide +kernel
theorem dX4_firstBehind_58 : decode cX4_firstBehind 58 = .ok (.iload_n 2, 1) := by decide +kernel
theorem dX4_firstBehind_59 : decode cX4_firstBehind 59 = .ok (.ireturn, 1) := by decide +kernel
theorem dX4_isAhead_0 : decode cX4_isAhead 0 = .ok (.aload_n 0, 1) := by decide +kernel
theorem dX4_isAhead_1 : decode cX4_isAhead 1 = .ok (.iload_n 1, 1) := by decide +kernel
theorem dX4_isAhead_2 : decode cX4_isAhead 2 = .ok (.invokevirtual 22, 3) := by decide +kernel
theorem dX4_isAhead_5 : decode cX4_isAhead 5 = .ok (.aload_n 0, 1) := by decide +kernel
theorem dX4_isAhead_6 : decode cX4_isAhead 6 = .ok (.iload_n 2, 1) := by decide +kernel
theorem dX4_isAhead_7 : decode cX4_isAhead 7 = .ok (.invokevirtual 22, 3) := by decide +kernel
theorem dX4_isAhead_10 : decode cX4_isAhead 10 = .ok (.isub, 1) := by decide +kernel
theorem dX4_isAhead_11 : decode cX4_isAhead 11 = .ok (.istore_n 3, 1) := by decide +kernel
theorem dX4_isAhead_12 : decode cX4_isAhead 12 = .ok (.iload_n 3, 1) := by decide +kernel
theorem dX4_isAhead_13 : decode cX4_isAhead 13 = .ok (.ifCond .eq 13, 3) := by decide +kernel
theorem dX4_isAhead_16 : decode cX4_isAhead 16 = .ok (.iload_n 3, 1) := by decide +kernel
theorem dX4_isAhead_17 : decode cX4_isAhead 17 = .ok (.ifCond .le 7, 3) := by decide +kernel
theorem dX4_isAhead_20 : decode cX4_isAhead 20 = .ok (.iconst 1, 1) := by decide +kernel
theorem dX4_isAhead_21 : decode cX4_isAhead 21 = .ok (.goto 4, 3) := by decide +kernel
theorem dX4_isAhead_24 : decode cX4_isAhead 24 = .ok (.iconst 0, 1) := by decide +kernel
theorem dX4_isAhead_25 : decode cX4_isAhead 25 = .ok (.ireturn, 1) := by decide +kernel
theorem dX4_isAhead_26 : decode cX4_isAhead 26 = .ok (.aload_n 0, 1) := by decide +kernel
theorem dX4_isAhead_27 : decode cX4_isAhead 27 = .ok (.iload_n 1, 1) := by decide +kernel
theorem dX4_isAhead_28 : decode cX4_isAhead 28 = .ok (.invokevirtual 33, 3) := by decide +kernel
theorem dX4_isAhead_31 : decode cX4_isAhead 31 = .ok (.aload_n 0, 1) := by decide +kernel
theorem dX4_isAhead_32 : decode cX4_isAhead 32 = .ok (.iload_n 2, 1) := by decide +kernel
theorem dX4_isAhead_33 : decode cX4_isAhead 33 = .ok (.invokevirtual 33, 3) := by decide +kernel
theorem dX4_isAhead_36 : decode cX4_isAhead 36 = .ok (.isub, 1) := by decide +kernel
theorem dX4_isAhead_37 : decode cX4_isAhead 37 = .ok (.istore 4, 2) := by decide +kernel
theorem dX4_isAhead_39 : decode cX4_isAhead 39 = .ok (.iload 4, 2) := by decide +kernel
theorem dX4_isAhead_41 : decode cX4_isAhead 41 = .ok (.ifCond .eq 14, 3) := by decide +kernel
theorem dX4_isAhead_44 : decode cX4_isAhead 44 = .ok (.iload 4, 2) := by decide +kernel
theorem dX4_isAhead_46 : decode cX4_isAhead 46 = .ok (.ifCond .ge 7, 3) := by decide +kernel
theorem dX4_isAhead_49 : decode cX4_isAhead 49 = .ok (.iconst 1, 1) := by decide +kernel
theorem dX4_isAhead_50 : decode cX4_isAhead 50 = .ok (.goto 4, 3) := by decide +kernel
theorem dX4_isAhead_53 : decode cX4_isAhead 53 = .ok (.iconst 0, 1) := by decide +kernel
theorem dX4_isAhead_54 : decode cX4_isAhead 54 = .ok (.ireturn, 1) := by decide +kernel
theorem dX4_isAhead_55 : decode cX4_isAhead 55 = .ok (.iload_n 1, 1) := by decide +kernel
theorem dX4_isAhead_56 : decode cX4_isAhead 56 = .ok (.iload_n 2, 1) := by decide +kernel
theorem dX4_isAhead_57 : decode cX4_isAhead 57 = .ok (.if_icmp .ge 7, 3) := by decide +kernel
theorem dX4_isAhead_60 : decode cX4_isAhead 60 = .ok (.iconst 1, 1) := by decide +kernel
theorem dX4_isAhead_61 : decode cX4_isAhead 61 = .ok (.goto 4, 3) := by decide +kernel
theorem dX4_isAhead_64 : decode cX4_isAhead 64 = .ok (.iconst 0, 1) := by decide +kernel
theorem dX4_isAhead_65 : decode cX4_isAhead 65 = .ok (.ireturn, 1) := by decide +kernel
theorem dX5_init_0 : decode cX5_init 0 = .ok (.aload_n 0, 1) := by decide +kernel
theorem dX5_init_1 : decode cX5_init 1 = .ok (.invokespecial 3, 3) := by decide +kernel
theorem dX5_init_4 : decode cX5_init 4 = .ok (.aload_n 0, 1) := by decide +kernel
theorem dX5_init_5 : decode cX5_init 5 = .ok (.bipush 20, 2) := by decide +kernel
theorem dX5_init_7 : decode cX5_init 7 = .ok (.anewarray 9, 3) := by decide +kernel
theorem dX5_init_10 : decode cX5_init 10 = .ok (.putfield 11, 3) := by decide +kernel
theorem dX5_init_13 : decode cX5_init 13 = .ok (.aload_n 0, 1) := by decide +kernel
theorem dX5_init_14 : decode cX5_init 14 = .ok (.iload_n 1, 1) := by decide +kernel
theorem dX5_init_15 : decode cX5_init 15 = .ok (.putfield 17, 3) := by decide +kernel
theorem dX5_init_18 : decode cX5_init 18 = .ok (.aload_n 0, 1) := by decide +kernel
theorem dX5_init_19 : decode cX5_init 19 = .ok (.aload_n 2, 1) := by decide +kernel
theorem dX5_init_20 : decode cX5_init 20 = .ok (.putfield 21, 3) := by decide +kernel
theorem dX5_init_23 : decode cX5_init 23 = .ok (.aload_n 0, 1) := by decide +kernel
theorem dX5_init_24 : decode cX5_init 24 = .ok (.iload_n 3, 1) := by decide +kernel
theorem dX5_init_25 : decode cX5_init 25 = .ok (.putfield 25, 3) := by decide +kernel
theorem dX5_init_28 : decode cX5_init 28 = .ok (.aload_n 0, 1) := by decide +kernel
theorem dX5_init_29 : decode cX5_init 29 = .ok (.aload 4, 2) := by decide +kernel
theorem dX5_init_31 : decode cX5_init 31 = .ok (.putfield 28, 3) := by decide +kernel
theorem dX5_init_34 : decode cX5_init 34 = .ok (.aload_n 0, 1) := by decide +kernel
theorem dX5_init_35 : decode cX5_init 35 = .ok (.aload 4, 2) := by decide +kernel
theorem dX5_init_37 : decode cX5_init 37 = .ok (.putfield 32, 3) := by decide +kernel
theorem dX5_init_40 : decode cX5_init 40 = .ok (.return_, 1) := by decide +kernel
theorem dX5_isGood_0 : decode cX5_isGood 0 = .ok (.aload_n 0, 1) := by decide +kernel
theorem dX5_isGood_1 : decode cX5_isGood 1 = .ok (.getfield 35, 3) := by decide +kernel
theorem dX5_isGood_4 : decode cX5_isGood 4 = .ok (.ifnull 7, 3) := by decide +kernel
theorem dX5_isGood_7 : decode cX5_isGood 7 = .ok (.iconst 1, 1) := by decide +kernel
theorem dX5_isGood_8 : decode cX5_isGood 8 = .ok (.goto 4, 3) := by decide +kernel
theorem dX5_isGood_11 : decode cX5_isGood 11 = .ok (.iconst 0, 1) := by decide +kernel
theorem dX5_isGood_12 : decode cX5_isGood 12 = .ok (.ireturn, 1) := by decide +kernel
theorem dX5_isSoldOften_0 : decode cX5_isSoldOften 0 = .ok (.aload_n 0, 1) := by decide +kernel
theorem dX5_isSoldOften_1 : decode cX5_isSoldOften 1 = .ok (.getfield 39, 3) := by decide +kernel
theorem dX5_isSoldOften_4 : decode cX5_isSoldOften 4 = .ok (.aload_n 0, 1) := by decide +kernel
theorem dX5_isSoldOften_5 : decode cX5_isSoldOften 5 = .ok (.getfield 11, 3) := by decide +kernel
theorem dX5_isSoldOften_8 : decode cX5_isSoldOften 8 = .ok (.arraylength, 1) := by decide +kernel
theorem dX5_isSoldOften_9 : decode cX5_isSoldOften 9 = .ok (.if_icmp .lt 7, 3) := by decide +kernel
theorem dX5_isSoldOften_12 : decode cX5_isSoldOften 12 = .ok (.iconst 1, 1) := by decide +kernel
theorem dX5_isSoldOften_13 : decode cX5_isSoldOften 13 = .ok (.goto 4, 3) := by decide +kernel
theorem dX5_isSoldOften_16 : decode cX5_isSoldOften 16 = .ok (.iconst 0, 1) := by decide +kernel
theorem dX5_isSoldOften_17 : decode cX5_isSoldOften 17 = .ok (.ireturn, 1) := by decide +kernel
theorem dX5_userOn_0 : decode cX5_userOn 0 = .ok (.aload_n 0, 1) := by decide +kernel
theorem dX5_userOn_1 : decode cX5_userOn 1 = .ok (.getfield 42, 3) := by decide +kernel
theorem dX5_userOn_4 : decode cX5_userOn 4 = .ok (.ifnull 18, 3) := by decide +kernel
theorem dX5_userOn_7 : decode cX5_userOn 7 = .ok (.iload_n 1, 1) := by decide +kernel
theorem dX5_userOn_8 : decode cX5_userOn 8 = .ok (.aload_n 0, 1) := by decide +kernel
theorem dX5_userOn_9 : decode cX5_userOn 9 = .ok (.getfield 45, 3) := by decide +kernel
theorem dX5_userOn_12 : decode cX5_userOn 12 = .ok (.if_icmp .gt 10, 3) := by decide +kernel
theorem dX5_userOn_15 : decode cX5_userOn 15 = .ok (.aload_n 0, 1) := by decide +kernel
theorem dX5_userOn_16 : decode cX5_userOn 16 = .ok (.getfield 42, 3) := by decide +kernel
theorem dX5_userOn_19 : decode cX5_userOn 19 = .ok (.goto 7, 3) := by decide +kernel
theorem dX5_userOn_22 : decode cX5_userOn 22 = .ok (.aload_n 0, 1) := by decide +kernel
theorem dX5_userOn_23 : decode cX5_userOn 23 = .ok (.getfield 32, 3) := by decide +kernel
theorem dX5_userOn_26 : decode cX5_userOn 26 = .ok (.areturn, 1) := by decide +kernel
theorem dX5_sellTo_0 : decode cX5_sellTo 0 = .ok (.aload_n 0, 1) := by decide +kernel
theorem dX5_sellTo_1 : decode cX5_sellTo 1 = .ok (.invokevirtual 48, 3) := by decide +kernel
theorem dX5_sellTo_4 : decode cX5_sellTo 4 = .ok (.ifCond .eq 5, 3) := by decide +kernel
theorem dX5_sellTo_7 : decode cX5_sellTo 7 = .ok (.iconst 0, 1) := by decide +kernel
theorem dX5_sellTo_8 : decode cX5_sellTo 8 = .ok (.ireturn, 1) := by decide +kernel
theorem dX5_sellTo_9 : decode cX5_sellTo 9 = .ok (.new 9, 3) := by decide +kernel
theorem dX5_sellTo_12 : decode cX5_sellTo 12 = .ok (.dup, 1) := by decide +kernel
theorem dX5_sellTo_13 : decode cX5_sellTo 13 = .ok (.aload_n 0, 1) := by decide +kernel
theorem dX5_sellTo_14 : decode cX5_sellTo 14 = .ok (.getfield 32, 3) := by decide +kernel
theorem dX5_sellTo_17 : decode cX5_sellTo 17 = .ok (.aload_n 1, 1) := by decide +kernel
theorem dX5_sellTo_18 : decode cX5_sellTo 18 = .ok (.iload_n 2, 1) := by decide +kernel
theorem dX5_sellTo_19 : decode cX5_sellTo 19 = .ok (.invokespecial 52, 3) := by decide +kernel
theorem dX5_sellTo_22 : decode cX5_sellTo 22 = .ok (.astore_n 3, 1) := by decide +kernel
theorem dX5_sellTo_23 : decode cX5_sellTo 23 = .ok (.aload_n 3, 1) := by decide +kernel
theorem dX5_sellTo_24 : decode cX5_sellTo 24 = .ok (.invokevirtual 55, 3) := by decide +kernel
theorem dX5_sellTo_27 : decode cX5_sellTo 27 = .ok (.istore 4, 2) := by decide +kernel
theorem dX5_sellTo_29 : decode cX5_sellTo 29 = .ok (.iload 4, 2) := by decide +kernel
theorem dX5_sellTo_31 : decode cX5_sellTo 31 = .ok (.ifCond .eq 15, 3) := by decide +kernel
theorem dX5_sellTo_34 : decode cX5_sellTo 34 = .ok (.aload_n 0, 1) := by decide +kernel
theorem dX5_sellTo_35 : decode cX5_sellTo 35 = .ok (.getfield 35, 3) := by decide +kernel
theorem dX5_sellTo_38 : decode cX5_sellTo 38 = .ok (.ifnonnull 8, 3) := by decide +kernel
theorem dX5_sellTo_41 : decode cX5_sellTo 41 = .ok (.aload_n 0, 1) := by decide +kernel
theorem dX5_sellTo_42 : decode cX5_sellTo 42 = .ok (.aload_n 3, 1) := by decide +kernel
theorem dX5_sellTo_43 : decode cX5_sellTo 43 = .ok (.putfield 35, 3) := by decide +kernel
theorem dX5_sellTo_46 : decode cX5_sellTo 46 = .ok (.aload_n 0, 1) := by decide +kernel
theorem dX5_sellTo_47 : decode cX5_sellTo 47 = .ok (.getfield 11, 3) := by decide +kernel
theorem dX5_sellTo_50 : decode cX5_sellTo 50 = .ok (.aload_n 0, 1) := by decide +kernel
theorem dX5_sellTo_51 : decode cX5_sellTo 51 = .ok (.getfield 39, 3) := by decide +kernel
theorem dX5_sellTo_54 : decode cX5_sellTo 54 = .ok (.aload_n 3, 1) := by decide +kernel
theorem dX5_sellTo_55 : decode cX5_sellTo 55 = .ok (.aastore, 1) := by decide +kernel
theorem dX5_sellTo_56 : decode cX5_sellTo 56 = .ok (.aload_n 0, 1) := by decide +kernel
theorem dX5_sellTo_57 : decode cX5_sellTo 57 = .ok (.dup, 1) := by decide +kernel
theorem dX5_sellTo_58 : decode cX5_sellTo 58 = .ok (.getfield 39, 3) := by decide +kernel
theorem dX5_sellTo_61 : decode cX5_sellTo 61 = .ok (.iconst 1, 1) := by decide +kernel
theorem dX5_sellTo_62 : decode cX5_sellTo 62 = .ok (.iadd, 1) := by decide +kernel
theorem dX5_sellTo_63 : decode cX5_sellTo 63 = .ok (.putfield 39, 3) := by decide +kernel
theorem dX5_sellTo_66 : decode cX5_sellTo 66 = .ok (.aload_n 1, 1) := by decide +kernel
theorem dX5_sellTo_67 : decode cX5_sellTo 67 = .ok (.aload_n 0, 1) := by decide +kernel
theorem dX5_sellTo_68 : decode cX5_sellTo 68 = .ok (.getfield 32, 3) := by decide +kernel
theorem dX5_sellTo_71 : decode cX5_sellTo 71 = .ok (.iload_n 2, 1) := by decide +kernel
theorem dX5_sellTo_72 : decode cX5_sellTo 72 = .ok (.invokestatic 58, 3) := by decide +kernel
theorem dX5_sellTo_75 : decode cX5_sellTo 75 = .ok (.aload_n 0, 1) := by decide +kernel
theorem dX5_sellTo_76 : decode cX5_sellTo 76 = .ok (.aload_n 1, 1) := by decide +kernel
theorem dX5_sellTo_77 : decode cX5_sellTo 77 = .ok (.putfield 32, 3) := by decide +kernel
theorem dX5_sellTo_80 : decode cX5_sellTo 80 = .ok (.aload_n 0, 1) := by decide +kernel
theorem dX5_sellTo_81 : decode cX5_sellTo 81 = .ok (.aconst_null, 1) := by decide +kernel
theorem dX5_sellTo_82 : decode cX5_sellTo 82 = .ok (.putfield 42, 3) := by decide +kernel
theorem dX5_sellTo_85 : decode cX5_sellTo 85 = .ok (.iload 4, 2) := by decide +kernel
theorem dX5_sellTo_87 : decode cX5_sellTo 87 = .ok (.ireturn, 1) := by decide +kernel
theorem dX5_passTo_0 : decode cX5_passTo 0 = .ok (.aload_n 1, 1) := by decide +kernel
theorem dX5_passTo_1 : decode cX5_passTo 1 = .ok (.aload_n 0, 1) := by decide +kernel
theorem dX5_passTo_2 : decode cX5_passTo 2 = .ok (.getfield 28, 3) := by decide +kernel
theorem dX5_passTo_5 : decode cX5_passTo 5 = .ok (.if_acmp .ne 4, 3) := by decide +kernel
theorem dX5_passTo_8 : decode cX5_passTo 8 = .ok (.return_, 1) := by decide +kernel
theorem dX5_passTo_9 : decode cX5_passTo 9 = .ok (.aload_n 0, 1) := by decide +kernel
theorem dX5_passTo_10 : decode cX5_passTo 10 = .ok (.getfield 35, 3) := by decide +kernel
theorem dX5_passTo_13 : decode cX5_passTo 13 = .ok (.ifnull 21, 3) := by decide +kernel
theorem dX5_passTo_16 : decode cX5_passTo 16 = .ok (.aload_n 0, 1) := by decide +kernel
theorem dX5_passTo_17 : decode cX5_passTo 17 = .ok (.getfield 28, 3) := by decide +kernel
theorem dX5_passTo_20 : decode cX5_passTo 20 = .ok (.aload_n 1, 1) := by decide +kernel
theorem dX5_passTo_21 : decode cX5_passTo 21 = .ok (.aload_n 0, 1) := by decide +kernel
theorem dX5_passTo_22 : decode cX5_passTo 22 = .ok (.getfield 35, 3) := by decide +kernel
theorem dX5_passTo_25 : decode cX5_passTo 25 = .ok (.getfield 61, 3) := by decide +kernel
theorem dX5_passTo_28 : decode cX5_passTo 28 = .ok (.invokestatic 58, 3) := by decide +kernel
theorem dX5_passTo_31 : decode cX5_passTo 31 = .ok (.goto 17, 3) := by decide +kernel
theorem dX5_passTo_34 : decode cX5_passTo 34 = .ok (.aload_n 0, 1) := by decide +kernel
theorem dX5_passTo_35 : decode cX5_passTo 35 = .ok (.invokevirtual 64, 3) := by decide +kernel
theorem dX5_passTo_38 : decode cX5_passTo 38 = .ok (.aload_n 0, 1) := by decide +kernel
theorem dX5_passTo_39 : decode cX5_passTo 39 = .ok (.aload_n 1, 1) := by decide +kernel
theorem dX5_passTo_40 : decode cX5_passTo 40 = .ok (.putfield 32, 3) := by decide +kernel
theorem dX5_passTo_43 : decode cX5_passTo 43 = .ok (.aload_n 0, 1) := by decide +kernel
theorem dX5_passTo_44 : decode cX5_passTo 44 = .ok (.aconst_null, 1) := by decide +kernel
theorem dX5_passTo_45 : decode cX5_passTo 45 = .ok (.putfield 42, 3) := by decide +kernel
theorem dX5_passTo_48 : decode cX5_passTo 48 = .ok (.aload_n 0, 1) := by decide +kernel
theorem dX5_passTo_49 : decode cX5_passTo 49 = .ok (.aload_n 1, 1) := by decide +kernel
theorem dX5_passTo_50 : decode cX5_passTo 50 = .ok (.putfield 28, 3) := by decide +kernel
theorem dX5_passTo_53 : decode cX5_passTo 53 = .ok (.return_, 1) := by decide +kernel
theorem dX5_undoSales_0 : decode cX5_undoSales 0 = .ok (.aload_n 0, 1) := by decide +kernel
theorem dX5_undoSales_1 : decode cX5_undoSales 1 = .ok (.getfield 11, 3) := by decide +kernel
theorem dX5_undoSales_4 : decode cX5_undoSales 4 = .ok (.arraylength, 1) := by decide +kernel
theorem dX5_undoSales_5 : decode cX5_undoSales 5 = .ok (.iconst 1, 1) := by decide +kernel
theorem dX5_undoSales_6 : decode cX5_undoSales 6 = .ok (.isub, 1) := by decide +kernel
theorem dX5_undoSales_7 : decode cX5_undoSales 7 = .ok (.istore_n 1, 1) := by decide +kernel
theorem dX5_undoSales_8 : decode cX5_undoSales 8 = .ok (.iload_n 1, 1) := by decide +kernel
theorem dX5_undoSales_9 : decode cX5_undoSales 9 = .ok (.ifCond .lt 42, 3) := by decide +kernel
theorem dX5_undoSales_12 : decode cX5_undoSales 12 = .ok (.aload_n 0, 1) := by decide +kernel
theorem dX5_undoSales_13 : decode cX5_undoSales 13 = .ok (.getfield 11, 3) := by decide +kernel
theorem dX5_undoSales_16 : decode cX5_undoSales 16 = .ok (.iload_n 1, 1) := by decide +kernel
theorem dX5_undoSales_17 : decode cX5_undoSales 17 = .ok (.aaload, 1) := by decide +kernel
theorem dX5_undoSales_18 : decode cX5_undoSales 18 = .ok (.astore_n 2, 1) := by decide +kernel
theorem dX5_undoSales_19 : decode cX5_undoSales 19 = .ok (.aload_n 2, 1) := by decide +kernel
theorem dX5_undoSales_20 : decode cX5_undoSales 20 = .ok (.ifnull 25, 3) := by decide +kernel
theorem dX5_undoSales_23 : decode cX5_undoSales 23 = .ok (.aload_n 2, 1) := by decide +kernel
theorem dX5_undoSales_24 : decode cX5_undoSales 24 = .ok (.getfield 67, 3) := by decide +kernel
theorem dX5_undoSales_27 : decode cX5_undoSales 27 = .ok (.aload_n 2, 1) := by decide +kernel
theorem dX5_undoSales_28 : decode cX5_undoSales 28 = .ok (.getfield 70, 3) := by decide +kernel
theorem dX5_undoSales_31 : decode cX5_undoSales 31 = .ok (.aload_n 2, 1) := by decide +kernel
theorem dX5_undoSales_32 : decode cX5_undoSales 32 = .ok (.getfield 61, 3) := by decide +kernel
theorem dX5_undoSales_35 : decode cX5_undoSales 35 = .ok (.invokestatic 58, 3) := by decide +kernel
theorem dX5_undoSales_38 : decode cX5_undoSales 38 = .ok (.aload_n 0, 1) := by decide +kernel
theorem dX5_undoSales_39 : decode cX5_undoSales 39 = .ok (.getfield 11, 3) := by decide +kernel
theorem dX5_undoSales_42 : decode cX5_undoSales 42 = .ok (.iload_n 1, 1) := by decide +kernel
theorem dX5_undoSales_43 : decode cX5_undoSales 43 = .ok (.aconst_null, 1) := by decide +kernel
theorem dX5_undoSales_44 : decode cX5_undoSales 44 = .ok (.aastore, 1) := by decide +kernel
theorem dX5_undoSales_45 : decode cX5_undoSales 45 = .ok (.iinc 1 (-1), 3) := by decide +kernel
theorem dX5_undoSales_48 : decode cX5_undoSales 48 = .ok (.goto (-40), 3) := by decide +kernel
theorem dX5_undoSales_51 : decode cX5_undoSales 51 = .ok (.aload_n 0, 1) := by decide +kernel
theorem dX5_undoSales_52 : decode cX5_undoSales 52 = .ok (.iconst 0, 1) := by decide +kernel
theorem dX5_undoSales_53 : decode cX5_undoSales 53 = .ok (.putfield 39, 3) := by decide +kernel
theorem dX5_undoSales_56 : decode cX5_undoSales 56 = .ok (.return_, 1) := by decide +kernel
theorem dX5_pay_0 : decode cX5_pay 0 = .ok (.aload_n 0, 1) := by decide +kernel
theorem dX5_pay_1 : decode cX5_pay 1 = .ok (.ifnull 27, 3) := by decide +kernel
theorem dX5_pay_4 : decode cX5_pay 4 = .ok (.aload_n 1, 1) := by decide +kernel
theorem dX5_pay_5 : decode cX5_pay 5 = .ok (.ifnull 23, 3) := by decide +kernel
theorem dX5_pay_8 : decode cX5_pay 8 = .ok (.aload_n 0, 1) := by decide +kernel
theorem dX5_pay_9 : decode cX5_pay 9 = .ok (.dup, 1) := by decide +kernel
theorem dX5_pay_10 : decode cX5_pay 10 = .ok (.getfield 73, 3) := by decide +kernel
theorem dX5_pay_13 : decode cX5_pay 13 = .ok (.iload_n 2, 1) := by decide +kernel
theorem dX5_pay_14 : decode cX5_pay 14 = .ok (.isub, 1) := by decide +kernel
theorem dX5_pay_15 : decode cX5_pay 15 = .ok (.putfield 73, 3) := by decide +kernel
theorem dX5_pay_18 : decode cX5_pay 18 = .ok (.aload_n 1, 1) := by decide +kernel
theorem dX5_pay_19 : decode cX5_pay 19 = .ok (.dup, 1) := by decide +kernel
theorem dX5_pay_20 : decode cX5_pay 20 = .ok (.getfield 73, 3) := by decide +kernel
theorem dX5_pay_23 : decode cX5_pay 23 = .ok (.iload_n 2, 1) := by decide +kernel
theorem dX5_pay_24 : decode cX5_pay 24 = .ok (.iadd, 1) := by decide +kernel
theorem dX5_pay_25 : decode cX5_pay 25 = .ok (.putfield 73, 3) := by decide +kernel
theorem dX5_pay_28 : decode cX5_pay 28 = .ok (.return_, 1) := by decide +kernel
theorem dX5_writeLabel_0 : decode cX5_writeLabel 0 = .ok (.aload_n 1, 1) := by decide +kernel
theorem dX5_writeLabel_1 : decode cX5_writeLabel 1 = .ok (.aload_n 0, 1) := by decide +kernel
theorem dX5_writeLabel_2 : decode cX5_writeLabel 2 = .ok (.getfield 17, 3) := by decide +kernel
theorem dX5_writeLabel_5 : decode cX5_writeLabel 5 = .ok (.invokevirtual 78, 3) := by decide +kernel
theorem dX5_writeLabel_8 : decode cX5_writeLabel 8 = .ok (.pop, 1) := by decide +kernel
theorem dX5_writeLabel_9 : decode cX5_writeLabel 9 = .ok (.aload_n 1, 1) := by decide +kernel
theorem dX5_writeLabel_10 : decode cX5_writeLabel 10 = .ok (.bipush 58, 2) := by decide +kernel
theorem dX5_writeLabel_12 : decode cX5_writeLabel 12 = .ok (.invokevirtual 84, 3) := by decide +kernel
theorem dX5_writeLabel_15 : decode cX5_writeLabel 15 = .ok (.pop, 1) := by decide +kernel
theorem dX5_writeLabel_16 : decode cX5_writeLabel 16 = .ok (.aload_n 1, 1) := by decide +kernel
theorem dX5_writeLabel_17 : decode cX5_writeLabel 17 = .ok (.aload_n 0, 1) := by decide +kernel
theorem dX5_writeLabel_18 : decode cX5_writeLabel 18 = .ok (.getfield 21, 3) := by decide +kernel
theorem dX5_writeLabel_21 : decode cX5_writeLabel 21 = .ok (.getfield 87, 3) := by decide +kernel
theorem dX5_writeLabel_24 : decode cX5_writeLabel 24 = .ok (.invokevirtual 78, 3) := by decide +kernel
theorem dX5_writeLabel_27 : decode cX5_writeLabel 27 = .ok (.pop, 1) := by decide +kernel
theorem dX5_writeLabel_28 : decode cX5_writeLabel 28 = .ok (.aload_n 1, 1) := by decide +kernel
theorem dX5_writeLabel_29 : decode cX5_writeLabel 29 = .ok (.bipush 47, 2) := by decide +kernel
theorem dX5_writeLabel_31 : decode cX5_writeLabel 31 = .ok (.invokevirtual 84, 3) := by decide +kernel
theorem dX5_writeLabel_34 : decode cX5_writeLabel 34 = .ok (.pop, 1) := by decide +kernel
theorem dX5_writeLabel_35 : decode cX5_writeLabel 35 = .ok (.aload_n 1, 1) := by decide +kernel
theorem dX5_writeLabel_36 : decode cX5_writeLabel 36 = .ok (.aload_n 0, 1) := by decide +kernel
theorem dX5_writeLabel_37 : decode cX5_writeLabel 37 = .ok (.getfield 25, 3) := by decide +kernel
theorem dX5_writeLabel_40 : decode cX5_writeLabel 40 = .ok (.invokevirtual 78, 3) := by decide +kernel
theorem dX5_writeLabel_43 : decode cX5_writeLabel 43 = .ok (.pop, 1) := by decide +kernel
theorem dX5_writeLabel_44 : decode cX5_writeLabel 44 = .ok (.aload_n 0, 1) := by decide +kernel
theorem dX5_writeLabel_45 : decode cX5_writeLabel 45 = .ok (.getfield 32, 3) := by decide +kernel
theorem dX5_writeLabel_48 : decode cX5_writeLabel 48 = .ok (.ifnull 22, 3) := by decide +kernel
theorem dX5_writeLabel_51 : decode cX5_writeLabel 51 = .ok (.aload_n 1, 1) := by decide +kernel
theorem dX5_writeLabel_52 : decode cX5_writeLabel 52 = .ok (.bipush 64, 2) := by decide +kernel
theorem dX5_writeLabel_54 : decode cX5_writeLabel 54 = .ok (.invokevirtual 84, 3) := by decide +kernel
theorem dX5_writeLabel_57 : decode cX5_writeLabel 57 = .ok (.pop, 1) := by decide +kernel
theorem dX5_writeLabel_58 : decode cX5_writeLabel 58 = .ok (.aload_n 1, 1) := by decide +kernel
theorem dX5_writeLabel_59 : decode cX5_writeLabel 59 = .ok (.aload_n 0, 1) := by decide +kernel
theorem dX5_writeLabel_60 : decode cX5_writeLabel 60 = .ok (.getfield 32, 3) := by decide +kernel
theorem dX5_writeLabel_63 : decode cX5_writeLabel 63 = .ok (.getfield 90, 3) := by decide +kernel
theorem dX5_writeLabel_66 : decode cX5_writeLabel 66 = .ok (.invokevirtual 78, 3) := by decide +kernel
theorem dX5_writeLabel_69 : decode cX5_writeLabel 69 = .ok (.pop, 1) := by decide +kernel
theorem dX5_writeLabel_70 : decode cX5_writeLabel 70 = .ok (.return_, 1) := by decide +kernel
theorem dX6_init_0 : decode cX6_init 0 = .ok (.aload_n 0, 1) := by decide +kernel
theorem dX6_init_1 : decode cX6_init 1 = .ok (.invokespecial 1, 3) := by decide +kernel
theorem dX6_init_4 : decode cX6_init 4 = .ok (.aload_n 0, 1) := by decide +kernel
theorem dX6_init_5 : decode cX6_init 5 = .ok (.bipush 16, 2) := by decide +kernel
theorem dX6_init_7 : decode cX6_init 7 = .ok (.anewarray 9, 3) := by decide +kernel
theorem dX6_init_10 : decode cX6_init 10 = .ok (.putfield 11, 3) := by decide +kernel
theorem dX6_init_13 : decode cX6_init 13 = .ok (.aload_n 0, 1) := by decide +kernel
theorem dX6_init_14 : decode cX6_init 14 = .ok (.bipush 100, 2) := by decide +kernel
theorem dX6_init_16 : decode cX6_init 16 = .ok (.anewarray 15, 3) := by decide +kernel
theorem dX6_init_19 : decode cX6_init 19 = .ok (.putfield 17, 3) := by decide +kernel
theorem dX6_init_22 : decode cX6_init 22 = .ok (.aload_n 0, 1) := by decide +kernel
theorem dX6_init_23 : decode cX6_init 23 = .ok (.bipush 12, 2) := by decide +kernel
theorem dX6_init_25 : decode cX6_init 25 = .ok (.anewarray 21, 3) := by decide +kernel
theorem dX6_init_28 : decode cX6_init 28 = .ok (.putfield 23, 3) := by decide +kernel
theorem dX6_init_31 : decode cX6_init 31 = .ok (.aload_n 0, 1) := by decide +kernel
theorem dX6_init_32 : decode cX6_init 32 = .ok (.bipush 36, 2) := by decide +kernel
theorem dX6_init_34 : decode cX6_init 34 = .ok (.anewarray 27, 3) := by decide +kernel
theorem dX6_init_37 : decode cX6_init 37 = .ok (.putfield 29, 3) := by decide +kernel
theorem dX6_init_40 : decode cX6_init 40 = .ok (.aload_n 0, 1) := by decide +kernel
theorem dX6_init_41 : decode cX6_init 41 = .ok (.iconst 4, 1) := by decide +kernel
theorem dX6_init_42 : decode cX6_init 42 = .ok (.anewarray 33, 3) := by decide +kernel
theorem dX6_init_45 : decode cX6_init 45 = .ok (.putfield 35, 3) := by decide +kernel
theorem dX6_init_48 : decode cX6_init 48 = .ok (.iconst 0, 1) := by decide +kernel
theorem dX6_init_49 : decode cX6_init 49 = .ok (.istore_n 1, 1) := by decide +kernel
theorem dX6_init_50 : decode cX6_init 50 = .ok (.iload_n 1, 1) := by decide +kernel
theorem dX6_init_51 : decode cX6_init 51 = .ok (.aload_n 0, 1) := by decide +kernel
theorem dX6_init_52 : decode cX6_init 52 = .ok (.getfield 35, 3) := by decide +kernel
theorem dX6_init_55 : decode cX6_init 55 = .ok (.arraylength, 1) := by decide +kernel
theorem dX6_init_56 : decode cX6_init 56 = .ok (.if_icmp .ge 22, 3) := by decide +kernel
theorem dX6_init_59 : decode cX6_init 59 = .ok (.aload_n 0, 1) := by decide +kernel
theorem dX6_init_60 : decode cX6_init 60 = .ok (.getfield 35, 3) := by decide +kernel
theorem dX6_init_63 : decode cX6_init 63 = .ok (.iload_n 1, 1) := by decide +kernel
theorem dX6_init_64 : decode cX6_init 64 = .ok (.new 33, 3) := by decide +kernel
theorem dX6_init_67 : decode cX6_init 67 = .ok (.dup, 1) := by decide +kernel
theorem dX6_init_68 : decode cX6_init 68 = .ok (.invokespecial 39, 3) := by decide +kernel
theorem dX6_init_71 : decode cX6_init 71 = .ok (.aastore, 1) := by decide +kernel
theorem dX6_init_72 : decode cX6_init 72 = .ok (.iinc 1 1, 3) := by decide +kernel
theorem dX6_init_75 : decode cX6_init 75 = .ok (.goto (-25), 3) := by decide +kernel
theorem dX6_init_78 : decode cX6_init 78 = .ok (.aload_n 0, 1) := by decide +kernel
theorem dX6_init_79 : decode cX6_init 79 = .ok (.new 21, 3) := by decide +kernel
theorem dX6_init_82 : decode cX6_init 82 = .ok (.dup, 1) := by decide +kernel
theorem dX6_init_83 : decode cX6_init 83 = .ok (.iconst 0, 1) := by decide +kernel
theorem dX6_init_84 : decode cX6_init 84 = .ok (.invokespecial 40, 3) := by decide +kernel
theorem dX6_init_87 : decode cX6_init 87 = .ok (.putfield 43, 3) := by decide +kernel
theorem dX6_init_90 : decode cX6_init 90 = .ok (.aload_n 0, 1) := by decide +kernel
theorem dX6_init_91 : decode cX6_init 91 = .ok (.getfield 23, 3) := by decide +kernel
theorem dX6_init_94 : decode cX6_init 94 = .ok (.iconst 0, 1) := by decide +kernel
theorem dX6_init_95 : decode cX6_init 95 = .ok (.aload_n 0, 1) := by decide +kernel
theorem dX6_init_96 : decode cX6_init 96 = .ok (.getfield 43, 3) := by decide +kernel
theorem dX6_init_99 : decode cX6_init 99 = .ok (.aastore, 1) := by decide +kernel
theorem dX6_init_100 : decode cX6_init 100 = .ok (.return_, 1) := by decide +kernel
theorem dX6_player_0 : decode cX6_player 0 = .ok (.aload_n 0, 1) := by decide +kernel
theorem dX6_player_1 : decode cX6_player 1 = .ok (.getfield 47, 3) := by decide +kernel
theorem dX6_player_4 : decode cX6_player 4 = .ok (.aload_n 0, 1) := by decide +kernel
theorem dX6_player_5 : decode cX6_player 5 = .ok (.getfield 11, 3) := by decide +kernel
theorem dX6_player_8 : decode cX6_player 8 = .ok (.arraylength, 1) := by decide +kernel
theorem dX6_player_9 : decode cX6_player 9 = .ok (.if_icmp .lt 13, 3) := by decide +kernel
theorem dX6_player_12 : decode cX6_player 12 = .ok (.new 51, 3) := by decide +kernel
theorem dX6_player_15 : decode cX6_player 15 = .ok (.dup, 1) := by decide +kernel
theorem dX6_player_16 : decode cX6_player 16 = .ok (.ldc 53, 2) := by decide +kernel
theorem dX6_player_18 : decode cX6_player 18 = .ok (.invokespecial 55, 3) := by decide +kernel
theorem dX6_player_21 : decode cX6_player 21 = .ok (.athrow, 1) := by decide +kernel
theorem dX6_player_22 : decode cX6_player 22 = .ok (.aload_n 0, 1) := by decide +kernel
theorem dX6_player_23 : decode cX6_player 23 = .ok (.getfield 47, 3) := by decide +kernel
theorem dX6_player_26 : decode cX6_player 26 = .ok (.istore_n 1, 1) := by decide +kernel
theorem dX6_player_27 : decode cX6_player 27 = .ok (.aload_n 0, 1) := by decide +kernel
theorem dX6_player_28 : decode cX6_player 28 = .ok (.getfield 11, 3) := by decide +kernel
theorem dX6_player_31 : decode cX6_player 31 = .ok (.iload_n 1, 1) := by decide +kernel
theorem dX6_player_32 : decode cX6_player 32 = .ok (.new 9, 3) := by decide +kernel
theorem dX6_player_35 : decode cX6_player 35 = .ok (.dup, 1) := by decide +kernel
theorem dX6_player_36 : decode cX6_player 36 = .ok (.iload_n 1, 1) := by decide +kernel
theorem dX6_player_37 : decode cX6_player 37 = .ok (.invokespecial 58, 3) := by decide +kernel
theorem dX6_player_40 : decode cX6_player 40 = .ok (.aastore, 1) := by decide +kernel
theorem dX6_player_41 : decode cX6_player 41 = .ok (.aload_n 0, 1) := by decide +kernel
theorem dX6_player_42 : decode cX6_player 42 = .ok (.dup, 1) := by decide +kernel
theorem dX6_player_43 : decode cX6_player 43 = .ok (.getfield 47, 3) := by decide +kernel
theorem dX6_player_46 : decode cX6_player 46 = .ok (.iconst 1, 1) := by decide +kernel
theorem dX6_player_47 : decode cX6_player 47 = .ok (.iadd, 1) := by decide +kernel
theorem dX6_player_48 : decode cX6_player 48 = .ok (.putfield 47, 3) := by decide +kernel
theorem dX6_player_51 : decode cX6_player 51 = .ok (.iload_n 1, 1) := by decide +kernel
theorem dX6_player_52 : decode cX6_player 52 = .ok (.ireturn, 1) := by decide +kernel
theorem dX6_room_0 : decode cX6_room 0 = .ok (.aload_n 0, 1) := by decide +kernel
theorem dX6_room_1 : decode cX6_room 1 = .ok (.iload_n 1, 1) := by decide +kernel
theorem dX6_room_2 : decode cX6_room 2 = .ok (.invokevirtual 59, 3) := by decide +kernel
theorem dX6_room_5 : decode cX6_room 5 = .ok (.astore_n 3, 1) := by decide +kernel
theorem dX6_room_6 : decode cX6_room 6 = .ok (.iload_n 2, 1) := by decide +kernel
theorem dX6_room_7 : decode cX6_room 7 = .ok (.ifCond .lt 9, 3) := by decide +kernel
theorem dX6_room_10 : decode cX6_room 10 = .ok (.iload_n 2, 1) := by decide +kernel
theorem dX6_room_11 : decode cX6_room 11 = .ok (.bipush 50, 2) := by decide +kernel
theorem dX6_room_13 : decode cX6_room 13 = .ok (.if_icmp .le 13, 3) := by decide +kernel
theorem dX6_room_16 : decode cX6_room 16 = .ok (.new 63, 3) := by decide +kernel
theorem dX6_room_19 : decode cX6_room 19 = .ok (.dup, 1) := by decide +kernel
theorem dX6_room_20 : decode cX6_room 20 = .ok (.ldc 65, 2) := by decide +kernel
theorem dX6_room_22 : decode cX6_room 22 = .ok (.invokespecial 67, 3) := by decide +kernel
theorem dX6_room_25 : decode cX6_room 25 = .ok (.athrow, 1) := by decide +kernel
theorem dX6_room_26 : decode cX6_room 26 = .ok (.aload_n 3, 1) := by decide +kernel
theorem dX6_room_27 : decode cX6_room 27 = .ok (.iload_n 2, 1) := by decide +kernel
theorem dX6_room_28 : decode cX6_room 28 = .ok (.putfield 68, 3) := by decide +kernel
theorem dX6_room_31 : decode cX6_room 31 = .ok (.aload_n 3, 1) := by decide +kernel
theorem dX6_room_32 : decode cX6_room 32 = .ok (.getfield 71, 3) := by decide +kernel
theorem dX6_room_35 : decode cX6_room 35 = .ok (.ireturn, 1) := by decide +kernel
theorem dX6_match_0 : decode cX6_match 0 = .ok (.aload_n 0, 1) := by decide +kernel
theorem dX6_match_1 : decode cX6_match 1 = .ok (.iload_n 1, 1) := by decide +kernel
theorem dX6_match_2 : decode cX6_match 2 = .ok (.invokevirtual 74, 3) := by decide +kernel
theorem dX6_match_5 : decode cX6_match 5 = .ok (.astore 4, 2) := by decide +kernel
theorem dX6_match_7 : decode cX6_match 7 = .ok (.aload_n 0, 1) := by decide +kernel
theorem dX6_match_8 : decode cX6_match 8 = .ok (.iload_n 2, 1) := by decide +kernel
theorem dX6_match_9 : decode cX6_match 9 = .ok (.invokevirtual 74, 3) := by decide +kernel
theorem dX6_match_12 : decode cX6_match 12 = .ok (.astore 5, 2) := by decide +kernel
theorem dX6_match_14 : decode cX6_match 14 = .ok (.aload_n 0, 1) := by decide +kernel
theorem dX6_match_15 : decode cX6_match 15 = .ok (.iload_n 3, 1) := by decide +kernel
theorem dX6_match_16 : decode cX6_match 16 = .ok (.invokevirtual 59, 3) := by decide +kernel
theorem dX6_match_19 : decode cX6_match 19 = .ok (.astore 6, 2) := by decide +kernel
theorem dX6_match_21 : decode cX6_match 21 = .ok (.iload_n 1, 1) := by decide +kernel
theorem dX6_match_22 : decode cX6_match 22 = .ok (.iload_n 2, 1) := by decide +kernel
theorem dX6_match_23 : decode cX6_match 23 = .ok (.if_icmp .ne 13, 3) := by decide +kernel
theorem dX6_match_26 : decode cX6_match 26 = .ok (.new 63, 3) := by decide +kernel
theorem dX6_match_29 : decode cX6_match 29 = .ok (.dup, 1) := by decide +kernel
theorem dX6_match_30 : decode cX6_match 30 = .ok (.ldc 78, 2) := by decide +kernel
theorem dX6_match_32 : decode cX6_match 32 = .ok (.invokespecial 67, 3) := by decide +kernel
theorem dX6_match_35 : decode cX6_match 35 = .ok (.athrow, 1) := by decide +kernel
theorem dX6_match_36 : decode cX6_match 36 = .ok (.aload_n 0, 1) := by decide +kernel
theorem dX6_match_37 : decode cX6_match 37 = .ok (.getfield 80, 3) := by decide +kernel
theorem dX6_match_40 : decode cX6_match 40 = .ok (.aload_n 0, 1) := by decide +kernel
theorem dX6_match_41 : decode cX6_match 41 = .ok (.getfield 17, 3) := by decide +kernel
theorem dX6_match_44 : decode cX6_match 44 = .ok (.arraylength, 1) := by decide +kernel
theorem dX6_match_45 : decode cX6_match 45 = .ok (.if_icmp .ge 11, 3) := by decide +kernel
theorem dX6_match_48 : decode cX6_match 48 = .ok (.aload 6, 2) := by decide +kernel
theorem dX6_match_50 : decode cX6_match 50 = .ok (.invokevirtual 83, 3) := by decide +kernel
theorem dX6_match_53 : decode cX6_match 53 = .ok (.ifCond .eq 13, 3) := by decide +kernel
theorem dX6_match_56 : decode cX6_match 56 = .ok (.new 51, 3) := by decide +kernel
theorem dX6_match_59 : decode cX6_match 59 = .ok (.dup, 1) := by decide +kernel
theorem dX6_match_60 : decode cX6_match 60 = .ok (.ldc 87, 2) := by decide +kernel
theorem dX6_match_62 : decode cX6_match 62 = .ok (.invokespecial 55, 3) := by decide +kernel
theorem dX6_match_65 : decode cX6_match 65 = .ok (.athrow, 1) := by decide +kernel
theorem dX6_match_66 : decode cX6_match 66 = .ok (.aload 4, 2) := by decide +kernel
theorem dX6_match_68 : decode cX6_match 68 = .ok (.aload_n 0, 1) := by decide +kernel
theorem dX6_match_69 : decode cX6_match 69 = .ok (.getfield 89, 3) := by decide +kernel
theorem dX6_match_72 : decode cX6_match 72 = .ok (.invokevirtual 92, 3) := by decide +kernel
theorem dX6_match_75 : decode cX6_match 75 = .ok (.ifCond .ne 15, 3) := by decide +kernel
theorem dX6_match_78 : decode cX6_match 78 = .ok (.aload 5, 2) := by decide +kernel
theorem dX6_match_80 : decode cX6_match 80 = .ok (.aload_n 0, 1) := by decide +kernel
theorem dX6_match_81 : decode cX6_match 81 = .ok (.getfield 89, 3) := by decide +kernel
theorem dX6_match_84 : decode cX6_match 84 = .ok (.invokevirtual 92, 3) := by decide +kernel
theorem dX6_match_87 : decode cX6_match 87 = .ok (.ifCond .eq 13, 3) := by decide +kernel
theorem dX6_match_90 : decode cX6_match 90 = .ok (.new 51, 3) := by decide +kernel
theorem dX6_match_93 : decode cX6_match 93 = .ok (.dup, 1) := by decide +kernel
theorem dX6_match_94 : decode cX6_match 94 = .ok (.ldc 96, 2) := by decide +kernel
theorem dX6_match_96 : decode cX6_match 96 = .ok (.invokespecial 55, 3) := by decide +kernel
theorem dX6_match_99 : decode cX6_match 99 = .ok (.athrow, 1) := by decide +kernel
theorem dX6_match_100 : decode cX6_match 100 = .ok (.aload_n 0, 1) := by decide +kernel
theorem dX6_match_101 : decode cX6_match 101 = .ok (.getfield 80, 3) := by decide +kernel
theorem dX6_match_104 : decode cX6_match 104 = .ok (.istore 7, 2) := by decide +kernel
theorem dX6_match_106 : decode cX6_match 106 = .ok (.new 15, 3) := by decide +kernel
theorem dX6_match_109 : decode cX6_match 109 = .ok (.dup, 1) := by decide +kernel
theorem dX6_match_110 : decode cX6_match 110 = .ok (.aload 4, 2) := by decide +kernel
theorem dX6_match_112 : decode cX6_match 112 = .ok (.aload 5, 2) := by decide +kernel
theorem dX6_match_114 : decode cX6_match 114 = .ok (.aload_n 0, 1) := by decide +kernel
theorem dX6_match_115 : decode cX6_match 115 = .ok (.getfield 43, 3) := by decide +kernel
theorem dX6_match_118 : decode cX6_match 118 = .ok (.aload_n 0, 1) := by decide +kernel
theorem dX6_match_119 : decode cX6_match 119 = .ok (.getfield 89, 3) := by decide +kernel
theorem dX6_match_122 : decode cX6_match 122 = .ok (.invokespecial 98, 3) := by decide +kernel
theorem dX6_match_125 : decode cX6_match 125 = .ok (.astore 8, 2) := by decide +kernel
theorem dX6_match_127 : decode cX6_match 127 = .ok (.aload_n 0, 1) := by decide +kernel
theorem dX6_match_128 : decode cX6_match 128 = .ok (.getfield 17, 3) := by decide +kernel
theorem dX6_match_131 : decode cX6_match 131 = .ok (.iload 7, 2) := by decide +kernel
theorem dX6_match_133 : decode cX6_match 133 = .ok (.aload 8, 2) := by decide +kernel
theorem dX6_match_135 : decode cX6_match 135 = .ok (.aastore, 1) := by decide +kernel
theorem dX6_match_136 : decode cX6_match 136 = .ok (.aload_n 0, 1) := by decide +kernel
theorem dX6_match_137 : decode cX6_match 137 = .ok (.dup, 1) := by decide +kernel
theorem dX6_match_138 : decode cX6_match 138 = .ok (.getfield 80, 3) := by decide +kernel
theorem dX6_match_141 : decode cX6_match 141 = .ok (.iconst 1, 1) := by decide +kernel
theorem dX6_match_142 : decode cX6_match 142 = .ok (.iadd, 1) := by decide +kernel
theorem dX6_match_143 : decode cX6_match 143 = .ok (.putfield 80, 3) := by decide +kernel
theorem dX6_match_146 : decode cX6_match 146 = .ok (.aload 6, 2) := by decide +kernel
theorem dX6_match_148 : decode cX6_match 148 = .ok (.dup, 1) := by decide +kernel
theorem dX6_match_149 : decode cX6_match 149 = .ok (.getfield 71, 3) := by decide +kernel
theorem dX6_match_152 : decode cX6_match 152 = .ok (.iconst 1, 1) := by decide +kernel
theorem dX6_match_153 : decode cX6_match 153 = .ok (.iadd, 1) := by decide +kernel
theorem dX6_match_154 : decode cX6_match 154 = .ok (.putfield 71, 3) := by decide +kernel
theorem dX6_match_157 : decode cX6_match 157 = .ok (.aload 8, 2) := by decide +kernel
theorem dX6_match_159 : decode cX6_match 159 = .ok (.invokevirtual 101, 3) := by decide +kernel
theorem dX6_match_162 : decode cX6_match 162 = .ok (.iload 7, 2) := by decide +kernel
theorem dX6_match_164 : decode cX6_match 164 = .ok (.ireturn, 1) := by decide +kernel
theorem dX6_end_0 : decode cX6_end 0 = .ok (.aload_n 0, 1) := by decide +kernel
theorem dX6_end_1 : decode cX6_end 1 = .ok (.getfield 43, 3) := by decide +kernel
theorem dX6_end_4 : decode cX6_end 4 = .ok (.getfield 104, 3) := by decide +kernel
theorem dX6_end_7 : decode cX6_end 7 = .ok (.iconst 1, 1) := by decide +kernel
theorem dX6_end_8 : decode cX6_end 8 = .ok (.iadd, 1) := by decide +kernel
theorem dX6_end_9 : decode cX6_end 9 = .ok (.istore_n 1, 1) := by decide +kernel
theorem dX6_end_10 : decode cX6_end 10 = .ok (.iload_n 1, 1) := by decide +kernel
theorem dX6_end_11 : decode cX6_end 11 = .ok (.aload_n 0, 1) := by decide +kernel
theorem dX6_end_12 : decode cX6_end 12 = .ok (.getfield 23, 3) := by decide +kernel
theorem dX6_end_15 : decode cX6_end 15 = .ok (.arraylength, 1) := by decide +kernel
theorem dX6_end_16 : decode cX6_end 16 = .ok (.if_icmp .lt 13, 3) := by decide +kernel
theorem dX6_end_19 : decode cX6_end 19 = .ok (.new 51, 3) := by decide +kernel
theorem dX6_end_22 : decode cX6_end 22 = .ok (.dup, 1) := by decide +kernel
theorem dX6_end_23 : decode cX6_end 23 = .ok (.ldc 107, 2) := by decide +kernel
theorem dX6_end_25 : decode cX6_end 25 = .ok (.invokespecial 55, 3) := by decide +kernel
theorem dX6_end_28 : decode cX6_end 28 = .ok (.athrow, 1) := by decide +kernel
theorem dX6_end_29 : decode cX6_end 29 = .ok (.aload_n 0, 1) := by decide +kernel
theorem dX6_end_30 : decode cX6_end 30 = .ok (.invokevirtual 109, 3) := by decide +kernel
theorem dX6_end_33 : decode cX6_end 33 = .ok (.istore_n 2, 1) := by decide +kernel
theorem dX6_end_34 : decode cX6_end 34 = .ok (.aload_n 0, 1) := by decide +kernel
theorem dX6_end_35 : decode cX6_end 35 = .ok (.new 21, 3) := by decide +kernel
theorem dX6_end_38 : decode cX6_end 38 = .ok (.dup, 1) := by decide +kernel
theorem dX6_end_39 : decode cX6_end 39 = .ok (.iload_n 1, 1) := by decide +kernel
theorem dX6_end_40 : decode cX6_end 40 = .ok (.invokespecial 40, 3) := by decide +kernel
theorem dX6_end_43 : decode cX6_end 43 = .ok (.putfield 43, 3) := by decide +kernel
theorem dX6_end_46 : decode cX6_end 46 = .ok (.aload_n 0, 1) := by decide +kernel
theorem dX6_end_47 : decode cX6_end 47 = .ok (.getfield 23, 3) := by decide +kernel
theorem dX6_end_50 : decode cX6_end 50 = .ok (.iload_n 1, 1) := by decide +kernel
theorem dX6_end_51 : decode cX6_end 51 = .ok (.aload_n 0, 1) := by decide +kernel
theorem dX6_end_52 : decode cX6_end 52 = .ok (.getfield 43, 3) := by decide +kernel
theorem dX6_end_55 : decode cX6_end 55 = .ok (.aastore, 1) := by decide +kernel
theorem dX6_end_56 : decode cX6_end 56 = .ok (.iload_n 2, 1) := by decide +kernel
theorem dX6_end_57 : decode cX6_end 57 = .ok (.ireturn, 1) := by decide +kernel
theorem dX6_sell_0 : decode cX6_sell 0 = .ok (.aload_n 0, 1) := by decide +kernel
theorem dX6_sell_1 : decode cX6_sell 1 = .ok (.iload_n 1, 1) := by decide +kernel
theorem dX6_sell_2 : decode cX6_sell 2 = .ok (.invokevirtual 113, 3) := by decide +kernel
theorem dX6_sell_5 : decode cX6_sell 5 = .ok (.astore 4, 2) := by decide +kernel
theorem dX6_sell_7 : decode cX6_sell 7 = .ok (.aload_n 0, 1) := by decide +kernel
theorem dX6_sell_8 : decode cX6_sell 8 = .ok (.iload_n 2, 1) := by decide +kernel
theorem dX6_sell_9 : decode cX6_sell 9 = .ok (.invokevirtual 74, 3) := by decide +kernel
theorem dX6_sell_12 : decode cX6_sell 12 = .ok (.astore 5, 2) := by decide +kernel
theorem dX6_sell_14 : decode cX6_sell 14 = .ok (.iload_n 3, 1) := by decide +kernel
theorem dX6_sell_15 : decode cX6_sell 15 = .ok (.ifCond .lt 10, 3) := by decide +kernel
theorem dX6_sell_18 : decode cX6_sell 18 = .ok (.iload_n 3, 1) := by decide +kernel
theorem dX6_sell_19 : decode cX6_sell 19 = .ok (.sipush 10000, 3) := by decide +kernel
theorem dX6_sell_22 : decode cX6_sell 22 = .ok (.if_icmp .le 13, 3) := by decide +kernel
theorem dX6_sell_25 : decode cX6_sell 25 = .ok (.new 63, 3) := by decide +kernel
theorem dX6_sell_28 : decode cX6_sell 28 = .ok (.dup, 1) := by decide +kernel
theorem dX6_sell_29 : decode cX6_sell 29 = .ok (.ldc 117, 2) := by decide +kernel
theorem dX6_sell_31 : decode cX6_sell 31 = .ok (.invokespecial 67, 3) := by decide +kernel
theorem dX6_sell_34 : decode cX6_sell 34 = .ok (.athrow, 1) := by decide +kernel
theorem dX6_sell_35 : decode cX6_sell 35 = .ok (.aload_n 0, 1) := by decide +kernel
theorem dX6_sell_36 : decode cX6_sell 36 = .ok (.aload 4, 2) := by decide +kernel
theorem dX6_sell_38 : decode cX6_sell 38 = .ok (.getfield 119, 3) := by decide +kernel
theorem dX6_sell_41 : decode cX6_sell 41 = .ok (.aload 5, 2) := by decide +kernel
theorem dX6_sell_43 : decode cX6_sell 43 = .ok (.invokevirtual 123, 3) := by decide +kernel
theorem dX6_sell_46 : decode cX6_sell 46 = .ok (.ifCond .eq 11, 3) := by decide +kernel
theorem dX6_sell_49 : decode cX6_sell 49 = .ok (.aload 4, 2) := by decide +kernel
theorem dX6_sell_51 : decode cX6_sell 51 = .ok (.invokevirtual 127, 3) := by decide +kernel
theorem dX6_sell_54 : decode cX6_sell 54 = .ok (.ifCond .eq 13, 3) := by decide +kernel
theorem dX6_sell_57 : decode cX6_sell 57 = .ok (.new 51, 3) := by decide +kernel
theorem dX6_sell_60 : decode cX6_sell 60 = .ok (.dup, 1) := by decide +kernel
theorem dX6_sell_61 : decode cX6_sell 61 = .ok (.ldc 130, 2) := by decide +kernel
theorem dX6_sell_63 : decode cX6_sell 63 = .ok (.invokespecial 55, 3) := by decide +kernel
theorem dX6_sell_66 : decode cX6_sell 66 = .ok (.athrow, 1) := by decide +kernel
theorem dX6_sell_67 : decode cX6_sell 67 = .ok (.aload 4, 2) := by decide +kernel
theorem dX6_sell_69 : decode cX6_sell 69 = .ok (.aload 5, 2) := by decide +kernel
theorem dX6_sell_71 : decode cX6_sell 71 = .ok (.iload_n 3, 1) := by decide +kernel
theorem dX6_sell_72 : decode cX6_sell 72 = .ok (.invokevirtual 132, 3) := by decide +kernel
theorem dX6_sell_75 : decode cX6_sell 75 = .ok (.ireturn, 1) := by decide +kernel
theorem dX6_lend_0 : decode cX6_lend 0 = .ok (.aload_n 0, 1) := by decide +kernel
theorem dX6_lend_1 : decode cX6_lend 1 = .ok (.iload_n 1, 1) := by decide +kernel
theorem dX6_lend_2 : decode cX6_lend 2 = .ok (.invokevirtual 113, 3) := by decide +kernel
theorem dX6_lend_5 : decode cX6_lend 5 = .ok (.astore 4, 2) := by decide +kernel
theorem dX6_lend_7 : decode cX6_lend 7 = .ok (.aload_n 0, 1) := by decide +kernel
theorem dX6_lend_8 : decode cX6_lend 8 = .ok (.iload_n 2, 1) := by decide +kernel
theorem dX6_lend_9 : decode cX6_lend 9 = .ok (.invokevirtual 74, 3) := by decide +kernel
theorem dX6_lend_12 : decode cX6_lend 12 = .ok (.astore 5, 2) := by decide +kernel
theorem dX6_lend_14 : decode cX6_lend 14 = .ok (.iload_n 3, 1) := by decide +kernel
theorem dX6_lend_15 : decode cX6_lend 15 = .ok (.iconst 1, 1) := by decide +kernel
theorem dX6_lend_16 : decode cX6_lend 16 = .ok (.if_icmp .lt 9, 3) := by decide +kernel
theorem dX6_lend_19 : decode cX6_lend 19 = .ok (.iload_n 3, 1) := by decide +kernel
theorem dX6_lend_20 : decode cX6_lend 20 = .ok (.bipush 100, 2) := by decide +kernel
theorem dX6_lend_22 : decode cX6_lend 22 = .ok (.if_icmp .le 13, 3) := by decide +kernel
theorem dX6_lend_25 : decode cX6_lend 25 = .ok (.new 63, 3) := by decide +kernel
theorem dX6_lend_28 : decode cX6_lend 28 = .ok (.dup, 1) := by decide +kernel
theorem dX6_lend_29 : decode cX6_lend 29 = .ok (.ldc 136, 2) := by decide +kernel
theorem dX6_lend_31 : decode cX6_lend 31 = .ok (.invokespecial 67, 3) := by decide +kernel
theorem dX6_lend_34 : decode cX6_lend 34 = .ok (.athrow, 1) := by decide +kernel
theorem dX6_lend_35 : decode cX6_lend 35 = .ok (.aload_n 0, 1) := by decide +kernel
theorem dX6_lend_36 : decode cX6_lend 36 = .ok (.aload 4, 2) := by decide +kernel
theorem dX6_lend_38 : decode cX6_lend 38 = .ok (.getfield 119, 3) := by decide +kernel
theorem dX6_lend_41 : decode cX6_lend 41 = .ok (.aload 5, 2) := by decide +kernel
theorem dX6_lend_43 : decode cX6_lend 43 = .ok (.invokevirtual 123, 3) := by decide +kernel
theorem dX6_lend_46 : decode cX6_lend 46 = .ok (.ifCond .ne 13, 3) := by decide +kernel
theorem dX6_lend_49 : decode cX6_lend 49 = .ok (.new 51, 3) := by decide +kernel
theorem dX6_lend_52 : decode cX6_lend 52 = .ok (.dup, 1) := by decide +kernel
theorem dX6_lend_53 : decode cX6_lend 53 = .ok (.ldc 138, 2) := by decide +kernel
theorem dX6_lend_55 : decode cX6_lend 55 = .ok (.invokespecial 55, 3) := by decide +kernel
theorem dX6_lend_58 : decode cX6_lend 58 = .ok (.athrow, 1) := by decide +kernel
theorem dX6_lend_59 : decode cX6_lend 59 = .ok (.aload 4, 2) := by decide +kernel
theorem dX6_lend_61 : decode cX6_lend 61 = .ok (.aload 5, 2) := by decide +kernel
theorem dX6_lend_63 : decode cX6_lend 63 = .ok (.putfield 140, 3) := by decide +kernel
theorem dX6_lend_66 : decode cX6_lend 66 = .ok (.aload 4, 2) := by decide +kernel
theorem dX6_lend_68 : decode cX6_lend 68 = .ok (.aload_n 0, 1) := by decide +kernel
theorem dX6_lend_69 : decode cX6_lend 69 = .ok (.getfield 89, 3) := by decide +kernel
theorem dX6_lend_72 : decode cX6_lend 72 = .ok (.iload_n 3, 1) := by decide +kernel
theorem dX6_lend_73 : decode cX6_lend 73 = .ok (.iadd, 1) := by decide +kernel
theorem dX6_lend_74 : decode cX6_lend 74 = .ok (.iconst 1, 1) := by decide +kernel
theorem dX6_lend_75 : decode cX6_lend 75 = .ok (.isub, 1) := by decide +kernel
theorem dX6_lend_76 : decode cX6_lend 76 = .ok (.putfield 143, 3) := by decide +kernel
theorem dX6_lend_79 : decode cX6_lend 79 = .ok (.aload 4, 2) := by decide +kernel
theorem dX6_lend_81 : decode cX6_lend 81 = .ok (.getfield 143, 3) := by decide +kernel
theorem dX6_lend_84 : decode cX6_lend 84 = .ok (.ireturn, 1) := by decide +kernel
theorem dX6_proof_0 : decode cX6_proof 0 = .ok (.aload_n 0, 1) := by decide +kernel
theorem dX6_proof_1 : decode cX6_proof 1 = .ok (.iload_n 1, 1) := by decide +kernel
theorem dX6_proof_2 : decode cX6_proof 2 = .ok (.invokevirtual 74, 3) := by decide +kernel
theorem dX6_proof_5 : decode cX6_proof 5 = .ok (.astore_n 3, 1) := by decide +kernel
theorem dX6_proof_6 : decode cX6_proof 6 = .ok (.iload_n 2, 1) := by decide +kernel
theorem dX6_proof_7 : decode cX6_proof 7 = .ok (.ifCond .lt 11, 3) := by decide +kernel
theorem dX6_proof_10 : decode cX6_proof 10 = .ok (.iload_n 2, 1) := by decide +kernel
theorem dX6_proof_11 : decode cX6_proof 11 = .ok (.aload_n 0, 1) := by decide +kernel
theorem dX6_proof_12 : decode cX6_proof 12 = .ok (.getfield 89, 3) := by decide +kernel
theorem dX6_proof_15 : decode cX6_proof 15 = .ok (.if_icmp .le 13, 3) := by decide +kernel
theorem dX6_proof_18 : decode cX6_proof 18 = .ok (.new 63, 3) := by decide +kernel
theorem dX6_proof_21 : decode cX6_proof 21 = .ok (.dup, 1) := by decide +kernel
theorem dX6_proof_22 : decode cX6_proof 22 = .ok (.ldc 146, 2) := by decide +kernel
theorem dX6_proof_24 : decode cX6_proof 24 = .ok (.invokespecial 67, 3) := by decide +kernel
theorem dX6_proof_27 : decode cX6_proof 27 = .ok (.athrow, 1) := by decide +kernel
theorem dX6_proof_28 : decode cX6_proof 28 = .ok (.aload_n 3, 1) := by decide +kernel
theorem dX6_proof_29 : decode cX6_proof 29 = .ok (.iload_n 2, 1) := by decide +kernel
theorem dX6_proof_30 : decode cX6_proof 30 = .ok (.invokevirtual 148, 3) := by decide +kernel
theorem dX6_proof_33 : decode cX6_proof 33 = .ok (.aload_n 0, 1) := by decide +kernel
theorem dX6_proof_34 : decode cX6_proof 34 = .ok (.invokevirtual 151, 3) := by decide +kernel
theorem dX6_proof_37 : decode cX6_proof 37 = .ok (.aload_n 0, 1) := by decide +kernel
theorem dX6_proof_38 : decode cX6_proof 38 = .ok (.invokevirtual 154, 3) := by decide +kernel
theorem dX6_proof_41 : decode cX6_proof 41 = .ok (.ireturn, 1) := by decide +kernel
theorem dX6_clear_0 : decode cX6_clear 0 = .ok (.aload_n 0, 1) := by decide +kernel
theorem dX6_clear_1 : decode cX6_clear 1 = .ok (.iload_n 1, 1) := by decide +kernel
theorem dX6_clear_2 : decode cX6_clear 2 = .ok (.invokevirtual 74, 3) := by decide +kernel
theorem dX6_clear_5 : decode cX6_clear 5 = .ok (.astore_n 2, 1) := by decide +kernel
theorem dX6_clear_6 : decode cX6_clear 6 = .ok (.aload_n 2, 1) := by decide +kernel
theorem dX6_clear_7 : decode cX6_clear 7 = .ok (.invokevirtual 157, 3) := by decide +kernel
theorem dX6_clear_10 : decode cX6_clear 10 = .ok (.ifCond .ne 13, 3) := by decide +kernel
theorem dX6_clear_13 : decode cX6_clear 13 = .ok (.new 51, 3) := by decide +kernel
theorem dX6_clear_16 : decode cX6_clear 16 = .ok (.dup, 1) := by decide +kernel
theorem dX6_clear_17 : decode cX6_clear 17 = .ok (.ldc 160, 2) := by decide +kernel
theorem dX6_clear_19 : decode cX6_clear 19 = .ok (.invokespecial 55, 3) := by decide +kernel
theorem dX6_clear_22 : decode cX6_clear 22 = .ok (.athrow, 1) := by decide +kernel
theorem dX6_clear_23 : decode cX6_clear 23 = .ok (.aload_n 2, 1) := by decide +kernel
theorem dX6_clear_24 : decode cX6_clear 24 = .ok (.getfield 162, 3) := by decide +kernel
theorem dX6_clear_27 : decode cX6_clear 27 = .ok (.istore_n 3, 1) := by decide +kernel
theorem dX6_clear_28 : decode cX6_clear 28 = .ok (.aload_n 2, 1) := by decide +kernel
theorem dX6_clear_29 : decode cX6_clear 29 = .ok (.iconst (-1), 1) := by decide +kernel
theorem dX6_clear_30 : decode cX6_clear 30 = .ok (.putfield 162, 3) := by decide +kernel
theorem dX6_clear_33 : decode cX6_clear 33 = .ok (.aload_n 0, 1) := by decide +kernel
theorem dX6_clear_34 : decode cX6_clear 34 = .ok (.invokevirtual 151, 3) := by decide +kernel
theorem dX6_clear_37 : decode cX6_clear 37 = .ok (.iload_n 3, 1) := by decide +kernel
theorem dX6_clear_38 : decode cX6_clear 38 = .ok (.ireturn, 1) := by decide +kernel
theorem dX6_ban_0 : decode cX6_ban 0 = .ok (.aload_n 0, 1) := by decide +kernel
theorem dX6_ban_1 : decode cX6_ban 1 = .ok (.iload_n 1, 1) := by decide +kernel
theorem dX6_ban_2 : decode cX6_ban 2 = .ok (.invokevirtual 74, 3) := by decide +kernel
theorem dX6_ban_5 : decode cX6_ban 5 = .ok (.astore_n 3, 1) := by decide +kernel
theorem dX6_ban_6 : decode cX6_ban 6 = .ok (.iload_n 2, 1) := by decide +kernel
theorem dX6_ban_7 : decode cX6_ban 7 = .ok (.ifCond .lt 10, 3) := by decide +kernel
theorem dX6_ban_10 : decode cX6_ban 10 = .ok (.iload_n 2, 1) := by decide +kernel
theorem dX6_ban_11 : decode cX6_ban 11 = .ok (.sipush 1000, 3) := by decide +kernel
theorem dX6_ban_14 : decode cX6_ban 14 = .ok (.if_icmp .le 13, 3) := by decide +kernel
theorem dX6_ban_17 : decode cX6_ban 17 = .ok (.new 63, 3) := by decide +kernel
theorem dX6_ban_20 : decode cX6_ban 20 = .ok (.dup, 1) := by decide +kernel
theorem dX6_ban_21 : decode cX6_ban 21 = .ok (.ldc 165, 2) := by decide +kernel
theorem dX6_ban_23 : decode cX6_ban 23 = .ok (.invokespecial 67, 3) := by decide +kernel
theorem dX6_ban_26 : decode cX6_ban 26 = .ok (.athrow, 1) := by decide +kernel
theorem dX6_ban_27 : decode cX6_ban 27 = .ok (.aload_n 3, 1) := by decide +kernel
theorem dX6_ban_28 : decode cX6_ban 28 = .ok (.aload_n 0, 1) := by decide +kernel
theorem dX6_ban_29 : decode cX6_ban 29 = .ok (.getfield 89, 3) := by decide +kernel
theorem dX6_ban_32 : decode cX6_ban 32 = .ok (.iload_n 2, 1) := by decide +kernel
theorem dX6_ban_33 : decode cX6_ban 33 = .ok (.iadd, 1) := by decide +kernel
theorem dX6_ban_34 : decode cX6_ban 34 = .ok (.putfield 167, 3) := by decide +kernel
theorem dX6_ban_37 : decode cX6_ban 37 = .ok (.aload_n 3, 1) := by decide +kernel
theorem dX6_ban_38 : decode cX6_ban 38 = .ok (.getfield 167, 3) := by decide +kernel
theorem dX6_ban_41 : decode cX6_ban 41 = .ok (.ireturn, 1) := by decide +kernel
theorem dX6_pass_0 : decode cX6_pass 0 = .ok (.iload_n 1, 1) := by decide +kernel
theorem dX6_pass_1 : decode cX6_pass 1 = .ok (.iconst 1, 1) := by decide +kernel
theorem dX6_pass_2 : decode cX6_pass 2 = .ok (.if_icmp .lt 10, 3) := by decide +kernel
theorem dX6_pass_5 : decode cX6_pass 5 = .ok (.iload_n 1, 1) := by decide +kernel
theorem dX6_pass_6 : decode cX6_pass 6 = .ok (.sipush 400, 3) := by decide +kernel
theorem dX6_pass_9 : decode cX6_pass 9 = .ok (.if_icmp .le 13, 3) := by decide +kernel
theorem dX6_pass_12 : decode cX6_pass 12 = .ok (.new 63, 3) := by decide +kernel
theorem dX6_pass_15 : decode cX6_pass 15 = .ok (.dup, 1) := by decide +kernel
theorem dX6_pass_16 : decode cX6_pass 16 = .ok (.ldc 170, 2) := by decide +kernel
theorem dX6_pass_18 : decode cX6_pass 18 = .ok (.invokespecial 67, 3) := by decide +kernel
theorem dX6_pass_21 : decode cX6_pass 21 = .ok (.athrow, 1) := by decide +kernel
theorem dX6_pass_22 : decode cX6_pass 22 = .ok (.aload_n 0, 1) := by decide +kernel
theorem dX6_pass_23 : decode cX6_pass 23 = .ok (.dup, 1) := by decide +kernel
theorem dX6_pass_24 : decode cX6_pass 24 = .ok (.getfield 89, 3) := by decide +kernel
theorem dX6_pass_27 : decode cX6_pass 27 = .ok (.iload_n 1, 1) := by decide +kernel
theorem dX6_pass_28 : decode cX6_pass 28 = .ok (.iadd, 1) := by decide +kernel
theorem dX6_pass_29 : decode cX6_pass 29 = .ok (.putfield 89, 3) := by decide +kernel
theorem dX6_pass_32 : decode cX6_pass 32 = .ok (.iconst 0, 1) := by decide +kernel
theorem dX6_pass_33 : decode cX6_pass 33 = .ok (.istore_n 2, 1) := by decide +kernel
theorem dX6_pass_34 : decode cX6_pass 34 = .ok (.iload_n 2, 1) := by decide +kernel
theorem dX6_pass_35 : decode cX6_pass 35 = .ok (.aload_n 0, 1) := by decide +kernel
theorem dX6_pass_36 : decode cX6_pass 36 = .ok (.getfield 35, 3) := by decide +kernel
theorem dX6_pass_39 : decode cX6_pass 39 = .ok (.arraylength, 1) := by decide +kernel
theorem dX6_pass_40 : decode cX6_pass 40 = .ok (.if_icmp .ge 25, 3) := by decide +kernel
theorem dX6_pass_43 : decode cX6_pass 43 = .ok (.aload_n 0, 1) := by decide +kernel
theorem dX6_pass_44 : decode cX6_pass 44 = .ok (.getfield 35, 3) := by decide +kernel
theorem dX6_pass_47 : decode cX6_pass 47 = .ok (.iload_n 2, 1) := by decide +kernel
theorem dX6_pass_48 : decode cX6_pass 48 = .ok (.aaload, 1) := by decide +kernel
theorem dX6_pass_49 : decode cX6_pass 49 = .ok (.astore_n 3, 1) := by decide +kernel
theorem dX6_pass_50 : decode cX6_pass 50 = .ok (.aload_n 3, 1) := by decide +kernel
theorem dX6_pass_51 : decode cX6_pass 51 = .ok (.ifnull 8, 3) := by decide +kernel
theorem dX6_pass_54 : decode cX6_pass 54 = .ok (.aload_n 3, 1) := by decide +kernel
theorem dX6_pass_55 : decode cX6_pass 55 = .ok (.iconst 0, 1) := by decide +kernel
theorem dX6_pass_56 : decode cX6_pass 56 = .ok (.putfield 71, 3) := by decide +kernel
theorem dX6_pass_59 : decode cX6_pass 59 = .ok (.iinc 2 1, 3) := by decide +kernel
theorem dX6_pass_62 : decode cX6_pass 62 = .ok (.goto (-28), 3) := by decide +kernel
theorem dX6_pass_65 : decode cX6_pass 65 = .ok (.aload_n 0, 1) := by decide +kernel
theorem dX6_pass_66 : decode cX6_pass 66 = .ok (.getfield 89, 3) := by decide +kernel
theorem dX6_pass_69 : decode cX6_pass 69 = .ok (.ireturn, 1) := by decide +kernel
theorem dX6_stands_0 : decode cX6_stands 0 = .ok (.aload_n 0, 1) := by decide +kernel
theorem dX6_stands_1 : decode cX6_stands 1 = .ok (.iload_n 1, 1) := by decide +kernel
theorem dX6_stands_2 : decode cX6_stands 2 = .ok (.invokevirtual 172, 3) := by decide +kernel
theorem dX6_stands_5 : decode cX6_stands 5 = .ok (.invokevirtual 176, 3) := by decide +kernel
theorem dX6_stands_8 : decode cX6_stands 8 = .ok (.ireturn, 1) := by decide +kernel
theorem dX6_ranked_0 : decode cX6_ranked 0 = .ok (.aload_n 0, 1) := by decide +kernel
theorem dX6_ranked_1 : decode cX6_ranked 1 = .ok (.iload_n 1, 1) := by decide +kernel
theorem dX6_ranked_2 : decode cX6_ranked 2 = .ok (.invokevirtual 179, 3) := by decide +kernel
theorem dX6_ranked_5 : decode cX6_ranked 5 = .ok (.astore 4, 2) := by decide +kernel
theorem dX6_ranked_7 : decode cX6_ranked 7 = .ok (.aload_n 0, 1) := by decide +kernel
theorem dX6_ranked_8 : decode cX6_ranked 8 = .ok (.iload_n 2, 1) := by decide +kernel
theorem dX6_ranked_9 : decode cX6_ranked 9 = .ok (.invokevirtual 74, 3) := by decide +kernel
theorem dX6_ranked_12 : decode cX6_ranked 12 = .ok (.astore 5, 2) := by decide +kernel
theorem dX6_ranked_14 : decode cX6_ranked 14 = .ok (.iload_n 3, 1) := by decide +kernel
theorem dX6_ranked_15 : decode cX6_ranked 15 = .ok (.tableswitch 58 0 2 #[25, 36, 47], 25) := by decide +kernel
theorem dX6_ranked_40 : decode cX6_ranked 40 = .ok (.aload 4, 2) := by decide +kernel
theorem dX6_ranked_42 : decode cX6_ranked 42 = .ok (.aload 5, 2) := by decide +kernel
theorem dX6_ranked_44 : decode cX6_ranked 44 = .ok (.getfield 183, 3) := by decide +kernel
theorem dX6_ranked_47 : decode cX6_ranked 47 = .ok (.invokevirtual 184, 3) := by decide +kernel
theorem dX6_ranked_50 : decode cX6_ranked 50 = .ok (.ireturn, 1) := by decide +kernel
theorem dX6_ranked_51 : decode cX6_ranked 51 = .ok (.aload 4, 2) := by decide +kernel
theorem dX6_ranked_53 : decode cX6_ranked 53 = .ok (.aload 5, 2) := by decide +kernel
theorem dX6_ranked_55 : decode cX6_ranked 55 = .ok (.getfield 183, 3) := by decide +kernel
theorem dX6_ranked_58 : decode cX6_ranked 58 = .ok (.invokevirtual 188, 3) := by decide +kernel
theorem dX6_ranked_61 : decode cX6_ranked 61 = .ok (.ireturn, 1) := by decide +kernel
theorem dX6_ranked_62 : decode cX6_ranked 62 = .ok (.aload 4, 2) := by decide +kernel
theorem dX6_ranked_64 : decode cX6_ranked 64 = .ok (.aload 5, 2) := by decide +kernel
theorem dX6_ranked_66 : decode cX6_ranked 66 = .ok (.getfield 183, 3) := by decide +kernel
theorem dX6_ranked_69 : decode cX6_ranked 69 = .ok (.invokevirtual 191, 3) := by decide +kernel
theorem dX6_ranked_72 : decode cX6_ranked 72 = .ok (.ireturn, 1) := by decide +kernel
theorem dX6_ranked_73 : decode cX6_ranked 73 = .ok (.new 63, 3) := by decide +kernel
theorem dX6_ranked_76 : decode cX6_ranked 76 = .ok (.dup, 1) := by decide +kernel
theorem dX6_ranked_77 : decode cX6_ranked 77 = .ok (.ldc 194, 2) := by decide +kernel
theorem dX6_ranked_79 : decode cX6_ranked 79 = .ok (.invokespecial 67, 3) := by decide +kernel
theorem dX6_ranked_82 : decode cX6_ranked 82 = .ok (.athrow, 1) := by decide +kernel
theorem dX6_skinOf_0 : decode cX6_skinOf 0 = .ok (.aload_n 0, 1) := by decide +kernel
theorem dX6_skinOf_1 : decode cX6_skinOf 1 = .ok (.iload_n 1, 1) := by decide +kernel
theorem dX6_skinOf_2 : decode cX6_skinOf 2 = .ok (.invokevirtual 113, 3) := by decide +kernel
theorem dX6_skinOf_5 : decode cX6_skinOf 5 = .ok (.astore_n 3, 1) := by decide +kernel
theorem dX6_skinOf_6 : decode cX6_skinOf 6 = .ok (.iload_n 2, 1) := by decide +kernel
theorem dX6_skinOf_7 : decode cX6_skinOf 7 = .ok (.tableswitch 100 0 6 #[41, 49, 57, 69, 77, 82, 87], 41) := by decide +kernel
theorem dX6_skinOf_48 : decode cX6_skinOf 48 = .ok (.aload_n 3, 1) := by decide +kernel
theorem dX6_skinOf_49 : decode cX6_skinOf 49 = .ok (.getfield 119, 3) := by decide +kernel
theorem dX6_skinOf_52 : decode cX6_skinOf 52 = .ok (.invokestatic 196, 3) := by decide +kernel
theorem dX6_skinOf_55 : decode cX6_skinOf 55 = .ok (.ireturn, 1) := by decide +kernel
theorem dX6_skinOf_56 : decode cX6_skinOf 56 = .ok (.aload_n 3, 1) := by decide +kernel
theorem dX6_skinOf_57 : decode cX6_skinOf 57 = .ok (.getfield 200, 3) := by decide +kernel
theorem dX6_skinOf_60 : decode cX6_skinOf 60 = .ok (.invokestatic 196, 3) := by decide +kernel
theorem dX6_skinOf_63 : decode cX6_skinOf 63 = .ok (.ireturn, 1) := by decide +kernel
theorem dX6_skinOf_64 : decode cX6_skinOf 64 = .ok (.aload_n 3, 1) := by decide +kernel
theorem dX6_skinOf_65 : decode cX6_skinOf 65 = .ok (.aload_n 0, 1) := by decide +kernel
theorem dX6_skinOf_66 : decode cX6_skinOf 66 = .ok (.getfield 89, 3) := by decide +kernel
theorem dX6_skinOf_69 : decode cX6_skinOf 69 = .ok (.invokevirtual 203, 3) := by decide +kernel
theorem dX6_skinOf_72 : decode cX6_skinOf 72 = .ok (.invokestatic 196, 3) := by decide +kernel
theorem dX6_skinOf_75 : decode cX6_skinOf 75 = .ok (.ireturn, 1) := by decide +kernel
theorem dX6_skinOf_76 : decode cX6_skinOf 76 = .ok (.aload_n 3, 1) := by decide +kernel
theorem dX6_skinOf_77 : decode cX6_skinOf 77 = .ok (.getfield 206, 3) := by decide +kernel
theorem dX6_skinOf_80 : decode cX6_skinOf 80 = .ok (.getfield 104, 3) := by decide +kernel
theorem dX6_skinOf_83 : decode cX6_skinOf 83 = .ok (.ireturn, 1) := by decide +kernel
theorem dX6_skinOf_84 : decode cX6_skinOf 84 = .ok (.aload_n 3, 1) := by decide +kernel
theorem dX6_skinOf_85 : decode cX6_skinOf 85 = .ok (.getfield 209, 3) := by decide +kernel
theorem dX6_skinOf_88 : decode cX6_skinOf 88 = .ok (.ireturn, 1) := by decide +kernel
theorem dX6_skinOf_89 : decode cX6_skinOf 89 = .ok (.aload_n 3, 1) := by decide +kernel
theorem dX6_skinOf_90 : decode cX6_skinOf 90 = .ok (.getfield 212, 3) := by decide +kernel
theorem dX6_skinOf_93 : decode cX6_skinOf 93 = .ok (.ireturn, 1) := by decide +kernel
theorem dX6_skinOf_94 : decode cX6_skinOf 94 = .ok (.aload_n 3, 1) := by decide +kernel
theorem dX6_skinOf_95 : decode cX6_skinOf 95 = .ok (.invokevirtual 215, 3) := by decide +kernel
theorem dX6_skinOf_98 : decode cX6_skinOf 98 = .ok (.ifCond .eq 7, 3) := by decide +kernel
theorem dX6_skinOf_101 : decode cX6_skinOf 101 = .ok (.iconst 1, 1) := by decide +kernel
theorem dX6_skinOf_102 : decode cX6_skinOf 102 = .ok (.goto 4, 3) := by decide +kernel
theorem dX6_skinOf_105 : decode cX6_skinOf 105 = .ok (.iconst 0, 1) := by decide +kernel
theorem dX6_skinOf_106 : decode cX6_skinOf 106 = .ok (.ireturn, 1) := by decide +kernel
theorem dX6_skinOf_107 : decode cX6_skinOf 107 = .ok (.new 63, 3) := by decide +kernel
theorem dX6_skinOf_110 : decode cX6_skinOf 110 = .ok (.dup, 1) := by decide +kernel
theorem dX6_skinOf_111 : decode cX6_skinOf 111 = .ok (.ldc 218, 2) := by decide +kernel
theorem dX6_skinOf_113 : decode cX6_skinOf 113 = .ok (.invokespecial 67, 3) := by decide +kernel
theorem dX6_skinOf_116 : decode cX6_skinOf 116 = .ok (.athrow, 1) := by decide +kernel
theorem dX6_money_0 : decode cX6_money 0 = .ok (.aload_n 0, 1) := by decide +kernel
theorem dX6_money_1 : decode cX6_money 1 = .ok (.iload_n 1, 1) := by decide +kernel
theorem dX6_money_2 : decode cX6_money 2 = .ok (.invokevirtual 74, 3) := by decide +kernel
theorem dX6_money_5 : decode cX6_money 5 = .ok (.getfield 220, 3) := by decide +kernel
theorem dX6_money_8 : decode cX6_money 8 = .ok (.ireturn, 1) := by decide +kernel
theorem dX6_label_0 : decode cX6_label 0 = .ok (.aload_n 0, 1) := by decide +kernel
theorem dX6_label_1 : decode cX6_label 1 = .ok (.iload_n 1, 1) := by decide +kernel
theorem dX6_label_2 : decode cX6_label 2 = .ok (.invokevirtual 113, 3) := by decide +kernel
theorem dX6_label_5 : decode cX6_label 5 = .ok (.astore_n 3, 1) := by decide +kernel
theorem dX6_label_6 : decode cX6_label 6 = .ok (.iload_n 2, 1) := by decide +kernel
theorem dX6_label_7 : decode cX6_label 7 = .ok (.ifCond .ge 13, 3) := by decide +kernel
theorem dX6_label_10 : decode cX6_label 10 = .ok (.new 223, 3) := by decide +kernel
theorem dX6_label_13 : decode cX6_label 13 = .ok (.dup, 1) := by decide +kernel
theorem dX6_label_14 : decode cX6_label 14 = .ok (.ldc 225, 2) := by decide +kernel
theorem dX6_label_16 : decode cX6_label 16 = .ok (.invokespecial 227, 3) := by decide +kernel
theorem dX6_label_19 : decode cX6_label 19 = .ok (.athrow, 1) := by decide +kernel
theorem dX6_label_20 : decode cX6_label 20 = .ok (.new 228, 3) := by decide +kernel
theorem dX6_label_23 : decode cX6_label 23 = .ok (.dup, 1) := by decide +kernel
theorem dX6_label_24 : decode cX6_label 24 = .ok (.invokespecial 230, 3) := by decide +kernel
theorem dX6_label_27 : decode cX6_label 27 = .ok (.astore 4, 2) := by decide +kernel
theorem dX6_label_29 : decode cX6_label 29 = .ok (.aload_n 3, 1) := by decide +kernel
theorem dX6_label_30 : decode cX6_label 30 = .ok (.aload 4, 2) := by decide +kernel
theorem dX6_label_32 : decode cX6_label 32 = .ok (.invokevirtual 231, 3) := by decide +kernel
theorem dX6_label_35 : decode cX6_label 35 = .ok (.iload_n 2, 1) := by decide +kernel
theorem dX6_label_36 : decode cX6_label 36 = .ok (.aload 4, 2) := by decide +kernel
theorem dX6_label_38 : decode cX6_label 38 = .ok (.invokevirtual 235, 3) := by decide +kernel
theorem dX6_label_41 : decode cX6_label 41 = .ok (.if_icmp .ge 12, 3) := by decide +kernel
theorem dX6_label_44 : decode cX6_label 44 = .ok (.aload 4, 2) := by decide +kernel
theorem dX6_label_46 : decode cX6_label 46 = .ok (.iload_n 2, 1) := by decide +kernel
theorem dX6_label_47 : decode cX6_label 47 = .ok (.invokevirtual 238, 3) := by decide +kernel
theorem dX6_label_50 : decode cX6_label 50 = .ok (.goto 4, 3) := by decide +kernel
theorem dX6_label_53 : decode cX6_label 53 = .ok (.iconst 0, 1) := by decide +kernel
theorem dX6_label_54 : decode cX6_label 54 = .ok (.ireturn, 1) := by decide +kernel
theorem dX6_findPlayer_0 : decode cX6_findPlayer 0 = .ok (.iload_n 1, 1) := by decide +kernel
theorem dX6_findPlayer_1 : decode cX6_findPlayer 1 = .ok (.ifCond .lt 21, 3) := by decide +kernel
theorem dX6_findPlayer_4 : decode cX6_findPlayer 4 = .ok (.iload_n 1, 1) := by decide +kernel
theorem dX6_findPlayer_5 : decode cX6_findPlayer 5 = .ok (.aload_n 0, 1) := by decide +kernel
theorem dX6_findPlayer_6 : decode cX6_findPlayer 6 = .ok (.getfield 11, 3) := by decide +kernel
theorem dX6_findPlayer_9 : decode cX6_findPlayer 9 = .ok (.arraylength, 1) := by decide +kernel
theorem dX6_findPlayer_10 : decode cX6_findPlayer 10 = .ok (.if_icmp .ge 12, 3) := by decide +kernel
theorem dX6_findPlayer_13 : decode cX6_findPlayer 13 = .ok (.aload_n 0, 1) := by decide +kernel
theorem dX6_findPlayer_14 : decode cX6_findPlayer 14 = .ok (.getfield 11, 3) := by decide +kernel
theorem dX6_findPlayer_17 : decode cX6_findPlayer 17 = .ok (.iload_n 1, 1) := by decide +kernel
theorem dX6_findPlayer_18 : decode cX6_findPlayer 18 = .ok (.aaload, 1) := by decide +kernel
theorem dX6_findPlayer_19 : decode cX6_findPlayer 19 = .ok (.goto 4, 3) := by decide +kernel
theorem dX6_findPlayer_22 : decode cX6_findPlayer 22 = .ok (.aconst_null, 1) := by decide +kernel
theorem dX6_findPlayer_23 : decode cX6_findPlayer 23 = .ok (.areturn, 1) := by decide +kernel
theorem dX6_playerAt_0 : decode cX6_playerAt 0 = .ok (.aload_n 0, 1) := by decide +kernel
theorem dX6_playerAt_1 : decode cX6_playerAt 1 = .ok (.iload_n 1, 1) := by decide +kernel
theorem dX6_playerAt_2 : decode cX6_playerAt 2 = .ok (.invokevirtual 242, 3) := by decide +kernel
theorem dX6_playerAt_5 : decode cX6_playerAt 5 = .ok (.astore_n 2, 1) := by decide +kernel
theorem dX6_playerAt_6 : decode cX6_playerAt 6 = .ok (.aload_n 2, 1) := by decide +kernel
theorem dX6_playerAt_7 : decode cX6_playerAt 7 = .ok (.ifnonnull 13, 3) := by decide +kernel
theorem dX6_playerAt_10 : decode cX6_playerAt 10 = .ok (.new 223, 3) := by decide +kernel
theorem dX6_playerAt_13 : decode cX6_playerAt 13 = .ok (.dup, 1) := by decide +kernel
theorem dX6_playerAt_14 : decode cX6_playerAt 14 = .ok (.ldc 245, 2) := by decide +kernel
theorem dX6_playerAt_16 : decode cX6_playerAt 16 = .ok (.invokespecial 227, 3) := by decide +kernel
theorem dX6_playerAt_19 : decode cX6_playerAt 19 = .ok (.athrow, 1) := by decide +kernel
theorem dX6_playerAt_20 : decode cX6_playerAt 20 = .ok (.aload_n 2, 1) := by decide +kernel
theorem dX6_playerAt_21 : decode cX6_playerAt 21 = .ok (.areturn, 1) := by decide +kernel
theorem dX6_regionAt_0 : decode cX6_regionAt 0 = .ok (.iload_n 1, 1) := by decide +kernel
theorem dX6_regionAt_1 : decode cX6_regionAt 1 = .ok (.ifCond .lt 21, 3) := by decide +kernel
theorem dX6_regionAt_4 : decode cX6_regionAt 4 = .ok (.iload_n 1, 1) := by decide +kernel
theorem dX6_regionAt_5 : decode cX6_regionAt 5 = .ok (.aload_n 0, 1) := by decide +kernel
theorem dX6_regionAt_6 : decode cX6_regionAt 6 = .ok (.getfield 35, 3) := by decide +kernel
theorem dX6_regionAt_9 : decode cX6_regionAt 9 = .ok (.arraylength, 1) := by decide +kernel
theorem dX6_regionAt_10 : decode cX6_regionAt 10 = .ok (.if_icmp .ge 12, 3) := by decide +kernel
theorem dX6_regionAt_13 : decode cX6_regionAt 13 = .ok (.aload_n 0, 1) := by decide +kernel
theorem dX6_regionAt_14 : decode cX6_regionAt 14 = .ok (.getfield 35, 3) := by decide +kernel
theorem dX6_regionAt_17 : decode cX6_regionAt 17 = .ok (.iload_n 1, 1) := by decide +kernel
theorem dX6_regionAt_18 : decode cX6_regionAt 18 = .ok (.aaload, 1) := by decide +kernel
theorem dX6_regionAt_19 : decode cX6_regionAt 19 = .ok (.goto 4, 3) := by decide +kernel
theorem dX6_regionAt_22 : decode cX6_regionAt 22 = .ok (.aconst_null, 1) := by decide +kernel
theorem dX6_regionAt_23 : decode cX6_regionAt 23 = .ok (.astore_n 2, 1) := by decide +kernel
theorem dX6_regionAt_24 : decode cX6_regionAt 24 = .ok (.aload_n 2, 1) := by decide +kernel
theorem dX6_regionAt_25 : decode cX6_regionAt 25 = .ok (.ifnonnull 13, 3) := by decide +kernel
theorem dX6_regionAt_28 : decode cX6_regionAt 28 = .ok (.new 223, 3) := by decide +kernel
theorem dX6_regionAt_31 : decode cX6_regionAt 31 = .ok (.dup, 1) := by decide +kernel
theorem dX6_regionAt_32 : decode cX6_regionAt 32 = .ok (.ldc 247, 2) := by decide +kernel
theorem dX6_regionAt_34 : decode cX6_regionAt 34 = .ok (.invokespecial 227, 3) := by decide +kernel
theorem dX6_regionAt_37 : decode cX6_regionAt 37 = .ok (.athrow, 1) := by decide +kernel
theorem dX6_regionAt_38 : decode cX6_regionAt 38 = .ok (.aload_n 2, 1) := by decide +kernel
theorem dX6_regionAt_39 : decode cX6_regionAt 39 = .ok (.areturn, 1) := by decide +kernel
theorem dX6_matchAt_0 : decode cX6_matchAt 0 = .ok (.iload_n 1, 1) := by decide +kernel
theorem dX6_matchAt_1 : decode cX6_matchAt 1 = .ok (.ifCond .lt 21, 3) := by decide +kernel
theorem dX6_matchAt_4 : decode cX6_matchAt 4 = .ok (.iload_n 1, 1) := by decide +kernel
theorem dX6_matchAt_5 : decode cX6_matchAt 5 = .ok (.aload_n 0, 1) := by decide +kernel
theorem dX6_matchAt_6 : decode cX6_matchAt 6 = .ok (.getfield 17, 3) := by decide +kernel
theorem dX6_matchAt_9 : decode cX6_matchAt 9 = .ok (.arraylength, 1) := by decide +kernel
theorem dX6_matchAt_10 : decode cX6_matchAt 10 = .ok (.if_icmp .ge 12, 3) := by decide +kernel
theorem dX6_matchAt_13 : decode cX6_matchAt 13 = .ok (.aload_n 0, 1) := by decide +kernel
theorem dX6_matchAt_14 : decode cX6_matchAt 14 = .ok (.getfield 17, 3) := by decide +kernel
theorem dX6_matchAt_17 : decode cX6_matchAt 17 = .ok (.iload_n 1, 1) := by decide +kernel
theorem dX6_matchAt_18 : decode cX6_matchAt 18 = .ok (.aaload, 1) := by decide +kernel
theorem dX6_matchAt_19 : decode cX6_matchAt 19 = .ok (.goto 4, 3) := by decide +kernel
theorem dX6_matchAt_22 : decode cX6_matchAt 22 = .ok (.aconst_null, 1) := by decide +kernel
theorem dX6_matchAt_23 : decode cX6_matchAt 23 = .ok (.astore_n 2, 1) := by decide +kernel
theorem dX6_matchAt_24 : decode cX6_matchAt 24 = .ok (.aload_n 2, 1) := by decide +kernel
theorem dX6_matchAt_25 : decode cX6_matchAt 25 = .ok (.ifnonnull 13, 3) := by decide +kernel
theorem dX6_matchAt_28 : decode cX6_matchAt 28 = .ok (.new 223, 3) := by decide +kernel
theorem dX6_matchAt_31 : decode cX6_matchAt 31 = .ok (.dup, 1) := by decide +kernel
theorem dX6_matchAt_32 : decode cX6_matchAt 32 = .ok (.ldc 249, 2) := by decide +kernel
theorem dX6_matchAt_34 : decode cX6_matchAt 34 = .ok (.invokespecial 227, 3) := by decide +kernel
theorem dX6_matchAt_37 : decode cX6_matchAt 37 = .ok (.athrow, 1) := by decide +kernel
theorem dX6_matchAt_38 : decode cX6_matchAt 38 = .ok (.aload_n 2, 1) := by decide +kernel
theorem dX6_matchAt_39 : decode cX6_matchAt 39 = .ok (.areturn, 1) := by decide +kernel
theorem dX6_seasonAt_0 : decode cX6_seasonAt 0 = .ok (.iload_n 1, 1) := by decide +kernel
theorem dX6_seasonAt_1 : decode cX6_seasonAt 1 = .ok (.ifCond .lt 21, 3) := by decide +kernel
theorem dX6_seasonAt_4 : decode cX6_seasonAt 4 = .ok (.iload_n 1, 1) := by decide +kernel
theorem dX6_seasonAt_5 : decode cX6_seasonAt 5 = .ok (.aload_n 0, 1) := by decide +kernel
theorem dX6_seasonAt_6 : decode cX6_seasonAt 6 = .ok (.getfield 23, 3) := by decide +kernel
theorem dX6_seasonAt_9 : decode cX6_seasonAt 9 = .ok (.arraylength, 1) := by decide +kernel
theorem dX6_seasonAt_10 : decode cX6_seasonAt 10 = .ok (.if_icmp .ge 12, 3) := by decide +kernel
theorem dX6_seasonAt_13 : decode cX6_seasonAt 13 = .ok (.aload_n 0, 1) := by decide +kernel
theorem dX6_seasonAt_14 : decode cX6_seasonAt 14 = .ok (.getfield 23, 3) := by decide +kernel
theorem dX6_seasonAt_17 : decode cX6_seasonAt 17 = .ok (.iload_n 1, 1) := by decide +kernel
theorem dX6_seasonAt_18 : decode cX6_seasonAt 18 = .ok (.aaload, 1) := by decide +kernel
theorem dX6_seasonAt_19 : decode cX6_seasonAt 19 = .ok (.goto 4, 3) := by decide +kernel
theorem dX6_seasonAt_22 : decode cX6_seasonAt 22 = .ok (.aconst_null, 1) := by decide +kernel
theorem dX6_seasonAt_23 : decode cX6_seasonAt 23 = .ok (.astore_n 2, 1) := by decide +kernel
theorem dX6_seasonAt_24 : decode cX6_seasonAt 24 = .ok (.aload_n 2, 1) := by decide +kernel
theorem dX6_seasonAt_25 : decode cX6_seasonAt 25 = .ok (.ifnonnull 13, 3) := by decide +kernel
theorem dX6_seasonAt_28 : decode cX6_seasonAt 28 = .ok (.new 223, 3) := by decide +kernel
theorem dX6_seasonAt_31 : decode cX6_seasonAt 31 = .ok (.dup, 1) := by decide +kernel
theorem dX6_seasonAt_32 : decode cX6_seasonAt 32 = .ok (.ldc 251, 2) := by decide +kernel
theorem dX6_seasonAt_34 : decode cX6_seasonAt 34 = .ok (.invokespecial 227, 3) := by decide +kernel
theorem dX6_seasonAt_37 : decode cX6_seasonAt 37 = .ok (.athrow, 1) := by decide +kernel
theorem dX6_seasonAt_38 : decode cX6_seasonAt 38 = .ok (.aload_n 2, 1) := by decide +kernel
theorem dX6_seasonAt_39 : decode cX6_seasonAt 39 = .ok (.areturn, 1) := by decide +kernel
theorem dX6_skinAt_0 : decode cX6_skinAt 0 = .ok (.iload_n 1, 1) := by decide +kernel
theorem dX6_skinAt_1 : decode cX6_skinAt 1 = .ok (.ifCond .lt 21, 3) := by decide +kernel
theorem dX6_skinAt_4 : decode cX6_skinAt 4 = .ok (.iload_n 1, 1) := by decide +kernel
theorem dX6_skinAt_5 : decode cX6_skinAt 5 = .ok (.aload_n 0, 1) := by decide +kernel
theorem dX6_skinAt_6 : decode cX6_skinAt 6 = .ok (.getfield 29, 3) := by decide +kernel
theorem dX6_skinAt_9 : decode cX6_skinAt 9 = .ok (.arraylength, 1) := by decide +kernel
theorem dX6_skinAt_10 : decode cX6_skinAt 10 = .ok (.if_icmp .ge 12, 3) := by decide +kernel
theorem dX6_skinAt_13 : decode cX6_skinAt 13 = .ok (.aload_n 0, 1) := by decide +kernel
theorem dX6_skinAt_14 : decode cX6_skinAt 14 = .ok (.getfield 29, 3) := by decide +kernel
theorem dX6_skinAt_17 : decode cX6_skinAt 17 = .ok (.iload_n 1, 1) := by decide +kernel
theorem dX6_skinAt_18 : decode cX6_skinAt 18 = .ok (.aaload, 1) := by decide +kernel
theorem dX6_skinAt_19 : decode cX6_skinAt 19 = .ok (.goto 4, 3) := by decide +kernel
theorem dX6_skinAt_22 : decode cX6_skinAt 22 = .ok (.aconst_null, 1) := by decide +kernel
theorem dX6_skinAt_23 : decode cX6_skinAt 23 = .ok (.astore_n 2, 1) := by decide +kernel
theorem dX6_skinAt_24 : decode cX6_skinAt 24 = .ok (.aload_n 2, 1) := by decide +kernel
theorem dX6_skinAt_25 : decode cX6_skinAt 25 = .ok (.ifnonnull 13, 3) := by decide +kernel
theorem dX6_skinAt_28 : decode cX6_skinAt 28 = .ok (.new 223, 3) := by decide +kernel
theorem dX6_skinAt_31 : decode cX6_skinAt 31 = .ok (.dup, 1) := by decide +kernel
theorem dX6_skinAt_32 : decode cX6_skinAt 32 = .ok (.ldc 253, 2) := by decide +kernel
theorem dX6_skinAt_34 : decode cX6_skinAt 34 = .ok (.invokespecial 227, 3) := by decide +kernel
theorem dX6_skinAt_37 : decode cX6_skinAt 37 = .ok (.athrow, 1) := by decide +kernel
theorem dX6_skinAt_38 : decode cX6_skinAt 38 = .ok (.aload_n 2, 1) := by decide +kernel
theorem dX6_skinAt_39 : decode cX6_skinAt 39 = .ok (.areturn, 1) := by decide +kernel
theorem dX6_numberOf_0 : decode cX6_numberOf 0 = .ok (.aload_n 0, 1) := by decide +kernel
theorem dX6_numberOf_1 : decode cX6_numberOf 1 = .ok (.ifnonnull 7, 3) := by decide +kernel
theorem dX6_numberOf_4 : decode cX6_numberOf 4 = .ok (.iconst (-1), 1) := by decide +kernel
theorem dX6_numberOf_5 : decode cX6_numberOf 5 = .ok (.goto 7, 3) := by decide +kernel
theorem dX6_numberOf_8 : decode cX6_numberOf 8 = .ok (.aload_n 0, 1) := by decide +kernel
theorem dX6_numberOf_9 : decode cX6_numberOf 9 = .ok (.getfield 183, 3) := by decide +kernel
theorem dX6_numberOf_12 : decode cX6_numberOf 12 = .ok (.ireturn, 1) := by decide +kernel
theorem dX6_awardPrizes_0 : decode cX6_awardPrizes 0 = .ok (.iconst 0, 1) := by decide +kernel
theorem dX6_awardPrizes_1 : decode cX6_awardPrizes 1 = .ok (.istore_n 1, 1) := by decide +kernel
theorem dX6_awardPrizes_2 : decode cX6_awardPrizes 2 = .ok (.iconst 1, 1) := by decide +kernel
theorem dX6_awardPrizes_3 : decode cX6_awardPrizes 3 = .ok (.istore_n 2, 1) := by decide +kernel
theorem dX6_awardPrizes_4 : decode cX6_awardPrizes 4 = .ok (.iload_n 2, 1) := by decide +kernel
theorem dX6_awardPrizes_5 : decode cX6_awardPrizes 5 = .ok (.iconst 3, 1) := by decide +kernel
theorem dX6_awardPrizes_6 : decode cX6_awardPrizes 6 = .ok (.if_icmp .gt 77, 3) := by decide +kernel
theorem dX6_awardPrizes_9 : decode cX6_awardPrizes 9 = .ok (.aload_n 0, 1) := by decide +kernel
theorem dX6_awardPrizes_10 : decode cX6_awardPrizes 10 = .ok (.aload_n 0, 1) := by decide +kernel
theorem dX6_awardPrizes_11 : decode cX6_awardPrizes 11 = .ok (.getfield 43, 3) := by decide +kernel
theorem dX6_awardPrizes_14 : decode cX6_awardPrizes 14 = .ok (.iload_n 2, 1) := by decide +kernel
theorem dX6_awardPrizes_15 : decode cX6_awardPrizes 15 = .ok (.invokevirtual 255, 3) := by decide +kernel
theorem dX6_awardPrizes_18 : decode cX6_awardPrizes 18 = .ok (.invokevirtual 242, 3) := by decide +kernel
theorem dX6_awardPrizes_21 : decode cX6_awardPrizes 21 = .ok (.astore_n 3, 1) := by decide +kernel
theorem dX6_awardPrizes_22 : decode cX6_awardPrizes 22 = .ok (.aload_n 3, 1) := by decide +kernel
theorem dX6_awardPrizes_23 : decode cX6_awardPrizes 23 = .ok (.ifnull 54, 3) := by decide +kernel
theorem dX6_awardPrizes_26 : decode cX6_awardPrizes 26 = .ok (.aload_n 0, 1) := by decide +kernel
theorem dX6_awardPrizes_27 : decode cX6_awardPrizes 27 = .ok (.getfield 258, 3) := by decide +kernel
theorem dX6_awardPrizes_30 : decode cX6_awardPrizes 30 = .ok (.aload_n 0, 1) := by decide +kernel
theorem dX6_awardPrizes_31 : decode cX6_awardPrizes 31 = .ok (.getfield 29, 3) := by decide +kernel
theorem dX6_awardPrizes_34 : decode cX6_awardPrizes 34 = .ok (.arraylength, 1) := by decide +kernel
theorem dX6_awardPrizes_35 : decode cX6_awardPrizes 35 = .ok (.if_icmp .ge 42, 3) := by decide +kernel
theorem dX6_awardPrizes_38 : decode cX6_awardPrizes 38 = .ok (.aload_n 0, 1) := by decide +kernel
theorem dX6_awardPrizes_39 : decode cX6_awardPrizes 39 = .ok (.getfield 29, 3) := by decide +kernel
theorem dX6_awardPrizes_42 : decode cX6_awardPrizes 42 = .ok (.aload_n 0, 1) := by decide +kernel
theorem dX6_awardPrizes_43 : decode cX6_awardPrizes 43 = .ok (.getfield 258, 3) := by decide +kernel
theorem dX6_awardPrizes_46 : decode cX6_awardPrizes 46 = .ok (.new 27, 3) := by decide +kernel
theorem dX6_awardPrizes_49 : decode cX6_awardPrizes 49 = .ok (.dup, 1) := by decide +kernel
theorem dX6_awardPrizes_50 : decode cX6_awardPrizes 50 = .ok (.aload_n 0, 1) := by decide +kernel
theorem dX6_awardPrizes_51 : decode cX6_awardPrizes 51 = .ok (.getfield 258, 3) := by decide +kernel
theorem dX6_awardPrizes_54 : decode cX6_awardPrizes 54 = .ok (.aload_n 0, 1) := by decide +kernel
theorem dX6_awardPrizes_55 : decode cX6_awardPrizes 55 = .ok (.getfield 43, 3) := by decide +kernel
theorem dX6_awardPrizes_58 : decode cX6_awardPrizes 58 = .ok (.iload_n 2, 1) := by decide +kernel
theorem dX6_awardPrizes_59 : decode cX6_awardPrizes 59 = .ok (.aload_n 3, 1) := by decide +kernel
theorem dX6_awardPrizes_60 : decode cX6_awardPrizes 60 = .ok (.invokespecial 261, 3) := by decide +kernel
theorem dX6_awardPrizes_63 : decode cX6_awardPrizes 63 = .ok (.aastore, 1) := by decide +kernel
theorem dX6_awardPrizes_64 : decode cX6_awardPrizes 64 = .ok (.aload_n 0, 1) := by decide +kernel
theorem dX6_awardPrizes_65 : decode cX6_awardPrizes 65 = .ok (.dup, 1) := by decide +kernel
theorem dX6_awardPrizes_66 : decode cX6_awardPrizes 66 = .ok (.getfield 258, 3) := by decide +kernel
theorem dX6_awardPrizes_69 : decode cX6_awardPrizes 69 = .ok (.iconst 1, 1) := by decide +kernel
theorem dX6_awardPrizes_70 : decode cX6_awardPrizes 70 = .ok (.iadd, 1) := by decide +kernel
theorem dX6_awardPrizes_71 : decode cX6_awardPrizes 71 = .ok (.putfield 258, 3) := by decide +kernel
theorem dX6_awardPrizes_74 : decode cX6_awardPrizes 74 = .ok (.iinc 1 1, 3) := by decide +kernel
theorem dX6_awardPrizes_77 : decode cX6_awardPrizes 77 = .ok (.iinc 2 1, 3) := by decide +kernel
theorem dX6_awardPrizes_80 : decode cX6_awardPrizes 80 = .ok (.goto (-76), 3) := by decide +kernel
theorem dX6_awardPrizes_83 : decode cX6_awardPrizes 83 = .ok (.iload_n 1, 1) := by decide +kernel
theorem dX6_awardPrizes_84 : decode cX6_awardPrizes 84 = .ok (.ireturn, 1) := by decide +kernel
theorem dX6_mayDeal_0 : decode cX6_mayDeal 0 = .ok (.aload_n 1, 1) := by decide +kernel
theorem dX6_mayDeal_1 : decode cX6_mayDeal 1 = .ok (.ifnull 38, 3) := by decide +kernel
theorem dX6_mayDeal_4 : decode cX6_mayDeal 4 = .ok (.aload_n 2, 1) := by decide +kernel
theorem dX6_mayDeal_5 : decode cX6_mayDeal 5 = .ok (.ifnull 34, 3) := by decide +kernel
theorem dX6_mayDeal_8 : decode cX6_mayDeal 8 = .ok (.aload_n 1, 1) := by decide +kernel
theorem dX6_mayDeal_9 : decode cX6_mayDeal 9 = .ok (.aload_n 2, 1) := by decide +kernel
theorem dX6_mayDeal_10 : decode cX6_mayDeal 10 = .ok (.if_acmp .eq 29, 3) := by decide +kernel
theorem dX6_mayDeal_13 : decode cX6_mayDeal 13 = .ok (.aload_n 1, 1) := by decide +kernel
theorem dX6_mayDeal_14 : decode cX6_mayDeal 14 = .ok (.aload_n 0, 1) := by decide +kernel
theorem dX6_mayDeal_15 : decode cX6_mayDeal 15 = .ok (.getfield 89, 3) := by decide +kernel
theorem dX6_mayDeal_18 : decode cX6_mayDeal 18 = .ok (.invokevirtual 92, 3) := by decide +kernel
theorem dX6_mayDeal_21 : decode cX6_mayDeal 21 = .ok (.ifCond .ne 18, 3) := by decide +kernel
theorem dX6_mayDeal_24 : decode cX6_mayDeal 24 = .ok (.aload_n 2, 1) := by decide +kernel
theorem dX6_mayDeal_25 : decode cX6_mayDeal 25 = .ok (.aload_n 0, 1) := by decide +kernel
theorem dX6_mayDeal_26 : decode cX6_mayDeal 26 = .ok (.getfield 89, 3) := by decide +kernel
theorem dX6_mayDeal_29 : decode cX6_mayDeal 29 = .ok (.invokevirtual 92, 3) := by decide +kernel
theorem dX6_mayDeal_32 : decode cX6_mayDeal 32 = .ok (.ifCond .ne 7, 3) := by decide +kernel
theorem dX6_mayDeal_35 : decode cX6_mayDeal 35 = .ok (.iconst 1, 1) := by decide +kernel
theorem dX6_mayDeal_36 : decode cX6_mayDeal 36 = .ok (.goto 4, 3) := by decide +kernel
theorem dX6_mayDeal_39 : decode cX6_mayDeal 39 = .ok (.iconst 0, 1) := by decide +kernel
theorem dX6_mayDeal_40 : decode cX6_mayDeal 40 = .ok (.ireturn, 1) := by decide +kernel
theorem dX6_findHeirsAnew_0 : decode cX6_findHeirsAnew 0 = .ok (.aload_n 0, 1) := by decide +kernel
theorem dX6_findHeirsAnew_1 : decode cX6_findHeirsAnew 1 = .ok (.invokevirtual 264, 3) := by decide +kernel
theorem dX6_findHeirsAnew_4 : decode cX6_findHeirsAnew 4 = .ok (.iconst 0, 1) := by decide +kernel
theorem dX6_findHeirsAnew_5 : decode cX6_findHeirsAnew 5 = .ok (.istore_n 1, 1) := by decide +kernel
theorem dX6_findHeirsAnew_6 : decode cX6_findHeirsAnew 6 = .ok (.iload_n 1, 1) := by decide +kernel
theorem dX6_findHeirsAnew_7 : decode cX6_findHeirsAnew 7 = .ok (.aload_n 0, 1) := by decide +kernel
theorem dX6_findHeirsAnew_8 : decode cX6_findHeirsAnew 8 = .ok (.getfield 29, 3) := by decide +kernel
theorem dX6_findHeirsAnew_11 : decode cX6_findHeirsAnew 11 = .ok (.arraylength, 1) := by decide +kernel
theorem dX6_findHeirsAnew_12 : decode cX6_findHeirsAnew 12 = .ok (.if_icmp .ge 39, 3) := by decide +kernel
theorem dX6_findHeirsAnew_15 : decode cX6_findHeirsAnew 15 = .ok (.aload_n 0, 1) := by decide +kernel
theorem dX6_findHeirsAnew_16 : decode cX6_findHeirsAnew 16 = .ok (.getfield 29, 3) := by decide +kernel
theorem dX6_findHeirsAnew_19 : decode cX6_findHeirsAnew 19 = .ok (.iload_n 1, 1) := by decide +kernel
theorem dX6_findHeirsAnew_20 : decode cX6_findHeirsAnew 20 = .ok (.aaload, 1) := by decide +kernel
theorem dX6_findHeirsAnew_21 : decode cX6_findHeirsAnew 21 = .ok (.astore_n 2, 1) := by decide +kernel
theorem dX6_findHeirsAnew_22 : decode cX6_findHeirsAnew 22 = .ok (.aload_n 2, 1) := by decide +kernel
theorem dX6_findHeirsAnew_23 : decode cX6_findHeirsAnew 23 = .ok (.ifnull 22, 3) := by decide +kernel
theorem dX6_findHeirsAnew_26 : decode cX6_findHeirsAnew 26 = .ok (.aload_n 2, 1) := by decide +kernel
theorem dX6_findHeirsAnew_27 : decode cX6_findHeirsAnew 27 = .ok (.aload_n 0, 1) := by decide +kernel
theorem dX6_findHeirsAnew_28 : decode cX6_findHeirsAnew 28 = .ok (.aload_n 2, 1) := by decide +kernel
theorem dX6_findHeirsAnew_29 : decode cX6_findHeirsAnew 29 = .ok (.getfield 206, 3) := by decide +kernel
theorem dX6_findHeirsAnew_32 : decode cX6_findHeirsAnew 32 = .ok (.aload_n 2, 1) := by decide +kernel
theorem dX6_findHeirsAnew_33 : decode cX6_findHeirsAnew 33 = .ok (.getfield 209, 3) := by decide +kernel
theorem dX6_findHeirsAnew_36 : decode cX6_findHeirsAnew 36 = .ok (.invokevirtual 255, 3) := by decide +kernel
theorem dX6_findHeirsAnew_39 : decode cX6_findHeirsAnew 39 = .ok (.invokevirtual 242, 3) := by decide +kernel
theorem dX6_findHeirsAnew_42 : decode cX6_findHeirsAnew 42 = .ok (.invokevirtual 267, 3) := by decide +kernel
theorem dX6_findHeirsAnew_45 : decode cX6_findHeirsAnew 45 = .ok (.iinc 1 1, 3) := by decide +kernel
theorem dX6_findHeirsAnew_48 : decode cX6_findHeirsAnew 48 = .ok (.goto (-42), 3) := by decide +kernel
theorem dX6_findHeirsAnew_51 : decode cX6_findHeirsAnew 51 = .ok (.return_, 1) := by decide +kernel
theorem dX6_countPointsAnew_0 : decode cX6_countPointsAnew 0 = .ok (.iconst 0, 1) := by decide +kernel
theorem dX6_countPointsAnew_1 : decode cX6_countPointsAnew 1 = .ok (.istore_n 1, 1) := by decide +kernel
theorem dX6_countPointsAnew_2 : decode cX6_countPointsAnew 2 = .ok (.iload_n 1, 1) := by decide +kernel
theorem dX6_countPointsAnew_3 : decode cX6_countPointsAnew 3 = .ok (.aload_n 0, 1) := by decide +kernel
theorem dX6_countPointsAnew_4 : decode cX6_countPointsAnew 4 = .ok (.getfield 23, 3) := by decide +kernel
theorem dX6_countPointsAnew_7 : decode cX6_countPointsAnew 7 = .ok (.arraylength, 1) := by decide +kernel
theorem dX6_countPointsAnew_8 : decode cX6_countPointsAnew 8 = .ok (.if_icmp .ge 24, 3) := by decide +kernel
theorem dX6_countPointsAnew_11 : decode cX6_countPointsAnew 11 = .ok (.aload_n 0, 1) := by decide +kernel
theorem dX6_countPointsAnew_12 : decode cX6_countPointsAnew 12 = .ok (.getfield 23, 3) := by decide +kernel
theorem dX6_countPointsAnew_15 : decode cX6_countPointsAnew 15 = .ok (.iload_n 1, 1) := by decide +kernel
theorem dX6_countPointsAnew_16 : decode cX6_countPointsAnew 16 = .ok (.aaload, 1) := by decide +kernel
theorem dX6_countPointsAnew_17 : decode cX6_countPointsAnew 17 = .ok (.astore_n 2, 1) := by decide +kernel
theorem dX6_countPointsAnew_18 : decode cX6_countPointsAnew 18 = .ok (.aload_n 2, 1) := by decide +kernel
theorem dX6_countPointsAnew_19 : decode cX6_countPointsAnew 19 = .ok (.ifnull 7, 3) := by decide +kernel
theorem dX6_countPointsAnew_22 : decode cX6_countPointsAnew 22 = .ok (.aload_n 2, 1) := by decide +kernel
theorem dX6_countPointsAnew_23 : decode cX6_countPointsAnew 23 = .ok (.invokevirtual 271, 3) := by decide +kernel
theorem dX6_countPointsAnew_26 : decode cX6_countPointsAnew 26 = .ok (.iinc 1 1, 3) := by decide +kernel
theorem dX6_countPointsAnew_29 : decode cX6_countPointsAnew 29 = .ok (.goto (-27), 3) := by decide +kernel
theorem dX6_countPointsAnew_32 : decode cX6_countPointsAnew 32 = .ok (.iconst 0, 1) := by decide +kernel
theorem dX6_countPointsAnew_33 : decode cX6_countPointsAnew 33 = .ok (.istore_n 1, 1) := by decide +kernel
theorem dX6_countPointsAnew_34 : decode cX6_countPointsAnew 34 = .ok (.iload_n 1, 1) := by decide +kernel
theorem dX6_countPointsAnew_35 : decode cX6_countPointsAnew 35 = .ok (.aload_n 0, 1) := by decide +kernel
theorem dX6_countPointsAnew_36 : decode cX6_countPointsAnew 36 = .ok (.getfield 17, 3) := by decide +kernel
theorem dX6_countPointsAnew_39 : decode cX6_countPointsAnew 39 = .ok (.arraylength, 1) := by decide +kernel
theorem dX6_countPointsAnew_40 : decode cX6_countPointsAnew 40 = .ok (.if_icmp .ge 24, 3) := by decide +kernel
theorem dX6_countPointsAnew_43 : decode cX6_countPointsAnew 43 = .ok (.aload_n 0, 1) := by decide +kernel
theorem dX6_countPointsAnew_44 : decode cX6_countPointsAnew 44 = .ok (.getfield 17, 3) := by decide +kernel
theorem dX6_countPointsAnew_47 : decode cX6_countPointsAnew 47 = .ok (.iload_n 1, 1) := by decide +kernel
theorem dX6_countPointsAnew_48 : decode cX6_countPointsAnew 48 = .ok (.aaload, 1) := by decide +kernel
theorem dX6_countPointsAnew_49 : decode cX6_countPointsAnew 49 = .ok (.astore_n 2, 1) := by decide +kernel
theorem dX6_countPointsAnew_50 : decode cX6_countPointsAnew 50 = .ok (.aload_n 2, 1) := by decide +kernel
theorem dX6_countPointsAnew_51 : decode cX6_countPointsAnew 51 = .ok (.ifnull 7, 3) := by decide +kernel
theorem dX6_countPointsAnew_54 : decode cX6_countPointsAnew 54 = .ok (.aload_n 2, 1) := by decide +kernel
theorem dX6_countPointsAnew_55 : decode cX6_countPointsAnew 55 = .ok (.invokevirtual 101, 3) := by decide +kernel
theorem dX6_countPointsAnew_58 : decode cX6_countPointsAnew 58 = .ok (.iinc 1 1, 3) := by decide +kernel
theorem dX6_countPointsAnew_61 : decode cX6_countPointsAnew 61 = .ok (.goto (-27), 3) := by decide +kernel
theorem dX6_countPointsAnew_64 : decode cX6_countPointsAnew 64 = .ok (.return_, 1) := by decide +kernel
theorem dX6_countFallenMatches_0 : decode cX6_countFallenMatches 0 = .ok (.iconst 0, 1) := by decide +kernel
theorem dX6_countFallenMatches_1 : decode cX6_countFallenMatches 1 = .ok (.istore_n 1, 1) := by decide +kernel
theorem dX6_countFallenMatches_2 : decode cX6_countFallenMatches 2 = .ok (.iconst 0, 1) := by decide +kernel
theorem dX6_countFallenMatches_3 : decode cX6_countFallenMatches 3 = .ok (.istore_n 2, 1) := by decide +kernel
theorem dX6_countFallenMatches_4 : decode cX6_countFallenMatches 4 = .ok (.iload_n 2, 1) := by decide +kernel
theorem dX6_countFallenMatches_5 : decode cX6_countFallenMatches 5 = .ok (.aload_n 0, 1) := by decide +kernel
theorem dX6_countFallenMatches_6 : decode cX6_countFallenMatches 6 = .ok (.getfield 17, 3) := by decide +kernel
theorem dX6_countFallenMatches_9 : decode cX6_countFallenMatches 9 = .ok (.arraylength, 1) := by decide +kernel
theorem dX6_countFallenMatches_10 : decode cX6_countFallenMatches 10 = .ok (.if_icmp .ge 30, 3) := by decide +kernel
theorem dX6_countFallenMatches_13 : decode cX6_countFallenMatches 13 = .ok (.aload_n 0, 1) := by decide +kernel
theorem dX6_countFallenMatches_14 : decode cX6_countFallenMatches 14 = .ok (.getfield 17, 3) := by decide +kernel
theorem dX6_countFallenMatches_17 : decode cX6_countFallenMatches 17 = .ok (.iload_n 2, 1) := by decide +kernel
theorem dX6_countFallenMatches_18 : decode cX6_countFallenMatches 18 = .ok (.aaload, 1) := by decide +kernel
theorem dX6_countFallenMatches_19 : decode cX6_countFallenMatches 19 = .ok (.astore_n 3, 1) := by decide +kernel
theorem dX6_countFallenMatches_20 : decode cX6_countFallenMatches 20 = .ok (.aload_n 3, 1) := by decide +kernel
theorem dX6_countFallenMatches_21 : decode cX6_countFallenMatches 21 = .ok (.ifnull 13, 3) := by decide +kernel
theorem dX6_countFallenMatches_24 : decode cX6_countFallenMatches 24 = .ok (.aload_n 3, 1) := by decide +kernel
theorem dX6_countFallenMatches_25 : decode cX6_countFallenMatches 25 = .ok (.invokevirtual 176, 3) := by decide +kernel
theorem dX6_countFallenMatches_28 : decode cX6_countFallenMatches 28 = .ok (.ifCond .ne 6, 3) := by decide +kernel
theorem dX6_countFallenMatches_31 : decode cX6_countFallenMatches 31 = .ok (.iinc 1 1, 3) := by decide +kernel
theorem dX6_countFallenMatches_34 : decode cX6_countFallenMatches 34 = .ok (.iinc 2 1, 3) := by decide +kernel
theorem dX6_countFallenMatches_37 : decode cX6_countFallenMatches 37 = .ok (.goto (-33), 3) := by decide +kernel
theorem dX6_countFallenMatches_40 : decode cX6_countFallenMatches 40 = .ok (.iload_n 1, 1) := by decide +kernel
theorem dX6_countFallenMatches_41 : decode cX6_countFallenMatches 41 = .ok (.ireturn, 1) := by decide +kernel
theorem dX7_init_0 : decode cX7_init 0 = .ok (.aload_n 0, 1) := by decide +kernel
theorem dX7_init_1 : decode cX7_init 1 = .ok (.invokespecial 1, 3) := by decide +kernel
theorem dX7_init_4 : decode cX7_init 4 = .ok (.aload_n 0, 1) := by decide +kernel
theorem dX7_init_5 : decode cX7_init 5 = .ok (.bipush 16, 2) := by decide +kernel
theorem dX7_init_7 : decode cX7_init 7 = .ok (.newarray .int, 2) := by decide +kernel
theorem dX7_init_9 : decode cX7_init 9 = .ok (.putfield 7, 3) := by decide +kernel
theorem dX7_init_12 : decode cX7_init 12 = .ok (.aload_n 0, 1) := by decide +kernel
theorem dX7_init_13 : decode cX7_init 13 = .ok (.bipush 16, 2) := by decide +kernel
theorem dX7_init_15 : decode cX7_init 15 = .ok (.newarray .int, 2) := by decide +kernel
theorem dX7_init_17 : decode cX7_init 17 = .ok (.putfield 13, 3) := by decide +kernel
theorem dX7_init_20 : decode cX7_init 20 = .ok (.aload_n 0, 1) := by decide +kernel
theorem dX7_init_21 : decode cX7_init 21 = .ok (.bipush 16, 2) := by decide +kernel
theorem dX7_init_23 : decode cX7_init 23 = .ok (.newarray .int, 2) := by decide +kernel
theorem dX7_init_25 : decode cX7_init 25 = .ok (.putfield 16, 3) := by decide +kernel
theorem dX7_init_28 : decode cX7_init 28 = .ok (.aload_n 0, 1) := by decide +kernel
theorem dX7_init_29 : decode cX7_init 29 = .ok (.iconst 4, 1) := by decide +kernel
theorem dX7_init_30 : decode cX7_init 30 = .ok (.newarray .int, 2) := by decide +kernel
theorem dX7_init_32 : decode cX7_init 32 = .ok (.putfield 19, 3) := by decide +kernel
theorem dX7_init_35 : decode cX7_init 35 = .ok (.aload_n 0, 1) := by decide +kernel
theorem dX7_init_36 : decode cX7_init 36 = .ok (.bipush 100, 2) := by decide +kernel
theorem dX7_init_38 : decode cX7_init 38 = .ok (.newarray .int, 2) := by decide +kernel
theorem dX7_init_40 : decode cX7_init 40 = .ok (.putfield 22, 3) := by decide +kernel
theorem dX7_init_43 : decode cX7_init 43 = .ok (.aload_n 0, 1) := by decide +kernel
theorem dX7_init_44 : decode cX7_init 44 = .ok (.bipush 100, 2) := by decide +kernel
theorem dX7_init_46 : decode cX7_init 46 = .ok (.newarray .int, 2) := by decide +kernel
theorem dX7_init_48 : decode cX7_init 48 = .ok (.putfield 25, 3) := by decide +kernel
theorem dX7_init_51 : decode cX7_init 51 = .ok (.aload_n 0, 1) := by decide +kernel
theorem dX7_init_52 : decode cX7_init 52 = .ok (.bipush 100, 2) := by decide +kernel
theorem dX7_init_54 : decode cX7_init 54 = .ok (.newarray .int, 2) := by decide +kernel
theorem dX7_init_56 : decode cX7_init 56 = .ok (.putfield 28, 3) := by decide +kernel
theorem dX7_init_59 : decode cX7_init 59 = .ok (.aload_n 0, 1) := by decide +kernel
theorem dX7_init_60 : decode cX7_init 60 = .ok (.bipush 100, 2) := by decide +kernel
theorem dX7_init_62 : decode cX7_init 62 = .ok (.newarray .int, 2) := by decide +kernel
theorem dX7_init_64 : decode cX7_init 64 = .ok (.putfield 31, 3) := by decide +kernel
theorem dX7_init_67 : decode cX7_init 67 = .ok (.aload_n 0, 1) := by decide +kernel
theorem dX7_init_68 : decode cX7_init 68 = .ok (.bipush 100, 2) := by decide +kernel
theorem dX7_init_70 : decode cX7_init 70 = .ok (.newarray .int, 2) := by decide +kernel
theorem dX7_init_72 : decode cX7_init 72 = .ok (.putfield 34, 3) := by decide +kernel
theorem dX7_init_75 : decode cX7_init 75 = .ok (.aload_n 0, 1) := by decide +kernel
theorem dX7_init_76 : decode cX7_init 76 = .ok (.bipush 36, 2) := by decide +kernel
theorem dX7_init_78 : decode cX7_init 78 = .ok (.newarray .int, 2) := by decide +kernel
theorem dX7_init_80 : decode cX7_init 80 = .ok (.putfield 37, 3) := by decide +kernel
theorem dX7_init_83 : decode cX7_init 83 = .ok (.aload_n 0, 1) := by decide +kernel
theorem dX7_init_84 : decode cX7_init 84 = .ok (.bipush 36, 2) := by decide +kernel
theorem dX7_init_86 : decode cX7_init 86 = .ok (.newarray .int, 2) := by decide +kernel
theorem dX7_init_88 : decode cX7_init 88 = .ok (.putfield 40, 3) := by decide +kernel
theorem dX7_init_91 : decode cX7_init 91 = .ok (.aload_n 0, 1) := by decide +kernel
theorem dX7_init_92 : decode cX7_init 92 = .ok (.bipush 36, 2) := by decide +kernel
theorem dX7_init_94 : decode cX7_init 94 = .ok (.newarray .int, 2) := by decide +kernel
theorem dX7_init_96 : decode cX7_init 96 = .ok (.putfield 43, 3) := by decide +kernel
theorem dX7_init_99 : decode cX7_init 99 = .ok (.aload_n 0, 1) := by decide +kernel
theorem dX7_init_100 : decode cX7_init 100 = .ok (.bipush 36, 2) := by decide +kernel
theorem dX7_init_102 : decode cX7_init 102 = .ok (.newarray .int, 2) := by decide +kernel
theorem dX7_init_104 : decode cX7_init 104 = .ok (.putfield 46, 3) := by decide +kernel
theorem dX7_init_107 : decode cX7_init 107 = .ok (.aload_n 0, 1) := by decide +kernel
theorem dX7_init_108 : decode cX7_init 108 = .ok (.bipush 36, 2) := by decide +kernel
theorem dX7_init_110 : decode cX7_init 110 = .ok (.newarray .int, 2) := by decide +kernel
theorem dX7_init_112 : decode cX7_init 112 = .ok (.putfield 49, 3) := by decide +kernel
theorem dX7_init_115 : decode cX7_init 115 = .ok (.aload_n 0, 1) := by decide +kernel
theorem dX7_init_116 : decode cX7_init 116 = .ok (.bipush 36, 2) := by decide +kernel
theorem dX7_init_118 : decode cX7_init 118 = .ok (.newarray .int, 2) := by decide +kernel
theorem dX7_init_120 : decode cX7_init 120 = .ok (.putfield 52, 3) := by decide +kernel
theorem dX7_init_123 : decode cX7_init 123 = .ok (.aload_n 0, 1) := by decide +kernel
theorem dX7_init_124 : decode cX7_init 124 = .ok (.bipush 36, 2) := by decide +kernel
theorem dX7_init_126 : decode cX7_init 126 = .ok (.newarray .int, 2) := by decide +kernel
theorem dX7_init_128 : decode cX7_init 128 = .ok (.putfield 55, 3) := by decide +kernel
theorem dX7_init_131 : decode cX7_init 131 = .ok (.aload_n 0, 1) := by decide +kernel
theorem dX7_init_132 : decode cX7_init 132 = .ok (.bipush 36, 2) := by decide +kernel
theorem dX7_init_134 : decode cX7_init 134 = .ok (.newarray .int, 2) := by decide +kernel
theorem dX7_init_136 : decode cX7_init 136 = .ok (.putfield 58, 3) := by decide +kernel
theorem dX7_init_139 : decode cX7_init 139 = .ok (.aload_n 0, 1) := by decide +kernel
theorem dX7_init_140 : decode cX7_init 140 = .ok (.sipush 720, 3) := by decide +kernel
theorem dX7_init_143 : decode cX7_init 143 = .ok (.newarray .int, 2) := by decide +kernel
theorem dX7_init_145 : decode cX7_init 145 = .ok (.putfield 61, 3) := by decide +kernel
theorem dX7_init_148 : decode cX7_init 148 = .ok (.aload_n 0, 1) := by decide +kernel
theorem dX7_init_149 : decode cX7_init 149 = .ok (.sipush 720, 3) := by decide +kernel
theorem dX7_init_152 : decode cX7_init 152 = .ok (.newarray .int, 2) := by decide +kernel
theorem dX7_init_154 : decode cX7_init 154 = .ok (.putfield 64, 3) := by decide +kernel
theorem dX7_init_157 : decode cX7_init 157 = .ok (.aload_n 0, 1) := by decide +kernel
theorem dX7_init_158 : decode cX7_init 158 = .ok (.sipush 720, 3) := by decide +kernel
theorem dX7_init_161 : decode cX7_init 161 = .ok (.newarray .int, 2) := by decide +kernel
theorem dX7_init_163 : decode cX7_init 163 = .ok (.putfield 67, 3) := by decide +kernel
theorem dX7_init_166 : decode cX7_init 166 = .ok (.aload_n 0, 1) := by decide +kernel
theorem dX7_init_167 : decode cX7_init 167 = .ok (.bipush 16, 2) := by decide +kernel
theorem dX7_init_169 : decode cX7_init 169 = .ok (.newarray .int, 2) := by decide +kernel
theorem dX7_init_171 : decode cX7_init 171 = .ok (.putfield 70, 3) := by decide +kernel
theorem dX7_init_174 : decode cX7_init 174 = .ok (.aload_n 0, 1) := by decide +kernel
theorem dX7_init_175 : decode cX7_init 175 = .ok (.bipush 16, 2) := by decide +kernel
theorem dX7_init_177 : decode cX7_init 177 = .ok (.newarray .int, 2) := by decide +kernel
theorem dX7_init_179 : decode cX7_init 179 = .ok (.putfield 73, 3) := by decide +kernel
theorem dX7_init_182 : decode cX7_init 182 = .ok (.aload_n 0, 1) := by decide +kernel
theorem dX7_init_183 : decode cX7_init 183 = .ok (.bipush 16, 2) := by decide +kernel
theorem dX7_init_185 : decode cX7_init 185 = .ok (.newarray .int, 2) := by decide +kernel
theorem dX7_init_187 : decode cX7_init 187 = .ok (.putfield 76, 3) := by decide +kernel
theorem dX7_init_190 : decode cX7_init 190 = .ok (.iconst 0, 1) := by decide +kernel
theorem dX7_init_191 : decode cX7_init 191 = .ok (.istore_n 1, 1) := by decide +kernel
theorem dX7_init_192 : decode cX7_init 192 = .ok (.iload_n 1, 1) := by decide +kernel
theorem dX7_init_193 : decode cX7_init 193 = .ok (.iconst 4, 1) := by decide +kernel
theorem dX7_init_194 : decode cX7_init 194 = .ok (.if_icmp .ge 17, 3) := by decide +kernel
theorem dX7_init_197 : decode cX7_init 197 = .ok (.aload_n 0, 1) := by decide +kernel
theorem dX7_init_198 : decode cX7_init 198 = .ok (.getfield 19, 3) := by decide +kernel
theorem dX7_init_201 : decode cX7_init 201 = .ok (.iload_n 1, 1) := by decide +kernel
theorem dX7_init_202 : decode cX7_init 202 = .ok (.bipush 10, 2) := by decide +kernel
theorem dX7_init_204 : decode cX7_init 204 = .ok (.iastore, 1) := by decide +kernel
theorem dX7_init_205 : decode cX7_init 205 = .ok (.iinc 1 1, 3) := by decide +kernel
theorem dX7_init_208 : decode cX7_init 208 = .ok (.goto (-16), 3) := by decide +kernel
theorem dX7_init_211 : decode cX7_init 211 = .ok (.return_, 1) := by decide +kernel
theorem dX7_thrown_0 : decode cX7_thrown 0 = .ok (.aload_n 0, 1) := by decide +kernel
theorem dX7_thrown_1 : decode cX7_thrown 1 = .ok (.getfield 79, 3) := by decide +kernel
theorem dX7_thrown_4 : decode cX7_thrown 4 = .ok (.ireturn, 1) := by decide +kernel
theorem dX7_fails_0 : decode cX7_fails 0 = .ok (.aload_n 0, 1) := by decide +kernel
theorem dX7_fails_1 : decode cX7_fails 1 = .ok (.iload_n 1, 1) := by decide +kernel
theorem dX7_fails_2 : decode cX7_fails 2 = .ok (.putfield 79, 3) := by decide +kernel
theorem dX7_fails_5 : decode cX7_fails 5 = .ok (.iload_n 1, 1) := by decide +kernel
theorem dX7_fails_6 : decode cX7_fails 6 = .ok (.ifCond .le 7, 3) := by decide +kernel
theorem dX7_fails_9 : decode cX7_fails 9 = .ok (.iconst 1, 1) := by decide +kernel
theorem dX7_fails_10 : decode cX7_fails 10 = .ok (.goto 4, 3) := by decide +kernel
theorem dX7_fails_13 : decode cX7_fails 13 = .ok (.iconst 0, 1) := by decide +kernel
theorem dX7_fails_14 : decode cX7_fails 14 = .ok (.ireturn, 1) := by decide +kernel
theorem dX7_isIn_0 : decode cX7_isIn 0 = .ok (.iload_n 0, 1) := by decide +kernel
theorem dX7_isIn_1 : decode cX7_isIn 1 = .ok (.iload_n 1, 1) := by decide +kernel
theorem dX7_isIn_2 : decode cX7_isIn 2 = .ok (.if_icmp .lt 12, 3) := by decide +kernel
theorem dX7_isIn_5 : decode cX7_isIn 5 = .ok (.iload_n 0, 1) := by decide +kernel
theorem dX7_isIn_6 : decode cX7_isIn 6 = .ok (.iload_n 2, 1) := by decide +kernel
theorem dX7_isIn_7 : decode cX7_isIn 7 = .ok (.if_icmp .gt 7, 3) := by decide +kernel
theorem dX7_isIn_10 : decode cX7_isIn 10 = .ok (.iconst 1, 1) := by decide +kernel
theorem dX7_isIn_11 : decode cX7_isIn 11 = .ok (.goto 4, 3) := by decide +kernel
theorem dX7_isIn_14 : decode cX7_isIn 14 = .ok (.iconst 0, 1) := by decide +kernel
theorem dX7_isIn_15 : decode cX7_isIn 15 = .ok (.ireturn, 1) := by decide +kernel
theorem dX7_isPlayer_0 : decode cX7_isPlayer 0 = .ok (.iload_n 1, 1) := by decide +kernel
theorem dX7_isPlayer_1 : decode cX7_isPlayer 1 = .ok (.iconst 0, 1) := by decide +kernel
theorem dX7_isPlayer_2 : decode cX7_isPlayer 2 = .ok (.aload_n 0, 1) := by decide +kernel
theorem dX7_isPlayer_3 : decode cX7_isPlayer 3 = .ok (.getfield 83, 3) := by decide +kernel
theorem dX7_isPlayer_6 : decode cX7_isPlayer 6 = .ok (.iconst 1, 1) := by decide +kernel
theorem dX7_isPlayer_7 : decode cX7_isPlayer 7 = .ok (.isub, 1) := by decide +kernel
theorem dX7_isPlayer_8 : decode cX7_isPlayer 8 = .ok (.invokestatic 86, 3) := by decide +kernel
theorem dX7_isPlayer_11 : decode cX7_isPlayer 11 = .ok (.ireturn, 1) := by decide +kernel
theorem dX7_isBanned_0 : decode cX7_isBanned 0 = .ok (.aload_n 0, 1) := by decide +kernel
theorem dX7_isBanned_1 : decode cX7_isBanned 1 = .ok (.getfield 90, 3) := by decide +kernel
theorem dX7_isBanned_4 : decode cX7_isBanned 4 = .ok (.aload_n 0, 1) := by decide +kernel
theorem dX7_isBanned_5 : decode cX7_isBanned 5 = .ok (.getfield 13, 3) := by decide +kernel
theorem dX7_isBanned_8 : decode cX7_isBanned 8 = .ok (.iload_n 1, 1) := by decide +kernel
theorem dX7_isBanned_9 : decode cX7_isBanned 9 = .ok (.iaload, 1) := by decide +kernel
theorem dX7_isBanned_10 : decode cX7_isBanned 10 = .ok (.if_icmp .ge 7, 3) := by decide +kernel
theorem dX7_isBanned_13 : decode cX7_isBanned 13 = .ok (.iconst 1, 1) := by decide +kernel
theorem dX7_isBanned_14 : decode cX7_isBanned 14 = .ok (.goto 4, 3) := by decide +kernel
theorem dX7_isBanned_17 : decode cX7_isBanned 17 = .ok (.iconst 0, 1) := by decide +kernel
theorem dX7_isBanned_18 : decode cX7_isBanned 18 = .ok (.ireturn, 1) := by decide +kernel
theorem dX7_player_0 : decode cX7_player 0 = .ok (.aload_n 0, 1) := by decide +kernel
theorem dX7_player_1 : decode cX7_player 1 = .ok (.aload_n 0, 1) := by decide +kernel
theorem dX7_player_2 : decode cX7_player 2 = .ok (.getfield 83, 3) := by decide +kernel
theorem dX7_player_5 : decode cX7_player 5 = .ok (.bipush 16, 2) := by decide +kernel
theorem dX7_player_7 : decode cX7_player 7 = .ok (.if_icmp .ne 7, 3) := by decide +kernel
theorem dX7_player_10 : decode cX7_player 10 = .ok (.iconst 1, 1) := by decide +kernel
theorem dX7_player_11 : decode cX7_player 11 = .ok (.goto 4, 3) := by decide +kernel
theorem dX7_player_14 : decode cX7_player 14 = .ok (.iconst 0, 1) := by decide +kernel
theorem dX7_player_15 : decode cX7_player 15 = .ok (.invokevirtual 93, 3) := by decide +kernel
theorem dX7_player_18 : decode cX7_player 18 = .ok (.ifCond .eq 5, 3) := by decide +kernel
theorem dX7_player_21 : decode cX7_player 21 = .ok (.iconst 0, 1) := by decide +kernel
theorem dX7_player_22 : decode cX7_player 22 = .ok (.ireturn, 1) := by decide +kernel
theorem dX7_player_23 : decode cX7_player 23 = .ok (.aload_n 0, 1) := by decide +kernel
theorem dX7_player_24 : decode cX7_player 24 = .ok (.getfield 7, 3) := by decide +kernel
theorem dX7_player_27 : decode cX7_player 27 = .ok (.aload_n 0, 1) := by decide +kernel
theorem dX7_player_28 : decode cX7_player 28 = .ok (.getfield 83, 3) := by decide +kernel
theorem dX7_player_31 : decode cX7_player 31 = .ok (.iconst (-1), 1) := by decide +kernel
theorem dX7_player_32 : decode cX7_player 32 = .ok (.iastore, 1) := by decide +kernel
theorem dX7_player_33 : decode cX7_player 33 = .ok (.aload_n 0, 1) := by decide +kernel
theorem dX7_player_34 : decode cX7_player 34 = .ok (.dup, 1) := by decide +kernel
theorem dX7_player_35 : decode cX7_player 35 = .ok (.getfield 83, 3) := by decide +kernel
theorem dX7_player_38 : decode cX7_player 38 = .ok (.iconst 1, 1) := by decide +kernel
theorem dX7_player_39 : decode cX7_player 39 = .ok (.iadd, 1) := by decide +kernel
theorem dX7_player_40 : decode cX7_player 40 = .ok (.putfield 83, 3) := by decide +kernel
theorem dX7_player_43 : decode cX7_player 43 = .ok (.aload_n 0, 1) := by decide +kernel
theorem dX7_player_44 : decode cX7_player 44 = .ok (.getfield 83, 3) := by decide +kernel
theorem dX7_player_47 : decode cX7_player 47 = .ok (.iconst 1, 1) := by decide +kernel
theorem dX7_player_48 : decode cX7_player 48 = .ok (.isub, 1) := by decide +kernel
theorem dX7_player_49 : decode cX7_player 49 = .ok (.ireturn, 1) := by decide +kernel
theorem dX7_isRegion_0 : decode cX7_isRegion 0 = .ok (.iload_n 0, 1) := by decide +kernel
theorem dX7_isRegion_1 : decode cX7_isRegion 1 = .ok (.iconst 0, 1) := by decide +kernel
theorem dX7_isRegion_2 : decode cX7_isRegion 2 = .ok (.iconst 3, 1) := by decide +kernel
theorem dX7_isRegion_3 : decode cX7_isRegion 3 = .ok (.invokestatic 86, 3) := by decide +kernel
theorem dX7_isRegion_6 : decode cX7_isRegion 6 = .ok (.ireturn, 1) := by decide +kernel
theorem dX7_today_0 : decode cX7_today 0 = .ok (.iconst 0, 1) := by decide +kernel
theorem dX7_today_1 : decode cX7_today 1 = .ok (.istore_n 2, 1) := by decide +kernel
theorem dX7_today_2 : decode cX7_today 2 = .ok (.iconst 0, 1) := by decide +kernel
theorem dX7_today_3 : decode cX7_today 3 = .ok (.istore_n 3, 1) := by decide +kernel
theorem dX7_today_4 : decode cX7_today 4 = .ok (.iload_n 3, 1) := by decide +kernel
theorem dX7_today_5 : decode cX7_today 5 = .ok (.aload_n 0, 1) := by decide +kernel
theorem dX7_today_6 : decode cX7_today 6 = .ok (.getfield 97, 3) := by decide +kernel
theorem dX7_today_9 : decode cX7_today 9 = .ok (.if_icmp .ge 40, 3) := by decide +kernel
theorem dX7_today_12 : decode cX7_today 12 = .ok (.iload_n 2, 1) := by decide +kernel
theorem dX7_today_13 : decode cX7_today 13 = .ok (.aload_n 0, 1) := by decide +kernel
theorem dX7_today_14 : decode cX7_today 14 = .ok (.getfield 28, 3) := by decide +kernel
theorem dX7_today_17 : decode cX7_today 17 = .ok (.iload_n 3, 1) := by decide +kernel
theorem dX7_today_18 : decode cX7_today 18 = .ok (.iaload, 1) := by decide +kernel
theorem dX7_today_19 : decode cX7_today 19 = .ok (.iload_n 1, 1) := by decide +kernel
theorem dX7_today_20 : decode cX7_today 20 = .ok (.if_icmp .ne 20, 3) := by decide +kernel
theorem dX7_today_23 : decode cX7_today 23 = .ok (.aload_n 0, 1) := by decide +kernel
theorem dX7_today_24 : decode cX7_today 24 = .ok (.getfield 31, 3) := by decide +kernel
theorem dX7_today_27 : decode cX7_today 27 = .ok (.iload_n 3, 1) := by decide +kernel
theorem dX7_today_28 : decode cX7_today 28 = .ok (.iaload, 1) := by decide +kernel
theorem dX7_today_29 : decode cX7_today 29 = .ok (.aload_n 0, 1) := by decide +kernel
theorem dX7_today_30 : decode cX7_today 30 = .ok (.getfield 90, 3) := by decide +kernel
theorem dX7_today_33 : decode cX7_today 33 = .ok (.if_icmp .ne 7, 3) := by decide +kernel
theorem dX7_today_36 : decode cX7_today 36 = .ok (.iconst 1, 1) := by decide +kernel
theorem dX7_today_37 : decode cX7_today 37 = .ok (.goto 4, 3) := by decide +kernel
theorem dX7_today_40 : decode cX7_today 40 = .ok (.iconst 0, 1) := by decide +kernel
theorem dX7_today_41 : decode cX7_today 41 = .ok (.iadd, 1) := by decide +kernel
theorem dX7_today_42 : decode cX7_today 42 = .ok (.istore_n 2, 1) := by decide +kernel
theorem dX7_today_43 : decode cX7_today 43 = .ok (.iinc 3 1, 3) := by decide +kernel
theorem dX7_today_46 : decode cX7_today 46 = .ok (.goto (-42), 3) := by decide +kernel
theorem dX7_today_49 : decode cX7_today 49 = .ok (.iload_n 2, 1) := by decide +kernel
theorem dX7_today_50 : decode cX7_today 50 = .ok (.ireturn, 1) := by decide +kernel
theorem dX7_room_0 : decode cX7_room 0 = .ok (.aload_n 0, 1) := by decide +kernel
theorem dX7_room_1 : decode cX7_room 1 = .ok (.iload_n 1, 1) := by decide +kernel
theorem dX7_room_2 : decode cX7_room 2 = .ok (.invokestatic 100, 3) := by decide +kernel
theorem dX7_room_5 : decode cX7_room 5 = .ok (.ifCond .ne 7, 3) := by decide +kernel
theorem dX7_room_8 : decode cX7_room 8 = .ok (.iconst 1, 1) := by decide +kernel
theorem dX7_room_9 : decode cX7_room 9 = .ok (.goto 18, 3) := by decide +kernel
theorem dX7_room_12 : decode cX7_room 12 = .ok (.iload_n 2, 1) := by decide +kernel
theorem dX7_room_13 : decode cX7_room 13 = .ok (.iconst 0, 1) := by decide +kernel
theorem dX7_room_14 : decode cX7_room 14 = .ok (.bipush 50, 2) := by decide +kernel
theorem dX7_room_16 : decode cX7_room 16 = .ok (.invokestatic 86, 3) := by decide +kernel
theorem dX7_room_19 : decode cX7_room 19 = .ok (.ifCond .eq 7, 3) := by decide +kernel
theorem dX7_room_22 : decode cX7_room 22 = .ok (.iconst 0, 1) := by decide +kernel
theorem dX7_room_23 : decode cX7_room 23 = .ok (.goto 4, 3) := by decide +kernel
theorem dX7_room_26 : decode cX7_room 26 = .ok (.iconst 2, 1) := by decide +kernel
theorem dX7_room_27 : decode cX7_room 27 = .ok (.invokevirtual 93, 3) := by decide +kernel
theorem dX7_room_30 : decode cX7_room 30 = .ok (.ifCond .eq 5, 3) := by decide +kernel
theorem dX7_room_33 : decode cX7_room 33 = .ok (.iconst 0, 1) := by decide +kernel
theorem dX7_room_34 : decode cX7_room 34 = .ok (.ireturn, 1) := by decide +kernel
theorem dX7_room_35 : decode cX7_room 35 = .ok (.aload_n 0, 1) := by decide +kernel
theorem dX7_room_36 : decode cX7_room 36 = .ok (.getfield 19, 3) := by decide +kernel
theorem dX7_room_39 : decode cX7_room 39 = .ok (.iload_n 1, 1) := by decide +kernel
theorem dX7_room_40 : decode cX7_room 40 = .ok (.iload_n 2, 1) := by decide +kernel
theorem dX7_room_41 : decode cX7_room 41 = .ok (.iastore, 1) := by decide +kernel
theorem dX7_room_42 : decode cX7_room 42 = .ok (.aload_n 0, 1) := by decide +kernel
theorem dX7_room_43 : decode cX7_room 43 = .ok (.iload_n 1, 1) := by decide +kernel
theorem dX7_room_44 : decode cX7_room 44 = .ok (.invokevirtual 103, 3) := by decide +kernel
theorem dX7_room_47 : decode cX7_room 47 = .ok (.ireturn, 1) := by decide +kernel
theorem dX7_match_0 : decode cX7_match 0 = .ok (.aload_n 0, 1) := by decide +kernel
theorem dX7_match_1 : decode cX7_match 1 = .ok (.iload_n 1, 1) := by decide +kernel
theorem dX7_match_2 : decode cX7_match 2 = .ok (.invokevirtual 107, 3) := by decide +kernel
theorem dX7_match_5 : decode cX7_match 5 = .ok (.ifCond .eq 22, 3) := by decide +kernel
theorem dX7_match_8 : decode cX7_match 8 = .ok (.aload_n 0, 1) := by decide +kernel
theorem dX7_match_9 : decode cX7_match 9 = .ok (.iload_n 2, 1) := by decide +kernel
theorem dX7_match_10 : decode cX7_match 10 = .ok (.invokevirtual 107, 3) := by decide +kernel
theorem dX7_match_13 : decode cX7_match 13 = .ok (.ifCond .eq 14, 3) := by decide +kernel
theorem dX7_match_16 : decode cX7_match 16 = .ok (.iload_n 3, 1) := by decide +kernel
theorem dX7_match_17 : decode cX7_match 17 = .ok (.invokestatic 100, 3) := by decide +kernel
theorem dX7_match_20 : decode cX7_match 20 = .ok (.ifCond .eq 7, 3) := by decide +kernel
theorem dX7_match_23 : decode cX7_match 23 = .ok (.iconst 1, 1) := by decide +kernel
theorem dX7_match_24 : decode cX7_match 24 = .ok (.goto 4, 3) := by decide +kernel
theorem dX7_match_27 : decode cX7_match 27 = .ok (.iconst 0, 1) := by decide +kernel
theorem dX7_match_28 : decode cX7_match 28 = .ok (.istore 4, 2) := by decide +kernel
theorem dX7_match_30 : decode cX7_match 30 = .ok (.iload 4, 2) := by decide +kernel
theorem dX7_match_32 : decode cX7_match 32 = .ok (.ifCond .eq 46, 3) := by decide +kernel
theorem dX7_match_35 : decode cX7_match 35 = .ok (.aload_n 0, 1) := by decide +kernel
theorem dX7_match_36 : decode cX7_match 36 = .ok (.getfield 97, 3) := by decide +kernel
theorem dX7_match_39 : decode cX7_match 39 = .ok (.bipush 100, 2) := by decide +kernel
theorem dX7_match_41 : decode cX7_match 41 = .ok (.if_icmp .ge 37, 3) := by decide +kernel
theorem dX7_match_44 : decode cX7_match 44 = .ok (.aload_n 0, 1) := by decide +kernel
theorem dX7_match_45 : decode cX7_match 45 = .ok (.iload_n 1, 1) := by decide +kernel
theorem dX7_match_46 : decode cX7_match 46 = .ok (.invokevirtual 110, 3) := by decide +kernel
theorem dX7_match_49 : decode cX7_match 49 = .ok (.ifCond .ne 29, 3) := by decide +kernel
theorem dX7_match_52 : decode cX7_match 52 = .ok (.aload_n 0, 1) := by decide +kernel
theorem dX7_match_53 : decode cX7_match 53 = .ok (.iload_n 2, 1) := by decide +kernel
theorem dX7_match_54 : decode cX7_match 54 = .ok (.invokevirtual 110, 3) := by decide +kernel
theorem dX7_match_57 : decode cX7_match 57 = .ok (.ifCond .ne 21, 3) := by decide +kernel
theorem dX7_match_60 : decode cX7_match 60 = .ok (.aload_n 0, 1) := by decide +kernel
theorem dX7_match_61 : decode cX7_match 61 = .ok (.iload_n 3, 1) := by decide +kernel
theorem dX7_match_62 : decode cX7_match 62 = .ok (.invokevirtual 103, 3) := by decide +kernel
theorem dX7_match_65 : decode cX7_match 65 = .ok (.aload_n 0, 1) := by decide +kernel
theorem dX7_match_66 : decode cX7_match 66 = .ok (.getfield 19, 3) := by decide +kernel
theorem dX7_match_69 : decode cX7_match 69 = .ok (.iload_n 3, 1) := by decide +kernel
theorem dX7_match_70 : decode cX7_match 70 = .ok (.iaload, 1) := by decide +kernel
theorem dX7_match_71 : decode cX7_match 71 = .ok (.if_icmp .ge 7, 3) := by decide +kernel
theorem dX7_match_74 : decode cX7_match 74 = .ok (.iconst 1, 1) := by decide +kernel
theorem dX7_match_75 : decode cX7_match 75 = .ok (.goto 4, 3) := by decide +kernel
theorem dX7_match_78 : decode cX7_match 78 = .ok (.iconst 0, 1) := by decide +kernel
theorem dX7_match_79 : decode cX7_match 79 = .ok (.istore 5, 2) := by decide +kernel
theorem dX7_match_81 : decode cX7_match 81 = .ok (.aload_n 0, 1) := by decide +kernel
theorem dX7_match_82 : decode cX7_match 82 = .ok (.iload 4, 2) := by decide +kernel
theorem dX7_match_84 : decode cX7_match 84 = .ok (.ifCond .ne 7, 3) := by decide +kernel
theorem dX7_match_87 : decode cX7_match 87 = .ok (.iconst 1, 1) := by decide +kernel
theorem dX7_match_88 : decode cX7_match 88 = .ok (.goto 22, 3) := by decide +kernel
theorem dX7_match_91 : decode cX7_match 91 = .ok (.iload_n 1, 1) := by decide +kernel
theorem dX7_match_92 : decode cX7_match 92 = .ok (.iload_n 2, 1) := by decide +kernel
theorem dX7_match_93 : decode cX7_match 93 = .ok (.if_icmp .ne 7, 3) := by decide +kernel
theorem dX7_match_96 : decode cX7_match 96 = .ok (.iconst 2, 1) := by decide +kernel
theorem dX7_match_97 : decode cX7_match 97 = .ok (.goto 13, 3) := by decide +kernel
theorem dX7_match_100 : decode cX7_match 100 = .ok (.iload 5, 2) := by decide +kernel
theorem dX7_match_102 : decode cX7_match 102 = .ok (.ifCond .eq 7, 3) := by decide +kernel
theorem dX7_match_105 : decode cX7_match 105 = .ok (.iconst 0, 1) := by decide +kernel
theorem dX7_match_106 : decode cX7_match 106 = .ok (.goto 4, 3) := by decide +kernel
theorem dX7_match_109 : decode cX7_match 109 = .ok (.iconst 3, 1) := by decide +kernel
theorem dX7_match_110 : decode cX7_match 110 = .ok (.invokevirtual 93, 3) := by decide +kernel
theorem dX7_match_113 : decode cX7_match 113 = .ok (.ifCond .eq 5, 3) := by decide +kernel
theorem dX7_match_116 : decode cX7_match 116 = .ok (.iconst 0, 1) := by decide +kernel
theorem dX7_match_117 : decode cX7_match 117 = .ok (.ireturn, 1) := by decide +kernel
theorem dX7_match_118 : decode cX7_match 118 = .ok (.aload_n 0, 1) := by decide +kernel
theorem dX7_match_119 : decode cX7_match 119 = .ok (.getfield 22, 3) := by decide +kernel
theorem dX7_match_122 : decode cX7_match 122 = .ok (.aload_n 0, 1) := by decide +kernel
theorem dX7_match_123 : decode cX7_match 123 = .ok (.getfield 97, 3) := by decide +kernel
theorem dX7_match_126 : decode cX7_match 126 = .ok (.iload_n 1, 1) := by decide +kernel
theorem dX7_match_127 : decode cX7_match 127 = .ok (.iastore, 1) := by decide +kernel
theorem dX7_match_128 : decode cX7_match 128 = .ok (.aload_n 0, 1) := by decide +kernel
theorem dX7_match_129 : decode cX7_match 129 = .ok (.getfield 25, 3) := by decide +kernel
theorem dX7_match_132 : decode cX7_match 132 = .ok (.aload_n 0, 1) := by decide +kernel
theorem dX7_match_133 : decode cX7_match 133 = .ok (.getfield 97, 3) := by decide +kernel
theorem dX7_match_136 : decode cX7_match 136 = .ok (.iload_n 2, 1) := by decide +kernel
theorem dX7_match_137 : decode cX7_match 137 = .ok (.iastore, 1) := by decide +kernel
theorem dX7_match_138 : decode cX7_match 138 = .ok (.aload_n 0, 1) := by decide +kernel
theorem dX7_match_139 : decode cX7_match 139 = .ok (.getfield 28, 3) := by decide +kernel
theorem dX7_match_142 : decode cX7_match 142 = .ok (.aload_n 0, 1) := by decide +kernel
theorem dX7_match_143 : decode cX7_match 143 = .ok (.getfield 97, 3) := by decide +kernel
theorem dX7_match_146 : decode cX7_match 146 = .ok (.iload_n 3, 1) := by decide +kernel
theorem dX7_match_147 : decode cX7_match 147 = .ok (.iastore, 1) := by decide +kernel
theorem dX7_match_148 : decode cX7_match 148 = .ok (.aload_n 0, 1) := by decide +kernel
theorem dX7_match_149 : decode cX7_match 149 = .ok (.getfield 31, 3) := by decide +kernel
theorem dX7_match_152 : decode cX7_match 152 = .ok (.aload_n 0, 1) := by decide +kernel
theorem dX7_match_153 : decode cX7_match 153 = .ok (.getfield 97, 3) := by decide +kernel
theorem dX7_match_156 : decode cX7_match 156 = .ok (.aload_n 0, 1) := by decide +kernel
theorem dX7_match_157 : decode cX7_match 157 = .ok (.getfield 90, 3) := by decide +kernel
theorem dX7_match_160 : decode cX7_match 160 = .ok (.iastore, 1) := by decide +kernel
theorem dX7_match_161 : decode cX7_match 161 = .ok (.aload_n 0, 1) := by decide +kernel
theorem dX7_match_162 : decode cX7_match 162 = .ok (.getfield 34, 3) := by decide +kernel
theorem dX7_match_165 : decode cX7_match 165 = .ok (.aload_n 0, 1) := by decide +kernel
theorem dX7_match_166 : decode cX7_match 166 = .ok (.getfield 97, 3) := by decide +kernel
theorem dX7_match_169 : decode cX7_match 169 = .ok (.aload_n 0, 1) := by decide +kernel
theorem dX7_match_170 : decode cX7_match 170 = .ok (.getfield 113, 3) := by decide +kernel
theorem dX7_match_173 : decode cX7_match 173 = .ok (.iastore, 1) := by decide +kernel
theorem dX7_match_174 : decode cX7_match 174 = .ok (.aload_n 0, 1) := by decide +kernel
theorem dX7_match_175 : decode cX7_match 175 = .ok (.dup, 1) := by decide +kernel
theorem dX7_match_176 : decode cX7_match 176 = .ok (.getfield 97, 3) := by decide +kernel
theorem dX7_match_179 : decode cX7_match 179 = .ok (.iconst 1, 1) := by decide +kernel
theorem dX7_match_180 : decode cX7_match 180 = .ok (.iadd, 1) := by decide +kernel
theorem dX7_match_181 : decode cX7_match 181 = .ok (.putfield 97, 3) := by decide +kernel
theorem dX7_match_184 : decode cX7_match 184 = .ok (.aload_n 0, 1) := by decide +kernel
theorem dX7_match_185 : decode cX7_match 185 = .ok (.getfield 97, 3) := by decide +kernel
theorem dX7_match_188 : decode cX7_match 188 = .ok (.iconst 1, 1) := by decide +kernel
theorem dX7_match_189 : decode cX7_match 189 = .ok (.isub, 1) := by decide +kernel
theorem dX7_match_190 : decode cX7_match 190 = .ok (.ireturn, 1) := by decide +kernel
theorem dX7_isGood_0 : decode cX7_isGood 0 = .ok (.aload_n 0, 1) := by decide +kernel
theorem dX7_isGood_1 : decode cX7_isGood 1 = .ok (.getfield 7, 3) := by decide +kernel
theorem dX7_isGood_4 : decode cX7_isGood 4 = .ok (.aload_n 0, 1) := by decide +kernel
theorem dX7_isGood_5 : decode cX7_isGood 5 = .ok (.getfield 22, 3) := by decide +kernel
theorem dX7_isGood_8 : decode cX7_isGood 8 = .ok (.iload_n 1, 1) := by decide +kernel
theorem dX7_isGood_9 : decode cX7_isGood 9 = .ok (.iaload, 1) := by decide +kernel
theorem dX7_isGood_10 : decode cX7_isGood 10 = .ok (.iaload, 1) := by decide +kernel
theorem dX7_isGood_11 : decode cX7_isGood 11 = .ok (.istore_n 2, 1) := by decide +kernel
theorem dX7_isGood_12 : decode cX7_isGood 12 = .ok (.iload_n 2, 1) := by decide +kernel
theorem dX7_isGood_13 : decode cX7_isGood 13 = .ok (.iconst (-1), 1) := by decide +kernel
theorem dX7_isGood_14 : decode cX7_isGood 14 = .ok (.if_icmp .eq 13, 3) := by decide +kernel
theorem dX7_isGood_17 : decode cX7_isGood 17 = .ok (.iload_n 2, 1) := by decide +kernel
theorem dX7_isGood_18 : decode cX7_isGood 18 = .ok (.aload_n 0, 1) := by decide +kernel
theorem dX7_isGood_19 : decode cX7_isGood 19 = .ok (.getfield 31, 3) := by decide +kernel
theorem dX7_isGood_22 : decode cX7_isGood 22 = .ok (.iload_n 1, 1) := by decide +kernel
theorem dX7_isGood_23 : decode cX7_isGood 23 = .ok (.iaload, 1) := by decide +kernel
theorem dX7_isGood_24 : decode cX7_isGood 24 = .ok (.if_icmp .le 7, 3) := by decide +kernel
theorem dX7_isGood_27 : decode cX7_isGood 27 = .ok (.iconst 1, 1) := by decide +kernel
theorem dX7_isGood_28 : decode cX7_isGood 28 = .ok (.goto 4, 3) := by decide +kernel
theorem dX7_isGood_31 : decode cX7_isGood 31 = .ok (.iconst 0, 1) := by decide +kernel
theorem dX7_isGood_32 : decode cX7_isGood 32 = .ok (.ireturn, 1) := by decide +kernel
theorem dX7_counts_0 : decode cX7_counts 0 = .ok (.iconst 0, 1) := by decide +kernel
theorem dX7_counts_1 : decode cX7_counts 1 = .ok (.istore_n 2, 1) := by decide +kernel
theorem dX7_counts_2 : decode cX7_counts 2 = .ok (.iload_n 2, 1) := by decide +kernel
theorem dX7_counts_3 : decode cX7_counts 3 = .ok (.aload_n 0, 1) := by decide +kernel
theorem dX7_counts_4 : decode cX7_counts 4 = .ok (.getfield 83, 3) := by decide +kernel
theorem dX7_counts_7 : decode cX7_counts 7 = .ok (.if_icmp .ge 23, 3) := by decide +kernel
theorem dX7_counts_10 : decode cX7_counts 10 = .ok (.aload_n 0, 1) := by decide +kernel
theorem dX7_counts_11 : decode cX7_counts 11 = .ok (.getfield 70, 3) := by decide +kernel
theorem dX7_counts_14 : decode cX7_counts 14 = .ok (.iload_n 2, 1) := by decide +kernel
theorem dX7_counts_15 : decode cX7_counts 15 = .ok (.iconst 0, 1) := by decide +kernel
theorem dX7_counts_16 : decode cX7_counts 16 = .ok (.iastore, 1) := by decide +kernel
theorem dX7_counts_17 : decode cX7_counts 17 = .ok (.aload_n 0, 1) := by decide +kernel
theorem dX7_counts_18 : decode cX7_counts 18 = .ok (.getfield 73, 3) := by decide +kernel
theorem dX7_counts_21 : decode cX7_counts 21 = .ok (.iload_n 2, 1) := by decide +kernel
theorem dX7_counts_22 : decode cX7_counts 22 = .ok (.iconst 0, 1) := by decide +kernel
theorem dX7_counts_23 : decode cX7_counts 23 = .ok (.iastore, 1) := by decide +kernel
theorem dX7_counts_24 : decode cX7_counts 24 = .ok (.iinc 2 1, 3) := by decide +kernel
theorem dX7_counts_27 : decode cX7_counts 27 = .ok (.goto (-25), 3) := by decide +kernel
theorem dX7_counts_30 : decode cX7_counts 30 = .ok (.iconst 0, 1) := by decide +kernel
theorem dX7_counts_31 : decode cX7_counts 31 = .ok (.istore_n 2, 1) := by decide +kernel
theorem dX7_counts_32 : decode cX7_counts 32 = .ok (.iload_n 2, 1) := by decide +kernel
theorem dX7_counts_33 : decode cX7_counts 33 = .ok (.aload_n 0, 1) := by decide +kernel
theorem dX7_counts_34 : decode cX7_counts 34 = .ok (.getfield 97, 3) := by decide +kernel
theorem dX7_counts_37 : decode cX7_counts 37 = .ok (.if_icmp .ge 87, 3) := by decide +kernel
theorem dX7_counts_40 : decode cX7_counts 40 = .ok (.aload_n 0, 1) := by decide +kernel
theorem dX7_counts_41 : decode cX7_counts 41 = .ok (.getfield 34, 3) := by decide +kernel
theorem dX7_counts_44 : decode cX7_counts 44 = .ok (.iload_n 2, 1) := by decide +kernel
theorem dX7_counts_45 : decode cX7_counts 45 = .ok (.iaload, 1) := by decide +kernel
theorem dX7_counts_46 : decode cX7_counts 46 = .ok (.iload_n 1, 1) := by decide +kernel
theorem dX7_counts_47 : decode cX7_counts 47 = .ok (.if_icmp .ne 71, 3) := by decide +kernel
theorem dX7_counts_50 : decode cX7_counts 50 = .ok (.aload_n 0, 1) := by decide +kernel
theorem dX7_counts_51 : decode cX7_counts 51 = .ok (.iload_n 2, 1) := by decide +kernel
theorem dX7_counts_52 : decode cX7_counts 52 = .ok (.invokevirtual 116, 3) := by decide +kernel
theorem dX7_counts_55 : decode cX7_counts 55 = .ok (.ifCond .eq 63, 3) := by decide +kernel
theorem dX7_counts_58 : decode cX7_counts 58 = .ok (.aload_n 0, 1) := by decide +kernel
theorem dX7_counts_59 : decode cX7_counts 59 = .ok (.getfield 70, 3) := by decide +kernel
theorem dX7_counts_62 : decode cX7_counts 62 = .ok (.aload_n 0, 1) := by decide +kernel
theorem dX7_counts_63 : decode cX7_counts 63 = .ok (.getfield 22, 3) := by decide +kernel
theorem dX7_counts_66 : decode cX7_counts 66 = .ok (.iload_n 2, 1) := by decide +kernel
theorem dX7_counts_67 : decode cX7_counts 67 = .ok (.iaload, 1) := by decide +kernel
theorem dX7_counts_68 : decode cX7_counts 68 = .ok (.dup2, 1) := by decide +kernel
theorem dX7_counts_69 : decode cX7_counts 69 = .ok (.iaload, 1) := by decide +kernel
theorem dX7_counts_70 : decode cX7_counts 70 = .ok (.iconst 3, 1) := by decide +kernel
theorem dX7_counts_71 : decode cX7_counts 71 = .ok (.iadd, 1) := by decide +kernel
theorem dX7_counts_72 : decode cX7_counts 72 = .ok (.iastore, 1) := by decide +kernel
theorem dX7_counts_73 : decode cX7_counts 73 = .ok (.aload_n 0, 1) := by decide +kernel
theorem dX7_counts_74 : decode cX7_counts 74 = .ok (.getfield 70, 3) := by decide +kernel
theorem dX7_counts_77 : decode cX7_counts 77 = .ok (.aload_n 0, 1) := by decide +kernel
theorem dX7_counts_78 : decode cX7_counts 78 = .ok (.getfield 25, 3) := by decide +kernel
theorem dX7_counts_81 : decode cX7_counts 81 = .ok (.iload_n 2, 1) := by decide +kernel
theorem dX7_counts_82 : decode cX7_counts 82 = .ok (.iaload, 1) := by decide +kernel
theorem dX7_counts_83 : decode cX7_counts 83 = .ok (.dup2, 1) := by decide +kernel
theorem dX7_counts_84 : decode cX7_counts 84 = .ok (.iaload, 1) := by decide +kernel
theorem dX7_counts_85 : decode cX7_counts 85 = .ok (.iconst 1, 1) := by decide +kernel
theorem dX7_counts_86 : decode cX7_counts 86 = .ok (.iadd, 1) := by decide +kernel
theorem dX7_counts_87 : decode cX7_counts 87 = .ok (.iastore, 1) := by decide +kernel
theorem dX7_counts_88 : decode cX7_counts 88 = .ok (.aload_n 0, 1) := by decide +kernel
theorem dX7_counts_89 : decode cX7_counts 89 = .ok (.getfield 73, 3) := by decide +kernel
theorem dX7_counts_92 : decode cX7_counts 92 = .ok (.aload_n 0, 1) := by decide +kernel
theorem dX7_counts_93 : decode cX7_counts 93 = .ok (.getfield 22, 3) := by decide +kernel
theorem dX7_counts_96 : decode cX7_counts 96 = .ok (.iload_n 2, 1) := by decide +kernel
theorem dX7_counts_97 : decode cX7_counts 97 = .ok (.iaload, 1) := by decide +kernel
theorem dX7_counts_98 : decode cX7_counts 98 = .ok (.dup2, 1) := by decide +kernel
theorem dX7_counts_99 : decode cX7_counts 99 = .ok (.iaload, 1) := by decide +kernel
theorem dX7_counts_100 : decode cX7_counts 100 = .ok (.iconst 1, 1) := by decide +kernel
theorem dX7_counts_101 : decode cX7_counts 101 = .ok (.iadd, 1) := by decide +kernel
theorem dX7_counts_102 : decode cX7_counts 102 = .ok (.iastore, 1) := by decide +kernel
theorem dX7_counts_103 : decode cX7_counts 103 = .ok (.aload_n 0, 1) := by decide +kernel
theorem dX7_counts_104 : decode cX7_counts 104 = .ok (.getfield 73, 3) := by decide +kernel
theorem dX7_counts_107 : decode cX7_counts 107 = .ok (.aload_n 0, 1) := by decide +kernel
theorem dX7_counts_108 : decode cX7_counts 108 = .ok (.getfield 25, 3) := by decide +kernel
theorem dX7_counts_111 : decode cX7_counts 111 = .ok (.iload_n 2, 1) := by decide +kernel
theorem dX7_counts_112 : decode cX7_counts 112 = .ok (.iaload, 1) := by decide +kernel
theorem dX7_counts_113 : decode cX7_counts 113 = .ok (.dup2, 1) := by decide +kernel
theorem dX7_counts_114 : decode cX7_counts 114 = .ok (.iaload, 1) := by decide +kernel
theorem dX7_counts_115 : decode cX7_counts 115 = .ok (.iconst 1, 1) := by decide +kernel
theorem dX7_counts_116 : decode cX7_counts 116 = .ok (.iadd, 1) := by decide +kernel
theorem dX7_counts_117 : decode cX7_counts 117 = .ok (.iastore, 1) := by decide +kernel
theorem dX7_counts_118 : decode cX7_counts 118 = .ok (.iinc 2 1, 3) := by decide +kernel
theorem dX7_counts_121 : decode cX7_counts 121 = .ok (.goto (-89), 3) := by decide +kernel
theorem dX7_counts_124 : decode cX7_counts 124 = .ok (.return_, 1) := by decide +kernel
theorem dX7_isAhead_0 : decode cX7_isAhead 0 = .ok (.aload_n 0, 1) := by decide +kernel
theorem dX7_isAhead_1 : decode cX7_isAhead 1 = .ok (.getfield 70, 3) := by decide +kernel
theorem dX7_isAhead_4 : decode cX7_isAhead 4 = .ok (.iload_n 1, 1) := by decide +kernel
theorem dX7_isAhead_5 : decode cX7_isAhead 5 = .ok (.iaload, 1) := by decide +kernel
theorem dX7_isAhead_6 : decode cX7_isAhead 6 = .ok (.aload_n 0, 1) := by decide +kernel
theorem dX7_isAhead_7 : decode cX7_isAhead 7 = .ok (.getfield 70, 3) := by decide +kernel
theorem dX7_isAhead_10 : decode cX7_isAhead 10 = .ok (.iload_n 2, 1) := by decide +kernel
theorem dX7_isAhead_11 : decode cX7_isAhead 11 = .ok (.iaload, 1) := by decide +kernel
theorem dX7_isAhead_12 : decode cX7_isAhead 12 = .ok (.if_icmp .eq 24, 3) := by decide +kernel
theorem dX7_isAhead_15 : decode cX7_isAhead 15 = .ok (.aload_n 0, 1) := by decide +kernel
theorem dX7_isAhead_16 : decode cX7_isAhead 16 = .ok (.getfield 70, 3) := by decide +kernel
theorem dX7_isAhead_19 : decode cX7_isAhead 19 = .ok (.iload_n 1, 1) := by decide +kernel
theorem dX7_isAhead_20 : decode cX7_isAhead 20 = .ok (.iaload, 1) := by decide +kernel
theorem dX7_isAhead_21 : decode cX7_isAhead 21 = .ok (.aload_n 0, 1) := by decide +kernel
theorem dX7_isAhead_22 : decode cX7_isAhead 22 = .ok (.getfield 70, 3) := by decide +kernel
theorem dX7_isAhead_25 : decode cX7_isAhead 25 = .ok (.iload_n 2, 1) := by decide +kernel
theorem dX7_isAhead_26 : decode cX7_isAhead 26 = .ok (.iaload, 1) := by decide +kernel
theorem dX7_isAhead_27 : decode cX7_isAhead 27 = .ok (.if_icmp .le 7, 3) := by decide +kernel
theorem dX7_isAhead_30 : decode cX7_isAhead 30 = .ok (.iconst 1, 1) := by decide +kernel
theorem dX7_isAhead_31 : decode cX7_isAhead 31 = .ok (.goto 4, 3) := by decide +kernel
theorem dX7_isAhead_34 : decode cX7_isAhead 34 = .ok (.iconst 0, 1) := by decide +kernel
theorem dX7_isAhead_35 : decode cX7_isAhead 35 = .ok (.ireturn, 1) := by decide +kernel
theorem dX7_isAhead_36 : decode cX7_isAhead 36 = .ok (.aload_n 0, 1) := by decide +kernel
theorem dX7_isAhead_37 : decode cX7_isAhead 37 = .ok (.getfield 73, 3) := by decide +kernel
theorem dX7_isAhead_40 : decode cX7_isAhead 40 = .ok (.iload_n 1, 1) := by decide +kernel
theorem dX7_isAhead_41 : decode cX7_isAhead 41 = .ok (.iaload, 1) := by decide +kernel
theorem dX7_isAhead_42 : decode cX7_isAhead 42 = .ok (.aload_n 0, 1) := by decide +kernel
theorem dX7_isAhead_43 : decode cX7_isAhead 43 = .ok (.getfield 73, 3) := by decide +kernel
theorem dX7_isAhead_46 : decode cX7_isAhead 46 = .ok (.iload_n 2, 1) := by decide +kernel
theorem dX7_isAhead_47 : decode cX7_isAhead 47 = .ok (.iaload, 1) := by decide +kernel
theorem dX7_isAhead_48 : decode cX7_isAhead 48 = .ok (.if_icmp .lt 23, 3) := by decide +kernel
theorem dX7_isAhead_51 : decode cX7_isAhead 51 = .ok (.aload_n 0, 1) := by decide +kernel
theorem dX7_isAhead_52 : decode cX7_isAhead 52 = .ok (.getfield 73, 3) := by decide +kernel
theorem dX7_isAhead_55 : decode cX7_isAhead 55 = .ok (.iload_n 1, 1) := by decide +kernel
theorem dX7_isAhead_56 : decode cX7_isAhead 56 = .ok (.iaload, 1) := by decide +kernel
theorem dX7_isAhead_57 : decode cX7_isAhead 57 = .ok (.aload_n 0, 1) := by decide +kernel
theorem dX7_isAhead_58 : decode cX7_isAhead 58 = .ok (.getfield 73, 3) := by decide +kernel
theorem dX7_isAhead_61 : decode cX7_isAhead 61 = .ok (.iload_n 2, 1) := by decide +kernel
theorem dX7_isAhead_62 : decode cX7_isAhead 62 = .ok (.iaload, 1) := by decide +kernel
theorem dX7_isAhead_63 : decode cX7_isAhead 63 = .ok (.if_icmp .ne 12, 3) := by decide +kernel
theorem dX7_isAhead_66 : decode cX7_isAhead 66 = .ok (.iload_n 1, 1) := by decide +kernel
theorem dX7_isAhead_67 : decode cX7_isAhead 67 = .ok (.iload_n 2, 1) := by decide +kernel
theorem dX7_isAhead_68 : decode cX7_isAhead 68 = .ok (.if_icmp .ge 7, 3) := by decide +kernel
theorem dX7_isAhead_71 : decode cX7_isAhead 71 = .ok (.iconst 1, 1) := by decide +kernel
theorem dX7_isAhead_72 : decode cX7_isAhead 72 = .ok (.goto 4, 3) := by decide +kernel
theorem dX7_isAhead_75 : decode cX7_isAhead 75 = .ok (.iconst 0, 1) := by decide +kernel
theorem dX7_isAhead_76 : decode cX7_isAhead 76 = .ok (.ireturn, 1) := by decide +kernel
theorem dX7_placeOf_0 : decode cX7_placeOf 0 = .ok (.iconst 1, 1) := by decide +kernel
theorem dX7_placeOf_1 : decode cX7_placeOf 1 = .ok (.istore_n 2, 1) := by decide +kernel
theorem dX7_placeOf_2 : decode cX7_placeOf 2 = .ok (.iconst 0, 1) := by decide +kernel
theorem dX7_placeOf_3 : decode cX7_placeOf 3 = .ok (.istore_n 3, 1) := by decide +kernel
theorem dX7_placeOf_4 : decode cX7_placeOf 4 = .ok (.iload_n 3, 1) := by decide +kernel
theorem dX7_placeOf_5 : decode cX7_placeOf 5 = .ok (.aload_n 0, 1) := by decide +kernel
theorem dX7_placeOf_6 : decode cX7_placeOf 6 = .ok (.getfield 83, 3) := by decide +kernel
theorem dX7_placeOf_9 : decode cX7_placeOf 9 = .ok (.if_icmp .ge 40, 3) := by decide +kernel
theorem dX7_placeOf_12 : decode cX7_placeOf 12 = .ok (.iload_n 2, 1) := by decide +kernel
theorem dX7_placeOf_13 : decode cX7_placeOf 13 = .ok (.iload_n 3, 1) := by decide +kernel
theorem dX7_placeOf_14 : decode cX7_placeOf 14 = .ok (.iload_n 1, 1) := by decide +kernel
theorem dX7_placeOf_15 : decode cX7_placeOf 15 = .ok (.if_icmp .eq 25, 3) := by decide +kernel
theorem dX7_placeOf_18 : decode cX7_placeOf 18 = .ok (.aload_n 0, 1) := by decide +kernel
theorem dX7_placeOf_19 : decode cX7_placeOf 19 = .ok (.getfield 70, 3) := by decide +kernel
theorem dX7_placeOf_22 : decode cX7_placeOf 22 = .ok (.iload_n 3, 1) := by decide +kernel
theorem dX7_placeOf_23 : decode cX7_placeOf 23 = .ok (.iaload, 1) := by decide +kernel
theorem dX7_placeOf_24 : decode cX7_placeOf 24 = .ok (.ifCond .le 16, 3) := by decide +kernel
theorem dX7_placeOf_27 : decode cX7_placeOf 27 = .ok (.aload_n 0, 1) := by decide +kernel
theorem dX7_placeOf_28 : decode cX7_placeOf 28 = .ok (.iload_n 3, 1) := by decide +kernel
theorem dX7_placeOf_29 : decode cX7_placeOf 29 = .ok (.iload_n 1, 1) := by decide +kernel
theorem dX7_placeOf_30 : decode cX7_placeOf 30 = .ok (.invokevirtual 119, 3) := by decide +kernel
theorem dX7_placeOf_33 : decode cX7_placeOf 33 = .ok (.ifCond .eq 7, 3) := by decide +kernel
theorem dX7_placeOf_36 : decode cX7_placeOf 36 = .ok (.iconst 1, 1) := by decide +kernel
theorem dX7_placeOf_37 : decode cX7_placeOf 37 = .ok (.goto 4, 3) := by decide +kernel
theorem dX7_placeOf_40 : decode cX7_placeOf 40 = .ok (.iconst 0, 1) := by decide +kernel
theorem dX7_placeOf_41 : decode cX7_placeOf 41 = .ok (.iadd, 1) := by decide +kernel
theorem dX7_placeOf_42 : decode cX7_placeOf 42 = .ok (.istore_n 2, 1) := by decide +kernel
theorem dX7_placeOf_43 : decode cX7_placeOf 43 = .ok (.iinc 3 1, 3) := by decide +kernel
theorem dX7_placeOf_46 : decode cX7_placeOf 46 = .ok (.goto (-42), 3) := by decide +kernel
theorem dX7_placeOf_49 : decode cX7_placeOf 49 = .ok (.aload_n 0, 1) := by decide +kernel
theorem dX7_placeOf_50 : decode cX7_placeOf 50 = .ok (.getfield 70, 3) := by decide +kernel
theorem dX7_placeOf_53 : decode cX7_placeOf 53 = .ok (.iload_n 1, 1) := by decide +kernel
theorem dX7_placeOf_54 : decode cX7_placeOf 54 = .ok (.iaload, 1) := by decide +kernel
theorem dX7_placeOf_55 : decode cX7_placeOf 55 = .ok (.ifCond .ne 7, 3) := by decide +kernel
theorem dX7_placeOf_58 : decode cX7_placeOf 58 = .ok (.iconst 0, 1) := by decide +kernel
theorem dX7_placeOf_59 : decode cX7_placeOf 59 = .ok (.goto 4, 3) := by decide +kernel
theorem dX7_placeOf_62 : decode cX7_placeOf 62 = .ok (.iload_n 2, 1) := by decide +kernel
theorem dX7_placeOf_63 : decode cX7_placeOf 63 = .ok (.ireturn, 1) := by decide +kernel
theorem dX7_who_0 : decode cX7_who 0 = .ok (.iconst (-1), 1) := by decide +kernel
theorem dX7_who_1 : decode cX7_who 1 = .ok (.istore_n 2, 1) := by decide +kernel
theorem dX7_who_2 : decode cX7_who 2 = .ok (.iconst 0, 1) := by decide +kernel
theorem dX7_who_3 : decode cX7_who 3 = .ok (.istore_n 3, 1) := by decide +kernel
theorem dX7_who_4 : decode cX7_who 4 = .ok (.iload_n 3, 1) := by decide +kernel
theorem dX7_who_5 : decode cX7_who 5 = .ok (.aload_n 0, 1) := by decide +kernel
theorem dX7_who_6 : decode cX7_who 6 = .ok (.getfield 83, 3) := by decide +kernel
theorem dX7_who_9 : decode cX7_who 9 = .ok (.if_icmp .ge 24, 3) := by decide +kernel
theorem dX7_who_12 : decode cX7_who 12 = .ok (.aload_n 0, 1) := by decide +kernel
theorem dX7_who_13 : decode cX7_who 13 = .ok (.iload_n 3, 1) := by decide +kernel
theorem dX7_who_14 : decode cX7_who 14 = .ok (.invokevirtual 123, 3) := by decide +kernel
theorem dX7_who_17 : decode cX7_who 17 = .ok (.iload_n 1, 1) := by decide +kernel
theorem dX7_who_18 : decode cX7_who 18 = .ok (.if_icmp .ne 7, 3) := by decide +kernel
theorem dX7_who_21 : decode cX7_who 21 = .ok (.iload_n 3, 1) := by decide +kernel
theorem dX7_who_22 : decode cX7_who 22 = .ok (.goto 4, 3) := by decide +kernel
theorem dX7_who_25 : decode cX7_who 25 = .ok (.iload_n 2, 1) := by decide +kernel
theorem dX7_who_26 : decode cX7_who 26 = .ok (.istore_n 2, 1) := by decide +kernel
theorem dX7_who_27 : decode cX7_who 27 = .ok (.iinc 3 1, 3) := by decide +kernel
theorem dX7_who_30 : decode cX7_who 30 = .ok (.goto (-26), 3) := by decide +kernel
theorem dX7_who_33 : decode cX7_who 33 = .ok (.iload_n 2, 1) := by decide +kernel
theorem dX7_who_34 : decode cX7_who 34 = .ok (.ireturn, 1) := by decide +kernel
theorem dX7_end_0 : decode cX7_end 0 = .ok (.aload_n 0, 1) := by decide +kernel
theorem dX7_end_1 : decode cX7_end 1 = .ok (.aload_n 0, 1) := by decide +kernel
theorem dX7_end_2 : decode cX7_end 2 = .ok (.getfield 113, 3) := by decide +kernel
theorem dX7_end_5 : decode cX7_end 5 = .ok (.bipush 11, 2) := by decide +kernel
theorem dX7_end_7 : decode cX7_end 7 = .ok (.if_icmp .ne 7, 3) := by decide +kernel
theorem dX7_end_10 : decode cX7_end 10 = .ok (.iconst 1, 1) := by decide +kernel
theorem dX7_end_11 : decode cX7_end 11 = .ok (.goto 4, 3) := by decide +kernel
theorem dX7_end_14 : decode cX7_end 14 = .ok (.iconst 0, 1) := by decide +kernel
theorem dX7_end_15 : decode cX7_end 15 = .ok (.invokevirtual 93, 3) := by decide +kernel
theorem dX7_end_18 : decode cX7_end 18 = .ok (.ifCond .eq 5, 3) := by decide +kernel
theorem dX7_end_21 : decode cX7_end 21 = .ok (.iconst 0, 1) := by decide +kernel
theorem dX7_end_22 : decode cX7_end 22 = .ok (.ireturn, 1) := by decide +kernel
theorem dX7_end_23 : decode cX7_end 23 = .ok (.aload_n 0, 1) := by decide +kernel
theorem dX7_end_24 : decode cX7_end 24 = .ok (.aload_n 0, 1) := by decide +kernel
theorem dX7_end_25 : decode cX7_end 25 = .ok (.getfield 113, 3) := by decide +kernel
theorem dX7_end_28 : decode cX7_end 28 = .ok (.invokevirtual 126, 3) := by decide +kernel
theorem dX7_end_31 : decode cX7_end 31 = .ok (.iconst 0, 1) := by decide +kernel
theorem dX7_end_32 : decode cX7_end 32 = .ok (.istore_n 1, 1) := by decide +kernel
theorem dX7_end_33 : decode cX7_end 33 = .ok (.iconst 1, 1) := by decide +kernel
theorem dX7_end_34 : decode cX7_end 34 = .ok (.istore_n 2, 1) := by decide +kernel
theorem dX7_end_35 : decode cX7_end 35 = .ok (.iload_n 2, 1) := by decide +kernel
theorem dX7_end_36 : decode cX7_end 36 = .ok (.iconst 3, 1) := by decide +kernel
theorem dX7_end_37 : decode cX7_end 37 = .ok (.if_icmp .gt 106, 3) := by decide +kernel
theorem dX7_end_40 : decode cX7_end 40 = .ok (.aload_n 0, 1) := by decide +kernel
theorem dX7_end_41 : decode cX7_end 41 = .ok (.iload_n 2, 1) := by decide +kernel
theorem dX7_end_42 : decode cX7_end 42 = .ok (.invokevirtual 130, 3) := by decide +kernel
theorem dX7_end_45 : decode cX7_end 45 = .ok (.istore_n 3, 1) := by decide +kernel
theorem dX7_end_46 : decode cX7_end 46 = .ok (.iload_n 3, 1) := by decide +kernel
theorem dX7_end_47 : decode cX7_end 47 = .ok (.iconst (-1), 1) := by decide +kernel
theorem dX7_end_48 : decode cX7_end 48 = .ok (.if_icmp .eq 89, 3) := by decide +kernel
theorem dX7_end_51 : decode cX7_end 51 = .ok (.aload_n 0, 1) := by decide +kernel
theorem dX7_end_52 : decode cX7_end 52 = .ok (.getfield 37, 3) := by decide +kernel
theorem dX7_end_55 : decode cX7_end 55 = .ok (.aload_n 0, 1) := by decide +kernel
theorem dX7_end_56 : decode cX7_end 56 = .ok (.getfield 133, 3) := by decide +kernel
theorem dX7_end_59 : decode cX7_end 59 = .ok (.aload_n 0, 1) := by decide +kernel
theorem dX7_end_60 : decode cX7_end 60 = .ok (.getfield 113, 3) := by decide +kernel
theorem dX7_end_63 : decode cX7_end 63 = .ok (.iastore, 1) := by decide +kernel
theorem dX7_end_64 : decode cX7_end 64 = .ok (.aload_n 0, 1) := by decide +kernel
theorem dX7_end_65 : decode cX7_end 65 = .ok (.getfield 40, 3) := by decide +kernel
theorem dX7_end_68 : decode cX7_end 68 = .ok (.aload_n 0, 1) := by decide +kernel
theorem dX7_end_69 : decode cX7_end 69 = .ok (.getfield 133, 3) := by decide +kernel
theorem dX7_end_72 : decode cX7_end 72 = .ok (.iload_n 2, 1) := by decide +kernel
theorem dX7_end_73 : decode cX7_end 73 = .ok (.iastore, 1) := by decide +kernel
theorem dX7_end_74 : decode cX7_end 74 = .ok (.aload_n 0, 1) := by decide +kernel
theorem dX7_end_75 : decode cX7_end 75 = .ok (.getfield 43, 3) := by decide +kernel
theorem dX7_end_78 : decode cX7_end 78 = .ok (.aload_n 0, 1) := by decide +kernel
theorem dX7_end_79 : decode cX7_end 79 = .ok (.getfield 133, 3) := by decide +kernel
theorem dX7_end_82 : decode cX7_end 82 = .ok (.iload_n 3, 1) := by decide +kernel
theorem dX7_end_83 : decode cX7_end 83 = .ok (.iastore, 1) := by decide +kernel
theorem dX7_end_84 : decode cX7_end 84 = .ok (.aload_n 0, 1) := by decide +kernel
theorem dX7_end_85 : decode cX7_end 85 = .ok (.getfield 46, 3) := by decide +kernel
theorem dX7_end_88 : decode cX7_end 88 = .ok (.aload_n 0, 1) := by decide +kernel
theorem dX7_end_89 : decode cX7_end 89 = .ok (.getfield 133, 3) := by decide +kernel
theorem dX7_end_92 : decode cX7_end 92 = .ok (.iload_n 3, 1) := by decide +kernel
theorem dX7_end_93 : decode cX7_end 93 = .ok (.iastore, 1) := by decide +kernel
theorem dX7_end_94 : decode cX7_end 94 = .ok (.aload_n 0, 1) := by decide +kernel
theorem dX7_end_95 : decode cX7_end 95 = .ok (.getfield 49, 3) := by decide +kernel
theorem dX7_end_98 : decode cX7_end 98 = .ok (.aload_n 0, 1) := by decide +kernel
theorem dX7_end_99 : decode cX7_end 99 = .ok (.getfield 133, 3) := by decide +kernel
theorem dX7_end_102 : decode cX7_end 102 = .ok (.iconst (-1), 1) := by decide +kernel
theorem dX7_end_103 : decode cX7_end 103 = .ok (.iastore, 1) := by decide +kernel
theorem dX7_end_104 : decode cX7_end 104 = .ok (.aload_n 0, 1) := by decide +kernel
theorem dX7_end_105 : decode cX7_end 105 = .ok (.getfield 55, 3) := by decide +kernel
theorem dX7_end_108 : decode cX7_end 108 = .ok (.aload_n 0, 1) := by decide +kernel
theorem dX7_end_109 : decode cX7_end 109 = .ok (.getfield 133, 3) := by decide +kernel
theorem dX7_end_112 : decode cX7_end 112 = .ok (.iconst (-1), 1) := by decide +kernel
theorem dX7_end_113 : decode cX7_end 113 = .ok (.iastore, 1) := by decide +kernel
theorem dX7_end_114 : decode cX7_end 114 = .ok (.aload_n 0, 1) := by decide +kernel
theorem dX7_end_115 : decode cX7_end 115 = .ok (.getfield 58, 3) := by decide +kernel
theorem dX7_end_118 : decode cX7_end 118 = .ok (.aload_n 0, 1) := by decide +kernel
theorem dX7_end_119 : decode cX7_end 119 = .ok (.getfield 133, 3) := by decide +kernel
theorem dX7_end_122 : decode cX7_end 122 = .ok (.iconst 0, 1) := by decide +kernel
theorem dX7_end_123 : decode cX7_end 123 = .ok (.iastore, 1) := by decide +kernel
theorem dX7_end_124 : decode cX7_end 124 = .ok (.aload_n 0, 1) := by decide +kernel
theorem dX7_end_125 : decode cX7_end 125 = .ok (.dup, 1) := by decide +kernel
theorem dX7_end_126 : decode cX7_end 126 = .ok (.getfield 133, 3) := by decide +kernel
theorem dX7_end_129 : decode cX7_end 129 = .ok (.iconst 1, 1) := by decide +kernel
theorem dX7_end_130 : decode cX7_end 130 = .ok (.iadd, 1) := by decide +kernel
theorem dX7_end_131 : decode cX7_end 131 = .ok (.putfield 133, 3) := by decide +kernel
theorem dX7_end_134 : decode cX7_end 134 = .ok (.iinc 1 1, 3) := by decide +kernel
theorem dX7_end_137 : decode cX7_end 137 = .ok (.iinc 2 1, 3) := by decide +kernel
theorem dX7_end_140 : decode cX7_end 140 = .ok (.goto (-105), 3) := by decide +kernel
theorem dX7_end_143 : decode cX7_end 143 = .ok (.aload_n 0, 1) := by decide +kernel
theorem dX7_end_144 : decode cX7_end 144 = .ok (.dup, 1) := by decide +kernel
theorem dX7_end_145 : decode cX7_end 145 = .ok (.getfield 113, 3) := by decide +kernel
theorem dX7_end_148 : decode cX7_end 148 = .ok (.iconst 1, 1) := by decide +kernel
theorem dX7_end_149 : decode cX7_end 149 = .ok (.iadd, 1) := by decide +kernel
theorem dX7_end_150 : decode cX7_end 150 = .ok (.putfield 113, 3) := by decide +kernel
theorem dX7_end_153 : decode cX7_end 153 = .ok (.iload_n 1, 1) := by decide +kernel
theorem dX7_end_154 : decode cX7_end 154 = .ok (.ireturn, 1) := by decide +kernel
theorem dX7_isSkin_0 : decode cX7_isSkin 0 = .ok (.iload_n 1, 1) := by decide +kernel
theorem dX7_isSkin_1 : decode cX7_isSkin 1 = .ok (.iconst 0, 1) := by decide +kernel
theorem dX7_isSkin_2 : decode cX7_isSkin 2 = .ok (.aload_n 0, 1) := by decide +kernel
theorem dX7_isSkin_3 : decode cX7_isSkin 3 = .ok (.getfield 133, 3) := by decide +kernel
theorem dX7_isSkin_6 : decode cX7_isSkin 6 = .ok (.iconst 1, 1) := by decide +kernel
theorem dX7_isSkin_7 : decode cX7_isSkin 7 = .ok (.isub, 1) := by decide +kernel
theorem dX7_isSkin_8 : decode cX7_isSkin 8 = .ok (.invokestatic 86, 3) := by decide +kernel
theorem dX7_isSkin_11 : decode cX7_isSkin 11 = .ok (.ireturn, 1) := by decide +kernel
theorem dX7_sell_0 : decode cX7_sell 0 = .ok (.aload_n 0, 1) := by decide +kernel
theorem dX7_sell_1 : decode cX7_sell 1 = .ok (.iload_n 1, 1) := by decide +kernel
theorem dX7_sell_2 : decode cX7_sell 2 = .ok (.invokevirtual 136, 3) := by decide +kernel
theorem dX7_sell_5 : decode cX7_sell 5 = .ok (.ifCond .eq 15, 3) := by decide +kernel
theorem dX7_sell_8 : decode cX7_sell 8 = .ok (.aload_n 0, 1) := by decide +kernel
theorem dX7_sell_9 : decode cX7_sell 9 = .ok (.iload_n 2, 1) := by decide +kernel
theorem dX7_sell_10 : decode cX7_sell 10 = .ok (.invokevirtual 107, 3) := by decide +kernel
theorem dX7_sell_13 : decode cX7_sell 13 = .ok (.ifCond .eq 7, 3) := by decide +kernel
theorem dX7_sell_16 : decode cX7_sell 16 = .ok (.iconst 1, 1) := by decide +kernel
theorem dX7_sell_17 : decode cX7_sell 17 = .ok (.goto 4, 3) := by decide +kernel
theorem dX7_sell_20 : decode cX7_sell 20 = .ok (.iconst 0, 1) := by decide +kernel
theorem dX7_sell_21 : decode cX7_sell 21 = .ok (.istore 4, 2) := by decide +kernel
theorem dX7_sell_23 : decode cX7_sell 23 = .ok (.iload 4, 2) := by decide +kernel
theorem dX7_sell_25 : decode cX7_sell 25 = .ok (.ifCond .eq 59, 3) := by decide +kernel
theorem dX7_sell_28 : decode cX7_sell 28 = .ok (.aload_n 0, 1) := by decide +kernel
theorem dX7_sell_29 : decode cX7_sell 29 = .ok (.getfield 46, 3) := by decide +kernel
theorem dX7_sell_32 : decode cX7_sell 32 = .ok (.iload_n 1, 1) := by decide +kernel
theorem dX7_sell_33 : decode cX7_sell 33 = .ok (.iaload, 1) := by decide +kernel
theorem dX7_sell_34 : decode cX7_sell 34 = .ok (.iconst (-1), 1) := by decide +kernel
theorem dX7_sell_35 : decode cX7_sell 35 = .ok (.if_icmp .eq 49, 3) := by decide +kernel
theorem dX7_sell_38 : decode cX7_sell 38 = .ok (.aload_n 0, 1) := by decide +kernel
theorem dX7_sell_39 : decode cX7_sell 39 = .ok (.getfield 46, 3) := by decide +kernel
theorem dX7_sell_42 : decode cX7_sell 42 = .ok (.iload_n 1, 1) := by decide +kernel
theorem dX7_sell_43 : decode cX7_sell 43 = .ok (.iaload, 1) := by decide +kernel
theorem dX7_sell_44 : decode cX7_sell 44 = .ok (.iload_n 2, 1) := by decide +kernel
theorem dX7_sell_45 : decode cX7_sell 45 = .ok (.if_icmp .eq 39, 3) := by decide +kernel
theorem dX7_sell_48 : decode cX7_sell 48 = .ok (.aload_n 0, 1) := by decide +kernel
theorem dX7_sell_49 : decode cX7_sell 49 = .ok (.aload_n 0, 1) := by decide +kernel
theorem dX7_sell_50 : decode cX7_sell 50 = .ok (.getfield 46, 3) := by decide +kernel
theorem dX7_sell_53 : decode cX7_sell 53 = .ok (.iload_n 1, 1) := by decide +kernel
theorem dX7_sell_54 : decode cX7_sell 54 = .ok (.iaload, 1) := by decide +kernel
theorem dX7_sell_55 : decode cX7_sell 55 = .ok (.invokevirtual 110, 3) := by decide +kernel
theorem dX7_sell_58 : decode cX7_sell 58 = .ok (.ifCond .ne 26, 3) := by decide +kernel
theorem dX7_sell_61 : decode cX7_sell 61 = .ok (.aload_n 0, 1) := by decide +kernel
theorem dX7_sell_62 : decode cX7_sell 62 = .ok (.iload_n 2, 1) := by decide +kernel
theorem dX7_sell_63 : decode cX7_sell 63 = .ok (.invokevirtual 110, 3) := by decide +kernel
theorem dX7_sell_66 : decode cX7_sell 66 = .ok (.ifCond .ne 18, 3) := by decide +kernel
theorem dX7_sell_69 : decode cX7_sell 69 = .ok (.aload_n 0, 1) := by decide +kernel
theorem dX7_sell_70 : decode cX7_sell 70 = .ok (.getfield 58, 3) := by decide +kernel
theorem dX7_sell_73 : decode cX7_sell 73 = .ok (.iload_n 1, 1) := by decide +kernel
theorem dX7_sell_74 : decode cX7_sell 74 = .ok (.iaload, 1) := by decide +kernel
theorem dX7_sell_75 : decode cX7_sell 75 = .ok (.bipush 20, 2) := by decide +kernel
theorem dX7_sell_77 : decode cX7_sell 77 = .ok (.if_icmp .ge 7, 3) := by decide +kernel
theorem dX7_sell_80 : decode cX7_sell 80 = .ok (.iconst 1, 1) := by decide +kernel
theorem dX7_sell_81 : decode cX7_sell 81 = .ok (.goto 4, 3) := by decide +kernel
theorem dX7_sell_84 : decode cX7_sell 84 = .ok (.iconst 0, 1) := by decide +kernel
theorem dX7_sell_85 : decode cX7_sell 85 = .ok (.istore 5, 2) := by decide +kernel
theorem dX7_sell_87 : decode cX7_sell 87 = .ok (.aload_n 0, 1) := by decide +kernel
theorem dX7_sell_88 : decode cX7_sell 88 = .ok (.iload 4, 2) := by decide +kernel
theorem dX7_sell_90 : decode cX7_sell 90 = .ok (.ifCond .ne 7, 3) := by decide +kernel
theorem dX7_sell_93 : decode cX7_sell 93 = .ok (.iconst 1, 1) := by decide +kernel
theorem dX7_sell_94 : decode cX7_sell 94 = .ok (.goto 28, 3) := by decide +kernel
theorem dX7_sell_97 : decode cX7_sell 97 = .ok (.iload_n 3, 1) := by decide +kernel
theorem dX7_sell_98 : decode cX7_sell 98 = .ok (.iconst 0, 1) := by decide +kernel
theorem dX7_sell_99 : decode cX7_sell 99 = .ok (.sipush 10000, 3) := by decide +kernel
theorem dX7_sell_102 : decode cX7_sell 102 = .ok (.invokestatic 86, 3) := by decide +kernel
theorem dX7_sell_105 : decode cX7_sell 105 = .ok (.ifCond .ne 7, 3) := by decide +kernel
theorem dX7_sell_108 : decode cX7_sell 108 = .ok (.iconst 2, 1) := by decide +kernel
theorem dX7_sell_109 : decode cX7_sell 109 = .ok (.goto 13, 3) := by decide +kernel
theorem dX7_sell_112 : decode cX7_sell 112 = .ok (.iload 5, 2) := by decide +kernel
theorem dX7_sell_114 : decode cX7_sell 114 = .ok (.ifCond .eq 7, 3) := by decide +kernel
theorem dX7_sell_117 : decode cX7_sell 117 = .ok (.iconst 0, 1) := by decide +kernel
theorem dX7_sell_118 : decode cX7_sell 118 = .ok (.goto 4, 3) := by decide +kernel
theorem dX7_sell_121 : decode cX7_sell 121 = .ok (.iconst 3, 1) := by decide +kernel
theorem dX7_sell_122 : decode cX7_sell 122 = .ok (.invokevirtual 93, 3) := by decide +kernel
theorem dX7_sell_125 : decode cX7_sell 125 = .ok (.ifCond .eq 5, 3) := by decide +kernel
theorem dX7_sell_128 : decode cX7_sell 128 = .ok (.iconst 0, 1) := by decide +kernel
theorem dX7_sell_129 : decode cX7_sell 129 = .ok (.ireturn, 1) := by decide +kernel
theorem dX7_sell_130 : decode cX7_sell 130 = .ok (.aload_n 0, 1) := by decide +kernel
theorem dX7_sell_131 : decode cX7_sell 131 = .ok (.getfield 7, 3) := by decide +kernel
theorem dX7_sell_134 : decode cX7_sell 134 = .ok (.aload_n 0, 1) := by decide +kernel
theorem dX7_sell_135 : decode cX7_sell 135 = .ok (.getfield 46, 3) := by decide +kernel
theorem dX7_sell_138 : decode cX7_sell 138 = .ok (.iload_n 1, 1) := by decide +kernel
theorem dX7_sell_139 : decode cX7_sell 139 = .ok (.iaload, 1) := by decide +kernel
theorem dX7_sell_140 : decode cX7_sell 140 = .ok (.iaload, 1) := by decide +kernel
theorem dX7_sell_141 : decode cX7_sell 141 = .ok (.iconst (-1), 1) := by decide +kernel
theorem dX7_sell_142 : decode cX7_sell 142 = .ok (.if_icmp .ne 17, 3) := by decide +kernel
theorem dX7_sell_145 : decode cX7_sell 145 = .ok (.aload_n 0, 1) := by decide +kernel
theorem dX7_sell_146 : decode cX7_sell 146 = .ok (.getfield 7, 3) := by decide +kernel
theorem dX7_sell_149 : decode cX7_sell 149 = .ok (.iload_n 2, 1) := by decide +kernel
theorem dX7_sell_150 : decode cX7_sell 150 = .ok (.iaload, 1) := by decide +kernel
theorem dX7_sell_151 : decode cX7_sell 151 = .ok (.iconst (-1), 1) := by decide +kernel
theorem dX7_sell_152 : decode cX7_sell 152 = .ok (.if_icmp .ne 7, 3) := by decide +kernel
theorem dX7_sell_155 : decode cX7_sell 155 = .ok (.iconst 1, 1) := by decide +kernel
theorem dX7_sell_156 : decode cX7_sell 156 = .ok (.goto 4, 3) := by decide +kernel
theorem dX7_sell_159 : decode cX7_sell 159 = .ok (.iconst 0, 1) := by decide +kernel
theorem dX7_sell_160 : decode cX7_sell 160 = .ok (.istore 6, 2) := by decide +kernel
theorem dX7_sell_162 : decode cX7_sell 162 = .ok (.bipush 20, 2) := by decide +kernel
theorem dX7_sell_164 : decode cX7_sell 164 = .ok (.iload_n 1, 1) := by decide +kernel
theorem dX7_sell_165 : decode cX7_sell 165 = .ok (.imul, 1) := by decide +kernel
theorem dX7_sell_166 : decode cX7_sell 166 = .ok (.aload_n 0, 1) := by decide +kernel
theorem dX7_sell_167 : decode cX7_sell 167 = .ok (.getfield 58, 3) := by decide +kernel
theorem dX7_sell_170 : decode cX7_sell 170 = .ok (.iload_n 1, 1) := by decide +kernel
theorem dX7_sell_171 : decode cX7_sell 171 = .ok (.iaload, 1) := by decide +kernel
theorem dX7_sell_172 : decode cX7_sell 172 = .ok (.iadd, 1) := by decide +kernel
theorem dX7_sell_173 : decode cX7_sell 173 = .ok (.istore 7, 2) := by decide +kernel
theorem dX7_sell_175 : decode cX7_sell 175 = .ok (.aload_n 0, 1) := by decide +kernel
theorem dX7_sell_176 : decode cX7_sell 176 = .ok (.getfield 61, 3) := by decide +kernel
theorem dX7_sell_179 : decode cX7_sell 179 = .ok (.iload 7, 2) := by decide +kernel
theorem dX7_sell_181 : decode cX7_sell 181 = .ok (.aload_n 0, 1) := by decide +kernel
theorem dX7_sell_182 : decode cX7_sell 182 = .ok (.getfield 46, 3) := by decide +kernel
theorem dX7_sell_185 : decode cX7_sell 185 = .ok (.iload_n 1, 1) := by decide +kernel
theorem dX7_sell_186 : decode cX7_sell 186 = .ok (.iaload, 1) := by decide +kernel
theorem dX7_sell_187 : decode cX7_sell 187 = .ok (.iastore, 1) := by decide +kernel
theorem dX7_sell_188 : decode cX7_sell 188 = .ok (.aload_n 0, 1) := by decide +kernel
theorem dX7_sell_189 : decode cX7_sell 189 = .ok (.getfield 64, 3) := by decide +kernel
theorem dX7_sell_192 : decode cX7_sell 192 = .ok (.iload 7, 2) := by decide +kernel
theorem dX7_sell_194 : decode cX7_sell 194 = .ok (.iload_n 2, 1) := by decide +kernel
theorem dX7_sell_195 : decode cX7_sell 195 = .ok (.iastore, 1) := by decide +kernel
theorem dX7_sell_196 : decode cX7_sell 196 = .ok (.aload_n 0, 1) := by decide +kernel
theorem dX7_sell_197 : decode cX7_sell 197 = .ok (.getfield 67, 3) := by decide +kernel
theorem dX7_sell_200 : decode cX7_sell 200 = .ok (.iload 7, 2) := by decide +kernel
theorem dX7_sell_202 : decode cX7_sell 202 = .ok (.iload_n 3, 1) := by decide +kernel
theorem dX7_sell_203 : decode cX7_sell 203 = .ok (.iastore, 1) := by decide +kernel
theorem dX7_sell_204 : decode cX7_sell 204 = .ok (.aload_n 0, 1) := by decide +kernel
theorem dX7_sell_205 : decode cX7_sell 205 = .ok (.getfield 55, 3) := by decide +kernel
theorem dX7_sell_208 : decode cX7_sell 208 = .ok (.iload_n 1, 1) := by decide +kernel
theorem dX7_sell_209 : decode cX7_sell 209 = .ok (.iload 6, 2) := by decide +kernel
theorem dX7_sell_211 : decode cX7_sell 211 = .ok (.ifCond .eq 22, 3) := by decide +kernel
theorem dX7_sell_214 : decode cX7_sell 214 = .ok (.aload_n 0, 1) := by decide +kernel
theorem dX7_sell_215 : decode cX7_sell 215 = .ok (.getfield 55, 3) := by decide +kernel
theorem dX7_sell_218 : decode cX7_sell 218 = .ok (.iload_n 1, 1) := by decide +kernel
theorem dX7_sell_219 : decode cX7_sell 219 = .ok (.iaload, 1) := by decide +kernel
theorem dX7_sell_220 : decode cX7_sell 220 = .ok (.iconst (-1), 1) := by decide +kernel
theorem dX7_sell_221 : decode cX7_sell 221 = .ok (.if_icmp .ne 12, 3) := by decide +kernel
theorem dX7_sell_224 : decode cX7_sell 224 = .ok (.aload_n 0, 1) := by decide +kernel
theorem dX7_sell_225 : decode cX7_sell 225 = .ok (.getfield 58, 3) := by decide +kernel
theorem dX7_sell_228 : decode cX7_sell 228 = .ok (.iload_n 1, 1) := by decide +kernel
theorem dX7_sell_229 : decode cX7_sell 229 = .ok (.iaload, 1) := by decide +kernel
theorem dX7_sell_230 : decode cX7_sell 230 = .ok (.goto 9, 3) := by decide +kernel
theorem dX7_sell_233 : decode cX7_sell 233 = .ok (.aload_n 0, 1) := by decide +kernel
theorem dX7_sell_234 : decode cX7_sell 234 = .ok (.getfield 55, 3) := by decide +kernel
theorem dX7_sell_237 : decode cX7_sell 237 = .ok (.iload_n 1, 1) := by decide +kernel
theorem dX7_sell_238 : decode cX7_sell 238 = .ok (.iaload, 1) := by decide +kernel
theorem dX7_sell_239 : decode cX7_sell 239 = .ok (.iastore, 1) := by decide +kernel
theorem dX7_sell_240 : decode cX7_sell 240 = .ok (.aload_n 0, 1) := by decide +kernel
theorem dX7_sell_241 : decode cX7_sell 241 = .ok (.getfield 58, 3) := by decide +kernel
theorem dX7_sell_244 : decode cX7_sell 244 = .ok (.iload_n 1, 1) := by decide +kernel
theorem dX7_sell_245 : decode cX7_sell 245 = .ok (.dup2, 1) := by decide +kernel
theorem dX7_sell_246 : decode cX7_sell 246 = .ok (.iaload, 1) := by decide +kernel
theorem dX7_sell_247 : decode cX7_sell 247 = .ok (.iconst 1, 1) := by decide +kernel
theorem dX7_sell_248 : decode cX7_sell 248 = .ok (.iadd, 1) := by decide +kernel
theorem dX7_sell_249 : decode cX7_sell 249 = .ok (.iastore, 1) := by decide +kernel
theorem dX7_sell_250 : decode cX7_sell 250 = .ok (.aload_n 0, 1) := by decide +kernel
theorem dX7_sell_251 : decode cX7_sell 251 = .ok (.getfield 16, 3) := by decide +kernel
theorem dX7_sell_254 : decode cX7_sell 254 = .ok (.aload_n 0, 1) := by decide +kernel
theorem dX7_sell_255 : decode cX7_sell 255 = .ok (.getfield 46, 3) := by decide +kernel
theorem dX7_sell_258 : decode cX7_sell 258 = .ok (.iload_n 1, 1) := by decide +kernel
theorem dX7_sell_259 : decode cX7_sell 259 = .ok (.iaload, 1) := by decide +kernel
theorem dX7_sell_260 : decode cX7_sell 260 = .ok (.dup2, 1) := by decide +kernel
theorem dX7_sell_261 : decode cX7_sell 261 = .ok (.iaload, 1) := by decide +kernel
theorem dX7_sell_262 : decode cX7_sell 262 = .ok (.iload_n 3, 1) := by decide +kernel
theorem dX7_sell_263 : decode cX7_sell 263 = .ok (.iadd, 1) := by decide +kernel
theorem dX7_sell_264 : decode cX7_sell 264 = .ok (.iastore, 1) := by decide +kernel
theorem dX7_sell_265 : decode cX7_sell 265 = .ok (.aload_n 0, 1) := by decide +kernel
theorem dX7_sell_266 : decode cX7_sell 266 = .ok (.getfield 16, 3) := by decide +kernel
theorem dX7_sell_269 : decode cX7_sell 269 = .ok (.iload_n 2, 1) := by decide +kernel
theorem dX7_sell_270 : decode cX7_sell 270 = .ok (.dup2, 1) := by decide +kernel
theorem dX7_sell_271 : decode cX7_sell 271 = .ok (.iaload, 1) := by decide +kernel
theorem dX7_sell_272 : decode cX7_sell 272 = .ok (.iload_n 3, 1) := by decide +kernel
theorem dX7_sell_273 : decode cX7_sell 273 = .ok (.isub, 1) := by decide +kernel
theorem dX7_sell_274 : decode cX7_sell 274 = .ok (.iastore, 1) := by decide +kernel
theorem dX7_sell_275 : decode cX7_sell 275 = .ok (.aload_n 0, 1) := by decide +kernel
theorem dX7_sell_276 : decode cX7_sell 276 = .ok (.getfield 46, 3) := by decide +kernel
theorem dX7_sell_279 : decode cX7_sell 279 = .ok (.iload_n 1, 1) := by decide +kernel
theorem dX7_sell_280 : decode cX7_sell 280 = .ok (.iload_n 2, 1) := by decide +kernel
theorem dX7_sell_281 : decode cX7_sell 281 = .ok (.iastore, 1) := by decide +kernel
theorem dX7_sell_282 : decode cX7_sell 282 = .ok (.aload_n 0, 1) := by decide +kernel
theorem dX7_sell_283 : decode cX7_sell 283 = .ok (.getfield 49, 3) := by decide +kernel
theorem dX7_sell_286 : decode cX7_sell 286 = .ok (.iload_n 1, 1) := by decide +kernel
theorem dX7_sell_287 : decode cX7_sell 287 = .ok (.iconst (-1), 1) := by decide +kernel
theorem dX7_sell_288 : decode cX7_sell 288 = .ok (.iastore, 1) := by decide +kernel
theorem dX7_sell_289 : decode cX7_sell 289 = .ok (.iload 6, 2) := by decide +kernel
theorem dX7_sell_291 : decode cX7_sell 291 = .ok (.ireturn, 1) := by decide +kernel
theorem dX7_lend_0 : decode cX7_lend 0 = .ok (.aload_n 0, 1) := by decide +kernel
theorem dX7_lend_1 : decode cX7_lend 1 = .ok (.iload_n 1, 1) := by decide +kernel
theorem dX7_lend_2 : decode cX7_lend 2 = .ok (.invokevirtual 136, 3) := by decide +kernel
theorem dX7_lend_5 : decode cX7_lend 5 = .ok (.ifCond .eq 15, 3) := by decide +kernel
theorem dX7_lend_8 : decode cX7_lend 8 = .ok (.aload_n 0, 1) := by decide +kernel
theorem dX7_lend_9 : decode cX7_lend 9 = .ok (.iload_n 2, 1) := by decide +kernel
theorem dX7_lend_10 : decode cX7_lend 10 = .ok (.invokevirtual 107, 3) := by decide +kernel
theorem dX7_lend_13 : decode cX7_lend 13 = .ok (.ifCond .eq 7, 3) := by decide +kernel
theorem dX7_lend_16 : decode cX7_lend 16 = .ok (.iconst 1, 1) := by decide +kernel
theorem dX7_lend_17 : decode cX7_lend 17 = .ok (.goto 4, 3) := by decide +kernel
theorem dX7_lend_20 : decode cX7_lend 20 = .ok (.iconst 0, 1) := by decide +kernel
theorem dX7_lend_21 : decode cX7_lend 21 = .ok (.istore 4, 2) := by decide +kernel
theorem dX7_lend_23 : decode cX7_lend 23 = .ok (.iload 4, 2) := by decide +kernel
theorem dX7_lend_25 : decode cX7_lend 25 = .ok (.ifCond .eq 48, 3) := by decide +kernel
theorem dX7_lend_28 : decode cX7_lend 28 = .ok (.aload_n 0, 1) := by decide +kernel
theorem dX7_lend_29 : decode cX7_lend 29 = .ok (.getfield 46, 3) := by decide +kernel
theorem dX7_lend_32 : decode cX7_lend 32 = .ok (.iload_n 1, 1) := by decide +kernel
theorem dX7_lend_33 : decode cX7_lend 33 = .ok (.iaload, 1) := by decide +kernel
theorem dX7_lend_34 : decode cX7_lend 34 = .ok (.iconst (-1), 1) := by decide +kernel
theorem dX7_lend_35 : decode cX7_lend 35 = .ok (.if_icmp .eq 38, 3) := by decide +kernel
theorem dX7_lend_38 : decode cX7_lend 38 = .ok (.aload_n 0, 1) := by decide +kernel
theorem dX7_lend_39 : decode cX7_lend 39 = .ok (.getfield 46, 3) := by decide +kernel
theorem dX7_lend_42 : decode cX7_lend 42 = .ok (.iload_n 1, 1) := by decide +kernel
theorem dX7_lend_43 : decode cX7_lend 43 = .ok (.iaload, 1) := by decide +kernel
theorem dX7_lend_44 : decode cX7_lend 44 = .ok (.iload_n 2, 1) := by decide +kernel
theorem dX7_lend_45 : decode cX7_lend 45 = .ok (.if_icmp .eq 28, 3) := by decide +kernel
theorem dX7_lend_48 : decode cX7_lend 48 = .ok (.aload_n 0, 1) := by decide +kernel
theorem dX7_lend_49 : decode cX7_lend 49 = .ok (.aload_n 0, 1) := by decide +kernel
theorem dX7_lend_50 : decode cX7_lend 50 = .ok (.getfield 46, 3) := by decide +kernel
theorem dX7_lend_53 : decode cX7_lend 53 = .ok (.iload_n 1, 1) := by decide +kernel
theorem dX7_lend_54 : decode cX7_lend 54 = .ok (.iaload, 1) := by decide +kernel
theorem dX7_lend_55 : decode cX7_lend 55 = .ok (.invokevirtual 110, 3) := by decide +kernel
theorem dX7_lend_58 : decode cX7_lend 58 = .ok (.ifCond .ne 15, 3) := by decide +kernel
theorem dX7_lend_61 : decode cX7_lend 61 = .ok (.aload_n 0, 1) := by decide +kernel
theorem dX7_lend_62 : decode cX7_lend 62 = .ok (.iload_n 2, 1) := by decide +kernel
theorem dX7_lend_63 : decode cX7_lend 63 = .ok (.invokevirtual 110, 3) := by decide +kernel
theorem dX7_lend_66 : decode cX7_lend 66 = .ok (.ifCond .ne 7, 3) := by decide +kernel
theorem dX7_lend_69 : decode cX7_lend 69 = .ok (.iconst 1, 1) := by decide +kernel
theorem dX7_lend_70 : decode cX7_lend 70 = .ok (.goto 4, 3) := by decide +kernel
theorem dX7_lend_73 : decode cX7_lend 73 = .ok (.iconst 0, 1) := by decide +kernel
theorem dX7_lend_74 : decode cX7_lend 74 = .ok (.istore 5, 2) := by decide +kernel
theorem dX7_lend_76 : decode cX7_lend 76 = .ok (.aload_n 0, 1) := by decide +kernel
theorem dX7_lend_77 : decode cX7_lend 77 = .ok (.iload 4, 2) := by decide +kernel
theorem dX7_lend_79 : decode cX7_lend 79 = .ok (.ifCond .ne 7, 3) := by decide +kernel
theorem dX7_lend_82 : decode cX7_lend 82 = .ok (.iconst 1, 1) := by decide +kernel
theorem dX7_lend_83 : decode cX7_lend 83 = .ok (.goto 27, 3) := by decide +kernel
theorem dX7_lend_86 : decode cX7_lend 86 = .ok (.iload_n 3, 1) := by decide +kernel
theorem dX7_lend_87 : decode cX7_lend 87 = .ok (.iconst 1, 1) := by decide +kernel
theorem dX7_lend_88 : decode cX7_lend 88 = .ok (.bipush 100, 2) := by decide +kernel
theorem dX7_lend_90 : decode cX7_lend 90 = .ok (.invokestatic 86, 3) := by decide +kernel
theorem dX7_lend_93 : decode cX7_lend 93 = .ok (.ifCond .ne 7, 3) := by decide +kernel
theorem dX7_lend_96 : decode cX7_lend 96 = .ok (.iconst 2, 1) := by decide +kernel
theorem dX7_lend_97 : decode cX7_lend 97 = .ok (.goto 13, 3) := by decide +kernel
theorem dX7_lend_100 : decode cX7_lend 100 = .ok (.iload 5, 2) := by decide +kernel
theorem dX7_lend_102 : decode cX7_lend 102 = .ok (.ifCond .eq 7, 3) := by decide +kernel
theorem dX7_lend_105 : decode cX7_lend 105 = .ok (.iconst 0, 1) := by decide +kernel
theorem dX7_lend_106 : decode cX7_lend 106 = .ok (.goto 4, 3) := by decide +kernel
theorem dX7_lend_109 : decode cX7_lend 109 = .ok (.iconst 3, 1) := by decide +kernel
theorem dX7_lend_110 : decode cX7_lend 110 = .ok (.invokevirtual 93, 3) := by decide +kernel
theorem dX7_lend_113 : decode cX7_lend 113 = .ok (.ifCond .eq 5, 3) := by decide +kernel
theorem dX7_lend_116 : decode cX7_lend 116 = .ok (.iconst 0, 1) := by decide +kernel
theorem dX7_lend_117 : decode cX7_lend 117 = .ok (.ireturn, 1) := by decide +kernel
theorem dX7_lend_118 : decode cX7_lend 118 = .ok (.aload_n 0, 1) := by decide +kernel
theorem dX7_lend_119 : decode cX7_lend 119 = .ok (.getfield 49, 3) := by decide +kernel
theorem dX7_lend_122 : decode cX7_lend 122 = .ok (.iload_n 1, 1) := by decide +kernel
theorem dX7_lend_123 : decode cX7_lend 123 = .ok (.iload_n 2, 1) := by decide +kernel
theorem dX7_lend_124 : decode cX7_lend 124 = .ok (.iastore, 1) := by decide +kernel
theorem dX7_lend_125 : decode cX7_lend 125 = .ok (.aload_n 0, 1) := by decide +kernel
theorem dX7_lend_126 : decode cX7_lend 126 = .ok (.getfield 52, 3) := by decide +kernel
theorem dX7_lend_129 : decode cX7_lend 129 = .ok (.iload_n 1, 1) := by decide +kernel
theorem dX7_lend_130 : decode cX7_lend 130 = .ok (.aload_n 0, 1) := by decide +kernel
theorem dX7_lend_131 : decode cX7_lend 131 = .ok (.getfield 90, 3) := by decide +kernel
theorem dX7_lend_134 : decode cX7_lend 134 = .ok (.iload_n 3, 1) := by decide +kernel
theorem dX7_lend_135 : decode cX7_lend 135 = .ok (.iadd, 1) := by decide +kernel
theorem dX7_lend_136 : decode cX7_lend 136 = .ok (.iconst 1, 1) := by decide +kernel
theorem dX7_lend_137 : decode cX7_lend 137 = .ok (.isub, 1) := by decide +kernel
theorem dX7_lend_138 : decode cX7_lend 138 = .ok (.iastore, 1) := by decide +kernel
theorem dX7_lend_139 : decode cX7_lend 139 = .ok (.aload_n 0, 1) := by decide +kernel
theorem dX7_lend_140 : decode cX7_lend 140 = .ok (.getfield 52, 3) := by decide +kernel
theorem dX7_lend_143 : decode cX7_lend 143 = .ok (.iload_n 1, 1) := by decide +kernel
theorem dX7_lend_144 : decode cX7_lend 144 = .ok (.iaload, 1) := by decide +kernel
theorem dX7_lend_145 : decode cX7_lend 145 = .ok (.ireturn, 1) := by decide +kernel
theorem dX7_pays_0 : decode cX7_pays 0 = .ok (.iload_n 1, 1) := by decide +kernel
theorem dX7_pays_1 : decode cX7_pays 1 = .ok (.iconst (-1), 1) := by decide +kernel
theorem dX7_pays_2 : decode cX7_pays 2 = .ok (.if_icmp .eq 28, 3) := by decide +kernel
theorem dX7_pays_5 : decode cX7_pays 5 = .ok (.iload_n 2, 1) := by decide +kernel
theorem dX7_pays_6 : decode cX7_pays 6 = .ok (.iconst (-1), 1) := by decide +kernel
theorem dX7_pays_7 : decode cX7_pays 7 = .ok (.if_icmp .eq 23, 3) := by decide +kernel
theorem dX7_pays_10 : decode cX7_pays 10 = .ok (.aload_n 0, 1) := by decide +kernel
theorem dX7_pays_11 : decode cX7_pays 11 = .ok (.getfield 16, 3) := by decide +kernel
theorem dX7_pays_14 : decode cX7_pays 14 = .ok (.iload_n 1, 1) := by decide +kernel
theorem dX7_pays_15 : decode cX7_pays 15 = .ok (.dup2, 1) := by decide +kernel
theorem dX7_pays_16 : decode cX7_pays 16 = .ok (.iaload, 1) := by decide +kernel
theorem dX7_pays_17 : decode cX7_pays 17 = .ok (.iload_n 3, 1) := by decide +kernel
theorem dX7_pays_18 : decode cX7_pays 18 = .ok (.isub, 1) := by decide +kernel
theorem dX7_pays_19 : decode cX7_pays 19 = .ok (.iastore, 1) := by decide +kernel
theorem dX7_pays_20 : decode cX7_pays 20 = .ok (.aload_n 0, 1) := by decide +kernel
theorem dX7_pays_21 : decode cX7_pays 21 = .ok (.getfield 16, 3) := by decide +kernel
theorem dX7_pays_24 : decode cX7_pays 24 = .ok (.iload_n 2, 1) := by decide +kernel
theorem dX7_pays_25 : decode cX7_pays 25 = .ok (.dup2, 1) := by decide +kernel
theorem dX7_pays_26 : decode cX7_pays 26 = .ok (.iaload, 1) := by decide +kernel
theorem dX7_pays_27 : decode cX7_pays 27 = .ok (.iload_n 3, 1) := by decide +kernel
theorem dX7_pays_28 : decode cX7_pays 28 = .ok (.iadd, 1) := by decide +kernel
theorem dX7_pays_29 : decode cX7_pays 29 = .ok (.iastore, 1) := by decide +kernel
theorem dX7_pays_30 : decode cX7_pays 30 = .ok (.return_, 1) := by decide +kernel
theorem dX7_inherits_0 : decode cX7_inherits 0 = .ok (.aload_n 0, 1) := by decide +kernel
theorem dX7_inherits_1 : decode cX7_inherits 1 = .ok (.getfield 55, 3) := by decide +kernel
theorem dX7_inherits_4 : decode cX7_inherits 4 = .ok (.iload_n 1, 1) := by decide +kernel
theorem dX7_inherits_5 : decode cX7_inherits 5 = .ok (.iaload, 1) := by decide +kernel
theorem dX7_inherits_6 : decode cX7_inherits 6 = .ok (.iconst (-1), 1) := by decide +kernel
theorem dX7_inherits_7 : decode cX7_inherits 7 = .ok (.if_icmp .eq 33, 3) := by decide +kernel
theorem dX7_inherits_10 : decode cX7_inherits 10 = .ok (.aload_n 0, 1) := by decide +kernel
theorem dX7_inherits_11 : decode cX7_inherits 11 = .ok (.aload_n 0, 1) := by decide +kernel
theorem dX7_inherits_12 : decode cX7_inherits 12 = .ok (.getfield 43, 3) := by decide +kernel
theorem dX7_inherits_15 : decode cX7_inherits 15 = .ok (.iload_n 1, 1) := by decide +kernel
theorem dX7_inherits_16 : decode cX7_inherits 16 = .ok (.iaload, 1) := by decide +kernel
theorem dX7_inherits_17 : decode cX7_inherits 17 = .ok (.iload_n 2, 1) := by decide +kernel
theorem dX7_inherits_18 : decode cX7_inherits 18 = .ok (.aload_n 0, 1) := by decide +kernel
theorem dX7_inherits_19 : decode cX7_inherits 19 = .ok (.getfield 67, 3) := by decide +kernel
theorem dX7_inherits_22 : decode cX7_inherits 22 = .ok (.bipush 20, 2) := by decide +kernel
theorem dX7_inherits_24 : decode cX7_inherits 24 = .ok (.iload_n 1, 1) := by decide +kernel
theorem dX7_inherits_25 : decode cX7_inherits 25 = .ok (.imul, 1) := by decide +kernel
theorem dX7_inherits_26 : decode cX7_inherits 26 = .ok (.aload_n 0, 1) := by decide +kernel
theorem dX7_inherits_27 : decode cX7_inherits 27 = .ok (.getfield 55, 3) := by decide +kernel
theorem dX7_inherits_30 : decode cX7_inherits 30 = .ok (.iload_n 1, 1) := by decide +kernel
theorem dX7_inherits_31 : decode cX7_inherits 31 = .ok (.iaload, 1) := by decide +kernel
theorem dX7_inherits_32 : decode cX7_inherits 32 = .ok (.iadd, 1) := by decide +kernel
theorem dX7_inherits_33 : decode cX7_inherits 33 = .ok (.iaload, 1) := by decide +kernel
theorem dX7_inherits_34 : decode cX7_inherits 34 = .ok (.invokevirtual 139, 3) := by decide +kernel
theorem dX7_inherits_37 : decode cX7_inherits 37 = .ok (.goto 74, 3) := by decide +kernel
theorem dX7_inherits_40 : decode cX7_inherits 40 = .ok (.bipush 20, 2) := by decide +kernel
theorem dX7_inherits_42 : decode cX7_inherits 42 = .ok (.iload_n 1, 1) := by decide +kernel
theorem dX7_inherits_43 : decode cX7_inherits 43 = .ok (.imul, 1) := by decide +kernel
theorem dX7_inherits_44 : decode cX7_inherits 44 = .ok (.aload_n 0, 1) := by decide +kernel
theorem dX7_inherits_45 : decode cX7_inherits 45 = .ok (.getfield 58, 3) := by decide +kernel
theorem dX7_inherits_48 : decode cX7_inherits 48 = .ok (.iload_n 1, 1) := by decide +kernel
theorem dX7_inherits_49 : decode cX7_inherits 49 = .ok (.iaload, 1) := by decide +kernel
theorem dX7_inherits_50 : decode cX7_inherits 50 = .ok (.iadd, 1) := by decide +kernel
theorem dX7_inherits_51 : decode cX7_inherits 51 = .ok (.iconst 1, 1) := by decide +kernel
theorem dX7_inherits_52 : decode cX7_inherits 52 = .ok (.isub, 1) := by decide +kernel
theorem dX7_inherits_53 : decode cX7_inherits 53 = .ok (.istore_n 3, 1) := by decide +kernel
theorem dX7_inherits_54 : decode cX7_inherits 54 = .ok (.iload_n 3, 1) := by decide +kernel
theorem dX7_inherits_55 : decode cX7_inherits 55 = .ok (.bipush 20, 2) := by decide +kernel
theorem dX7_inherits_57 : decode cX7_inherits 57 = .ok (.iload_n 1, 1) := by decide +kernel
theorem dX7_inherits_58 : decode cX7_inherits 58 = .ok (.imul, 1) := by decide +kernel
theorem dX7_inherits_59 : decode cX7_inherits 59 = .ok (.if_icmp .lt 31, 3) := by decide +kernel
theorem dX7_inherits_62 : decode cX7_inherits 62 = .ok (.aload_n 0, 1) := by decide +kernel
theorem dX7_inherits_63 : decode cX7_inherits 63 = .ok (.aload_n 0, 1) := by decide +kernel
theorem dX7_inherits_64 : decode cX7_inherits 64 = .ok (.getfield 61, 3) := by decide +kernel
theorem dX7_inherits_67 : decode cX7_inherits 67 = .ok (.iload_n 3, 1) := by decide +kernel
theorem dX7_inherits_68 : decode cX7_inherits 68 = .ok (.iaload, 1) := by decide +kernel
theorem dX7_inherits_69 : decode cX7_inherits 69 = .ok (.aload_n 0, 1) := by decide +kernel
theorem dX7_inherits_70 : decode cX7_inherits 70 = .ok (.getfield 64, 3) := by decide +kernel
theorem dX7_inherits_73 : decode cX7_inherits 73 = .ok (.iload_n 3, 1) := by decide +kernel
theorem dX7_inherits_74 : decode cX7_inherits 74 = .ok (.iaload, 1) := by decide +kernel
theorem dX7_inherits_75 : decode cX7_inherits 75 = .ok (.aload_n 0, 1) := by decide +kernel
theorem dX7_inherits_76 : decode cX7_inherits 76 = .ok (.getfield 67, 3) := by decide +kernel
theorem dX7_inherits_79 : decode cX7_inherits 79 = .ok (.iload_n 3, 1) := by decide +kernel
theorem dX7_inherits_80 : decode cX7_inherits 80 = .ok (.iaload, 1) := by decide +kernel
theorem dX7_inherits_81 : decode cX7_inherits 81 = .ok (.invokevirtual 139, 3) := by decide +kernel
theorem dX7_inherits_84 : decode cX7_inherits 84 = .ok (.iinc 3 (-1), 3) := by decide +kernel
theorem dX7_inherits_87 : decode cX7_inherits 87 = .ok (.goto (-33), 3) := by decide +kernel
theorem dX7_inherits_90 : decode cX7_inherits 90 = .ok (.aload_n 0, 1) := by decide +kernel
theorem dX7_inherits_91 : decode cX7_inherits 91 = .ok (.getfield 58, 3) := by decide +kernel
theorem dX7_inherits_94 : decode cX7_inherits 94 = .ok (.iload_n 1, 1) := by decide +kernel
theorem dX7_inherits_95 : decode cX7_inherits 95 = .ok (.iconst 0, 1) := by decide +kernel
theorem dX7_inherits_96 : decode cX7_inherits 96 = .ok (.iastore, 1) := by decide +kernel
theorem dX7_inherits_97 : decode cX7_inherits 97 = .ok (.aload_n 0, 1) := by decide +kernel
theorem dX7_inherits_98 : decode cX7_inherits 98 = .ok (.getfield 46, 3) := by decide +kernel
theorem dX7_inherits_101 : decode cX7_inherits 101 = .ok (.iload_n 1, 1) := by decide +kernel
theorem dX7_inherits_102 : decode cX7_inherits 102 = .ok (.iload_n 2, 1) := by decide +kernel
theorem dX7_inherits_103 : decode cX7_inherits 103 = .ok (.iastore, 1) := by decide +kernel
theorem dX7_inherits_104 : decode cX7_inherits 104 = .ok (.aload_n 0, 1) := by decide +kernel
theorem dX7_inherits_105 : decode cX7_inherits 105 = .ok (.getfield 49, 3) := by decide +kernel
theorem dX7_inherits_108 : decode cX7_inherits 108 = .ok (.iload_n 1, 1) := by decide +kernel
theorem dX7_inherits_109 : decode cX7_inherits 109 = .ok (.iconst (-1), 1) := by decide +kernel
theorem dX7_inherits_110 : decode cX7_inherits 110 = .ok (.iastore, 1) := by decide +kernel
theorem dX7_inherits_111 : decode cX7_inherits 111 = .ok (.aload_n 0, 1) := by decide +kernel
theorem dX7_inherits_112 : decode cX7_inherits 112 = .ok (.getfield 43, 3) := by decide +kernel
theorem dX7_inherits_115 : decode cX7_inherits 115 = .ok (.iload_n 1, 1) := by decide +kernel
theorem dX7_inherits_116 : decode cX7_inherits 116 = .ok (.iload_n 2, 1) := by decide +kernel
theorem dX7_inherits_117 : decode cX7_inherits 117 = .ok (.iastore, 1) := by decide +kernel
theorem dX7_inherits_118 : decode cX7_inherits 118 = .ok (.return_, 1) := by decide +kernel
theorem dX7_looks_0 : decode cX7_looks 0 = .ok (.iconst 0, 1) := by decide +kernel
theorem dX7_looks_1 : decode cX7_looks 1 = .ok (.istore_n 1, 1) := by decide +kernel
theorem dX7_looks_2 : decode cX7_looks 2 = .ok (.iload_n 1, 1) := by decide +kernel
theorem dX7_looks_3 : decode cX7_looks 3 = .ok (.aload_n 0, 1) := by decide +kernel
theorem dX7_looks_4 : decode cX7_looks 4 = .ok (.getfield 133, 3) := by decide +kernel
theorem dX7_looks_7 : decode cX7_looks 7 = .ok (.if_icmp .ge 46, 3) := by decide +kernel
theorem dX7_looks_10 : decode cX7_looks 10 = .ok (.aload_n 0, 1) := by decide +kernel
theorem dX7_looks_11 : decode cX7_looks 11 = .ok (.aload_n 0, 1) := by decide +kernel
theorem dX7_looks_12 : decode cX7_looks 12 = .ok (.getfield 37, 3) := by decide +kernel
theorem dX7_looks_15 : decode cX7_looks 15 = .ok (.iload_n 1, 1) := by decide +kernel
theorem dX7_looks_16 : decode cX7_looks 16 = .ok (.iaload, 1) := by decide +kernel
theorem dX7_looks_17 : decode cX7_looks 17 = .ok (.invokevirtual 126, 3) := by decide +kernel
theorem dX7_looks_20 : decode cX7_looks 20 = .ok (.aload_n 0, 1) := by decide +kernel
theorem dX7_looks_21 : decode cX7_looks 21 = .ok (.aload_n 0, 1) := by decide +kernel
theorem dX7_looks_22 : decode cX7_looks 22 = .ok (.getfield 40, 3) := by decide +kernel
theorem dX7_looks_25 : decode cX7_looks 25 = .ok (.iload_n 1, 1) := by decide +kernel
theorem dX7_looks_26 : decode cX7_looks 26 = .ok (.iaload, 1) := by decide +kernel
theorem dX7_looks_27 : decode cX7_looks 27 = .ok (.invokevirtual 130, 3) := by decide +kernel
theorem dX7_looks_30 : decode cX7_looks 30 = .ok (.istore_n 2, 1) := by decide +kernel
theorem dX7_looks_31 : decode cX7_looks 31 = .ok (.iload_n 2, 1) := by decide +kernel
theorem dX7_looks_32 : decode cX7_looks 32 = .ok (.aload_n 0, 1) := by decide +kernel
theorem dX7_looks_33 : decode cX7_looks 33 = .ok (.getfield 43, 3) := by decide +kernel
theorem dX7_looks_36 : decode cX7_looks 36 = .ok (.iload_n 1, 1) := by decide +kernel
theorem dX7_looks_37 : decode cX7_looks 37 = .ok (.iaload, 1) := by decide +kernel
theorem dX7_looks_38 : decode cX7_looks 38 = .ok (.if_icmp .eq 9, 3) := by decide +kernel
theorem dX7_looks_41 : decode cX7_looks 41 = .ok (.aload_n 0, 1) := by decide +kernel
theorem dX7_looks_42 : decode cX7_looks 42 = .ok (.iload_n 1, 1) := by decide +kernel
theorem dX7_looks_43 : decode cX7_looks 43 = .ok (.iload_n 2, 1) := by decide +kernel
theorem dX7_looks_44 : decode cX7_looks 44 = .ok (.invokevirtual 143, 3) := by decide +kernel
theorem dX7_looks_47 : decode cX7_looks 47 = .ok (.iinc 1 1, 3) := by decide +kernel
theorem dX7_looks_50 : decode cX7_looks 50 = .ok (.goto (-48), 3) := by decide +kernel
theorem dX7_looks_53 : decode cX7_looks 53 = .ok (.return_, 1) := by decide +kernel
theorem dX7_proof_0 : decode cX7_proof 0 = .ok (.aload_n 0, 1) := by decide +kernel
theorem dX7_proof_1 : decode cX7_proof 1 = .ok (.aload_n 0, 1) := by decide +kernel
theorem dX7_proof_2 : decode cX7_proof 2 = .ok (.iload_n 1, 1) := by decide +kernel
theorem dX7_proof_3 : decode cX7_proof 3 = .ok (.invokevirtual 107, 3) := by decide +kernel
theorem dX7_proof_6 : decode cX7_proof 6 = .ok (.ifCond .ne 7, 3) := by decide +kernel
theorem dX7_proof_9 : decode cX7_proof 9 = .ok (.iconst 1, 1) := by decide +kernel
theorem dX7_proof_10 : decode cX7_proof 10 = .ok (.goto 20, 3) := by decide +kernel
theorem dX7_proof_13 : decode cX7_proof 13 = .ok (.iload_n 2, 1) := by decide +kernel
theorem dX7_proof_14 : decode cX7_proof 14 = .ok (.iconst 0, 1) := by decide +kernel
theorem dX7_proof_15 : decode cX7_proof 15 = .ok (.aload_n 0, 1) := by decide +kernel
theorem dX7_proof_16 : decode cX7_proof 16 = .ok (.getfield 90, 3) := by decide +kernel
theorem dX7_proof_19 : decode cX7_proof 19 = .ok (.invokestatic 86, 3) := by decide +kernel
theorem dX7_proof_22 : decode cX7_proof 22 = .ok (.ifCond .eq 7, 3) := by decide +kernel
theorem dX7_proof_25 : decode cX7_proof 25 = .ok (.iconst 0, 1) := by decide +kernel
theorem dX7_proof_26 : decode cX7_proof 26 = .ok (.goto 4, 3) := by decide +kernel
theorem dX7_proof_29 : decode cX7_proof 29 = .ok (.iconst 2, 1) := by decide +kernel
theorem dX7_proof_30 : decode cX7_proof 30 = .ok (.invokevirtual 93, 3) := by decide +kernel
theorem dX7_proof_33 : decode cX7_proof 33 = .ok (.ifCond .eq 5, 3) := by decide +kernel
theorem dX7_proof_36 : decode cX7_proof 36 = .ok (.iconst 0, 1) := by decide +kernel
theorem dX7_proof_37 : decode cX7_proof 37 = .ok (.ireturn, 1) := by decide +kernel
theorem dX7_proof_38 : decode cX7_proof 38 = .ok (.aload_n 0, 1) := by decide +kernel
theorem dX7_proof_39 : decode cX7_proof 39 = .ok (.getfield 7, 3) := by decide +kernel
theorem dX7_proof_42 : decode cX7_proof 42 = .ok (.iload_n 1, 1) := by decide +kernel
theorem dX7_proof_43 : decode cX7_proof 43 = .ok (.aload_n 0, 1) := by decide +kernel
theorem dX7_proof_44 : decode cX7_proof 44 = .ok (.getfield 7, 3) := by decide +kernel
theorem dX7_proof_47 : decode cX7_proof 47 = .ok (.iload_n 1, 1) := by decide +kernel
theorem dX7_proof_48 : decode cX7_proof 48 = .ok (.iaload, 1) := by decide +kernel
theorem dX7_proof_49 : decode cX7_proof 49 = .ok (.iconst (-1), 1) := by decide +kernel
theorem dX7_proof_50 : decode cX7_proof 50 = .ok (.if_icmp .eq 13, 3) := by decide +kernel
theorem dX7_proof_53 : decode cX7_proof 53 = .ok (.iload_n 2, 1) := by decide +kernel
theorem dX7_proof_54 : decode cX7_proof 54 = .ok (.aload_n 0, 1) := by decide +kernel
theorem dX7_proof_55 : decode cX7_proof 55 = .ok (.getfield 7, 3) := by decide +kernel
theorem dX7_proof_58 : decode cX7_proof 58 = .ok (.iload_n 1, 1) := by decide +kernel
theorem dX7_proof_59 : decode cX7_proof 59 = .ok (.iaload, 1) := by decide +kernel
theorem dX7_proof_60 : decode cX7_proof 60 = .ok (.if_icmp .ge 7, 3) := by decide +kernel
theorem dX7_proof_63 : decode cX7_proof 63 = .ok (.iload_n 2, 1) := by decide +kernel
theorem dX7_proof_64 : decode cX7_proof 64 = .ok (.goto 9, 3) := by decide +kernel
theorem dX7_proof_67 : decode cX7_proof 67 = .ok (.aload_n 0, 1) := by decide +kernel
theorem dX7_proof_68 : decode cX7_proof 68 = .ok (.getfield 7, 3) := by decide +kernel
theorem dX7_proof_71 : decode cX7_proof 71 = .ok (.iload_n 1, 1) := by decide +kernel
theorem dX7_proof_72 : decode cX7_proof 72 = .ok (.iaload, 1) := by decide +kernel
theorem dX7_proof_73 : decode cX7_proof 73 = .ok (.iastore, 1) := by decide +kernel
theorem dX7_proof_74 : decode cX7_proof 74 = .ok (.aload_n 0, 1) := by decide +kernel
theorem dX7_proof_75 : decode cX7_proof 75 = .ok (.invokevirtual 147, 3) := by decide +kernel
theorem dX7_proof_78 : decode cX7_proof 78 = .ok (.iconst 0, 1) := by decide +kernel
theorem dX7_proof_79 : decode cX7_proof 79 = .ok (.istore_n 3, 1) := by decide +kernel
theorem dX7_proof_80 : decode cX7_proof 80 = .ok (.iconst 0, 1) := by decide +kernel
theorem dX7_proof_81 : decode cX7_proof 81 = .ok (.istore 4, 2) := by decide +kernel
theorem dX7_proof_83 : decode cX7_proof 83 = .ok (.iload 4, 2) := by decide +kernel
theorem dX7_proof_85 : decode cX7_proof 85 = .ok (.aload_n 0, 1) := by decide +kernel
theorem dX7_proof_86 : decode cX7_proof 86 = .ok (.getfield 97, 3) := by decide +kernel
theorem dX7_proof_89 : decode cX7_proof 89 = .ok (.if_icmp .ge 26, 3) := by decide +kernel
theorem dX7_proof_92 : decode cX7_proof 92 = .ok (.iload_n 3, 1) := by decide +kernel
theorem dX7_proof_93 : decode cX7_proof 93 = .ok (.aload_n 0, 1) := by decide +kernel
theorem dX7_proof_94 : decode cX7_proof 94 = .ok (.iload 4, 2) := by decide +kernel
theorem dX7_proof_96 : decode cX7_proof 96 = .ok (.invokevirtual 116, 3) := by decide +kernel
theorem dX7_proof_99 : decode cX7_proof 99 = .ok (.ifCond .eq 7, 3) := by decide +kernel
theorem dX7_proof_102 : decode cX7_proof 102 = .ok (.iconst 0, 1) := by decide +kernel
theorem dX7_proof_103 : decode cX7_proof 103 = .ok (.goto 4, 3) := by decide +kernel
theorem dX7_proof_106 : decode cX7_proof 106 = .ok (.iconst 1, 1) := by decide +kernel
theorem dX7_proof_107 : decode cX7_proof 107 = .ok (.iadd, 1) := by decide +kernel
theorem dX7_proof_108 : decode cX7_proof 108 = .ok (.istore_n 3, 1) := by decide +kernel
theorem dX7_proof_109 : decode cX7_proof 109 = .ok (.iinc 4 1, 3) := by decide +kernel
theorem dX7_proof_112 : decode cX7_proof 112 = .ok (.goto (-29), 3) := by decide +kernel
theorem dX7_proof_115 : decode cX7_proof 115 = .ok (.iload_n 3, 1) := by decide +kernel
theorem dX7_proof_116 : decode cX7_proof 116 = .ok (.ireturn, 1) := by decide +kernel
theorem dX7_clear_0 : decode cX7_clear 0 = .ok (.aload_n 0, 1) := by decide +kernel
theorem dX7_clear_1 : decode cX7_clear 1 = .ok (.aload_n 0, 1) := by decide +kernel
theorem dX7_clear_2 : decode cX7_clear 2 = .ok (.iload_n 1, 1) := by decide +kernel
theorem dX7_clear_3 : decode cX7_clear 3 = .ok (.invokevirtual 107, 3) := by decide +kernel
theorem dX7_clear_6 : decode cX7_clear 6 = .ok (.ifCond .ne 7, 3) := by decide +kernel
theorem dX7_clear_9 : decode cX7_clear 9 = .ok (.iconst 1, 1) := by decide +kernel
theorem dX7_clear_10 : decode cX7_clear 10 = .ok (.goto 18, 3) := by decide +kernel
theorem dX7_clear_13 : decode cX7_clear 13 = .ok (.aload_n 0, 1) := by decide +kernel
theorem dX7_clear_14 : decode cX7_clear 14 = .ok (.getfield 7, 3) := by decide +kernel
theorem dX7_clear_17 : decode cX7_clear 17 = .ok (.iload_n 1, 1) := by decide +kernel
theorem dX7_clear_18 : decode cX7_clear 18 = .ok (.iaload, 1) := by decide +kernel
theorem dX7_clear_19 : decode cX7_clear 19 = .ok (.iconst (-1), 1) := by decide +kernel
theorem dX7_clear_20 : decode cX7_clear 20 = .ok (.if_icmp .ne 7, 3) := by decide +kernel
theorem dX7_clear_23 : decode cX7_clear 23 = .ok (.iconst 2, 1) := by decide +kernel
theorem dX7_clear_24 : decode cX7_clear 24 = .ok (.goto 4, 3) := by decide +kernel
theorem dX7_clear_27 : decode cX7_clear 27 = .ok (.iconst 0, 1) := by decide +kernel
theorem dX7_clear_28 : decode cX7_clear 28 = .ok (.invokevirtual 93, 3) := by decide +kernel
theorem dX7_clear_31 : decode cX7_clear 31 = .ok (.ifCond .eq 5, 3) := by decide +kernel
theorem dX7_clear_34 : decode cX7_clear 34 = .ok (.iconst 0, 1) := by decide +kernel
theorem dX7_clear_35 : decode cX7_clear 35 = .ok (.ireturn, 1) := by decide +kernel
theorem dX7_clear_36 : decode cX7_clear 36 = .ok (.aload_n 0, 1) := by decide +kernel
theorem dX7_clear_37 : decode cX7_clear 37 = .ok (.getfield 7, 3) := by decide +kernel
theorem dX7_clear_40 : decode cX7_clear 40 = .ok (.iload_n 1, 1) := by decide +kernel
theorem dX7_clear_41 : decode cX7_clear 41 = .ok (.iaload, 1) := by decide +kernel
theorem dX7_clear_42 : decode cX7_clear 42 = .ok (.istore_n 2, 1) := by decide +kernel
theorem dX7_clear_43 : decode cX7_clear 43 = .ok (.aload_n 0, 1) := by decide +kernel
theorem dX7_clear_44 : decode cX7_clear 44 = .ok (.getfield 7, 3) := by decide +kernel
theorem dX7_clear_47 : decode cX7_clear 47 = .ok (.iload_n 1, 1) := by decide +kernel
theorem dX7_clear_48 : decode cX7_clear 48 = .ok (.iconst (-1), 1) := by decide +kernel
theorem dX7_clear_49 : decode cX7_clear 49 = .ok (.iastore, 1) := by decide +kernel
theorem dX7_clear_50 : decode cX7_clear 50 = .ok (.aload_n 0, 1) := by decide +kernel
theorem dX7_clear_51 : decode cX7_clear 51 = .ok (.invokevirtual 147, 3) := by decide +kernel
theorem dX7_clear_54 : decode cX7_clear 54 = .ok (.iload_n 2, 1) := by decide +kernel
theorem dX7_clear_55 : decode cX7_clear 55 = .ok (.ireturn, 1) := by decide +kernel
theorem dX7_ban_0 : decode cX7_ban 0 = .ok (.aload_n 0, 1) := by decide +kernel
theorem dX7_ban_1 : decode cX7_ban 1 = .ok (.aload_n 0, 1) := by decide +kernel
theorem dX7_ban_2 : decode cX7_ban 2 = .ok (.iload_n 1, 1) := by decide +kernel
theorem dX7_ban_3 : decode cX7_ban 3 = .ok (.invokevirtual 107, 3) := by decide +kernel
theorem dX7_ban_6 : decode cX7_ban 6 = .ok (.ifCond .ne 7, 3) := by decide +kernel
theorem dX7_ban_9 : decode cX7_ban 9 = .ok (.iconst 1, 1) := by decide +kernel
theorem dX7_ban_10 : decode cX7_ban 10 = .ok (.goto 19, 3) := by decide +kernel
theorem dX7_ban_13 : decode cX7_ban 13 = .ok (.iload_n 2, 1) := by decide +kernel
theorem dX7_ban_14 : decode cX7_ban 14 = .ok (.iconst 0, 1) := by decide +kernel
theorem dX7_ban_15 : decode cX7_ban 15 = .ok (.sipush 1000, 3) := by decide +kernel
theorem dX7_ban_18 : decode cX7_ban 18 = .ok (.invokestatic 86, 3) := by decide +kernel
theorem dX7_ban_21 : decode cX7_ban 21 = .ok (.ifCond .eq 7, 3) := by decide +kernel
theorem dX7_ban_24 : decode cX7_ban 24 = .ok (.iconst 0, 1) := by decide +kernel
theorem dX7_ban_25 : decode cX7_ban 25 = .ok (.goto 4, 3) := by decide +kernel
theorem dX7_ban_28 : decode cX7_ban 28 = .ok (.iconst 2, 1) := by decide +kernel
theorem dX7_ban_29 : decode cX7_ban 29 = .ok (.invokevirtual 93, 3) := by decide +kernel
theorem dX7_ban_32 : decode cX7_ban 32 = .ok (.ifCond .eq 5, 3) := by decide +kernel
theorem dX7_ban_35 : decode cX7_ban 35 = .ok (.iconst 0, 1) := by decide +kernel
theorem dX7_ban_36 : decode cX7_ban 36 = .ok (.ireturn, 1) := by decide +kernel
theorem dX7_ban_37 : decode cX7_ban 37 = .ok (.aload_n 0, 1) := by decide +kernel
theorem dX7_ban_38 : decode cX7_ban 38 = .ok (.getfield 13, 3) := by decide +kernel
theorem dX7_ban_41 : decode cX7_ban 41 = .ok (.iload_n 1, 1) := by decide +kernel
theorem dX7_ban_42 : decode cX7_ban 42 = .ok (.aload_n 0, 1) := by decide +kernel
theorem dX7_ban_43 : decode cX7_ban 43 = .ok (.getfield 90, 3) := by decide +kernel
theorem dX7_ban_46 : decode cX7_ban 46 = .ok (.iload_n 2, 1) := by decide +kernel
theorem dX7_ban_47 : decode cX7_ban 47 = .ok (.iadd, 1) := by decide +kernel
theorem dX7_ban_48 : decode cX7_ban 48 = .ok (.iastore, 1) := by decide +kernel
theorem dX7_ban_49 : decode cX7_ban 49 = .ok (.aload_n 0, 1) := by decide +kernel
theorem dX7_ban_50 : decode cX7_ban 50 = .ok (.getfield 13, 3) := by decide +kernel
theorem dX7_ban_53 : decode cX7_ban 53 = .ok (.iload_n 1, 1) := by decide +kernel
theorem dX7_ban_54 : decode cX7_ban 54 = .ok (.iaload, 1) := by decide +kernel
theorem dX7_ban_55 : decode cX7_ban 55 = .ok (.ireturn, 1) := by decide +kernel
theorem dX7_pass_0 : decode cX7_pass 0 = .ok (.aload_n 0, 1) := by decide +kernel
theorem dX7_pass_1 : decode cX7_pass 1 = .ok (.iload_n 1, 1) := by decide +kernel
theorem dX7_pass_2 : decode cX7_pass 2 = .ok (.iconst 1, 1) := by decide +kernel
theorem dX7_pass_3 : decode cX7_pass 3 = .ok (.sipush 400, 3) := by decide +kernel
theorem dX7_pass_6 : decode cX7_pass 6 = .ok (.invokestatic 86, 3) := by decide +kernel
theorem dX7_pass_9 : decode cX7_pass 9 = .ok (.ifCond .eq 7, 3) := by decide +kernel
theorem dX7_pass_12 : decode cX7_pass 12 = .ok (.iconst 0, 1) := by decide +kernel
theorem dX7_pass_13 : decode cX7_pass 13 = .ok (.goto 4, 3) := by decide +kernel
theorem dX7_pass_16 : decode cX7_pass 16 = .ok (.iconst 1, 1) := by decide +kernel
theorem dX7_pass_17 : decode cX7_pass 17 = .ok (.invokevirtual 93, 3) := by decide +kernel
theorem dX7_pass_20 : decode cX7_pass 20 = .ok (.ifCond .eq 5, 3) := by decide +kernel
theorem dX7_pass_23 : decode cX7_pass 23 = .ok (.iconst 0, 1) := by decide +kernel
theorem dX7_pass_24 : decode cX7_pass 24 = .ok (.ireturn, 1) := by decide +kernel
theorem dX7_pass_25 : decode cX7_pass 25 = .ok (.aload_n 0, 1) := by decide +kernel
theorem dX7_pass_26 : decode cX7_pass 26 = .ok (.dup, 1) := by decide +kernel
theorem dX7_pass_27 : decode cX7_pass 27 = .ok (.getfield 90, 3) := by decide +kernel
theorem dX7_pass_30 : decode cX7_pass 30 = .ok (.iload_n 1, 1) := by decide +kernel
theorem dX7_pass_31 : decode cX7_pass 31 = .ok (.iadd, 1) := by decide +kernel
theorem dX7_pass_32 : decode cX7_pass 32 = .ok (.putfield 90, 3) := by decide +kernel
theorem dX7_pass_35 : decode cX7_pass 35 = .ok (.aload_n 0, 1) := by decide +kernel
theorem dX7_pass_36 : decode cX7_pass 36 = .ok (.getfield 90, 3) := by decide +kernel
theorem dX7_pass_39 : decode cX7_pass 39 = .ok (.ireturn, 1) := by decide +kernel
theorem dX7_stands_0 : decode cX7_stands 0 = .ok (.aload_n 0, 1) := by decide +kernel
theorem dX7_stands_1 : decode cX7_stands 1 = .ok (.iload_n 1, 1) := by decide +kernel
theorem dX7_stands_2 : decode cX7_stands 2 = .ok (.iconst 0, 1) := by decide +kernel
theorem dX7_stands_3 : decode cX7_stands 3 = .ok (.aload_n 0, 1) := by decide +kernel
theorem dX7_stands_4 : decode cX7_stands 4 = .ok (.getfield 97, 3) := by decide +kernel
theorem dX7_stands_7 : decode cX7_stands 7 = .ok (.iconst 1, 1) := by decide +kernel
theorem dX7_stands_8 : decode cX7_stands 8 = .ok (.isub, 1) := by decide +kernel
theorem dX7_stands_9 : decode cX7_stands 9 = .ok (.invokestatic 86, 3) := by decide +kernel
theorem dX7_stands_12 : decode cX7_stands 12 = .ok (.ifCond .eq 7, 3) := by decide +kernel
theorem dX7_stands_15 : decode cX7_stands 15 = .ok (.iconst 0, 1) := by decide +kernel
theorem dX7_stands_16 : decode cX7_stands 16 = .ok (.goto 4, 3) := by decide +kernel
theorem dX7_stands_19 : decode cX7_stands 19 = .ok (.iconst 1, 1) := by decide +kernel
theorem dX7_stands_20 : decode cX7_stands 20 = .ok (.invokevirtual 93, 3) := by decide +kernel
theorem dX7_stands_23 : decode cX7_stands 23 = .ok (.ifCond .ne 15, 3) := by decide +kernel
theorem dX7_stands_26 : decode cX7_stands 26 = .ok (.aload_n 0, 1) := by decide +kernel
theorem dX7_stands_27 : decode cX7_stands 27 = .ok (.iload_n 1, 1) := by decide +kernel
theorem dX7_stands_28 : decode cX7_stands 28 = .ok (.invokevirtual 116, 3) := by decide +kernel
theorem dX7_stands_31 : decode cX7_stands 31 = .ok (.ifCond .eq 7, 3) := by decide +kernel
theorem dX7_stands_34 : decode cX7_stands 34 = .ok (.iconst 1, 1) := by decide +kernel
theorem dX7_stands_35 : decode cX7_stands 35 = .ok (.goto 4, 3) := by decide +kernel
theorem dX7_stands_38 : decode cX7_stands 38 = .ok (.iconst 0, 1) := by decide +kernel
theorem dX7_stands_39 : decode cX7_stands 39 = .ok (.ireturn, 1) := by decide +kernel
theorem dX7_ranked_0 : decode cX7_ranked 0 = .ok (.iload_n 1, 1) := by decide +kernel
theorem dX7_ranked_1 : decode cX7_ranked 1 = .ok (.iconst 0, 1) := by decide +kernel
theorem dX7_ranked_2 : decode cX7_ranked 2 = .ok (.aload_n 0, 1) := by decide +kernel
theorem dX7_ranked_3 : decode cX7_ranked 3 = .ok (.getfield 113, 3) := by decide +kernel
theorem dX7_ranked_6 : decode cX7_ranked 6 = .ok (.invokestatic 86, 3) := by decide +kernel
theorem dX7_ranked_9 : decode cX7_ranked 9 = .ok (.ifCond .eq 15, 3) := by decide +kernel
theorem dX7_ranked_12 : decode cX7_ranked 12 = .ok (.aload_n 0, 1) := by decide +kernel
theorem dX7_ranked_13 : decode cX7_ranked 13 = .ok (.iload_n 2, 1) := by decide +kernel
theorem dX7_ranked_14 : decode cX7_ranked 14 = .ok (.invokevirtual 107, 3) := by decide +kernel
theorem dX7_ranked_17 : decode cX7_ranked 17 = .ok (.ifCond .eq 7, 3) := by decide +kernel
theorem dX7_ranked_20 : decode cX7_ranked 20 = .ok (.iconst 1, 1) := by decide +kernel
theorem dX7_ranked_21 : decode cX7_ranked 21 = .ok (.goto 4, 3) := by decide +kernel
theorem dX7_ranked_24 : decode cX7_ranked 24 = .ok (.iconst 0, 1) := by decide +kernel
theorem dX7_ranked_25 : decode cX7_ranked 25 = .ok (.istore 4, 2) := by decide +kernel
theorem dX7_ranked_27 : decode cX7_ranked 27 = .ok (.aload_n 0, 1) := by decide +kernel
theorem dX7_ranked_28 : decode cX7_ranked 28 = .ok (.iload 4, 2) := by decide +kernel
theorem dX7_ranked_30 : decode cX7_ranked 30 = .ok (.ifCond .ne 7, 3) := by decide +kernel
theorem dX7_ranked_33 : decode cX7_ranked 33 = .ok (.iconst 1, 1) := by decide +kernel
theorem dX7_ranked_34 : decode cX7_ranked 34 = .ok (.goto 17, 3) := by decide +kernel
theorem dX7_ranked_37 : decode cX7_ranked 37 = .ok (.iload_n 3, 1) := by decide +kernel
theorem dX7_ranked_38 : decode cX7_ranked 38 = .ok (.iconst 0, 1) := by decide +kernel
theorem dX7_ranked_39 : decode cX7_ranked 39 = .ok (.iconst 2, 1) := by decide +kernel
theorem dX7_ranked_40 : decode cX7_ranked 40 = .ok (.invokestatic 86, 3) := by decide +kernel
theorem dX7_ranked_43 : decode cX7_ranked 43 = .ok (.ifCond .eq 7, 3) := by decide +kernel
theorem dX7_ranked_46 : decode cX7_ranked 46 = .ok (.iconst 0, 1) := by decide +kernel
theorem dX7_ranked_47 : decode cX7_ranked 47 = .ok (.goto 4, 3) := by decide +kernel
theorem dX7_ranked_50 : decode cX7_ranked 50 = .ok (.iconst 2, 1) := by decide +kernel
theorem dX7_ranked_51 : decode cX7_ranked 51 = .ok (.invokevirtual 93, 3) := by decide +kernel
theorem dX7_ranked_54 : decode cX7_ranked 54 = .ok (.ifCond .eq 5, 3) := by decide +kernel
theorem dX7_ranked_57 : decode cX7_ranked 57 = .ok (.iconst 0, 1) := by decide +kernel
theorem dX7_ranked_58 : decode cX7_ranked 58 = .ok (.ireturn, 1) := by decide +kernel
theorem dX7_ranked_59 : decode cX7_ranked 59 = .ok (.aload_n 0, 1) := by decide +kernel
theorem dX7_ranked_60 : decode cX7_ranked 60 = .ok (.iload_n 1, 1) := by decide +kernel
theorem dX7_ranked_61 : decode cX7_ranked 61 = .ok (.invokevirtual 126, 3) := by decide +kernel
theorem dX7_ranked_64 : decode cX7_ranked 64 = .ok (.iload_n 3, 1) := by decide +kernel
theorem dX7_ranked_65 : decode cX7_ranked 65 = .ok (.ifCond .ne 12, 3) := by decide +kernel
theorem dX7_ranked_68 : decode cX7_ranked 68 = .ok (.aload_n 0, 1) := by decide +kernel
theorem dX7_ranked_69 : decode cX7_ranked 69 = .ok (.getfield 70, 3) := by decide +kernel
theorem dX7_ranked_72 : decode cX7_ranked 72 = .ok (.iload_n 2, 1) := by decide +kernel
theorem dX7_ranked_73 : decode cX7_ranked 73 = .ok (.iaload, 1) := by decide +kernel
theorem dX7_ranked_74 : decode cX7_ranked 74 = .ok (.goto 22, 3) := by decide +kernel
theorem dX7_ranked_77 : decode cX7_ranked 77 = .ok (.iload_n 3, 1) := by decide +kernel
theorem dX7_ranked_78 : decode cX7_ranked 78 = .ok (.iconst 1, 1) := by decide +kernel
theorem dX7_ranked_79 : decode cX7_ranked 79 = .ok (.if_icmp .ne 12, 3) := by decide +kernel
theorem dX7_ranked_82 : decode cX7_ranked 82 = .ok (.aload_n 0, 1) := by decide +kernel
theorem dX7_ranked_83 : decode cX7_ranked 83 = .ok (.getfield 73, 3) := by decide +kernel
theorem dX7_ranked_86 : decode cX7_ranked 86 = .ok (.iload_n 2, 1) := by decide +kernel
theorem dX7_ranked_87 : decode cX7_ranked 87 = .ok (.iaload, 1) := by decide +kernel
theorem dX7_ranked_88 : decode cX7_ranked 88 = .ok (.goto 8, 3) := by decide +kernel
theorem dX7_ranked_91 : decode cX7_ranked 91 = .ok (.aload_n 0, 1) := by decide +kernel
theorem dX7_ranked_92 : decode cX7_ranked 92 = .ok (.iload_n 2, 1) := by decide +kernel
theorem dX7_ranked_93 : decode cX7_ranked 93 = .ok (.invokevirtual 123, 3) := by decide +kernel
theorem dX7_ranked_96 : decode cX7_ranked 96 = .ok (.ireturn, 1) := by decide +kernel
theorem dX7_user_0 : decode cX7_user 0 = .ok (.aload_n 0, 1) := by decide +kernel
theorem dX7_user_1 : decode cX7_user 1 = .ok (.getfield 46, 3) := by decide +kernel
theorem dX7_user_4 : decode cX7_user 4 = .ok (.iload_n 1, 1) := by decide +kernel
theorem dX7_user_5 : decode cX7_user 5 = .ok (.iaload, 1) := by decide +kernel
theorem dX7_user_6 : decode cX7_user 6 = .ok (.iconst (-1), 1) := by decide +kernel
theorem dX7_user_7 : decode cX7_user 7 = .ok (.if_icmp .eq 35, 3) := by decide +kernel
theorem dX7_user_10 : decode cX7_user 10 = .ok (.aload_n 0, 1) := by decide +kernel
theorem dX7_user_11 : decode cX7_user 11 = .ok (.getfield 49, 3) := by decide +kernel
theorem dX7_user_14 : decode cX7_user 14 = .ok (.iload_n 1, 1) := by decide +kernel
theorem dX7_user_15 : decode cX7_user 15 = .ok (.iaload, 1) := by decide +kernel
theorem dX7_user_16 : decode cX7_user 16 = .ok (.iconst (-1), 1) := by decide +kernel
theorem dX7_user_17 : decode cX7_user 17 = .ok (.if_icmp .eq 25, 3) := by decide +kernel
theorem dX7_user_20 : decode cX7_user 20 = .ok (.aload_n 0, 1) := by decide +kernel
theorem dX7_user_21 : decode cX7_user 21 = .ok (.getfield 90, 3) := by decide +kernel
theorem dX7_user_24 : decode cX7_user 24 = .ok (.aload_n 0, 1) := by decide +kernel
theorem dX7_user_25 : decode cX7_user 25 = .ok (.getfield 52, 3) := by decide +kernel
theorem dX7_user_28 : decode cX7_user 28 = .ok (.iload_n 1, 1) := by decide +kernel
theorem dX7_user_29 : decode cX7_user 29 = .ok (.iaload, 1) := by decide +kernel
theorem dX7_user_30 : decode cX7_user 30 = .ok (.if_icmp .gt 12, 3) := by decide +kernel
theorem dX7_user_33 : decode cX7_user 33 = .ok (.aload_n 0, 1) := by decide +kernel
theorem dX7_user_34 : decode cX7_user 34 = .ok (.getfield 49, 3) := by decide +kernel
theorem dX7_user_37 : decode cX7_user 37 = .ok (.iload_n 1, 1) := by decide +kernel
theorem dX7_user_38 : decode cX7_user 38 = .ok (.iaload, 1) := by decide +kernel
theorem dX7_user_39 : decode cX7_user 39 = .ok (.goto 9, 3) := by decide +kernel
theorem dX7_user_42 : decode cX7_user 42 = .ok (.aload_n 0, 1) := by decide +kernel
theorem dX7_user_43 : decode cX7_user 43 = .ok (.getfield 46, 3) := by decide +kernel
theorem dX7_user_46 : decode cX7_user 46 = .ok (.iload_n 1, 1) := by decide +kernel
theorem dX7_user_47 : decode cX7_user 47 = .ok (.iaload, 1) := by decide +kernel
theorem dX7_user_48 : decode cX7_user 48 = .ok (.ireturn, 1) := by decide +kernel
theorem dX7_skinOf_0 : decode cX7_skinOf 0 = .ok (.aload_n 0, 1) := by decide +kernel
theorem dX7_skinOf_1 : decode cX7_skinOf 1 = .ok (.aload_n 0, 1) := by decide +kernel
theorem dX7_skinOf_2 : decode cX7_skinOf 2 = .ok (.iload_n 1, 1) := by decide +kernel
theorem dX7_skinOf_3 : decode cX7_skinOf 3 = .ok (.invokevirtual 136, 3) := by decide +kernel
theorem dX7_skinOf_6 : decode cX7_skinOf 6 = .ok (.ifCond .ne 7, 3) := by decide +kernel
theorem dX7_skinOf_9 : decode cX7_skinOf 9 = .ok (.iconst 1, 1) := by decide +kernel
theorem dX7_skinOf_10 : decode cX7_skinOf 10 = .ok (.goto 18, 3) := by decide +kernel
theorem dX7_skinOf_13 : decode cX7_skinOf 13 = .ok (.iload_n 2, 1) := by decide +kernel
theorem dX7_skinOf_14 : decode cX7_skinOf 14 = .ok (.iconst 0, 1) := by decide +kernel
theorem dX7_skinOf_15 : decode cX7_skinOf 15 = .ok (.bipush 6, 2) := by decide +kernel
theorem dX7_skinOf_17 : decode cX7_skinOf 17 = .ok (.invokestatic 86, 3) := by decide +kernel
theorem dX7_skinOf_20 : decode cX7_skinOf 20 = .ok (.ifCond .eq 7, 3) := by decide +kernel
theorem dX7_skinOf_23 : decode cX7_skinOf 23 = .ok (.iconst 0, 1) := by decide +kernel
theorem dX7_skinOf_24 : decode cX7_skinOf 24 = .ok (.goto 4, 3) := by decide +kernel
theorem dX7_skinOf_27 : decode cX7_skinOf 27 = .ok (.iconst 2, 1) := by decide +kernel
theorem dX7_skinOf_28 : decode cX7_skinOf 28 = .ok (.invokevirtual 93, 3) := by decide +kernel
theorem dX7_skinOf_31 : decode cX7_skinOf 31 = .ok (.ifCond .eq 5, 3) := by decide +kernel
theorem dX7_skinOf_34 : decode cX7_skinOf 34 = .ok (.iconst 0, 1) := by decide +kernel
theorem dX7_skinOf_35 : decode cX7_skinOf 35 = .ok (.ireturn, 1) := by decide +kernel
theorem dX7_skinOf_36 : decode cX7_skinOf 36 = .ok (.iload_n 2, 1) := by decide +kernel
theorem dX7_skinOf_37 : decode cX7_skinOf 37 = .ok (.tableswitch 80 0 5 #[39, 46, 53, 59, 66, 73], 39) := by decide +kernel
theorem dX7_skinOf_76 : decode cX7_skinOf 76 = .ok (.aload_n 0, 1) := by decide +kernel
theorem dX7_skinOf_77 : decode cX7_skinOf 77 = .ok (.getfield 46, 3) := by decide +kernel
theorem dX7_skinOf_80 : decode cX7_skinOf 80 = .ok (.iload_n 1, 1) := by decide +kernel
theorem dX7_skinOf_81 : decode cX7_skinOf 81 = .ok (.iaload, 1) := by decide +kernel
theorem dX7_skinOf_82 : decode cX7_skinOf 82 = .ok (.ireturn, 1) := by decide +kernel
theorem dX7_skinOf_83 : decode cX7_skinOf 83 = .ok (.aload_n 0, 1) := by decide +kernel
theorem dX7_skinOf_84 : decode cX7_skinOf 84 = .ok (.getfield 43, 3) := by decide +kernel
theorem dX7_skinOf_87 : decode cX7_skinOf 87 = .ok (.iload_n 1, 1) := by decide +kernel
theorem dX7_skinOf_88 : decode cX7_skinOf 88 = .ok (.iaload, 1) := by decide +kernel
theorem dX7_skinOf_89 : decode cX7_skinOf 89 = .ok (.ireturn, 1) := by decide +kernel
theorem dX7_skinOf_90 : decode cX7_skinOf 90 = .ok (.aload_n 0, 1) := by decide +kernel
theorem dX7_skinOf_91 : decode cX7_skinOf 91 = .ok (.iload_n 1, 1) := by decide +kernel
theorem dX7_skinOf_92 : decode cX7_skinOf 92 = .ok (.invokevirtual 150, 3) := by decide +kernel
theorem dX7_skinOf_95 : decode cX7_skinOf 95 = .ok (.ireturn, 1) := by decide +kernel
theorem dX7_skinOf_96 : decode cX7_skinOf 96 = .ok (.aload_n 0, 1) := by decide +kernel
theorem dX7_skinOf_97 : decode cX7_skinOf 97 = .ok (.getfield 37, 3) := by decide +kernel
theorem dX7_skinOf_100 : decode cX7_skinOf 100 = .ok (.iload_n 1, 1) := by decide +kernel
theorem dX7_skinOf_101 : decode cX7_skinOf 101 = .ok (.iaload, 1) := by decide +kernel
theorem dX7_skinOf_102 : decode cX7_skinOf 102 = .ok (.ireturn, 1) := by decide +kernel
theorem dX7_skinOf_103 : decode cX7_skinOf 103 = .ok (.aload_n 0, 1) := by decide +kernel
theorem dX7_skinOf_104 : decode cX7_skinOf 104 = .ok (.getfield 40, 3) := by decide +kernel
theorem dX7_skinOf_107 : decode cX7_skinOf 107 = .ok (.iload_n 1, 1) := by decide +kernel
theorem dX7_skinOf_108 : decode cX7_skinOf 108 = .ok (.iaload, 1) := by decide +kernel
theorem dX7_skinOf_109 : decode cX7_skinOf 109 = .ok (.ireturn, 1) := by decide +kernel
theorem dX7_skinOf_110 : decode cX7_skinOf 110 = .ok (.aload_n 0, 1) := by decide +kernel
theorem dX7_skinOf_111 : decode cX7_skinOf 111 = .ok (.getfield 58, 3) := by decide +kernel
theorem dX7_skinOf_114 : decode cX7_skinOf 114 = .ok (.iload_n 1, 1) := by decide +kernel
theorem dX7_skinOf_115 : decode cX7_skinOf 115 = .ok (.iaload, 1) := by decide +kernel
theorem dX7_skinOf_116 : decode cX7_skinOf 116 = .ok (.ireturn, 1) := by decide +kernel
theorem dX7_skinOf_117 : decode cX7_skinOf 117 = .ok (.aload_n 0, 1) := by decide +kernel
theorem dX7_skinOf_118 : decode cX7_skinOf 118 = .ok (.getfield 55, 3) := by decide +kernel
theorem dX7_skinOf_121 : decode cX7_skinOf 121 = .ok (.iload_n 1, 1) := by decide +kernel
theorem dX7_skinOf_122 : decode cX7_skinOf 122 = .ok (.iaload, 1) := by decide +kernel
theorem dX7_skinOf_123 : decode cX7_skinOf 123 = .ok (.iconst (-1), 1) := by decide +kernel
theorem dX7_skinOf_124 : decode cX7_skinOf 124 = .ok (.if_icmp .ne 7, 3) := by decide +kernel
theorem dX7_skinOf_127 : decode cX7_skinOf 127 = .ok (.iconst 0, 1) := by decide +kernel
theorem dX7_skinOf_128 : decode cX7_skinOf 128 = .ok (.goto 4, 3) := by decide +kernel
theorem dX7_skinOf_131 : decode cX7_skinOf 131 = .ok (.iconst 1, 1) := by decide +kernel
theorem dX7_skinOf_132 : decode cX7_skinOf 132 = .ok (.ireturn, 1) := by decide +kernel
theorem dX7_money_0 : decode cX7_money 0 = .ok (.aload_n 0, 1) := by decide +kernel
theorem dX7_money_1 : decode cX7_money 1 = .ok (.aload_n 0, 1) := by decide +kernel
theorem dX7_money_2 : decode cX7_money 2 = .ok (.iload_n 1, 1) := by decide +kernel
theorem dX7_money_3 : decode cX7_money 3 = .ok (.invokevirtual 107, 3) := by decide +kernel
theorem dX7_money_6 : decode cX7_money 6 = .ok (.ifCond .eq 7, 3) := by decide +kernel
theorem dX7_money_9 : decode cX7_money 9 = .ok (.iconst 0, 1) := by decide +kernel
theorem dX7_money_10 : decode cX7_money 10 = .ok (.goto 4, 3) := by decide +kernel
theorem dX7_money_13 : decode cX7_money 13 = .ok (.iconst 1, 1) := by decide +kernel
theorem dX7_money_14 : decode cX7_money 14 = .ok (.invokevirtual 93, 3) := by decide +kernel
theorem dX7_money_17 : decode cX7_money 17 = .ok (.ifCond .eq 7, 3) := by decide +kernel
theorem dX7_money_20 : decode cX7_money 20 = .ok (.iconst 0, 1) := by decide +kernel
theorem dX7_money_21 : decode cX7_money 21 = .ok (.goto 9, 3) := by decide +kernel
theorem dX7_money_24 : decode cX7_money 24 = .ok (.aload_n 0, 1) := by decide +kernel
theorem dX7_money_25 : decode cX7_money 25 = .ok (.getfield 16, 3) := by decide +kernel
theorem dX7_money_28 : decode cX7_money 28 = .ok (.iload_n 1, 1) := by decide +kernel
theorem dX7_money_29 : decode cX7_money 29 = .ok (.iaload, 1) := by decide +kernel
theorem dX7_money_30 : decode cX7_money 30 = .ok (.ireturn, 1) := by decide +kernel
theorem dX7_puts_0 : decode cX7_puts 0 = .ok (.aload_n 0, 1) := by decide +kernel
theorem dX7_puts_1 : decode cX7_puts 1 = .ok (.getfield 76, 3) := by decide +kernel
theorem dX7_puts_4 : decode cX7_puts 4 = .ok (.aload_n 0, 1) := by decide +kernel
theorem dX7_puts_5 : decode cX7_puts 5 = .ok (.getfield 153, 3) := by decide +kernel
theorem dX7_puts_8 : decode cX7_puts 8 = .ok (.iload_n 1, 1) := by decide +kernel
theorem dX7_puts_9 : decode cX7_puts 9 = .ok (.iastore, 1) := by decide +kernel
theorem dX7_puts_10 : decode cX7_puts 10 = .ok (.aload_n 0, 1) := by decide +kernel
theorem dX7_puts_11 : decode cX7_puts 11 = .ok (.dup, 1) := by decide +kernel
theorem dX7_puts_12 : decode cX7_puts 12 = .ok (.getfield 153, 3) := by decide +kernel
theorem dX7_puts_15 : decode cX7_puts 15 = .ok (.iconst 1, 1) := by decide +kernel
theorem dX7_puts_16 : decode cX7_puts 16 = .ok (.iadd, 1) := by decide +kernel
theorem dX7_puts_17 : decode cX7_puts 17 = .ok (.putfield 153, 3) := by decide +kernel
theorem dX7_puts_20 : decode cX7_puts 20 = .ok (.return_, 1) := by decide +kernel
theorem dX7_putsNumber_0 : decode cX7_putsNumber 0 = .ok (.iload_n 1, 1) := by decide +kernel
theorem dX7_putsNumber_1 : decode cX7_putsNumber 1 = .ok (.bipush 9, 2) := by decide +kernel
theorem dX7_putsNumber_3 : decode cX7_putsNumber 3 = .ok (.if_icmp .le 14, 3) := by decide +kernel
theorem dX7_putsNumber_6 : decode cX7_putsNumber 6 = .ok (.aload_n 0, 1) := by decide +kernel
theorem dX7_putsNumber_7 : decode cX7_putsNumber 7 = .ok (.bipush 48, 2) := by decide +kernel
theorem dX7_putsNumber_9 : decode cX7_putsNumber 9 = .ok (.iload_n 1, 1) := by decide +kernel
theorem dX7_putsNumber_10 : decode cX7_putsNumber 10 = .ok (.bipush 10, 2) := by decide +kernel
theorem dX7_putsNumber_12 : decode cX7_putsNumber 12 = .ok (.idiv, 1) := by decide +kernel
theorem dX7_putsNumber_13 : decode cX7_putsNumber 13 = .ok (.iadd, 1) := by decide +kernel
theorem dX7_putsNumber_14 : decode cX7_putsNumber 14 = .ok (.invokevirtual 156, 3) := by decide +kernel
theorem dX7_putsNumber_17 : decode cX7_putsNumber 17 = .ok (.aload_n 0, 1) := by decide +kernel
theorem dX7_putsNumber_18 : decode cX7_putsNumber 18 = .ok (.bipush 48, 2) := by decide +kernel
theorem dX7_putsNumber_20 : decode cX7_putsNumber 20 = .ok (.iload_n 1, 1) := by decide +kernel
theorem dX7_putsNumber_21 : decode cX7_putsNumber 21 = .ok (.bipush 10, 2) := by decide +kernel
theorem dX7_putsNumber_23 : decode cX7_putsNumber 23 = .ok (.irem, 1) := by decide +kernel
theorem dX7_putsNumber_24 : decode cX7_putsNumber 24 = .ok (.iadd, 1) := by decide +kernel
theorem dX7_putsNumber_25 : decode cX7_putsNumber 25 = .ok (.invokevirtual 156, 3) := by decide +kernel
theorem dX7_putsNumber_28 : decode cX7_putsNumber 28 = .ok (.return_, 1) := by decide +kernel
theorem dX7_label_0 : decode cX7_label 0 = .ok (.aload_n 0, 1) := by decide +kernel
theorem dX7_label_1 : decode cX7_label 1 = .ok (.aload_n 0, 1) := by decide +kernel
theorem dX7_label_2 : decode cX7_label 2 = .ok (.iload_n 1, 1) := by decide +kernel
theorem dX7_label_3 : decode cX7_label 3 = .ok (.invokevirtual 136, 3) := by decide +kernel
theorem dX7_label_6 : decode cX7_label 6 = .ok (.ifCond .eq 11, 3) := by decide +kernel
theorem dX7_label_9 : decode cX7_label 9 = .ok (.iload_n 2, 1) := by decide +kernel
theorem dX7_label_10 : decode cX7_label 10 = .ok (.ifCond .lt 7, 3) := by decide +kernel
theorem dX7_label_13 : decode cX7_label 13 = .ok (.iconst 0, 1) := by decide +kernel
theorem dX7_label_14 : decode cX7_label 14 = .ok (.goto 4, 3) := by decide +kernel
theorem dX7_label_17 : decode cX7_label 17 = .ok (.iconst 1, 1) := by decide +kernel
theorem dX7_label_18 : decode cX7_label 18 = .ok (.invokevirtual 93, 3) := by decide +kernel
theorem dX7_label_21 : decode cX7_label 21 = .ok (.ifCond .eq 5, 3) := by decide +kernel
theorem dX7_label_24 : decode cX7_label 24 = .ok (.iconst 0, 1) := by decide +kernel
theorem dX7_label_25 : decode cX7_label 25 = .ok (.ireturn, 1) := by decide +kernel
theorem dX7_label_26 : decode cX7_label 26 = .ok (.aload_n 0, 1) := by decide +kernel
theorem dX7_label_27 : decode cX7_label 27 = .ok (.iconst 0, 1) := by decide +kernel
theorem dX7_label_28 : decode cX7_label 28 = .ok (.putfield 153, 3) := by decide +kernel
theorem dX7_label_31 : decode cX7_label 31 = .ok (.aload_n 0, 1) := by decide +kernel
theorem dX7_label_32 : decode cX7_label 32 = .ok (.iload_n 1, 1) := by decide +kernel
theorem dX7_label_33 : decode cX7_label 33 = .ok (.invokevirtual 159, 3) := by decide +kernel
theorem dX7_label_36 : decode cX7_label 36 = .ok (.aload_n 0, 1) := by decide +kernel
theorem dX7_label_37 : decode cX7_label 37 = .ok (.bipush 58, 2) := by decide +kernel
theorem dX7_label_39 : decode cX7_label 39 = .ok (.invokevirtual 156, 3) := by decide +kernel
theorem dX7_label_42 : decode cX7_label 42 = .ok (.aload_n 0, 1) := by decide +kernel
theorem dX7_label_43 : decode cX7_label 43 = .ok (.aload_n 0, 1) := by decide +kernel
theorem dX7_label_44 : decode cX7_label 44 = .ok (.getfield 37, 3) := by decide +kernel
theorem dX7_label_47 : decode cX7_label 47 = .ok (.iload_n 1, 1) := by decide +kernel
theorem dX7_label_48 : decode cX7_label 48 = .ok (.iaload, 1) := by decide +kernel
theorem dX7_label_49 : decode cX7_label 49 = .ok (.invokevirtual 159, 3) := by decide +kernel
theorem dX7_label_52 : decode cX7_label 52 = .ok (.aload_n 0, 1) := by decide +kernel
theorem dX7_label_53 : decode cX7_label 53 = .ok (.bipush 47, 2) := by decide +kernel
theorem dX7_label_55 : decode cX7_label 55 = .ok (.invokevirtual 156, 3) := by decide +kernel
theorem dX7_label_58 : decode cX7_label 58 = .ok (.aload_n 0, 1) := by decide +kernel
theorem dX7_label_59 : decode cX7_label 59 = .ok (.aload_n 0, 1) := by decide +kernel
theorem dX7_label_60 : decode cX7_label 60 = .ok (.getfield 40, 3) := by decide +kernel
theorem dX7_label_63 : decode cX7_label 63 = .ok (.iload_n 1, 1) := by decide +kernel
theorem dX7_label_64 : decode cX7_label 64 = .ok (.iaload, 1) := by decide +kernel
theorem dX7_label_65 : decode cX7_label 65 = .ok (.invokevirtual 159, 3) := by decide +kernel
theorem dX7_label_68 : decode cX7_label 68 = .ok (.aload_n 0, 1) := by decide +kernel
theorem dX7_label_69 : decode cX7_label 69 = .ok (.getfield 46, 3) := by decide +kernel
theorem dX7_label_72 : decode cX7_label 72 = .ok (.iload_n 1, 1) := by decide +kernel
theorem dX7_label_73 : decode cX7_label 73 = .ok (.iaload, 1) := by decide +kernel
theorem dX7_label_74 : decode cX7_label 74 = .ok (.iconst (-1), 1) := by decide +kernel
theorem dX7_label_75 : decode cX7_label 75 = .ok (.if_icmp .eq 19, 3) := by decide +kernel
theorem dX7_label_78 : decode cX7_label 78 = .ok (.aload_n 0, 1) := by decide +kernel
theorem dX7_label_79 : decode cX7_label 79 = .ok (.bipush 64, 2) := by decide +kernel
theorem dX7_label_81 : decode cX7_label 81 = .ok (.invokevirtual 156, 3) := by decide +kernel
theorem dX7_label_84 : decode cX7_label 84 = .ok (.aload_n 0, 1) := by decide +kernel
theorem dX7_label_85 : decode cX7_label 85 = .ok (.aload_n 0, 1) := by decide +kernel
theorem dX7_label_86 : decode cX7_label 86 = .ok (.getfield 46, 3) := by decide +kernel
theorem dX7_label_89 : decode cX7_label 89 = .ok (.iload_n 1, 1) := by decide +kernel
theorem dX7_label_90 : decode cX7_label 90 = .ok (.iaload, 1) := by decide +kernel
theorem dX7_label_91 : decode cX7_label 91 = .ok (.invokevirtual 159, 3) := by decide +kernel
theorem dX7_label_94 : decode cX7_label 94 = .ok (.iload_n 2, 1) := by decide +kernel
theorem dX7_label_95 : decode cX7_label 95 = .ok (.aload_n 0, 1) := by decide +kernel
theorem dX7_label_96 : decode cX7_label 96 = .ok (.getfield 153, 3) := by decide +kernel
theorem dX7_label_99 : decode cX7_label 99 = .ok (.if_icmp .ge 13, 3) := by decide +kernel
theorem dX7_label_102 : decode cX7_label 102 = .ok (.aload_n 0, 1) := by decide +kernel
theorem dX7_label_103 : decode cX7_label 103 = .ok (.getfield 76, 3) := by decide +kernel
theorem dX7_label_106 : decode cX7_label 106 = .ok (.iload_n 2, 1) := by decide +kernel
theorem dX7_label_107 : decode cX7_label 107 = .ok (.iaload, 1) := by decide +kernel
theorem dX7_label_108 : decode cX7_label 108 = .ok (.i2c, 1) := by decide +kernel
theorem dX7_label_109 : decode cX7_label 109 = .ok (.goto 4, 3) := by decide +kernel
theorem dX7_label_112 : decode cX7_label 112 = .ok (.iconst 0, 1) := by decide +kernel
theorem dX7_label_113 : decode cX7_label 113 = .ok (.ireturn, 1) := by decide +kernel
end
section
/-! The reference's object: whole numbers by their fields' places (N), its rows (F: whole numbers; those of shN hold them less 1), the money (B) -/
def shN (k : Nat) : Bool := k == 2 || k == 16 || k == 17 || k == 18 || k == 20
def rowM (F : Nat → Nat → Nat) (B : Nat → Int32) (k : Nat) : Nat → Int32 := fun i => if k = 4 then B i else if shN k = true then nI (F k i) - 1 else nI (F k i)
def lenM (k : Nat) : Nat := if k ≤ 4 then 16 else if k = 5 then 4 else if k ≤ 11 then 100 else if k ≤ 21 then 36 else if k ≤ 24 then 720 else 16
def arK (k : Nat) : Bool := (2 ≤ k && k ≤ 5) || (7 ≤ k && k ≤ 11) || (14 ≤ k && k ≤ 27)
def fieldsM (N ar : Nat → Nat) : List Value := [.int (nI (N 0)), .int (nI (N 1)), .ref (ar 2), .ref (ar 3), .ref (ar 4), .ref (ar 5), .int (nI (N 6)), .ref (ar 7), .ref (ar 8), .ref (ar 9), .ref (ar 10), .ref (ar 11), .int (nI (N 12)), .int (nI (N 13)), .ref (ar 14), .ref (ar 15), .ref (ar 16), .ref (ar 17), .ref (ar 18), .ref (ar 19), .ref (ar 20), .ref (ar 21), .ref (ar 22), .ref (ar 23), .ref (ar 24), .ref (ar 25), .ref (ar 26), .ref (ar 27), .int (nI (N 28)), .int (nI (N 29))]
def RM (G : mG) (x : Nat) (ar N : Nat → Nat) (F : Nat → Nat → Nat) (B : Nat → Int32) (M : Mem) : Prop :=
  M x = some (.inr (8, fieldsM N ar)) ∧ (∀ k, arK k = true → M (ar k) = some (.inl (G.2 0, lenM k, .inl (rowM F B k)))) ∧ ∀ k k', arK k = true → arK k' = true → ar k = ar k' → k = k'
theorem va_up_at {α : Type} (f : Nat → α) (k : Nat) (v : α) : va_up f k v k = v := by simp [va_up]
theorem va_up_off {α : Type} (f : Nat → α) {k j : Nat} (v : α) (h : j ≠ k) : va_up f k v j = f j := by simp [va_up, h]
theorem rowM_off {F : Nat → Nat → Nat} {B : Nat → Int32} {k j : Nat} (g : Nat → Nat) (h : j ≠ k) : rowM (va_up F k g) B j = rowM F B j := by
  funext i
  simp only [rowM, va_up_off F g h]
theorem RM.xne {G : mG} {x : Nat} {ar N : Nat → Nat} {F : Nat → Nat → Nat} {B : Nat → Int32} {M : Mem} (h : RM G x ar N F B M) {k : Nat} (hk : arK k = true) : ar k ≠ x := mem_ne h.1 (h.2.1 k hk) (fun q => by cases q)
theorem RM.sc {G : mG} {x : Nat} {ar N N' : Nat → Nat} {F : Nat → Nat → Nat} {B : Nat → Int32} {M : Mem} (h : RM G x ar N F B M) {fs : List Value} (hf : fs = fieldsM N' ar) : RM G x ar N' F B (mU M x (.inr (8, fs))) := by
  refine ⟨by rw [mU_eq, hf], fun k hk => ?_, h.2.2⟩
  rw [mU_ne (h.xne hk)]
  exact h.2.1 k hk
theorem RM.ro {G : mG} {x : Nat} {ar N : Nat → Nat} {F F' : Nat → Nat → Nat} {B B' : Nat → Int32} {M : Mem} (h : RM G x ar N F B M) {k : Nat} (hk : arK k = true) {g : Nat → Int32} (hg : g = rowM F' B' k) (ho : ∀ j, j ≠ k → rowM F' B' j = rowM F B j) : RM G x ar N F' B' (mU M (ar k) (.inl (G.2 0, lenM k, .inl g))) := by
  refine ⟨by rw [mU_ne (fun q => h.xne hk q.symm)]; exact h.1, fun j hj => ?_, h.2.2⟩
  by_cases hjk : j = k
  · subst hjk
    rw [mU_eq, hg]
  · rw [mU_ne (fun q => hjk (h.2.2 j k hj hk q)), ho j hjk]
    exact h.2.1 j hj
def mM (G : mG) (A : Nat → Prop) (H0 : Heap) (x : Nat) (ar N : Nat → Nat) (F : Nat → Nat → Nat) (B : Nat → Int32) (H : Heap) (locs : List Loc) : Prop := ∃ M : Mem, mW G A H0 M H locs ∧ RM G x ar N F B M
def encM (k v : Nat) : Int32 := if shN k = true then nI v - 1 else nI v
theorem upd_enc {F : Nat → Nat → Nat} {B : Nat → Int32} {k i v : Nat} (h4 : k ≠ 4) : upd (rowM F B k) i (encM k v) = rowM (va_up F k (va_up (F k) i v)) B k := by
  funext j
  simp only [upd, rowM, encM, if_neg h4, va_up_at]
  by_cases hj : j = i
  · subst hj
    simp only [↓reduceIte, va_up_at]
  · simp only [if_neg hj, va_up_off (F k) v hj]
theorem upd_mon {F : Nat → Nat → Nat} {B : Nat → Int32} {i : Nat} {w : Int32} : upd (rowM F B 4) i w = rowM F (upd B i w) 4 := by
  funext j
  rfl
theorem rowM_B {F : Nat → Nat → Nat} {B B' : Nat → Int32} {j : Nat} (h : j ≠ 4) : rowM F B' j = rowM F B j := by
  funext i
  simp only [rowM, if_neg h]
abbrev MPost : Type := Option Value → (Nat → Nat) → (Nat → Nat → Nat) → (Nat → Int32) → Prop
def MMet (l : Launch) (y : MethodName) (bc : ByteArray) (nL : Nat) (ret : Option FieldType) (rm : Room) (G : mG) (x : Nat) (ar : Nat → Nat) (av : List Value) (N : Nat → Nat) (F : Nat → Nat → Nat) (B : Nat → Int32) (Post : MPost) : Prop :=
  ∀ M : Mem, RM G x ar N F B M → mMet l y bc nL ret rm G av M (fun r M' => ∃ (N' : Nat → Nat) (F' : Nat → Nat → Nat) (B' : Nat → Int32), Post r N' F' B' ∧ RM G x ar N' F' B' M')
/-- the end's predicate of a reference's method -/
abbrev MZ (G : mG) (A : Nat → Prop) (x : Nat) (ar : Nat → Nat) (Post : MPost) (below : List Frame) (args : Array Value) (s : State) (mc ms : Nat) : State → Prop := MQ below (mQ G A (fun r M' => ∃ (N' : Nat → Nat) (F' : Nat → Nat → Nat) (B' : Nat → Int32), Post r N' F' B' ∧ RM G x ar N' F' B' M')) args s mc ms A
section MODEL
variable {p : Program} {l : Launch} {e : Env} {R : Room} {s : State} {m : MethodId} {args : Array Value} {below : List Frame} {meth : Method} {c : Code} {H : Heap} {locs : List Loc} {cells slots : Nat} {Q : State → Prop}
variable {cc : ByteArray} {pc nL : Nat} {ls : Array Slot} {st0 rest : List Value} {G : mG} {A : Nat → Prop} {own : String} {H0 : Heap} {x : Nat} {ar N : Nat → Nat} {F : Nat → Nat → Nat} {B : Nat → Int32}
theorem MMet.of {y : MethodName} {bc : ByteArray} {ret : Option FieldType} {rm : Room} {av : List Value} {Post : MPost} (hy : plainName y.cls = true) (hav : (lg_sl av).length ≤ nL)
    (body : ∀ (p : Program) (e : Env) (s : State) (m : MethodId) (args : Array Value) (below : List Frame) (meth : Method) (c : Code) (A : Nat → Prop) (ls : Array Slot), Cx p c s m bc y.cls nL G → meth.sig.returnType = ret → meth.locks = false → mM G A s.heap x ar N F B s.heap [] → lv_has ls nL (lv_args 0 av) →
      W p l e rm s m args below meth c s.heap [] 0 0 (MZ G A x ar Post below args s rm.cells rm.slots) (F0 m 0 ls [])) : MMet l y bc nL ret rm G x ar av N F B Post :=
  fun M hR => mMet.of hy hav (fun p e s m args below meth c A ls X hr hlocks _ hM hl => body p e s m args below meth c A ls X hr hlocks ⟨M, hM, hR⟩ hl)
theorem mr_get (X : Cx p c s m cc RX7 nL G) (h : mM G A H0 x ar N F B H locs) {k index : Nat} (hl : Cond.fieldLink RX7 index (TX7 k).1 (TX7 k).2.1 (TX7 k).2.2.1 ∈ KTW) (hk : k < 30) (hdg : decode cc pc = .ok (.getfield index, 3)) {v : Value} (hv : (fieldsM N ar)[k]? = some v)
    (kk : W p l e R s m args below meth c H locs cells slots Q (F0 m (pc + 3) ls (v :: rest))) : W p l e R s m args below meth c H locs cells slots Q (F0 m pc ls (.ref x :: rest)) := by
  obtain ⟨M, hM, hR⟩ := h
  exact mg_get X hM (ci := 8) rfl kwX7 hk hl hdg hR.1 hv kk
theorem mr_put (X : Cx p c s m cc RX7 nL G) (h : mM G A H0 x ar N F B H locs) {k index : Nat} (hl : Cond.fieldLink RX7 index (TX7 k).1 (TX7 k).2.1 (TX7 k).2.2.1 ∈ KTW) (hk : k < 30) (hfin : (TX7 k).2.2.2 = false) (hty : tyX7 k = .int) (hdg : decode cc pc = .ok (.putfield index, 3)) {v : Nat} (hv : (fieldsM N ar).set k (.int (nI v)) = fieldsM (va_up N k v) ar)
    (kk : ∀ (H1 : Heap) (locs1 : List Loc), mM G A H0 x ar (va_up N k v) F B H1 locs1 → W p l e R s m args below meth c H1 locs1 cells slots Q (F0 m (pc + 3) ls rest)) : W p l e R s m args below meth c H locs cells slots Q (F0 m pc ls (.int (nI v) :: .ref x :: rest)) := by
  obtain ⟨M, hM, hR⟩ := h
  exact mg_put X hM tyX7 tyX7_ok nmX7 (ci := 8) rfl kwX7 hk hl hfin hdg hR.1 (by rw [hty]; rfl) (by rw [hty]; rfl) hk (fun H1 locs1 h1 => kk H1 locs1 ⟨_, h1, hR.sc hv⟩)
theorem mr_ald (X : Cx p c s m cc own nL G) (h : mM G A H0 x ar N F B H locs) (k : Nat) (hk : arK k = true) (hdg : decode cc pc = .ok (.iaload, 1)) {i : Nat} {xi v : Int32} (hx : xi = nI i) (hi : i < lenM k) (hv : rowM F B k i = v)
    (kk : W p l e R s m args below meth c H locs cells slots Q (F0 m (pc + 1) ls (.int v :: rest))) : W p l e R s m args below meth c H locs cells slots Q (F0 m pc ls (.int xi :: .ref (ar k) :: rest)) := by
  obtain ⟨M, hM, hR⟩ := h
  subst hx
  have hl : lenM k ≤ 720 := by unfold lenM; split <;> (try split) <;> (try split) <;> (try split) <;> (try split) <;> omega
  refine mg_iald X hM hdg (hR.2.1 k hk) (vp_in_nI hi (by omega)) ?_
  rw [nI_clamp (by omega), hv]
  exact kk
theorem mr_ast (X : Cx p c s m cc own nL G) (h : mM G A H0 x ar N F B H locs) (k : Nat) (hk : arK k = true) (h4 : k ≠ 4) (hdg : decode cc pc = .ok (.iastore, 1)) {i v : Nat} {xi xv : Int32} (hx : xi = nI i) (hi : i < lenM k) (hv : xv = encM k v)
    (kk : ∀ (H1 : Heap) (locs1 : List Loc), mM G A H0 x ar N (va_up F k (va_up (F k) i v)) B H1 locs1 → W p l e R s m args below meth c H1 locs1 cells slots Q (F0 m (pc + 1) ls rest)) : W p l e R s m args below meth c H locs cells slots Q (F0 m pc ls (.int xv :: .int xi :: .ref (ar k) :: rest)) := by
  obtain ⟨M, hM, hR⟩ := h
  subst hx
  subst hv
  have hl : lenM k ≤ 720 := by unfold lenM; split <;> (try split) <;> (try split) <;> (try split) <;> (try split) <;> omega
  refine mg_iast X hM hdg (hR.2.1 k hk) (vp_in_nI hi (by omega)) (fun H1 locs1 h1 => kk H1 locs1 ⟨_, h1, hR.ro hk ?_ (fun j hj => rowM_off _ hj)⟩)
  rw [nI_clamp (by omega)]
  exact upd_enc h4
theorem mr_astB (X : Cx p c s m cc own nL G) (h : mM G A H0 x ar N F B H locs) (hdg : decode cc pc = .ok (.iastore, 1)) {i : Nat} {xi xv : Int32} (hx : xi = nI i) (hi : i < 16)
    (kk : ∀ (H1 : Heap) (locs1 : List Loc), mM G A H0 x ar N F (upd B i xv) H1 locs1 → W p l e R s m args below meth c H1 locs1 cells slots Q (F0 m (pc + 1) ls rest)) : W p l e R s m args below meth c H locs cells slots Q (F0 m pc ls (.int xv :: .int xi :: .ref (ar 4) :: rest)) := by
  obtain ⟨M, hM, hR⟩ := h
  subst hx
  refine mg_iast X hM hdg (hR.2.1 4 rfl) (vp_in_nI (by show i < 16; exact hi) (by decide)) (fun H1 locs1 h1 => kk H1 locs1 ⟨_, h1, hR.ro rfl ?_ (fun j hj => rowM_B hj)⟩)
  rw [nI_clamp (by omega)]
  exact upd_mon
theorem mr_callV (X : Cx p c s m cc own nL G) (h : mM G A H0 x ar N F B H locs) {index n : Nat} {y : MethodName} {bytes : ByteArray} {maxL : Nat} {ret : Option FieldType} {rm : Room} {As : List Value} {Post : MPost} (K : mCk own index y bytes maxL ret n) (hi : Cond.instanceMethod y ∈ KTW) (hs : Cond.selects RX7 y y ∈ KTW)
    (hdg : decode cc pc = .ok (.invokevirtual index, 3)) (hC : MMet l y bytes maxL ret rm G x ar (.ref x :: As) N F B Post) (hn : As.length = n) {lv : List (Nat × Value)} (hls : lv_has ls nL lv) (hst : st0 = As.reverse ++ .ref x :: rest) (hW : (rest.map fun v => v.category).sum ≤ 8) (hR : rm.frames + 1 ≤ R.frames ∧ 8 + (maxL + 11) + rm.locals ≤ R.locals) (hf : cells + rm.cells ≤ R.cells ∧ slots + rm.slots ≤ R.slots)
    (kk : ∀ (r : Option Value) (N1 : Nat → Nat) (F1 : Nat → Nat → Nat) (B1 : Nat → Int32) (H1 : Heap) (locs1 : List Loc), Post r N1 F1 B1 → mM G A H0 x ar N1 F1 B1 H1 locs1 → W p l e R s m args below meth c H1 locs1 (cells + rm.cells) (slots + rm.slots) Q (F0 m (pc + 3) ls (r.toList ++ rest))) : W p l e R s m args below meth c H locs cells slots Q (F0 m pc ls st0) := by
  obtain ⟨M, hM, hRM⟩ := h
  exact m_callV X hM K hi hs (ci := 8) rfl hdg (hC M hRM) hRM.1 hn hls hst hW hR hf (fun r M1 H1 locs1 ⟨N1, F1, B1, hp, h1⟩ hM1 => kk r N1 F1 B1 H1 locs1 hp ⟨M1, hM1, h1⟩)
theorem mr_callS (X : Cx p c s m cc own nL G) (h : mM G A H0 x ar N F B H locs) {index n : Nat} {y : MethodName} {bytes : ByteArray} {maxL : Nat} {ret : Option FieldType} {rm : Room} {As : List Value} {Post : MPost} (K : mCk own index y bytes maxL ret n) (hs : Cond.static y ∈ KTW)
    (hdg : decode cc pc = .ok (.invokestatic index, 3)) (hC : MMet l y bytes maxL ret rm G x ar As N F B Post) (hn : As.length = n) {lv : List (Nat × Value)} (hls : lv_has ls nL lv) (hst : st0 = As.reverse ++ rest) (hW : (rest.map fun v => v.category).sum ≤ 8) (hR : rm.frames + 1 ≤ R.frames ∧ 8 + (maxL + 11) + rm.locals ≤ R.locals) (hf : cells + rm.cells ≤ R.cells ∧ slots + rm.slots ≤ R.slots)
    (kk : ∀ (r : Option Value) (N1 : Nat → Nat) (F1 : Nat → Nat → Nat) (B1 : Nat → Int32) (H1 : Heap) (locs1 : List Loc), Post r N1 F1 B1 → mM G A H0 x ar N1 F1 B1 H1 locs1 → W p l e R s m args below meth c H1 locs1 (cells + rm.cells) (slots + rm.slots) Q (F0 m (pc + 3) ls (r.toList ++ rest))) : W p l e R s m args below meth c H locs cells slots Q (F0 m pc ls st0) := by
  obtain ⟨M, hM, hRM⟩ := h
  exact m_callS X hM K hs hdg (hC M hRM) hn hls hst hW hR hf (fun r M1 H1 locs1 ⟨N1, F1, B1, hp, h1⟩ hM1 => kk r N1 F1 B1 H1 locs1 hp ⟨M1, hM1, h1⟩)
theorem mr_iret {Post : MPost} {mc ms : Nat} {v : Int32} (X : Cx p c s m cc own nL G) (hr : meth.sig.returnType = some .int) (hlocks : meth.locks = false) (h : mM G A s.heap x ar N F B H locs) (hdg : decode cc pc = .ok (.ireturn, 1)) (hcs : cells ≤ mc ∧ slots ≤ ms) (hp : Post (some (.int v)) N F B) : W p l e R s m args below meth c H locs cells slots (MZ G A x ar Post below args s mc ms) (F0 m pc ls [.int v]) := by
  obtain ⟨M, hM, hRM⟩ := h
  exact m_iret X hr hlocks hM hdg hcs ⟨N, F, B, hp, hRM⟩
theorem mr_zret {Post : MPost} {mc ms : Nat} {v : Int32} {ty : FieldType} (X : Cx p c s m cc own nL G) (hr : meth.sig.returnType = some ty) (hlocks : meth.locks = false) (h : mM G A s.heap x ar N F B H locs) (hdg : decode cc pc = .ok (.ireturn, 1)) (hcs : cells ≤ mc ∧ slots ≤ ms) (hn : narrow ty (.int v) = .int v) (hp : Post (some (.int v)) N F B) : W p l e R s m args below meth c H locs cells slots (MZ G A x ar Post below args s mc ms) (F0 m pc ls [.int v]) := by
  obtain ⟨M, hM, hRM⟩ := h
  exact m_zret X hr hlocks hM hdg hcs hn ⟨N, F, B, hp, hRM⟩
theorem mr_vret {Post : MPost} {mc ms : Nat} (X : Cx p c s m cc own nL G) (hr : meth.sig.returnType = none) (hlocks : meth.locks = false) (h : mM G A s.heap x ar N F B H locs) (hdg : decode cc pc = .ok (.return_, 1)) (hcs : cells ≤ mc ∧ slots ≤ ms) (hp : Post none N F B) : W p l e R s m args below meth c H locs cells slots (MZ G A x ar Post below args s mc ms) (F0 m pc ls []) := by
  obtain ⟨M, hM, hRM⟩ := h
  exact m_vret X hr hlocks hM hdg hcs ⟨N, F, B, hp, hRM⟩
end MODEL
end
section
/-! What both sides mean: a state of the league as whole numbers (N, F) and money (B), by the reference's fields' places -/
def iR (p : Int32) (n : Nat) : Bool := decide (0 ≤ p.toInt ∧ p.toInt < (n : Int))
theorem iR_t {p : Int32} {n : Nat} (h : iR p n = true) (hn : n < 2 ^ 31) : ∃ j : Nat, j < n ∧ p = nI j := vp_in_of (vp_in_iff.mpr (of_decide_eq_true h)) hn
theorem iR_nI {j n : Nat} (hj : j < 2 ^ 31) : iR (nI j) n = decide (j < n) := by
  unfold iR
  rw [nI_toInt hj]
  exact decide_eq_decide.mpr ⟨fun h => by omega, fun h => by omega⟩
def goodS (F : Nat → Nat → Nat) (m : Nat) : Bool := decide (F 2 (F 7 m) = 0 ∨ F 10 m + 1 < F 2 (F 7 m))
def sumN (f : Nat → Nat) : Nat → Nat
  | 0 => 0
  | n + 1 => sumN f n + f n
def ptC (F : Nat → Nat → Nat) (s p m : Nat) : Nat := if F 11 m = s ∧ goodS F m = true then (if F 7 m = p then 3 else 0) + (if F 8 m = p then 1 else 0) else 0
def gmC (F : Nat → Nat → Nat) (s p m : Nat) : Nat := if F 11 m = s ∧ goodS F m = true then (if F 7 m = p then 1 else 0) + (if F 8 m = p then 1 else 0) else 0
def pts (F : Nat → Nat → Nat) (s p n : Nat) : Nat := sumN (ptC F s p) n
def gms (F : Nat → Nat → Nat) (s p n : Nat) : Nat := sumN (gmC F s p) n
def tdC (F : Nat → Nat → Nat) (d r m : Nat) : Nat := if F 9 m = r ∧ F 10 m = d then 1 else 0
def tdy (F : Nat → Nat → Nat) (d r n : Nat) : Nat := sumN (tdC F d r) n
def badN (F : Nat → Nat → Nat) (n : Nat) : Nat := sumN (fun m => if goodS F m = true then 0 else 1) n
def ahM (P Q : Nat → Nat) (p q : Nat) : Bool := if P p = P q then decide (Q p < Q q ∨ (Q p = Q q ∧ p < q)) else decide (P q < P p)
def plN (P Q : Nat → Nat) (p n : Nat) : Nat := sumN (fun q => if q ≠ p ∧ 0 < P q ∧ ahM P Q q p = true then 1 else 0) n
def plM (P Q : Nat → Nat) (n p : Nat) : Nat := if P p = 0 then 0 else 1 + plN P Q p n
/-- the last player of n at a place, told by one more; 0 for nobody -/
def whoN (P Q : Nat → Nat) (n pl : Nat) : Nat → Nat
  | 0 => 0
  | j + 1 => if plM P Q n j = pl then j + 1 else whoN P Q n pl j
def who (P Q : Nat → Nat) (n pl : Nat) : Nat := whoN P Q n pl n
def heirS (N : Nat → Nat) (F : Nat → Nat → Nat) (s pl : Nat) : Nat := who (fun p => pts F s p (N 6)) (fun p => gms F s p (N 6)) (N 1) pl
def payS (B : Nat → Int32) (f t amt : Nat) : Nat → Int32 := if f = 0 ∨ t = 0 then B else upd (upd B (f - 1) (B (f - 1) - nI amt)) (t - 1) (upd B (f - 1) (B (f - 1) - nI amt) (t - 1) + nI amt)
def undoS (F : Nat → Nat → Nat) (k : Nat) (B : Nat → Int32) : Nat → Nat → Int32
  | 0 => B
  | n + 1 => undoS F k (payS B (F 22 (20 * k + n) + 1) (F 23 (20 * k + n) + 1) (F 24 (20 * k + n))) n
def set1 (F : Nat → Nat → Nat) (k i v : Nat) : Nat → Nat → Nat := va_up F k (va_up (F k) i v)
def inhF (F : Nat → Nat → Nat) (k h : Nat) : Nat → Nat → Nat := if F 20 k = 0 then set1 (set1 (set1 (set1 F 21 k 0) 17 k h) 18 k 0) 16 k h else set1 F 16 k h
def inhB (F : Nat → Nat → Nat) (B : Nat → Int32) (k h : Nat) : Nat → Int32 := if F 20 k = 0 then undoS F k B (F 21 k) else payS B (F 16 k) h (F 24 (20 * k + (F 20 k - 1)))
def lookS (N : Nat → Nat) (F : Nat → Nat → Nat) (B : Nat → Int32) : Nat → (Nat → Nat → Nat) × (Nat → Int32)
  | 0 => (F, B)
  | k + 1 => if heirS N F (F 14 k) (F 15 k) = (lookS N F B k).1 16 k then lookS N F B k else (inhF (lookS N F B k).1 k (heirS N F (F 14 k) (F 15 k)), inhB (lookS N F B k).1 (lookS N F B k).2 k (heirS N F (F 14 k) (F 15 k)))
/-- what every state keeps -/
def IvM (N : Nat → Nat) (F : Nat → Nat → Nat) (m : Nat) : Prop := F 7 m < N 1 ∧ F 8 m < N 1 ∧ F 7 m ≠ F 8 m ∧ F 9 m < 4 ∧ F 10 m ≤ N 0 ∧ F 11 m ≤ N 12
def IvK (N : Nat → Nat) (F : Nat → Nat → Nat) (k : Nat) : Prop := F 14 k < N 12 ∧ 1 ≤ F 15 k ∧ F 15 k ≤ 3 ∧ F 16 k ≤ N 1 ∧ F 17 k ≤ N 1 ∧ F 18 k ≤ N 1 ∧ F 19 k ≤ 260000 ∧ F 21 k ≤ 20 ∧ F 20 k ≤ F 21 k
def IvS (N : Nat → Nat) (F : Nat → Nat → Nat) (i : Nat) : Prop := F 22 i < N 1 ∧ F 23 i < N 1 ∧ F 24 i ≤ 10000
def Iv (N : Nat → Nat) (F : Nat → Nat → Nat) : Prop :=
  (N 1 ≤ 16 ∧ N 6 ≤ 100 ∧ N 12 ≤ 11 ∧ N 13 ≤ 3 * N 12 ∧ N 0 ≤ 250000) ∧ (∀ p, F 2 p ≤ 250001 ∧ F 3 p ≤ 260000) ∧ (∀ r, F 5 r ≤ 50) ∧ (∀ m, m < N 6 → IvM N F m) ∧ (∀ k, k < N 13 → IvK N F k) ∧ ∀ k j, k < N 13 → j < F 21 k → IvS N F (20 * k + j)
theorem Iv.n {N : Nat → Nat} {F : Nat → Nat → Nat} (h : Iv N F) : N 1 ≤ 16 ∧ N 6 ≤ 100 ∧ N 12 ≤ 11 ∧ N 13 ≤ 3 * N 12 ∧ N 0 ≤ 250000 := h.1
theorem Iv.p {N : Nat → Nat} {F : Nat → Nat → Nat} (h : Iv N F) (p : Nat) : F 2 p ≤ 250001 ∧ F 3 p ≤ 260000 := h.2.1 p
theorem Iv.r {N : Nat → Nat} {F : Nat → Nat → Nat} (h : Iv N F) (r : Nat) : F 5 r ≤ 50 := h.2.2.1 r
theorem Iv.m {N : Nat → Nat} {F : Nat → Nat → Nat} (h : Iv N F) {m : Nat} (hm : m < N 6) : F 7 m < N 1 ∧ F 8 m < N 1 ∧ F 7 m ≠ F 8 m ∧ F 9 m < 4 ∧ F 10 m ≤ N 0 ∧ F 11 m ≤ N 12 := h.2.2.2.1 m hm
theorem Iv.k {N : Nat → Nat} {F : Nat → Nat → Nat} (h : Iv N F) {k : Nat} (hk : k < N 13) : F 14 k < N 12 ∧ 1 ≤ F 15 k ∧ F 15 k ≤ 3 ∧ F 16 k ≤ N 1 ∧ F 17 k ≤ N 1 ∧ F 18 k ≤ N 1 ∧ F 19 k ≤ 260000 ∧ F 21 k ≤ 20 ∧ F 20 k ≤ F 21 k := h.2.2.2.2.1 k hk
theorem Iv.s {N : Nat → Nat} {F : Nat → Nat → Nat} (h : Iv N F) {k j : Nat} (hk : k < N 13) (hj : j < F 21 k) : F 22 (20 * k + j) < N 1 ∧ F 23 (20 * k + j) < N 1 ∧ F 24 (20 * k + j) ≤ 10000 := h.2.2.2.2.2 k j hk hj
theorem sumN_le {f : Nat → Nat} {c : Nat} : ∀ {n : Nat}, (∀ i, i < n → f i ≤ c) → sumN f n ≤ n * c
  | 0, _ => by simp [sumN]
  | n + 1, h => by
    have h1 := sumN_le (n := n) (fun i hi => h i (by omega))
    have h2 := h n (by omega)
    rw [sumN, Nat.succ_mul]
    omega
theorem sumN_cong {f g : Nat → Nat} : ∀ {n : Nat}, (∀ i, i < n → f i = g i) → sumN f n = sumN g n
  | 0, _ => rfl
  | n + 1, h => by rw [sumN, sumN, sumN_cong (fun i hi => h i (by omega)), h n (by omega)]
theorem ptC_le (F : Nat → Nat → Nat) (s p m : Nat) : ptC F s p m ≤ 4 := by
  unfold ptC
  split
  · split <;> split <;> omega
  · omega
theorem gmC_le (F : Nat → Nat → Nat) (s p m : Nat) : gmC F s p m ≤ 2 := by
  unfold gmC
  split
  · split <;> split <;> omega
  · omega
theorem pts_le (F : Nat → Nat → Nat) (s p : Nat) {n : Nat} (hn : n ≤ 100) : pts F s p n ≤ 400 := by
  have h := sumN_le (f := ptC F s p) (c := 4) (n := n) (fun i _ => ptC_le F s p i)
  unfold pts
  omega
theorem gms_le (F : Nat → Nat → Nat) (s p : Nat) {n : Nat} (hn : n ≤ 100) : gms F s p n ≤ 200 := by
  have h := sumN_le (f := gmC F s p) (c := 2) (n := n) (fun i _ => gmC_le F s p i)
  unfold gms
  omega
theorem tdy_le (F : Nat → Nat → Nat) (d r n : Nat) : tdy F d r n ≤ n := by
  have h := sumN_le (f := tdC F d r) (c := 1) (n := n) (fun i _ => by unfold tdC; split <;> omega)
  unfold tdy
  omega
theorem badN_le (F : Nat → Nat → Nat) (n : Nat) : badN F n ≤ n := by
  have h := sumN_le (f := fun m => if goodS F m = true then 0 else 1) (c := 1) (n := n) (fun i _ => by show (if _ then _ else _) ≤ 1; split <;> omega)
  unfold badN
  omega
theorem plN_le (P Q : Nat → Nat) (p n : Nat) : plN P Q p n ≤ n := by
  have h := sumN_le (f := fun q => if q ≠ p ∧ 0 < P q ∧ ahM P Q q p = true then 1 else 0) (c := 1) (n := n) (fun i _ => by show (if _ then _ else _) ≤ 1; split <;> omega)
  unfold plN
  omega
theorem whoN_le (P Q : Nat → Nat) (n pl : Nat) : ∀ j, whoN P Q n pl j ≤ j
  | 0 => Nat.le_refl 0
  | j + 1 => by
    have := whoN_le P Q n pl j
    rw [whoN]
    split <;> omega
theorem heirS_le (N : Nat → Nat) (F : Nat → Nat → Nat) (s pl : Nat) : heirS N F s pl ≤ N 1 := whoN_le _ _ _ _ _
/-- the two rows that a count writes -/
def sc2 (F : Nat → Nat → Nat) (g h : Nat → Nat) : Nat → Nat → Nat := va_up (va_up F 25 g) 26 h
theorem sc2_25 (F : Nat → Nat → Nat) (g h : Nat → Nat) (i v : Nat) : va_up (sc2 F g h) 25 (va_up (sc2 F g h 25) i v) = sc2 F (va_up g i v) h := by
  funext k
  by_cases h1 : k = 25
  · subst h1; rfl
  · by_cases h2 : k = 26
    · subst h2; rfl
    · simp [sc2, va_up, h1, h2]
theorem sc2_26 (F : Nat → Nat → Nat) (g h : Nat → Nat) (i v : Nat) : va_up (sc2 F g h) 26 (va_up (sc2 F g h 26) i v) = sc2 F g (va_up h i v) := by
  funext k
  by_cases h1 : k = 25
  · subst h1; rfl
  · by_cases h2 : k = 26
    · subst h2; rfl
    · simp [sc2, va_up, h1, h2]
theorem sc2_self (F : Nat → Nat → Nat) : sc2 F (F 25) (F 26) = F := by
  funext k
  by_cases h1 : k = 25
  · subst h1; rfl
  · by_cases h2 : k = 26
    · subst h2; rfl
    · simp [sc2, va_up, h1, h2]
theorem bI_dec {c : Prop} [Decidable c] (h : c) : nI 1 = bI (decide c) := by rw [decide_eq_true h]; rfl
theorem bI_decN {c : Prop} [Decidable c] (h : ¬ c) : nI 0 = bI (decide c) := by rw [decide_eq_false h]; rfl
theorem bI_t {b : Bool} (h : b = true) : nI 1 = bI b := by rw [h]; rfl
theorem bI_f {b : Bool} (h : b = false) : nI 0 = bI b := by rw [h]; rfl
theorem pk_dec {n : Nat} (h : 1 ≤ n) : nI n + Int32.ofInt (-1) = nI (n - 1) := by
  obtain ⟨k, rfl⟩ : ∃ k, n = k + 1 := ⟨n - 1, by omega⟩
  exact pk_m1 k
end
section
set_option maxHeartbeats 4000000 in
set_option maxRecDepth 100000 in
theorem c_X7_thrown (l : Launch) (G : mG) (x : Nat) (ar N : Nat → Nat) (F : Nat → Nat → Nat) (B : Nat → Int32)   : MMet l yX7_thrown cX7_thrown 1 (some FieldType.int) ({ frames := 0, cells := 0, slots := 0, locals := 0 } : Room) G x ar [.ref x] N F B (fun r N' F' B' => r = some (.int (nI (N 29))) ∧ N = N' ∧ F = F' ∧ B = B') := by
  refine MMet.of (by decide) (Nat.le_of_ble_eq_true rfl) ?_
  intro p e s m args below meth c A ls X hr hlocks h hl
  have hl : lv_has ls 1 [(0, .ref x)] := hl
  refine lv_aload_n X.1 X.2.1 dX7_thrown_0 rfl (lv_at hl 0 rfl) ?_
  refine mr_get X h kf_X7_79 (by decide) dX7_thrown_1 (v := .int (nI (N 29))) rfl ?_
  exact mr_iret X hr hlocks h dX7_thrown_4 ⟨Nat.le_of_ble_eq_true rfl, Nat.le_of_ble_eq_true rfl⟩ (⟨rfl, rfl, rfl, rfl⟩)
set_option maxHeartbeats 4000000 in
set_option maxRecDepth 100000 in
theorem c_X7_fails (l : Launch) (G : mG) (x : Nat) (ar N : Nat → Nat) (F : Nat → Nat → Nat) (B : Nat → Int32) (w0 : Nat) (hw : w0 < 2 ^ 31) : MMet l yX7_fails cX7_fails 2 (some FieldType.boolean) ({ frames := 0, cells := 0, slots := 0, locals := 0 } : Room) G x ar [.ref x, .int (nI (w0))] N F B (fun r N' F' B' => r = some (.int (bI (decide (0 < w0)))) ∧ va_up N 29 w0 = N' ∧ F = F' ∧ B = B') := by
  refine MMet.of (by decide) (Nat.le_of_ble_eq_true rfl) ?_
  intro p e s m args below meth c A ls X hr hlocks h hl
  have hl : lv_has ls 2 [(0, .ref x), (1, .int (nI (w0)))] := hl
  refine lv_aload_n X.1 X.2.1 dX7_fails_0 rfl (lv_at hl 0 rfl) ?_
  refine lv_iload_n X.1 X.2.1 dX7_fails_1 rfl (lv_at hl 1 rfl) ?_
  refine mr_put X h kf_X7_79 (by decide) rfl rfl dX7_fails_2 rfl (fun H locs h => ?_)
  refine lv_iload_n X.1 X.2.1 dX7_fails_5 rfl (lv_at hl 1 rfl) ?_
  refine b_if_le (tgt := 13) X dX7_fails_6 (by decide) (a := ((w0 : Nat) : Int)) (nI_ti (by omega)) (fun c1 => ?_) (fun c1 => ?_)
  · skip
    refine lv_iconst (v := nI (0)) X.1 X.2.1 dX7_fails_13 (by decide) ?_
    exact mr_zret X hr hlocks h dX7_fails_14 ⟨Nat.le_of_ble_eq_true rfl, Nat.le_of_ble_eq_true rfl⟩ (rfl) (⟨congrArg (fun z => some (Value.int z)) (by first | exact bI_dec (by omega) | exact bI_decN (by omega)), rfl, rfl, rfl⟩)
  · skip
    refine lv_iconst (v := nI (1)) X.1 X.2.1 dX7_fails_9 (by decide) ?_
    refine lv_goto (tgt := 14) X.1 X.2.1 dX7_fails_10 (by decide) ?_
    exact mr_zret X hr hlocks h dX7_fails_14 ⟨Nat.le_of_ble_eq_true rfl, Nat.le_of_ble_eq_true rfl⟩ (rfl) (⟨congrArg (fun z => some (Value.int z)) (by first | exact bI_dec (by omega) | exact bI_decN (by omega)), rfl, rfl, rfl⟩)
set_option maxHeartbeats 4000000 in
set_option maxRecDepth 100000 in
theorem c_X7_isIn (l : Launch) (G : mG) (x : Nat) (ar N : Nat → Nat) (F : Nat → Nat → Nat) (B : Nat → Int32) (v0 : Int32) (v1 : Int32) (v2 : Int32)  : MMet l yX7_isIn cX7_isIn 3 (some FieldType.boolean) ({ frames := 0, cells := 0, slots := 0, locals := 0 } : Room) G x ar [.int (v0), .int (v1), .int (v2)] N F B (fun r N' F' B' => r = some (.int (bI (decide (v1.toInt ≤ v0.toInt ∧ v0.toInt ≤ v2.toInt)))) ∧ N = N' ∧ F = F' ∧ B = B') := by
  refine MMet.of (by decide) (Nat.le_of_ble_eq_true rfl) ?_
  intro p e s m args below meth c A ls X hr hlocks h hl
  have hl : lv_has ls 3 [(0, .int (v0)), (1, .int (v1)), (2, .int (v2))] := hl
  refine lv_iload_n X.1 X.2.1 dX7_isIn_0 rfl (lv_at hl 0 rfl) ?_
  refine lv_iload_n X.1 X.2.1 dX7_isIn_1 rfl (lv_at hl 1 rfl) ?_
  refine b_icmp_lt (tgt := 14) X dX7_isIn_2 (by decide) (a := (v0).toInt) (b := (v1).toInt) (rfl) (rfl) (fun c1 => ?_) (fun c1 => ?_)
  · skip
    refine lv_iconst (v := nI (0)) X.1 X.2.1 dX7_isIn_14 (by decide) ?_
    exact mr_zret X hr hlocks h dX7_isIn_15 ⟨Nat.le_of_ble_eq_true rfl, Nat.le_of_ble_eq_true rfl⟩ (rfl) (⟨congrArg (fun z => some (Value.int z)) (by first | exact bI_dec (by omega) | exact bI_decN (by omega)), rfl, rfl, rfl⟩)
  · skip
    refine lv_iload_n X.1 X.2.1 dX7_isIn_5 rfl (lv_at hl 0 rfl) ?_
    refine lv_iload_n X.1 X.2.1 dX7_isIn_6 rfl (lv_at hl 2 rfl) ?_
    refine b_icmp_gt (tgt := 14) X dX7_isIn_7 (by decide) (a := (v0).toInt) (b := (v2).toInt) (rfl) (rfl) (fun c2 => ?_) (fun c2 => ?_)
    · skip
      refine lv_iconst (v := nI (0)) X.1 X.2.1 dX7_isIn_14 (by decide) ?_
      exact mr_zret X hr hlocks h dX7_isIn_15 ⟨Nat.le_of_ble_eq_true rfl, Nat.le_of_ble_eq_true rfl⟩ (rfl) (⟨congrArg (fun z => some (Value.int z)) (by first | exact bI_dec (by omega) | exact bI_decN (by omega)), rfl, rfl, rfl⟩)
    · skip
      refine lv_iconst (v := nI (1)) X.1 X.2.1 dX7_isIn_10 (by decide) ?_
      refine lv_goto (tgt := 15) X.1 X.2.1 dX7_isIn_11 (by decide) ?_
      exact mr_zret X hr hlocks h dX7_isIn_15 ⟨Nat.le_of_ble_eq_true rfl, Nat.le_of_ble_eq_true rfl⟩ (rfl) (⟨congrArg (fun z => some (Value.int z)) (by first | exact bI_dec (by omega) | exact bI_decN (by omega)), rfl, rfl, rfl⟩)
set_option maxHeartbeats 4000000 in
set_option maxRecDepth 100000 in
theorem c_X7_isPlayer (l : Launch) (G : mG) (x : Nat) (ar N : Nat → Nat) (F : Nat → Nat → Nat) (B : Nat → Int32) (p0 : Int32) (hI : Iv N F) : MMet l yX7_isPlayer cX7_isPlayer 2 (some FieldType.boolean) ({ frames := 1, cells := 0, slots := 0, locals := 22 } : Room) G x ar [.ref x, .int (p0)] N F B (fun r N' F' B' => r = some (.int (bI (iR p0 (N 1)))) ∧ N = N' ∧ F = F' ∧ B = B') := by
  refine MMet.of (by decide) (Nat.le_of_ble_eq_true rfl) ?_
  intro p e s m args below meth c A ls X hr hlocks h hl
  have hl : lv_has ls 2 [(0, .ref x), (1, .int (p0))] := hl
  have hn := hI.n
  refine lv_iload_n X.1 X.2.1 dX7_isPlayer_0 rfl (lv_at hl 1 rfl) ?_
  refine lv_iconst (v := nI (0)) X.1 X.2.1 dX7_isPlayer_1 (by decide) ?_
  refine lv_aload_n X.1 X.2.1 dX7_isPlayer_2 rfl (lv_at hl 0 rfl) ?_
  refine mr_get X h kf_X7_83 (by decide) dX7_isPlayer_3 (v := .int (nI (N 1))) rfl ?_
  refine lv_iconst (v := nI (1)) X.1 X.2.1 dX7_isPlayer_6 (by decide) ?_
  refine lv_isub X.1 X.2.1 dX7_isPlayer_7 ?_
  refine lv_top (y := nI (N 1) - 1) rfl ?_
  refine mr_callS X h ck_X7_86 kst_X7_isIn dX7_isPlayer_8 (As := [.int (p0), .int (nI (0)), .int (nI (N 1) - 1)]) (c_X7_isIn l G x ar N F B (p0) (nI (0)) (nI (N 1) - 1)) rfl hl rfl (Nat.le_of_ble_eq_true rfl) ⟨Nat.le_of_ble_eq_true rfl, Nat.le_of_ble_eq_true rfl⟩ ⟨Nat.le_of_ble_eq_true rfl, Nat.le_of_ble_eq_true rfl⟩ ?_
  rintro _ _ _ _ H locs ⟨rfl, rfl, rfl, rfl⟩ h
  refine lv_top (y := bI (decide (((0 : Nat) : Int) ≤ (p0).toInt ∧ (p0).toInt ≤ ((N 1 : Nat) : Int) - 1))) (by rw [show (p0).toInt = (p0).toInt from rfl, show (nI (0)).toInt = ((0 : Nat) : Int) from nI_ti (by omega), show (nI (N 1) - 1).toInt = ((N 1 : Nat) : Int) - 1 from eI_ti (by omega)]) ?_
  exact mr_zret X hr hlocks h dX7_isPlayer_11 ⟨Nat.le_of_ble_eq_true rfl, Nat.le_of_ble_eq_true rfl⟩ (bI_nar _) (⟨congrArg (fun z => some (Value.int (bI z))) (decide_eq_decide.mpr ⟨fun q => by omega, fun q => by omega⟩), rfl, rfl, rfl⟩)
set_option maxHeartbeats 4000000 in
set_option maxRecDepth 100000 in
theorem c_X7_isBanned (l : Launch) (G : mG) (x : Nat) (ar N : Nat → Nat) (F : Nat → Nat → Nat) (B : Nat → Int32) (p0 : Nat) (hI : Iv N F) (hp : p0 < N 1) : MMet l yX7_isBanned cX7_isBanned 2 (some FieldType.boolean) ({ frames := 0, cells := 0, slots := 0, locals := 0 } : Room) G x ar [.ref x, .int (nI (p0))] N F B (fun r N' F' B' => r = some (.int (bI (decide (N 0 < F 3 p0)))) ∧ N = N' ∧ F = F' ∧ B = B') := by
  refine MMet.of (by decide) (Nat.le_of_ble_eq_true rfl) ?_
  intro p e s m args below meth c A ls X hr hlocks h hl
  have hl : lv_has ls 2 [(0, .ref x), (1, .int (nI (p0)))] := hl
  have hn := hI.n
  refine lv_aload_n X.1 X.2.1 dX7_isBanned_0 rfl (lv_at hl 0 rfl) ?_
  refine mr_get X h kf_X7_90 (by decide) dX7_isBanned_1 (v := .int (nI (N 0))) rfl ?_
  refine lv_aload_n X.1 X.2.1 dX7_isBanned_4 rfl (lv_at hl 0 rfl) ?_
  refine mr_get X h kf_X7_13 (by decide) dX7_isBanned_5 rfl ?_
  refine lv_iload_n X.1 X.2.1 dX7_isBanned_8 rfl (lv_at hl 1 rfl) ?_
  refine mr_ald X h 3 rfl dX7_isBanned_9 (i := p0) (v := nI (F 3 (p0))) rfl (by show _ < 16; omega) rfl ?_
  have b1 := hI.p p0
  refine b_icmp_ge (tgt := 17) X dX7_isBanned_10 (by decide) (a := ((N 0 : Nat) : Int)) (b := ((F 3 (p0) : Nat) : Int)) (nI_ti (by omega)) (nI_ti (by omega)) (fun c2 => ?_) (fun c2 => ?_)
  · skip
    refine lv_iconst (v := nI (0)) X.1 X.2.1 dX7_isBanned_17 (by decide) ?_
    exact mr_zret X hr hlocks h dX7_isBanned_18 ⟨Nat.le_of_ble_eq_true rfl, Nat.le_of_ble_eq_true rfl⟩ (rfl) (⟨congrArg (fun z => some (Value.int z)) (by first | exact bI_dec (by omega) | exact bI_decN (by omega)), rfl, rfl, rfl⟩)
  · skip
    refine lv_iconst (v := nI (1)) X.1 X.2.1 dX7_isBanned_13 (by decide) ?_
    refine lv_goto (tgt := 18) X.1 X.2.1 dX7_isBanned_14 (by decide) ?_
    exact mr_zret X hr hlocks h dX7_isBanned_18 ⟨Nat.le_of_ble_eq_true rfl, Nat.le_of_ble_eq_true rfl⟩ (rfl) (⟨congrArg (fun z => some (Value.int z)) (by first | exact bI_dec (by omega) | exact bI_decN (by omega)), rfl, rfl, rfl⟩)
set_option maxHeartbeats 4000000 in
set_option maxRecDepth 100000 in
theorem c_X7_isRegion (l : Launch) (G : mG) (x : Nat) (ar N : Nat → Nat) (F : Nat → Nat → Nat) (B : Nat → Int32) (p0 : Int32)  : MMet l yX7_isRegion cX7_isRegion 1 (some FieldType.boolean) ({ frames := 1, cells := 0, slots := 0, locals := 22 } : Room) G x ar [.int (p0)] N F B (fun r N' F' B' => r = some (.int (bI (iR p0 4))) ∧ N = N' ∧ F = F' ∧ B = B') := by
  refine MMet.of (by decide) (Nat.le_of_ble_eq_true rfl) ?_
  intro p e s m args below meth c A ls X hr hlocks h hl
  have hl : lv_has ls 1 [(0, .int (p0))] := hl
  refine lv_iload_n X.1 X.2.1 dX7_isRegion_0 rfl (lv_at hl 0 rfl) ?_
  refine lv_iconst (v := nI (0)) X.1 X.2.1 dX7_isRegion_1 (by decide) ?_
  refine lv_iconst (v := nI (3)) X.1 X.2.1 dX7_isRegion_2 (by decide) ?_
  refine mr_callS X h ck_X7_86 kst_X7_isIn dX7_isRegion_3 (As := [.int (p0), .int (nI (0)), .int (nI (3))]) (c_X7_isIn l G x ar N F B (p0) (nI (0)) (nI (3))) rfl hl rfl (Nat.le_of_ble_eq_true rfl) ⟨Nat.le_of_ble_eq_true rfl, Nat.le_of_ble_eq_true rfl⟩ ⟨Nat.le_of_ble_eq_true rfl, Nat.le_of_ble_eq_true rfl⟩ ?_
  rintro _ _ _ _ H locs ⟨rfl, rfl, rfl, rfl⟩ h
  refine lv_top (y := bI (decide (((0 : Nat) : Int) ≤ (p0).toInt ∧ (p0).toInt ≤ ((3 : Nat) : Int)))) (by rw [show (p0).toInt = (p0).toInt from rfl, show (nI (0)).toInt = ((0 : Nat) : Int) from nI_ti (by omega), show (nI (3)).toInt = ((3 : Nat) : Int) from nI_ti (by omega)]) ?_
  exact mr_zret X hr hlocks h dX7_isRegion_6 ⟨Nat.le_of_ble_eq_true rfl, Nat.le_of_ble_eq_true rfl⟩ (bI_nar _) (⟨congrArg (fun z => some (Value.int (bI z))) (decide_eq_decide.mpr ⟨fun q => by omega, fun q => by omega⟩), rfl, rfl, rfl⟩)
set_option maxHeartbeats 4000000 in
set_option maxRecDepth 100000 in
theorem c_X7_isSkin (l : Launch) (G : mG) (x : Nat) (ar N : Nat → Nat) (F : Nat → Nat → Nat) (B : Nat → Int32) (p0 : Int32) (hI : Iv N F) : MMet l yX7_isSkin cX7_isSkin 2 (some FieldType.boolean) ({ frames := 1, cells := 0, slots := 0, locals := 22 } : Room) G x ar [.ref x, .int (p0)] N F B (fun r N' F' B' => r = some (.int (bI (iR p0 (N 13)))) ∧ N = N' ∧ F = F' ∧ B = B') := by
  refine MMet.of (by decide) (Nat.le_of_ble_eq_true rfl) ?_
  intro p e s m args below meth c A ls X hr hlocks h hl
  have hl : lv_has ls 2 [(0, .ref x), (1, .int (p0))] := hl
  have hn := hI.n
  refine lv_iload_n X.1 X.2.1 dX7_isSkin_0 rfl (lv_at hl 1 rfl) ?_
  refine lv_iconst (v := nI (0)) X.1 X.2.1 dX7_isSkin_1 (by decide) ?_
  refine lv_aload_n X.1 X.2.1 dX7_isSkin_2 rfl (lv_at hl 0 rfl) ?_
  refine mr_get X h kf_X7_133 (by decide) dX7_isSkin_3 (v := .int (nI (N 13))) rfl ?_
  refine lv_iconst (v := nI (1)) X.1 X.2.1 dX7_isSkin_6 (by decide) ?_
  refine lv_isub X.1 X.2.1 dX7_isSkin_7 ?_
  refine lv_top (y := nI (N 13) - 1) rfl ?_
  refine mr_callS X h ck_X7_86 kst_X7_isIn dX7_isSkin_8 (As := [.int (p0), .int (nI (0)), .int (nI (N 13) - 1)]) (c_X7_isIn l G x ar N F B (p0) (nI (0)) (nI (N 13) - 1)) rfl hl rfl (Nat.le_of_ble_eq_true rfl) ⟨Nat.le_of_ble_eq_true rfl, Nat.le_of_ble_eq_true rfl⟩ ⟨Nat.le_of_ble_eq_true rfl, Nat.le_of_ble_eq_true rfl⟩ ?_
  rintro _ _ _ _ H locs ⟨rfl, rfl, rfl, rfl⟩ h
  refine lv_top (y := bI (decide (((0 : Nat) : Int) ≤ (p0).toInt ∧ (p0).toInt ≤ ((N 13 : Nat) : Int) - 1))) (by rw [show (p0).toInt = (p0).toInt from rfl, show (nI (0)).toInt = ((0 : Nat) : Int) from nI_ti (by omega), show (nI (N 13) - 1).toInt = ((N 13 : Nat) : Int) - 1 from eI_ti (by omega)]) ?_
  exact mr_zret X hr hlocks h dX7_isSkin_11 ⟨Nat.le_of_ble_eq_true rfl, Nat.le_of_ble_eq_true rfl⟩ (bI_nar _) (⟨congrArg (fun z => some (Value.int (bI z))) (decide_eq_decide.mpr ⟨fun q => by omega, fun q => by omega⟩), rfl, rfl, rfl⟩)
set_option maxHeartbeats 4000000 in
set_option maxRecDepth 100000 in
theorem c_X7_isGood (l : Launch) (G : mG) (x : Nat) (ar N : Nat → Nat) (F : Nat → Nat → Nat) (B : Nat → Int32) (m0 : Nat) (hI : Iv N F) (hm : m0 < N 6) : MMet l yX7_isGood cX7_isGood 3 (some FieldType.boolean) ({ frames := 0, cells := 0, slots := 0, locals := 0 } : Room) G x ar [.ref x, .int (nI (m0))] N F B (fun r N' F' B' => r = some (.int (bI (goodS F m0))) ∧ N = N' ∧ F = F' ∧ B = B') := by
  refine MMet.of (by decide) (Nat.le_of_ble_eq_true rfl) ?_
  intro p e s m args below meth c A ls X hr hlocks h hl
  have hl : lv_has ls 3 [(0, .ref x), (1, .int (nI (m0)))] := hl
  have hn := hI.n
  refine lv_aload_n X.1 X.2.1 dX7_isGood_0 rfl (lv_at hl 0 rfl) ?_
  refine mr_get X h kf_X7_7 (by decide) dX7_isGood_1 rfl ?_
  refine lv_aload_n X.1 X.2.1 dX7_isGood_4 rfl (lv_at hl 0 rfl) ?_
  refine mr_get X h kf_X7_22 (by decide) dX7_isGood_5 rfl ?_
  refine lv_iload_n X.1 X.2.1 dX7_isGood_8 rfl (lv_at hl 1 rfl) ?_
  refine mr_ald X h 7 rfl dX7_isGood_9 (i := m0) (v := nI (F 7 (m0))) rfl (by show _ < 100; omega) rfl ?_
  have b1 := hI.m (m := m0) (by omega)
  refine mr_ald X h 2 rfl dX7_isGood_10 (i := F 7 (m0)) (v := nI (F 2 (F 7 (m0))) - 1) rfl (by show _ < 16; omega) rfl ?_
  have b2 := hI.p (F 7 (m0))
  refine lv_istore_n (lv' := [(2, .int (nI (F 2 (F 7 (m0))) - 1)), (0, .ref x), (1, .int (nI (m0)))]) X.1 X.2.1 dX7_isGood_11 rfl hl (by decide) rfl (fun ls hl => ?_)
  refine lv_iload_n X.1 X.2.1 dX7_isGood_12 rfl (lv_at hl 0 rfl) ?_
  refine lv_iconst (v := nI (0) - 1) X.1 X.2.1 dX7_isGood_13 (by decide) ?_
  refine b_icmp_eq (tgt := 27) X dX7_isGood_14 (by decide) (a := ((F 2 (F 7 (m0)) : Nat) : Int) - 1) (b := ((0 : Nat) : Int) - 1) (eI_ti (by omega)) (eI_ti (by omega)) (fun c3 => ?_) (fun c3 => ?_)
  · skip
    refine lv_iconst (v := nI (1)) X.1 X.2.1 dX7_isGood_27 (by decide) ?_
    refine lv_goto (tgt := 32) X.1 X.2.1 dX7_isGood_28 (by decide) ?_
    exact mr_zret X hr hlocks h dX7_isGood_32 ⟨Nat.le_of_ble_eq_true rfl, Nat.le_of_ble_eq_true rfl⟩ (rfl) (⟨congrArg (fun z => some (Value.int z)) (by first | exact bI_dec (by omega) | exact bI_decN (by omega)), rfl, rfl, rfl⟩)
  · skip
    refine lv_iload_n X.1 X.2.1 dX7_isGood_17 rfl (lv_at hl 0 rfl) ?_
    refine lv_aload_n X.1 X.2.1 dX7_isGood_18 rfl (lv_at hl 1 rfl) ?_
    refine mr_get X h kf_X7_31 (by decide) dX7_isGood_19 rfl ?_
    refine lv_iload_n X.1 X.2.1 dX7_isGood_22 rfl (lv_at hl 2 rfl) ?_
    refine mr_ald X h 10 rfl dX7_isGood_23 (i := m0) (v := nI (F 10 (m0))) rfl (by show _ < 100; omega) rfl ?_
    refine b_icmp_le (tgt := 31) X dX7_isGood_24 (by decide) (a := ((F 2 (F 7 (m0)) : Nat) : Int) - 1) (b := ((F 10 (m0) : Nat) : Int)) (eI_ti (by omega)) (nI_ti (by omega)) (fun c4 => ?_) (fun c4 => ?_)
    · skip
      refine lv_iconst (v := nI (0)) X.1 X.2.1 dX7_isGood_31 (by decide) ?_
      exact mr_zret X hr hlocks h dX7_isGood_32 ⟨Nat.le_of_ble_eq_true rfl, Nat.le_of_ble_eq_true rfl⟩ (rfl) (⟨congrArg (fun z => some (Value.int z)) (by first | exact bI_dec (by omega) | exact bI_decN (by omega)), rfl, rfl, rfl⟩)
    · skip
      refine lv_iconst (v := nI (1)) X.1 X.2.1 dX7_isGood_27 (by decide) ?_
      refine lv_goto (tgt := 32) X.1 X.2.1 dX7_isGood_28 (by decide) ?_
      exact mr_zret X hr hlocks h dX7_isGood_32 ⟨Nat.le_of_ble_eq_true rfl, Nat.le_of_ble_eq_true rfl⟩ (rfl) (⟨congrArg (fun z => some (Value.int z)) (by first | exact bI_dec (by omega) | exact bI_decN (by omega)), rfl, rfl, rfl⟩)
end
section
/-! The league's calls as functions of a state: which exception (0: none), what answer, what state behind -/
def ix (p : Int32) : Nat := p.toInt.toNat
theorem ix_nI {j : Nat} (h : j < 2 ^ 31) : ix (nI j) = j := by rw [ix, nI_toInt h]; rfl
theorem tdy_t {F : Nat → Nat → Nat} {d r m : Nat} (h1 : F 9 m = r) (h2 : F 10 m = d) : tdy F d r m + 1 = tdy F d r (m + 1) := by
  show _ = sumN _ m + tdC F d r m
  rw [tdC, if_pos ⟨h1, h2⟩]; rfl
theorem tdy_f {F : Nat → Nat → Nat} {d r m : Nat} (h : ¬ (F 9 m = r ∧ F 10 m = d)) : tdy F d r m + 0 = tdy F d r (m + 1) := by
  show _ = sumN _ m + tdC F d r m
  rw [tdC, if_neg h]; rfl
theorem badN_t {F : Nat → Nat → Nat} {m : Nat} (h : goodS F m = true) : badN F m + 0 = badN F (m + 1) := by
  show _ = sumN _ m + (if goodS F m = true then 0 else 1)
  rw [if_pos h]; rfl
theorem badN_f {F : Nat → Nat → Nat} {m : Nat} (h : goodS F m = false) : badN F m + 1 = badN F (m + 1) := by
  show _ = sumN _ m + (if goodS F m = true then 0 else 1)
  rw [if_neg (by rw [h]; decide)]; rfl
theorem cnt_t {F : Nat → Nat → Nat} {s m n : Nat} {g h : Nat → Nat} (hg : ∀ p, p < n → g p = pts F s p m ∧ h p = gms F s p m) (h1 : F 11 m = s) (h2 : goodS F m = true) :
    ∀ p, p < n → va_up (va_up g (F 7 m) (g (F 7 m) + 3)) (F 8 m) (va_up g (F 7 m) (g (F 7 m) + 3) (F 8 m) + 1) p = pts F s p (m + 1) ∧ va_up (va_up h (F 7 m) (h (F 7 m) + 1)) (F 8 m) (va_up h (F 7 m) (h (F 7 m) + 1) (F 8 m) + 1) p = gms F s p (m + 1) := by
  intro p hp
  obtain ⟨e1, e2⟩ := hg p hp
  have a1 : pts F s p (m + 1) = pts F s p m + ptC F s p m := rfl
  have a2 : gms F s p (m + 1) = gms F s p m + gmC F s p m := rfl
  have c1 : ptC F s p m = (if F 7 m = p then 3 else 0) + (if F 8 m = p then 1 else 0) := if_pos ⟨h1, h2⟩
  have c2 : gmC F s p m = (if F 7 m = p then 1 else 0) + (if F 8 m = p then 1 else 0) := if_pos ⟨h1, h2⟩
  rw [a1, a2, ← e1, ← e2, c1, c2]
  by_cases hw : F 7 m = p
  · subst hw
    by_cases hl : F 8 m = F 7 m
    · simp [va_up, hl]
    · have hl' : ¬ F 7 m = F 8 m := fun q => hl q.symm
      simp [va_up, hl, hl']
  · have hw' : ¬ p = F 7 m := fun q => hw q.symm
    by_cases hl : F 8 m = p
    · subst hl
      simp [va_up, hw, hw']
    · have hl' : ¬ p = F 8 m := fun q => hl q.symm
      simp [va_up, hw, hw', hl, hl']
theorem cnt_f {F : Nat → Nat → Nat} {s m n : Nat} {g h : Nat → Nat} (hg : ∀ p, p < n → g p = pts F s p m ∧ h p = gms F s p m) (h1 : ¬ (F 11 m = s ∧ goodS F m = true)) : ∀ p, p < n → g p = pts F s p (m + 1) ∧ h p = gms F s p (m + 1) := by
  intro p hp
  obtain ⟨e1, e2⟩ := hg p hp
  have a1 : pts F s p (m + 1) = pts F s p m + ptC F s p m := rfl
  have a2 : gms F s p (m + 1) = gms F s p m + gmC F s p m := rfl
  rw [a1, a2, ← e1, ← e2, ptC, gmC, if_neg h1, if_neg h1]
  exact ⟨rfl, rfl⟩
theorem cnt_z {i : Nat} {g h : Nat → Nat} (hg : ∀ p, p < i → g p = 0 ∧ h p = 0) : ∀ p, p < i + 1 → va_up g i 0 p = 0 ∧ va_up h i 0 p = 0 := by
  intro p hp
  by_cases hpi : p = i
  · subst hpi
    simp [va_up]
  · simp only [va_up, if_neg hpi]
    exact hg p (by omega)
theorem cnt_b {F : Nat → Nat → Nat} {s m n q : Nat} {g h : Nat → Nat} (hg : ∀ p, p < n → g p = pts F s p m ∧ h p = gms F s p m) (hm : m ≤ 100) (hq : q < n) : g q ≤ 400 ∧ h q ≤ 200 := by
  obtain ⟨e1, e2⟩ := hg q hq
  rw [e1, e2]
  exact ⟨pts_le F s q hm, gms_le F s q hm⟩
theorem plN_t {P Q : Nat → Nat} {p q : Nat} (h1 : q ≠ p) (h2 : 0 < P q) (h3 : ahM P Q q p = true) : plN P Q p q + 1 = plN P Q p (q + 1) := by
  show _ = sumN _ q + (if q ≠ p ∧ 0 < P q ∧ ahM P Q q p = true then 1 else 0)
  rw [if_pos ⟨h1, h2, h3⟩]; rfl
theorem plN_f {P Q : Nat → Nat} {p q : Nat} (h : ¬ (q ≠ p ∧ 0 < P q ∧ ahM P Q q p = true)) : plN P Q p q + 0 = plN P Q p (q + 1) := by
  show _ = sumN _ q + (if q ≠ p ∧ 0 < P q ∧ ahM P Q q p = true then 1 else 0)
  rw [if_neg h]; rfl
theorem ahM_congr {P Q P' Q' : Nat → Nat} {p q : Nat} (h1 : P p = P' p) (h2 : P q = P' q) (h3 : Q p = Q' p) (h4 : Q q = Q' q) : ahM P Q p q = ahM P' Q' p q := by
  simp only [ahM, h1, h2, h3, h4]
theorem plN_congr {P Q P' Q' : Nat → Nat} {p n : Nat} (hp : P p = P' p ∧ Q p = Q' p) (h : ∀ q, q < n → P q = P' q ∧ Q q = Q' q) : plN P Q p n = plN P' Q' p n :=
  sumN_cong (fun q hq => by rw [(h q hq).1, ahM_congr (h q hq).1 hp.1 (h q hq).2 hp.2])
theorem plM_congr {P Q P' Q' : Nat → Nat} {p n : Nat} (hp : P p = P' p ∧ Q p = Q' p) (h : ∀ q, q < n → P q = P' q ∧ Q q = Q' q) : plM P Q n p = plM P' Q' n p := by
  rw [plM, plM, plN_congr hp h, hp.1]
theorem whoN_congr {P Q P' Q' : Nat → Nat} {n pl : Nat} (h : ∀ q, q < n → P q = P' q ∧ Q q = Q' q) : ∀ j, j ≤ n → whoN P Q n pl j = whoN P' Q' n pl j
  | 0, _ => rfl
  | j + 1, hj => by rw [whoN, whoN, plM_congr (h j (by omega)) h, whoN_congr h j (by omega)]
theorem who_heir {N : Nat → Nat} {F : Nat → Nat → Nat} {s pl : Nat} {g h : Nat → Nat} (hg : ∀ p, p < N 1 → g p = pts F s p (N 6) ∧ h p = gms F s p (N 6)) : who g h (N 1) pl = heirS N F s pl := whoN_congr hg _ (Nat.le_refl _)
theorem whoN_t {P Q : Nat → Nat} {n pl j : Nat} (h : plM P Q n j = pl) : j + 1 = whoN P Q n pl (j + 1) := by rw [whoN, if_pos h]
theorem whoN_f {P Q : Nat → Nat} {n pl j : Nat} (h : ¬ plM P Q n j = pl) : whoN P Q n pl j = whoN P Q n pl (j + 1) := by rw [whoN, if_neg h]
theorem plM_le (P Q : Nat → Nat) (n p : Nat) : plM P Q n p ≤ n + 1 := by
  unfold plM
  have := plN_le P Q p n
  split <;> omega
-- the calls
def kPlayer (N : Nat → Nat) : Nat := if N 1 = 16 then 1 else 0
def kRoom (r its : Int32) : Nat := if iR r 4 = false then 1 else if 0 ≤ its.toInt ∧ its.toInt ≤ 50 then 0 else 2
def fRoom (F : Nat → Nat → Nat) (r its : Int32) : Nat → Nat → Nat := set1 F 5 (ix r) (ix its)
def cMatch (N : Nat → Nat) (F : Nat → Nat → Nat) (a b r : Nat) : Bool := decide (N 6 < 100 ∧ F 3 a ≤ N 0 ∧ F 3 b ≤ N 0 ∧ tdy F (N 0) r (N 6) < F 5 r)
def kMatch (N : Nat → Nat) (F : Nat → Nat → Nat) (a b r : Int32) : Nat := if (iR a (N 1) && (iR b (N 1) && iR r 4)) = false then 1 else if a = b then 2 else if cMatch N F (ix a) (ix b) (ix r) = true then 0 else 3
def fMatch (N : Nat → Nat) (F : Nat → Nat → Nat) (a b r : Int32) : Nat → Nat → Nat := set1 (set1 (set1 (set1 (set1 F 7 (N 6) (ix a)) 8 (N 6) (ix b)) 9 (N 6) (ix r)) 10 (N 6) (N 0)) 11 (N 6) (N 12)
def kEnd (N : Nat → Nat) : Nat := if N 12 = 11 then 1 else 0
def awF (F : Nat → Nat → Nat) (k s pl h : Nat) : Nat → Nat → Nat := set1 (set1 (set1 (set1 (set1 (set1 (set1 F 14 k s) 15 k pl) 16 k h) 17 k h) 18 k 0) 20 k 0) 21 k 0
/-- the prizes of the places 1 to n, of the season that is on: skins won, the rows -/
def awS (N : Nat → Nat) (F : Nat → Nat → Nat) : Nat → Nat × (Nat → Nat → Nat)
  | 0 => (0, F)
  | n + 1 => if heirS N F (N 12) (n + 1) = 0 then awS N F n else ((awS N F n).1 + 1, awF (awS N F n).2 (N 13 + (awS N F n).1) (N 12) (n + 1) (heirS N F (N 12) (n + 1)))
def nEnd (N : Nat → Nat) (F : Nat → Nat → Nat) : Nat → Nat := va_up (va_up N 13 (N 13 + (awS N F 3).1)) 12 (N 12 + 1)
def cDeal (N : Nat → Nat) (F : Nat → Nat → Nat) (k p : Nat) : Bool := decide (F 17 k ≠ 0 ∧ F 17 k ≠ p + 1 ∧ F 3 (F 17 k - 1) ≤ N 0 ∧ F 3 p ≤ N 0)
def kSell (N : Nat → Nat) (F : Nat → Nat → Nat) (k p its : Int32) : Nat := if (iR k (N 13) && iR p (N 1)) = false then 1 else if ¬ (0 ≤ its.toInt ∧ its.toInt ≤ 10000) then 2 else if cDeal N F (ix k) (ix p) = true ∧ F 21 (ix k) < 20 then 0 else 3
def faithS (F : Nat → Nat → Nat) (k p : Nat) : Bool := decide (F 2 (F 17 k - 1) = 0 ∧ F 2 p = 0)
def fSell (F : Nat → Nat → Nat) (k p its : Nat) : Nat → Nat → Nat := set1 (set1 (set1 (set1 (set1 (set1 (set1 F 22 (20 * k + F 21 k) (F 17 k - 1)) 23 (20 * k + F 21 k) p) 24 (20 * k + F 21 k) its) 20 k (if faithS F k p = true ∧ F 20 k = 0 then F 21 k + 1 else F 20 k)) 21 k (F 21 k + 1)) 17 k (p + 1)) 18 k 0
def bSell (F : Nat → Nat → Nat) (B : Nat → Int32) (k p its : Nat) : Nat → Int32 := upd (upd B (F 17 k - 1) (B (F 17 k - 1) + nI its)) p (upd B (F 17 k - 1) (B (F 17 k - 1) + nI its) p - nI its)
def kLend (N : Nat → Nat) (F : Nat → Nat → Nat) (k p days : Int32) : Nat := if (iR k (N 13) && iR p (N 1)) = false then 1 else if ¬ (1 ≤ days.toInt ∧ days.toInt ≤ 100) then 2 else if cDeal N F (ix k) (ix p) = true then 0 else 3
def fLend (N : Nat → Nat) (F : Nat → Nat → Nat) (k p days : Nat) : Nat → Nat → Nat := set1 (set1 F 18 k (p + 1)) 19 k (N 0 + days - 1)
def kProof (N : Nat → Nat) (p d : Int32) : Nat := if iR p (N 1) = false then 1 else if 0 ≤ d.toInt ∧ d.toInt ≤ N 0 then 0 else 2
def fProof (F : Nat → Nat → Nat) (p d : Nat) : Nat → Nat → Nat := set1 F 2 p (if F 2 p = 0 ∨ d + 1 < F 2 p then d + 1 else F 2 p)
def kClear (N : Nat → Nat) (F : Nat → Nat → Nat) (p : Int32) : Nat := if iR p (N 1) = false then 1 else if F 2 (ix p) = 0 then 2 else 0
def kBan (N : Nat → Nat) (p days : Int32) : Nat := if iR p (N 1) = false then 1 else if 0 ≤ days.toInt ∧ days.toInt ≤ 1000 then 0 else 2
def kPass (days : Int32) : Nat := if 1 ≤ days.toInt ∧ days.toInt ≤ 400 then 0 else 1
def kOne (b : Bool) : Nat := if b = true then 0 else 1
def kRanked (N : Nat → Nat) (s p what : Int32) : Nat := if (iR s (N 12 + 1) && iR p (N 1)) = false then 1 else if 0 ≤ what.toInt ∧ what.toInt ≤ 2 then 0 else 2
def vRanked (N : Nat → Nat) (F : Nat → Nat → Nat) (s p what : Nat) : Nat := if what = 0 then pts F s p (N 6) else if what = 1 then gms F s p (N 6) else plM (fun p => pts F s p (N 6)) (fun p => gms F s p (N 6)) (N 1) p
def kSkinOf (N : Nat → Nat) (k what : Int32) : Nat := if iR k (N 13) = false then 1 else if 0 ≤ what.toInt ∧ what.toInt ≤ 6 then 0 else 2
def userS (N : Nat → Nat) (F : Nat → Nat → Nat) (k : Nat) : Nat := if F 17 k ≠ 0 ∧ F 18 k ≠ 0 ∧ N 0 ≤ F 19 k then F 18 k else F 17 k
def vSkinOf (N : Nat → Nat) (F : Nat → Nat → Nat) (k what : Nat) : Int32 := if what = 0 then nI (F 17 k) - 1 else if what = 1 then nI (F 16 k) - 1 else if what = 2 then nI (userS N F k) - 1 else if what = 3 then nI (F 14 k) else if what = 4 then nI (F 15 k) else if what = 5 then nI (F 21 k) else if F 20 k = 0 then 0 else 1
/-- the same state but for what the reference counts with -/
def SN (N N' : Nat → Nat) : Prop := ∀ k, k ≠ 28 → k ≠ 29 → N' k = N k
def SF (F F' : Nat → Nat → Nat) : Prop := ∀ k, k ≠ 25 → k ≠ 26 → k ≠ 27 → F' k = F k
theorem SN.rf (N : Nat → Nat) : SN N N := fun _ _ _ => rfl
theorem SF.rf (F : Nat → Nat → Nat) : SF F F := fun _ _ _ _ => rfl
theorem SN.up {N N' : Nat → Nat} (h : SN N N') {k v : Nat} (hk : k = 28 ∨ k = 29) : SN N (va_up N' k v) := fun j h1 h2 => by rw [va_up_off N' v (by omega)]; exact h j h1 h2
theorem SF.sc {F F' : Nat → Nat → Nat} (h : SF F F') (g q : Nat → Nat) : SF F (sc2 F' g q) := fun j h1 h2 h3 => by simp only [sc2, va_up, if_neg h1, if_neg h2]; exact h j h1 h2 h3
/-- an answer of the reference: which exception, what answer, what state -/
def MA (r : Option Value) (N' : Nat → Nat) (F' : Nat → Nat → Nat) (B' : Nat → Int32) (k : Nat) (v : Int32) (N1 : Nat → Nat) (F1 : Nat → Nat → Nat) (B1 : Nat → Int32) (N : Nat → Nat) (F : Nat → Nat → Nat) (B : Nat → Int32) : Prop :=
  N' 29 = k ∧ (∃ w : Int32, r = some (.int w) ∧ (k = 0 → w = v)) ∧ (k = 0 → SN N1 N' ∧ SF F1 F' ∧ B' = B1) ∧ (k ≠ 0 → SN N N' ∧ SF F F' ∧ B' = B)
end
section
set_option maxHeartbeats 4000000 in
set_option maxRecDepth 100000 in
theorem c_X7_today (l : Launch) (G : mG) (x : Nat) (ar N : Nat → Nat) (F : Nat → Nat → Nat) (B : Nat → Int32) (r0 : Nat) (hI : Iv N F) (hr0 : r0 < 4) : MMet l yX7_today cX7_today 4 (some FieldType.int) ({ frames := 0, cells := 0, slots := 0, locals := 0 } : Room) G x ar [.ref x, .int (nI (r0))] N F B (fun r N' F' B' => r = some (.int (nI (tdy F (N 0) r0 (N 6)))) ∧ N = N' ∧ F = F' ∧ B = B') := by
  refine MMet.of (by decide) (Nat.le_of_ble_eq_true rfl) ?_
  intro p e s m args below meth c A ls X hr hlocks h hl
  have hl : lv_has ls 4 [(0, .ref x), (1, .int (nI (r0)))] := hl
  have hn := hI.n
  refine lv_iconst (v := nI (0)) X.1 X.2.1 dX7_today_0 (by decide) ?_
  refine lv_istore_n (lv' := [(2, .int (nI (0))), (0, .ref x), (1, .int (nI (r0)))]) X.1 X.2.1 dX7_today_1 rfl hl (by decide) rfl (fun ls hl => ?_)
  refine lv_iconst (v := nI (0)) X.1 X.2.1 dX7_today_2 (by decide) ?_
  refine lv_istore_n (lv' := [(3, .int (nI (0))), (2, .int (nI (0))), (0, .ref x), (1, .int (nI (r0)))]) X.1 X.2.1 dX7_today_3 rfl hl (by decide) rfl (fun ls hl => ?_)
  have loop : ∀ (n9 : Nat) (i : Nat) (t : Nat), (i ≤ N 6) → (N 6 + 1 ≤ i + n9) → (t = tdy F (N 0) r0 i) → ∀ (H : Heap) (locs : List Loc) (ls : Array Slot), mM G A s.heap x ar N F B H locs → lv_has ls 4 [(0, .ref x), (1, .int (nI (r0))), (2, .int (nI (t))), (3, .int (nI (i)))] → W p l e ({ frames := 0, cells := 0, slots := 0, locals := 0 } : Room) s m args below meth c H locs 0 0 (MZ G A x ar (fun r N' F' B' => r = some (.int (nI (tdy F (N 0) r0 (N 6)))) ∧ N = N' ∧ F = F' ∧ B = B') below args s 0 0) (F0 m 4 ls []) := by
    intro n9
    induction n9 with
    | zero => intro i t hi hm9 ht; exact absurd hm9 (by omega)
    | succ n9 ih_loop =>
      intro i t hi hm9 ht H locs ls h hl
      have ht2 := tdy_le F (N 0) r0 i
      refine lv_iload_n X.1 X.2.1 dX7_today_4 rfl (lv_at hl 3 rfl) ?_
      refine lv_aload_n X.1 X.2.1 dX7_today_5 rfl (lv_at hl 0 rfl) ?_
      refine mr_get X h kf_X7_97 (by decide) dX7_today_6 (v := .int (nI (N 6))) rfl ?_
      refine b_icmp_ge (tgt := 49) X dX7_today_9 (by decide) (a := ((i : Nat) : Int)) (b := ((N 6 : Nat) : Int)) (nI_ti (by omega)) (nI_ti (by omega)) (fun c1 => ?_) (fun c1 => ?_)
      · skip
        refine lv_iload_n X.1 X.2.1 dX7_today_49 rfl (lv_at hl 2 rfl) ?_
        exact mr_iret X hr hlocks h dX7_today_50 ⟨Nat.le_of_ble_eq_true rfl, Nat.le_of_ble_eq_true rfl⟩ (⟨by subst ht; rw [show i = N 6 by omega], rfl, rfl, rfl⟩)
      · skip
        refine lv_iload_n X.1 X.2.1 dX7_today_12 rfl (lv_at hl 2 rfl) ?_
        refine lv_aload_n X.1 X.2.1 dX7_today_13 rfl (lv_at hl 0 rfl) ?_
        refine mr_get X h kf_X7_28 (by decide) dX7_today_14 rfl ?_
        refine lv_iload_n X.1 X.2.1 dX7_today_17 rfl (lv_at hl 3 rfl) ?_
        refine mr_ald X h 9 rfl dX7_today_18 (i := i) (v := nI (F 9 (i))) rfl (by show _ < 100; omega) rfl ?_
        have b2 := hI.m (m := i) (by omega)
        refine lv_iload_n X.1 X.2.1 dX7_today_19 rfl (lv_at hl 1 rfl) ?_
        refine b_icmp_ne (tgt := 40) X dX7_today_20 (by decide) (a := ((F 9 (i) : Nat) : Int)) (b := ((r0 : Nat) : Int)) (nI_ti (by omega)) (nI_ti (by omega)) (fun c3 => ?_) (fun c3 => ?_)
        · skip
          refine lv_iconst (v := nI (0)) X.1 X.2.1 dX7_today_40 (by decide) ?_
          refine lv_iadd X.1 X.2.1 dX7_today_41 ?_
          refine lv_top (y := nI (t + 0)) (nI_add _ _) ?_
          refine lv_istore_n (lv' := [(2, .int (nI (t + 0))), (0, .ref x), (1, .int (nI (r0))), (3, .int (nI (i)))]) X.1 X.2.1 dX7_today_42 rfl hl (by decide) rfl (fun ls hl => ?_)
          refine lv_iinc (v := nI (i + 1)) (lv' := [(3, .int (nI (i + 1))), (2, .int (nI (t + 0))), (0, .ref x), (1, .int (nI (r0)))]) X.1 X.2.1 dX7_today_43 hl (k := 3) rfl (nI_add (i) 1) (by decide) rfl (fun ls hl => ?_)
          refine lv_goto (tgt := 4) X.1 X.2.1 dX7_today_46 (by decide) ?_
          exact ih_loop (i + 1) (t + 0) (by omega) (by omega) (by subst ht; first | exact tdy_t (by omega) (by omega) | exact tdy_f (by omega)) _ _ _ h (lv_sub hl [2, 3, 1, 0] rfl)
        · skip
          refine lv_aload_n X.1 X.2.1 dX7_today_23 rfl (lv_at hl 0 rfl) ?_
          refine mr_get X h kf_X7_31 (by decide) dX7_today_24 rfl ?_
          refine lv_iload_n X.1 X.2.1 dX7_today_27 rfl (lv_at hl 3 rfl) ?_
          refine mr_ald X h 10 rfl dX7_today_28 (i := i) (v := nI (F 10 (i))) rfl (by show _ < 100; omega) rfl ?_
          refine lv_aload_n X.1 X.2.1 dX7_today_29 rfl (lv_at hl 0 rfl) ?_
          refine mr_get X h kf_X7_90 (by decide) dX7_today_30 (v := .int (nI (N 0))) rfl ?_
          refine b_icmp_ne (tgt := 40) X dX7_today_33 (by decide) (a := ((F 10 (i) : Nat) : Int)) (b := ((N 0 : Nat) : Int)) (nI_ti (by omega)) (nI_ti (by omega)) (fun c4 => ?_) (fun c4 => ?_)
          · skip
            refine lv_iconst (v := nI (0)) X.1 X.2.1 dX7_today_40 (by decide) ?_
            refine lv_iadd X.1 X.2.1 dX7_today_41 ?_
            refine lv_top (y := nI (t + 0)) (nI_add _ _) ?_
            refine lv_istore_n (lv' := [(2, .int (nI (t + 0))), (0, .ref x), (1, .int (nI (r0))), (3, .int (nI (i)))]) X.1 X.2.1 dX7_today_42 rfl hl (by decide) rfl (fun ls hl => ?_)
            refine lv_iinc (v := nI (i + 1)) (lv' := [(3, .int (nI (i + 1))), (2, .int (nI (t + 0))), (0, .ref x), (1, .int (nI (r0)))]) X.1 X.2.1 dX7_today_43 hl (k := 3) rfl (nI_add (i) 1) (by decide) rfl (fun ls hl => ?_)
            refine lv_goto (tgt := 4) X.1 X.2.1 dX7_today_46 (by decide) ?_
            exact ih_loop (i + 1) (t + 0) (by omega) (by omega) (by subst ht; first | exact tdy_t (by omega) (by omega) | exact tdy_f (by omega)) _ _ _ h (lv_sub hl [2, 3, 1, 0] rfl)
          · skip
            refine lv_iconst (v := nI (1)) X.1 X.2.1 dX7_today_36 (by decide) ?_
            refine lv_goto (tgt := 41) X.1 X.2.1 dX7_today_37 (by decide) ?_
            refine lv_iadd X.1 X.2.1 dX7_today_41 ?_
            refine lv_top (y := nI (t + 1)) (nI_add _ _) ?_
            refine lv_istore_n (lv' := [(2, .int (nI (t + 1))), (0, .ref x), (1, .int (nI (r0))), (3, .int (nI (i)))]) X.1 X.2.1 dX7_today_42 rfl hl (by decide) rfl (fun ls hl => ?_)
            refine lv_iinc (v := nI (i + 1)) (lv' := [(3, .int (nI (i + 1))), (2, .int (nI (t + 1))), (0, .ref x), (1, .int (nI (r0)))]) X.1 X.2.1 dX7_today_43 hl (k := 3) rfl (nI_add (i) 1) (by decide) rfl (fun ls hl => ?_)
            refine lv_goto (tgt := 4) X.1 X.2.1 dX7_today_46 (by decide) ?_
            exact ih_loop (i + 1) (t + 1) (by omega) (by omega) (by subst ht; first | exact tdy_t (by omega) (by omega) | exact tdy_f (by omega)) _ _ _ h (lv_sub hl [2, 3, 1, 0] rfl)
  exact loop (N 6 + 1) 0 0 (by omega) (by omega) rfl _ _ _ h (lv_sub hl [2, 3, 1, 0] rfl)
set_option maxHeartbeats 4000000 in
set_option maxRecDepth 100000 in
theorem c_X7_counts (l : Launch) (G : mG) (x : Nat) (ar N : Nat → Nat) (F : Nat → Nat → Nat) (B : Nat → Int32) (s0 : Nat) (hI : Iv N F) (hs0 : s0 ≤ 11) : MMet l yX7_counts cX7_counts 3 none ({ frames := 1, cells := 0, slots := 0, locals := 22 } : Room) G x ar [.ref x, .int (nI (s0))] N F B (fun r N' F' B' => r = none ∧ N = N' ∧ B = B' ∧ ∃ g q : Nat → Nat, F' = sc2 F g q ∧ ∀ p, p < N 1 → g p = pts F s0 p (N 6) ∧ q p = gms F s0 p (N 6)) := by
  refine MMet.of (by decide) (Nat.le_of_ble_eq_true rfl) ?_
  intro p e s m args below meth c A ls X hr hlocks h hl
  have hl : lv_has ls 3 [(0, .ref x), (1, .int (nI (s0)))] := hl
  have hn := hI.n
  have h : mM G A s.heap x ar N (sc2 F (F 25) (F 26)) B s.heap [] := by rw [sc2_self]; exact h
  refine lv_iconst (v := nI (0)) X.1 X.2.1 dX7_counts_0 (by decide) ?_
  refine lv_istore_n (lv' := [(2, .int (nI (0))), (0, .ref x), (1, .int (nI (s0)))]) X.1 X.2.1 dX7_counts_1 rfl hl (by decide) rfl (fun ls hl => ?_)
  have loop : ∀ (n9 : Nat) (i : Nat) (g : Nat → Nat) (q : Nat → Nat), (i ≤ N 1) → (N 1 + 1 ≤ i + n9) → (∀ p, p < i → g p = 0 ∧ q p = 0) → ∀ (H : Heap) (locs : List Loc) (ls : Array Slot), mM G A s.heap x ar N (sc2 F g q) B H locs → lv_has ls 3 [(0, .ref x), (1, .int (nI (s0))), (2, .int (nI (i)))] → W p l e ({ frames := 1, cells := 0, slots := 0, locals := 22 } : Room) s m args below meth c H locs 0 0 (MZ G A x ar (fun r N' F' B' => r = none ∧ N = N' ∧ B = B' ∧ ∃ g q : Nat → Nat, F' = sc2 F g q ∧ ∀ p, p < N 1 → g p = pts F s0 p (N 6) ∧ q p = gms F s0 p (N 6)) below args s 0 0) (F0 m 2 ls []) := by
    intro n9
    induction n9 with
    | zero => intro i g q hi hm9 hg; exact absurd hm9 (by omega)
    | succ n9 ih_loop =>
      intro i g q hi hm9 hg H locs ls h hl
      refine lv_iload_n X.1 X.2.1 dX7_counts_2 rfl (lv_at hl 2 rfl) ?_
      refine lv_aload_n X.1 X.2.1 dX7_counts_3 rfl (lv_at hl 0 rfl) ?_
      refine mr_get X h kf_X7_83 (by decide) dX7_counts_4 (v := .int (nI (N 1))) rfl ?_
      refine b_icmp_ge (tgt := 30) X dX7_counts_7 (by decide) (a := ((i : Nat) : Int)) (b := ((N 1 : Nat) : Int)) (nI_ti (by omega)) (nI_ti (by omega)) (fun c1 => ?_) (fun c1 => ?_)
      · skip
        refine lv_iconst (v := nI (0)) X.1 X.2.1 dX7_counts_30 (by decide) ?_
        refine lv_istore_n (lv' := [(2, .int (nI (0))), (0, .ref x), (1, .int (nI (s0)))]) X.1 X.2.1 dX7_counts_31 rfl hl (by decide) rfl (fun ls hl => ?_)
        have loop2 : ∀ (n9 : Nat) (i2 : Nat) (g2 : Nat → Nat) (q2 : Nat → Nat), (i2 ≤ N 6) → (N 6 + 1 ≤ i2 + n9) → (∀ p, p < N 1 → g2 p = pts F s0 p i2 ∧ q2 p = gms F s0 p i2) → ∀ (H : Heap) (locs : List Loc) (ls : Array Slot), mM G A s.heap x ar N (sc2 F g2 q2) B H locs → lv_has ls 3 [(0, .ref x), (1, .int (nI (s0))), (2, .int (nI (i2)))] → W p l e ({ frames := 1, cells := 0, slots := 0, locals := 22 } : Room) s m args below meth c H locs 0 0 (MZ G A x ar (fun r N' F' B' => r = none ∧ N = N' ∧ B = B' ∧ ∃ g q : Nat → Nat, F' = sc2 F g q ∧ ∀ p, p < N 1 → g p = pts F s0 p (N 6) ∧ q p = gms F s0 p (N 6)) below args s 0 0) (F0 m 32 ls []) := by
          intro n9
          induction n9 with
          | zero => intro i2 g2 q2 hi2 hm9 hg2; exact absurd hm9 (by omega)
          | succ n9 ih_loop2 =>
            intro i2 g2 q2 hi2 hm9 hg2 H locs ls h hl
            refine lv_iload_n X.1 X.2.1 dX7_counts_32 rfl (lv_at hl 2 rfl) ?_
            refine lv_aload_n X.1 X.2.1 dX7_counts_33 rfl (lv_at hl 0 rfl) ?_
            refine mr_get X h kf_X7_97 (by decide) dX7_counts_34 (v := .int (nI (N 6))) rfl ?_
            refine b_icmp_ge (tgt := 124) X dX7_counts_37 (by decide) (a := ((i2 : Nat) : Int)) (b := ((N 6 : Nat) : Int)) (nI_ti (by omega)) (nI_ti (by omega)) (fun c2 => ?_) (fun c2 => ?_)
            · skip
              exact mr_vret X hr hlocks h dX7_counts_124 ⟨Nat.le_of_ble_eq_true rfl, Nat.le_of_ble_eq_true rfl⟩ (⟨rfl, rfl, rfl, g2, q2, rfl, by rw [show i2 = N 6 by omega] at hg2; exact hg2⟩)
            · skip
              refine lv_aload_n X.1 X.2.1 dX7_counts_40 rfl (lv_at hl 0 rfl) ?_
              refine mr_get X h kf_X7_34 (by decide) dX7_counts_41 rfl ?_
              refine lv_iload_n X.1 X.2.1 dX7_counts_44 rfl (lv_at hl 2 rfl) ?_
              refine mr_ald X h 11 rfl dX7_counts_45 (i := i2) (v := nI (F 11 (i2))) rfl (by show _ < 100; omega) rfl ?_
              have b3 := hI.m (m := i2) (by omega)
              refine lv_iload_n X.1 X.2.1 dX7_counts_46 rfl (lv_at hl 1 rfl) ?_
              refine b_icmp_ne (tgt := 118) X dX7_counts_47 (by decide) (a := ((F 11 (i2) : Nat) : Int)) (b := ((s0 : Nat) : Int)) (nI_ti (by omega)) (nI_ti (by omega)) (fun c4 => ?_) (fun c4 => ?_)
              · skip
                refine lv_iinc (v := nI (i2 + 1)) (lv' := [(2, .int (nI (i2 + 1))), (0, .ref x), (1, .int (nI (s0)))]) X.1 X.2.1 dX7_counts_118 hl (k := 2) rfl (nI_add (i2) 1) (by decide) rfl (fun ls hl => ?_)
                refine lv_goto (tgt := 32) X.1 X.2.1 dX7_counts_121 (by decide) ?_
                exact ih_loop2 (i2 + 1) (g2) (q2) (by omega) (by omega) (by first | exact cnt_t hg2 (by omega) (by assumption) | exact cnt_f hg2 (fun z => absurd z.1 (by omega)) | exact cnt_f hg2 (fun z => absurd z.2 (by simp [*]))) _ _ _ h (lv_sub hl [1, 2, 0] rfl)
              · skip
                refine lv_aload_n X.1 X.2.1 dX7_counts_50 rfl (lv_at hl 0 rfl) ?_
                refine lv_iload_n X.1 X.2.1 dX7_counts_51 rfl (lv_at hl 2 rfl) ?_
                refine mr_callV X h ck_X7_116 ki_X7_isGood ks_X7_isGood dX7_counts_52 (As := [.int (nI (i2))]) (c_X7_isGood l G x ar N (sc2 F g2 q2) B i2 hI (show i2 < N 6 by omega)) rfl hl rfl (Nat.le_of_ble_eq_true rfl) ⟨Nat.le_of_ble_eq_true rfl, Nat.le_of_ble_eq_true rfl⟩ ⟨Nat.le_of_ble_eq_true rfl, Nat.le_of_ble_eq_true rfl⟩ ?_
                rintro _ _ _ _ H locs ⟨rfl, rfl, rfl, rfl⟩ h
                refine lv_top (y := bI (goodS F (i2))) rfl ?_
                refine b_bool_eq (tgt := 118) X dX7_counts_55 (by decide) (fun c5 => ?_) (fun c5 => ?_)
                · skip
                  refine lv_iinc (v := nI (i2 + 1)) (lv' := [(2, .int (nI (i2 + 1))), (0, .ref x), (1, .int (nI (s0)))]) X.1 X.2.1 dX7_counts_118 hl (k := 2) rfl (nI_add (i2) 1) (by decide) rfl (fun ls hl => ?_)
                  refine lv_goto (tgt := 32) X.1 X.2.1 dX7_counts_121 (by decide) ?_
                  exact ih_loop2 (i2 + 1) (g2) (q2) (by omega) (by omega) (by first | exact cnt_t hg2 (by omega) (by assumption) | exact cnt_f hg2 (fun z => absurd z.1 (by omega)) | exact cnt_f hg2 (fun z => absurd z.2 (by simp [*]))) _ _ _ h (lv_sub hl [1, 2, 0] rfl)
                · skip
                  refine lv_aload_n X.1 X.2.1 dX7_counts_58 rfl (lv_at hl 0 rfl) ?_
                  refine mr_get X h kf_X7_70 (by decide) dX7_counts_59 rfl ?_
                  refine lv_aload_n X.1 X.2.1 dX7_counts_62 rfl (lv_at hl 0 rfl) ?_
                  refine mr_get X h kf_X7_22 (by decide) dX7_counts_63 rfl ?_
                  refine lv_iload_n X.1 X.2.1 dX7_counts_66 rfl (lv_at hl 2 rfl) ?_
                  refine mr_ald X h 7 rfl dX7_counts_67 (i := i2) (v := nI (F 7 (i2))) rfl (by show _ < 100; omega) rfl ?_
                  refine lv_dup2_11 X.1 X.2.1 dX7_counts_68 rfl rfl ?_
                  refine mr_ald X h 25 rfl dX7_counts_69 (i := F 7 (i2)) (v := nI (g2 (F 7 (i2)))) rfl (by show _ < 16; omega) rfl ?_
                  have b6 := (cnt_b hg2 (by omega) (q := (F 7 (i2))) (by omega))
                  refine lv_iconst (v := nI (3)) X.1 X.2.1 dX7_counts_70 (by decide) ?_
                  refine lv_iadd X.1 X.2.1 dX7_counts_71 ?_
                  refine lv_top (y := nI (g2 (F 7 (i2)) + 3)) (nI_add _ _) ?_
                  refine mr_ast X h 25 rfl (by decide) dX7_counts_72 (i := F 7 (i2)) (v := g2 (F 7 (i2)) + 3) rfl (by show _ < 16; omega) rfl (fun H locs h => ?_)
                  rw [sc2_25] at h
                  refine lv_aload_n X.1 X.2.1 dX7_counts_73 rfl (lv_at hl 0 rfl) ?_
                  refine mr_get X h kf_X7_70 (by decide) dX7_counts_74 rfl ?_
                  refine lv_aload_n X.1 X.2.1 dX7_counts_77 rfl (lv_at hl 0 rfl) ?_
                  refine mr_get X h kf_X7_25 (by decide) dX7_counts_78 rfl ?_
                  refine lv_iload_n X.1 X.2.1 dX7_counts_81 rfl (lv_at hl 2 rfl) ?_
                  refine mr_ald X h 8 rfl dX7_counts_82 (i := i2) (v := nI (F 8 (i2))) rfl (by show _ < 100; omega) rfl ?_
                  refine lv_dup2_11 X.1 X.2.1 dX7_counts_83 rfl rfl ?_
                  refine mr_ald X h 25 rfl dX7_counts_84 (i := F 8 (i2)) (v := nI ((va_up g2 (F 7 (i2)) (g2 (F 7 (i2)) + 3)) (F 8 (i2)))) rfl (by show _ < 16; omega) rfl ?_
                  have b7 := (cnt_b hg2 (by omega) (q := (F 8 (i2))) (by omega))
                  refine lv_iconst (v := nI (1)) X.1 X.2.1 dX7_counts_85 (by decide) ?_
                  refine lv_iadd X.1 X.2.1 dX7_counts_86 ?_
                  refine lv_top (y := nI ((va_up g2 (F 7 (i2)) (g2 (F 7 (i2)) + 3)) (F 8 (i2)) + 1)) (nI_add _ _) ?_
                  refine mr_ast X h 25 rfl (by decide) dX7_counts_87 (i := F 8 (i2)) (v := (va_up g2 (F 7 (i2)) (g2 (F 7 (i2)) + 3)) (F 8 (i2)) + 1) rfl (by show _ < 16; omega) rfl (fun H locs h => ?_)
                  rw [sc2_25] at h
                  refine lv_aload_n X.1 X.2.1 dX7_counts_88 rfl (lv_at hl 0 rfl) ?_
                  refine mr_get X h kf_X7_73 (by decide) dX7_counts_89 rfl ?_
                  refine lv_aload_n X.1 X.2.1 dX7_counts_92 rfl (lv_at hl 0 rfl) ?_
                  refine mr_get X h kf_X7_22 (by decide) dX7_counts_93 rfl ?_
                  refine lv_iload_n X.1 X.2.1 dX7_counts_96 rfl (lv_at hl 2 rfl) ?_
                  refine mr_ald X h 7 rfl dX7_counts_97 (i := i2) (v := nI (F 7 (i2))) rfl (by show _ < 100; omega) rfl ?_
                  refine lv_dup2_11 X.1 X.2.1 dX7_counts_98 rfl rfl ?_
                  refine mr_ald X h 26 rfl dX7_counts_99 (i := F 7 (i2)) (v := nI (q2 (F 7 (i2)))) rfl (by show _ < 16; omega) rfl ?_
                  have b8 := (cnt_b hg2 (by omega) (q := (F 7 (i2))) (by omega))
                  refine lv_iconst (v := nI (1)) X.1 X.2.1 dX7_counts_100 (by decide) ?_
                  refine lv_iadd X.1 X.2.1 dX7_counts_101 ?_
                  refine lv_top (y := nI (q2 (F 7 (i2)) + 1)) (nI_add _ _) ?_
                  refine mr_ast X h 26 rfl (by decide) dX7_counts_102 (i := F 7 (i2)) (v := q2 (F 7 (i2)) + 1) rfl (by show _ < 16; omega) rfl (fun H locs h => ?_)
                  rw [sc2_26] at h
                  refine lv_aload_n X.1 X.2.1 dX7_counts_103 rfl (lv_at hl 0 rfl) ?_
                  refine mr_get X h kf_X7_73 (by decide) dX7_counts_104 rfl ?_
                  refine lv_aload_n X.1 X.2.1 dX7_counts_107 rfl (lv_at hl 0 rfl) ?_
                  refine mr_get X h kf_X7_25 (by decide) dX7_counts_108 rfl ?_
                  refine lv_iload_n X.1 X.2.1 dX7_counts_111 rfl (lv_at hl 2 rfl) ?_
                  refine mr_ald X h 8 rfl dX7_counts_112 (i := i2) (v := nI (F 8 (i2))) rfl (by show _ < 100; omega) rfl ?_
                  refine lv_dup2_11 X.1 X.2.1 dX7_counts_113 rfl rfl ?_
                  refine mr_ald X h 26 rfl dX7_counts_114 (i := F 8 (i2)) (v := nI ((va_up q2 (F 7 (i2)) (q2 (F 7 (i2)) + 1)) (F 8 (i2)))) rfl (by show _ < 16; omega) rfl ?_
                  have b9 := (cnt_b hg2 (by omega) (q := (F 8 (i2))) (by omega))
                  refine lv_iconst (v := nI (1)) X.1 X.2.1 dX7_counts_115 (by decide) ?_
                  refine lv_iadd X.1 X.2.1 dX7_counts_116 ?_
                  refine lv_top (y := nI ((va_up q2 (F 7 (i2)) (q2 (F 7 (i2)) + 1)) (F 8 (i2)) + 1)) (nI_add _ _) ?_
                  refine mr_ast X h 26 rfl (by decide) dX7_counts_117 (i := F 8 (i2)) (v := (va_up q2 (F 7 (i2)) (q2 (F 7 (i2)) + 1)) (F 8 (i2)) + 1) rfl (by show _ < 16; omega) rfl (fun H locs h => ?_)
                  rw [sc2_26] at h
                  refine lv_iinc (v := nI (i2 + 1)) (lv' := [(2, .int (nI (i2 + 1))), (0, .ref x), (1, .int (nI (s0)))]) X.1 X.2.1 dX7_counts_118 hl (k := 2) rfl (nI_add (i2) 1) (by decide) rfl (fun ls hl => ?_)
                  refine lv_goto (tgt := 32) X.1 X.2.1 dX7_counts_121 (by decide) ?_
                  exact ih_loop2 (i2 + 1) (va_up (va_up g2 (F 7 (i2)) (g2 (F 7 (i2)) + 3)) (F 8 (i2)) ((va_up g2 (F 7 (i2)) (g2 (F 7 (i2)) + 3)) (F 8 (i2)) + 1)) (va_up (va_up q2 (F 7 (i2)) (q2 (F 7 (i2)) + 1)) (F 8 (i2)) ((va_up q2 (F 7 (i2)) (q2 (F 7 (i2)) + 1)) (F 8 (i2)) + 1)) (by omega) (by omega) (by first | exact cnt_t hg2 (by omega) (by assumption) | exact cnt_f hg2 (fun z => absurd z.1 (by omega)) | exact cnt_f hg2 (fun z => absurd z.2 (by simp [*]))) _ _ _ h (lv_sub hl [1, 2, 0] rfl)
        exact loop2 (N 6 + 1) 0 g q (by omega) (by omega) (by rw [show i = N 1 by omega] at hg; exact hg) _ _ _ h (lv_sub hl [1, 2, 0] rfl)
      · skip
        refine lv_aload_n X.1 X.2.1 dX7_counts_10 rfl (lv_at hl 0 rfl) ?_
        refine mr_get X h kf_X7_70 (by decide) dX7_counts_11 rfl ?_
        refine lv_iload_n X.1 X.2.1 dX7_counts_14 rfl (lv_at hl 2 rfl) ?_
        refine lv_iconst (v := nI (0)) X.1 X.2.1 dX7_counts_15 (by decide) ?_
        refine mr_ast X h 25 rfl (by decide) dX7_counts_16 (i := i) (v := 0) rfl (by show _ < 16; omega) rfl (fun H locs h => ?_)
        rw [sc2_25] at h
        refine lv_aload_n X.1 X.2.1 dX7_counts_17 rfl (lv_at hl 0 rfl) ?_
        refine mr_get X h kf_X7_73 (by decide) dX7_counts_18 rfl ?_
        refine lv_iload_n X.1 X.2.1 dX7_counts_21 rfl (lv_at hl 2 rfl) ?_
        refine lv_iconst (v := nI (0)) X.1 X.2.1 dX7_counts_22 (by decide) ?_
        refine mr_ast X h 26 rfl (by decide) dX7_counts_23 (i := i) (v := 0) rfl (by show _ < 16; omega) rfl (fun H locs h => ?_)
        rw [sc2_26] at h
        refine lv_iinc (v := nI (i + 1)) (lv' := [(2, .int (nI (i + 1))), (0, .ref x), (1, .int (nI (s0)))]) X.1 X.2.1 dX7_counts_24 hl (k := 2) rfl (nI_add (i) 1) (by decide) rfl (fun ls hl => ?_)
        refine lv_goto (tgt := 2) X.1 X.2.1 dX7_counts_27 (by decide) ?_
        exact ih_loop (i + 1) (va_up g (i) (0)) (va_up q (i) (0)) (by omega) (by omega) (cnt_z hg) _ _ _ h (lv_sub hl [1, 2, 0] rfl)
  exact loop (N 1 + 1) 0 (F 25) (F 26) (by omega) (by omega) (fun p hp => absurd hp (by omega)) _ _ _ h (lv_sub hl [1, 2, 0] rfl)
set_option maxHeartbeats 4000000 in
set_option maxRecDepth 100000 in
theorem c_X7_isAhead (l : Launch) (G : mG) (x : Nat) (ar N : Nat → Nat) (F : Nat → Nat → Nat) (B : Nat → Int32) (p0 : Nat) (p1 : Nat) (g : Nat → Nat) (q : Nat → Nat) (hn : N 1 ≤ 16) (hb : ∀ z, z < N 1 → g z ≤ 400 ∧ q z ≤ 400) (hp0 : p0 < N 1) (hp1 : p1 < N 1) : MMet l yX7_isAhead cX7_isAhead 3 (some FieldType.boolean) ({ frames := 0, cells := 0, slots := 0, locals := 0 } : Room) G x ar [.ref x, .int (nI (p0)), .int (nI (p1))] N (sc2 F g q) B (fun r N' F' B' => r = some (.int (bI (ahM g q p0 p1))) ∧ N = N' ∧ sc2 F g q = F' ∧ B = B') := by
  refine MMet.of (by decide) (Nat.le_of_ble_eq_true rfl) ?_
  intro p e s m args below meth c A ls X hr hlocks h hl
  have hl : lv_has ls 3 [(0, .ref x), (1, .int (nI (p0))), (2, .int (nI (p1)))] := hl
  refine lv_aload_n X.1 X.2.1 dX7_isAhead_0 rfl (lv_at hl 0 rfl) ?_
  refine mr_get X h kf_X7_70 (by decide) dX7_isAhead_1 rfl ?_
  refine lv_iload_n X.1 X.2.1 dX7_isAhead_4 rfl (lv_at hl 1 rfl) ?_
  refine mr_ald X h 25 rfl dX7_isAhead_5 (i := p0) (v := nI (g (p0))) rfl (by show _ < 16; omega) rfl ?_
  have b1 := hb p0 (by omega)
  refine lv_aload_n X.1 X.2.1 dX7_isAhead_6 rfl (lv_at hl 0 rfl) ?_
  refine mr_get X h kf_X7_70 (by decide) dX7_isAhead_7 rfl ?_
  refine lv_iload_n X.1 X.2.1 dX7_isAhead_10 rfl (lv_at hl 2 rfl) ?_
  refine mr_ald X h 25 rfl dX7_isAhead_11 (i := p1) (v := nI (g (p1))) rfl (by show _ < 16; omega) rfl ?_
  have b2 := hb p1 (by omega)
  refine b_icmp_eq (tgt := 36) X dX7_isAhead_12 (by decide) (a := ((g (p0) : Nat) : Int)) (b := ((g (p1) : Nat) : Int)) (nI_ti (by omega)) (nI_ti (by omega)) (fun c3 => ?_) (fun c3 => ?_)
  · skip
    refine lv_aload_n X.1 X.2.1 dX7_isAhead_36 rfl (lv_at hl 0 rfl) ?_
    refine mr_get X h kf_X7_73 (by decide) dX7_isAhead_37 rfl ?_
    refine lv_iload_n X.1 X.2.1 dX7_isAhead_40 rfl (lv_at hl 1 rfl) ?_
    refine mr_ald X h 26 rfl dX7_isAhead_41 (i := p0) (v := nI (q (p0))) rfl (by show _ < 16; omega) rfl ?_
    refine lv_aload_n X.1 X.2.1 dX7_isAhead_42 rfl (lv_at hl 0 rfl) ?_
    refine mr_get X h kf_X7_73 (by decide) dX7_isAhead_43 rfl ?_
    refine lv_iload_n X.1 X.2.1 dX7_isAhead_46 rfl (lv_at hl 2 rfl) ?_
    refine mr_ald X h 26 rfl dX7_isAhead_47 (i := p1) (v := nI (q (p1))) rfl (by show _ < 16; omega) rfl ?_
    refine b_icmp_lt (tgt := 71) X dX7_isAhead_48 (by decide) (a := ((q (p0) : Nat) : Int)) (b := ((q (p1) : Nat) : Int)) (nI_ti (by omega)) (nI_ti (by omega)) (fun c4 => ?_) (fun c4 => ?_)
    · skip
      refine lv_iconst (v := nI (1)) X.1 X.2.1 dX7_isAhead_71 (by decide) ?_
      refine lv_goto (tgt := 76) X.1 X.2.1 dX7_isAhead_72 (by decide) ?_
      exact mr_zret X hr hlocks h dX7_isAhead_76 ⟨Nat.le_of_ble_eq_true rfl, Nat.le_of_ble_eq_true rfl⟩ (rfl) (⟨congrArg (fun z => some (Value.int z)) (by unfold ahM; first | (rw [if_pos (show g p0 = g p1 by omega)]; first | exact bI_dec (by omega) | exact bI_decN (by omega)) | (rw [if_neg (show ¬ g p0 = g p1 by omega)]; first | exact bI_dec (by omega) | exact bI_decN (by omega))), rfl, rfl, rfl⟩)
    · skip
      refine lv_aload_n X.1 X.2.1 dX7_isAhead_51 rfl (lv_at hl 0 rfl) ?_
      refine mr_get X h kf_X7_73 (by decide) dX7_isAhead_52 rfl ?_
      refine lv_iload_n X.1 X.2.1 dX7_isAhead_55 rfl (lv_at hl 1 rfl) ?_
      refine mr_ald X h 26 rfl dX7_isAhead_56 (i := p0) (v := nI (q (p0))) rfl (by show _ < 16; omega) rfl ?_
      refine lv_aload_n X.1 X.2.1 dX7_isAhead_57 rfl (lv_at hl 0 rfl) ?_
      refine mr_get X h kf_X7_73 (by decide) dX7_isAhead_58 rfl ?_
      refine lv_iload_n X.1 X.2.1 dX7_isAhead_61 rfl (lv_at hl 2 rfl) ?_
      refine mr_ald X h 26 rfl dX7_isAhead_62 (i := p1) (v := nI (q (p1))) rfl (by show _ < 16; omega) rfl ?_
      refine b_icmp_ne (tgt := 75) X dX7_isAhead_63 (by decide) (a := ((q (p0) : Nat) : Int)) (b := ((q (p1) : Nat) : Int)) (nI_ti (by omega)) (nI_ti (by omega)) (fun c5 => ?_) (fun c5 => ?_)
      · skip
        refine lv_iconst (v := nI (0)) X.1 X.2.1 dX7_isAhead_75 (by decide) ?_
        exact mr_zret X hr hlocks h dX7_isAhead_76 ⟨Nat.le_of_ble_eq_true rfl, Nat.le_of_ble_eq_true rfl⟩ (rfl) (⟨congrArg (fun z => some (Value.int z)) (by unfold ahM; first | (rw [if_pos (show g p0 = g p1 by omega)]; first | exact bI_dec (by omega) | exact bI_decN (by omega)) | (rw [if_neg (show ¬ g p0 = g p1 by omega)]; first | exact bI_dec (by omega) | exact bI_decN (by omega))), rfl, rfl, rfl⟩)
      · skip
        refine lv_iload_n X.1 X.2.1 dX7_isAhead_66 rfl (lv_at hl 1 rfl) ?_
        refine lv_iload_n X.1 X.2.1 dX7_isAhead_67 rfl (lv_at hl 2 rfl) ?_
        refine b_icmp_ge (tgt := 75) X dX7_isAhead_68 (by decide) (a := ((p0 : Nat) : Int)) (b := ((p1 : Nat) : Int)) (nI_ti (by omega)) (nI_ti (by omega)) (fun c6 => ?_) (fun c6 => ?_)
        · skip
          refine lv_iconst (v := nI (0)) X.1 X.2.1 dX7_isAhead_75 (by decide) ?_
          exact mr_zret X hr hlocks h dX7_isAhead_76 ⟨Nat.le_of_ble_eq_true rfl, Nat.le_of_ble_eq_true rfl⟩ (rfl) (⟨congrArg (fun z => some (Value.int z)) (by unfold ahM; first | (rw [if_pos (show g p0 = g p1 by omega)]; first | exact bI_dec (by omega) | exact bI_decN (by omega)) | (rw [if_neg (show ¬ g p0 = g p1 by omega)]; first | exact bI_dec (by omega) | exact bI_decN (by omega))), rfl, rfl, rfl⟩)
        · skip
          refine lv_iconst (v := nI (1)) X.1 X.2.1 dX7_isAhead_71 (by decide) ?_
          refine lv_goto (tgt := 76) X.1 X.2.1 dX7_isAhead_72 (by decide) ?_
          exact mr_zret X hr hlocks h dX7_isAhead_76 ⟨Nat.le_of_ble_eq_true rfl, Nat.le_of_ble_eq_true rfl⟩ (rfl) (⟨congrArg (fun z => some (Value.int z)) (by unfold ahM; first | (rw [if_pos (show g p0 = g p1 by omega)]; first | exact bI_dec (by omega) | exact bI_decN (by omega)) | (rw [if_neg (show ¬ g p0 = g p1 by omega)]; first | exact bI_dec (by omega) | exact bI_decN (by omega))), rfl, rfl, rfl⟩)
  · skip
    refine lv_aload_n X.1 X.2.1 dX7_isAhead_15 rfl (lv_at hl 0 rfl) ?_
    refine mr_get X h kf_X7_70 (by decide) dX7_isAhead_16 rfl ?_
    refine lv_iload_n X.1 X.2.1 dX7_isAhead_19 rfl (lv_at hl 1 rfl) ?_
    refine mr_ald X h 25 rfl dX7_isAhead_20 (i := p0) (v := nI (g (p0))) rfl (by show _ < 16; omega) rfl ?_
    have b7 := hb p0 (by omega)
    refine lv_aload_n X.1 X.2.1 dX7_isAhead_21 rfl (lv_at hl 0 rfl) ?_
    refine mr_get X h kf_X7_70 (by decide) dX7_isAhead_22 rfl ?_
    refine lv_iload_n X.1 X.2.1 dX7_isAhead_25 rfl (lv_at hl 2 rfl) ?_
    refine mr_ald X h 25 rfl dX7_isAhead_26 (i := p1) (v := nI (g (p1))) rfl (by show _ < 16; omega) rfl ?_
    have b8 := hb p1 (by omega)
    refine b_icmp_le (tgt := 34) X dX7_isAhead_27 (by decide) (a := ((g (p0) : Nat) : Int)) (b := ((g (p1) : Nat) : Int)) (nI_ti (by omega)) (nI_ti (by omega)) (fun c9 => ?_) (fun c9 => ?_)
    · skip
      refine lv_iconst (v := nI (0)) X.1 X.2.1 dX7_isAhead_34 (by decide) ?_
      exact mr_zret X hr hlocks h dX7_isAhead_35 ⟨Nat.le_of_ble_eq_true rfl, Nat.le_of_ble_eq_true rfl⟩ (rfl) (⟨congrArg (fun z => some (Value.int z)) (by unfold ahM; first | (rw [if_pos (show g p0 = g p1 by omega)]; first | exact bI_dec (by omega) | exact bI_decN (by omega)) | (rw [if_neg (show ¬ g p0 = g p1 by omega)]; first | exact bI_dec (by omega) | exact bI_decN (by omega))), rfl, rfl, rfl⟩)
    · skip
      refine lv_iconst (v := nI (1)) X.1 X.2.1 dX7_isAhead_30 (by decide) ?_
      refine lv_goto (tgt := 35) X.1 X.2.1 dX7_isAhead_31 (by decide) ?_
      exact mr_zret X hr hlocks h dX7_isAhead_35 ⟨Nat.le_of_ble_eq_true rfl, Nat.le_of_ble_eq_true rfl⟩ (rfl) (⟨congrArg (fun z => some (Value.int z)) (by unfold ahM; first | (rw [if_pos (show g p0 = g p1 by omega)]; first | exact bI_dec (by omega) | exact bI_decN (by omega)) | (rw [if_neg (show ¬ g p0 = g p1 by omega)]; first | exact bI_dec (by omega) | exact bI_decN (by omega))), rfl, rfl, rfl⟩)
set_option maxHeartbeats 4000000 in
set_option maxRecDepth 100000 in
theorem c_X7_placeOf (l : Launch) (G : mG) (x : Nat) (ar N : Nat → Nat) (F : Nat → Nat → Nat) (B : Nat → Int32) (p0 : Nat) (g : Nat → Nat) (q : Nat → Nat) (hn : N 1 ≤ 16) (hb : ∀ z, z < N 1 → g z ≤ 400 ∧ q z ≤ 400) (hp0 : p0 < N 1) : MMet l yX7_placeOf cX7_placeOf 4 (some FieldType.int) ({ frames := 1, cells := 0, slots := 0, locals := 22 } : Room) G x ar [.ref x, .int (nI (p0))] N (sc2 F g q) B (fun r N' F' B' => r = some (.int (nI (plM g q (N 1) p0))) ∧ N = N' ∧ sc2 F g q = F' ∧ B = B') := by
  refine MMet.of (by decide) (Nat.le_of_ble_eq_true rfl) ?_
  intro p e s m args below meth c A ls X hr hlocks h hl
  have hl : lv_has ls 4 [(0, .ref x), (1, .int (nI (p0)))] := hl
  refine lv_iconst (v := nI (1)) X.1 X.2.1 dX7_placeOf_0 (by decide) ?_
  refine lv_istore_n (lv' := [(2, .int (nI (1))), (0, .ref x), (1, .int (nI (p0)))]) X.1 X.2.1 dX7_placeOf_1 rfl hl (by decide) rfl (fun ls hl => ?_)
  refine lv_iconst (v := nI (0)) X.1 X.2.1 dX7_placeOf_2 (by decide) ?_
  refine lv_istore_n (lv' := [(3, .int (nI (0))), (2, .int (nI (1))), (0, .ref x), (1, .int (nI (p0)))]) X.1 X.2.1 dX7_placeOf_3 rfl hl (by decide) rfl (fun ls hl => ?_)
  have loop : ∀ (n9 : Nat) (i : Nat) (t : Nat), (i ≤ N 1) → (N 1 + 1 ≤ i + n9) → (t = 1 + plN g q p0 i) → ∀ (H : Heap) (locs : List Loc) (ls : Array Slot), mM G A s.heap x ar N (sc2 F g q) B H locs → lv_has ls 4 [(0, .ref x), (1, .int (nI (p0))), (2, .int (nI (t))), (3, .int (nI (i)))] → W p l e ({ frames := 1, cells := 0, slots := 0, locals := 22 } : Room) s m args below meth c H locs 0 0 (MZ G A x ar (fun r N' F' B' => r = some (.int (nI (plM g q (N 1) p0))) ∧ N = N' ∧ sc2 F g q = F' ∧ B = B') below args s 0 0) (F0 m 4 ls []) := by
    intro n9
    induction n9 with
    | zero => intro i t hi hm9 ht; exact absurd hm9 (by omega)
    | succ n9 ih_loop =>
      intro i t hi hm9 ht H locs ls h hl
      have ht2 := plN_le g q p0 i
      refine lv_iload_n X.1 X.2.1 dX7_placeOf_4 rfl (lv_at hl 3 rfl) ?_
      refine lv_aload_n X.1 X.2.1 dX7_placeOf_5 rfl (lv_at hl 0 rfl) ?_
      refine mr_get X h kf_X7_83 (by decide) dX7_placeOf_6 (v := .int (nI (N 1))) rfl ?_
      refine b_icmp_ge (tgt := 49) X dX7_placeOf_9 (by decide) (a := ((i : Nat) : Int)) (b := ((N 1 : Nat) : Int)) (nI_ti (by omega)) (nI_ti (by omega)) (fun c1 => ?_) (fun c1 => ?_)
      · skip
        refine lv_aload_n X.1 X.2.1 dX7_placeOf_49 rfl (lv_at hl 0 rfl) ?_
        refine mr_get X h kf_X7_70 (by decide) dX7_placeOf_50 rfl ?_
        refine lv_iload_n X.1 X.2.1 dX7_placeOf_53 rfl (lv_at hl 1 rfl) ?_
        refine mr_ald X h 25 rfl dX7_placeOf_54 (i := p0) (v := nI (g (p0))) rfl (by show _ < 16; omega) rfl ?_
        have b2 := hb p0 (by omega)
        refine b_if_ne (tgt := 62) X dX7_placeOf_55 (by decide) (a := ((g (p0) : Nat) : Int)) (nI_ti (by omega)) (fun c3 => ?_) (fun c3 => ?_)
        · skip
          refine lv_iload_n X.1 X.2.1 dX7_placeOf_62 rfl (lv_at hl 2 rfl) ?_
          exact mr_iret X hr hlocks h dX7_placeOf_63 ⟨Nat.le_of_ble_eq_true rfl, Nat.le_of_ble_eq_true rfl⟩ (⟨congrArg (fun z => some (Value.int (nI z))) (by rw [plM]; first | rw [if_pos (show g p0 = 0 by omega)] | (rw [if_neg (show ¬ g p0 = 0 by omega), ht, show i = N 1 by omega])), rfl, rfl, rfl⟩)
        · skip
          refine lv_iconst (v := nI (0)) X.1 X.2.1 dX7_placeOf_58 (by decide) ?_
          refine lv_goto (tgt := 63) X.1 X.2.1 dX7_placeOf_59 (by decide) ?_
          exact mr_iret X hr hlocks h dX7_placeOf_63 ⟨Nat.le_of_ble_eq_true rfl, Nat.le_of_ble_eq_true rfl⟩ (⟨congrArg (fun z => some (Value.int (nI z))) (by rw [plM]; first | rw [if_pos (show g p0 = 0 by omega)] | (rw [if_neg (show ¬ g p0 = 0 by omega), ht, show i = N 1 by omega])), rfl, rfl, rfl⟩)
      · skip
        refine lv_iload_n X.1 X.2.1 dX7_placeOf_12 rfl (lv_at hl 2 rfl) ?_
        refine lv_iload_n X.1 X.2.1 dX7_placeOf_13 rfl (lv_at hl 3 rfl) ?_
        refine lv_iload_n X.1 X.2.1 dX7_placeOf_14 rfl (lv_at hl 1 rfl) ?_
        refine b_icmp_eq (tgt := 40) X dX7_placeOf_15 (by decide) (a := ((i : Nat) : Int)) (b := ((p0 : Nat) : Int)) (nI_ti (by omega)) (nI_ti (by omega)) (fun c4 => ?_) (fun c4 => ?_)
        · skip
          refine lv_iconst (v := nI (0)) X.1 X.2.1 dX7_placeOf_40 (by decide) ?_
          refine lv_iadd X.1 X.2.1 dX7_placeOf_41 ?_
          refine lv_top (y := nI (t + 0)) (nI_add _ _) ?_
          refine lv_istore_n (lv' := [(2, .int (nI (t + 0))), (0, .ref x), (1, .int (nI (p0))), (3, .int (nI (i)))]) X.1 X.2.1 dX7_placeOf_42 rfl hl (by decide) rfl (fun ls hl => ?_)
          refine lv_iinc (v := nI (i + 1)) (lv' := [(3, .int (nI (i + 1))), (2, .int (nI (t + 0))), (0, .ref x), (1, .int (nI (p0)))]) X.1 X.2.1 dX7_placeOf_43 hl (k := 3) rfl (nI_add (i) 1) (by decide) rfl (fun ls hl => ?_)
          refine lv_goto (tgt := 4) X.1 X.2.1 dX7_placeOf_46 (by decide) ?_
          exact ih_loop (i + 1) (t + 0) (by omega) (by omega) (by subst ht; first | (rw [Nat.add_assoc, Nat.add_comm 1 1, ← Nat.add_assoc] ; done) | (have := plN_t (P := g) (Q := q) (p := p0) (q := i) (by omega) (by omega) (by assumption); omega) | (have := plN_f (P := g) (Q := q) (p := p0) (q := i) (fun z => by have := z.1; have := z.2.1; first | omega | (have z3 := z.2.2; simp [*] at z3)); omega)) _ _ _ h (lv_sub hl [2, 3, 1, 0] rfl)
        · skip
          refine lv_aload_n X.1 X.2.1 dX7_placeOf_18 rfl (lv_at hl 0 rfl) ?_
          refine mr_get X h kf_X7_70 (by decide) dX7_placeOf_19 rfl ?_
          refine lv_iload_n X.1 X.2.1 dX7_placeOf_22 rfl (lv_at hl 3 rfl) ?_
          refine mr_ald X h 25 rfl dX7_placeOf_23 (i := i) (v := nI (g (i))) rfl (by show _ < 16; omega) rfl ?_
          have b5 := hb i (by omega)
          refine b_if_le (tgt := 40) X dX7_placeOf_24 (by decide) (a := ((g (i) : Nat) : Int)) (nI_ti (by omega)) (fun c6 => ?_) (fun c6 => ?_)
          · skip
            refine lv_iconst (v := nI (0)) X.1 X.2.1 dX7_placeOf_40 (by decide) ?_
            refine lv_iadd X.1 X.2.1 dX7_placeOf_41 ?_
            refine lv_top (y := nI (t + 0)) (nI_add _ _) ?_
            refine lv_istore_n (lv' := [(2, .int (nI (t + 0))), (0, .ref x), (1, .int (nI (p0))), (3, .int (nI (i)))]) X.1 X.2.1 dX7_placeOf_42 rfl hl (by decide) rfl (fun ls hl => ?_)
            refine lv_iinc (v := nI (i + 1)) (lv' := [(3, .int (nI (i + 1))), (2, .int (nI (t + 0))), (0, .ref x), (1, .int (nI (p0)))]) X.1 X.2.1 dX7_placeOf_43 hl (k := 3) rfl (nI_add (i) 1) (by decide) rfl (fun ls hl => ?_)
            refine lv_goto (tgt := 4) X.1 X.2.1 dX7_placeOf_46 (by decide) ?_
            exact ih_loop (i + 1) (t + 0) (by omega) (by omega) (by subst ht; first | (rw [Nat.add_assoc, Nat.add_comm 1 1, ← Nat.add_assoc] ; done) | (have := plN_t (P := g) (Q := q) (p := p0) (q := i) (by omega) (by omega) (by assumption); omega) | (have := plN_f (P := g) (Q := q) (p := p0) (q := i) (fun z => by have := z.1; have := z.2.1; first | omega | (have z3 := z.2.2; simp [*] at z3)); omega)) _ _ _ h (lv_sub hl [2, 3, 1, 0] rfl)
          · skip
            refine lv_aload_n X.1 X.2.1 dX7_placeOf_27 rfl (lv_at hl 0 rfl) ?_
            refine lv_iload_n X.1 X.2.1 dX7_placeOf_28 rfl (lv_at hl 3 rfl) ?_
            refine lv_iload_n X.1 X.2.1 dX7_placeOf_29 rfl (lv_at hl 1 rfl) ?_
            refine mr_callV X h ck_X7_119 ki_X7_isAhead ks_X7_isAhead dX7_placeOf_30 (As := [.int (nI (i)), .int (nI (p0))]) (c_X7_isAhead l G x ar N F B i p0 g q (show N 1 ≤ 16 by omega) hb (show i < N 1 by omega) (show p0 < N 1 by omega)) rfl hl rfl (Nat.le_of_ble_eq_true rfl) ⟨Nat.le_of_ble_eq_true rfl, Nat.le_of_ble_eq_true rfl⟩ ⟨Nat.le_of_ble_eq_true rfl, Nat.le_of_ble_eq_true rfl⟩ ?_
            rintro _ _ _ _ H locs ⟨rfl, rfl, rfl, rfl⟩ h
            refine b_bool_eq (tgt := 40) X dX7_placeOf_33 (by decide) (fun c7 => ?_) (fun c7 => ?_)
            · skip
              refine lv_iconst (v := nI (0)) X.1 X.2.1 dX7_placeOf_40 (by decide) ?_
              refine lv_iadd X.1 X.2.1 dX7_placeOf_41 ?_
              refine lv_top (y := nI (t + 0)) (nI_add _ _) ?_
              refine lv_istore_n (lv' := [(2, .int (nI (t + 0))), (0, .ref x), (1, .int (nI (p0))), (3, .int (nI (i)))]) X.1 X.2.1 dX7_placeOf_42 rfl hl (by decide) rfl (fun ls hl => ?_)
              refine lv_iinc (v := nI (i + 1)) (lv' := [(3, .int (nI (i + 1))), (2, .int (nI (t + 0))), (0, .ref x), (1, .int (nI (p0)))]) X.1 X.2.1 dX7_placeOf_43 hl (k := 3) rfl (nI_add (i) 1) (by decide) rfl (fun ls hl => ?_)
              refine lv_goto (tgt := 4) X.1 X.2.1 dX7_placeOf_46 (by decide) ?_
              exact ih_loop (i + 1) (t + 0) (by omega) (by omega) (by subst ht; first | (rw [Nat.add_assoc, Nat.add_comm 1 1, ← Nat.add_assoc] ; done) | (have := plN_t (P := g) (Q := q) (p := p0) (q := i) (by omega) (by omega) (by assumption); omega) | (have := plN_f (P := g) (Q := q) (p := p0) (q := i) (fun z => by have := z.1; have := z.2.1; first | omega | (have z3 := z.2.2; simp [*] at z3)); omega)) _ _ _ h (lv_sub hl [2, 3, 1, 0] rfl)
            · skip
              refine lv_iconst (v := nI (1)) X.1 X.2.1 dX7_placeOf_36 (by decide) ?_
              refine lv_goto (tgt := 41) X.1 X.2.1 dX7_placeOf_37 (by decide) ?_
              refine lv_iadd X.1 X.2.1 dX7_placeOf_41 ?_
              refine lv_top (y := nI (t + 1)) (nI_add _ _) ?_
              refine lv_istore_n (lv' := [(2, .int (nI (t + 1))), (0, .ref x), (1, .int (nI (p0))), (3, .int (nI (i)))]) X.1 X.2.1 dX7_placeOf_42 rfl hl (by decide) rfl (fun ls hl => ?_)
              refine lv_iinc (v := nI (i + 1)) (lv' := [(3, .int (nI (i + 1))), (2, .int (nI (t + 1))), (0, .ref x), (1, .int (nI (p0)))]) X.1 X.2.1 dX7_placeOf_43 hl (k := 3) rfl (nI_add (i) 1) (by decide) rfl (fun ls hl => ?_)
              refine lv_goto (tgt := 4) X.1 X.2.1 dX7_placeOf_46 (by decide) ?_
              exact ih_loop (i + 1) (t + 1) (by omega) (by omega) (by subst ht; first | (rw [Nat.add_assoc, Nat.add_comm 1 1, ← Nat.add_assoc] ; done) | (have := plN_t (P := g) (Q := q) (p := p0) (q := i) (by omega) (by omega) (by assumption); omega) | (have := plN_f (P := g) (Q := q) (p := p0) (q := i) (fun z => by have := z.1; have := z.2.1; first | omega | (have z3 := z.2.2; simp [*] at z3)); omega)) _ _ _ h (lv_sub hl [2, 3, 1, 0] rfl)
  exact loop (N 1 + 1) 0 1 (by omega) (by omega) rfl _ _ _ h (lv_sub hl [2, 3, 1, 0] rfl)
set_option maxHeartbeats 4000000 in
set_option maxRecDepth 100000 in
theorem c_X7_who (l : Launch) (G : mG) (x : Nat) (ar N : Nat → Nat) (F : Nat → Nat → Nat) (B : Nat → Int32) (pl : Nat) (g : Nat → Nat) (q : Nat → Nat) (hn : N 1 ≤ 16) (hb : ∀ z, z < N 1 → g z ≤ 400 ∧ q z ≤ 400) (hpl : pl ≤ 3) : MMet l yX7_who cX7_who 4 (some FieldType.int) ({ frames := 2, cells := 0, slots := 0, locals := 45 } : Room) G x ar [.ref x, .int (nI (pl))] N (sc2 F g q) B (fun r N' F' B' => r = some (.int (nI (who g q (N 1) pl) - 1)) ∧ N = N' ∧ sc2 F g q = F' ∧ B = B') := by
  refine MMet.of (by decide) (Nat.le_of_ble_eq_true rfl) ?_
  intro p e s m args below meth c A ls X hr hlocks h hl
  have hl : lv_has ls 4 [(0, .ref x), (1, .int (nI (pl)))] := hl
  refine lv_iconst (v := nI (0) - 1) X.1 X.2.1 dX7_who_0 (by decide) ?_
  refine lv_istore_n (lv' := [(2, .int (nI (0) - 1)), (0, .ref x), (1, .int (nI (pl)))]) X.1 X.2.1 dX7_who_1 rfl hl (by decide) rfl (fun ls hl => ?_)
  refine lv_iconst (v := nI (0)) X.1 X.2.1 dX7_who_2 (by decide) ?_
  refine lv_istore_n (lv' := [(3, .int (nI (0))), (2, .int (nI (0) - 1)), (0, .ref x), (1, .int (nI (pl)))]) X.1 X.2.1 dX7_who_3 rfl hl (by decide) rfl (fun ls hl => ?_)
  have loop : ∀ (n9 : Nat) (i : Nat) (t : Nat), (i ≤ N 1) → (N 1 + 1 ≤ i + n9) → (t = whoN g q (N 1) pl i) → ∀ (H : Heap) (locs : List Loc) (ls : Array Slot), mM G A s.heap x ar N (sc2 F g q) B H locs → lv_has ls 4 [(0, .ref x), (1, .int (nI (pl))), (2, .int (nI (t) - 1)), (3, .int (nI (i)))] → W p l e ({ frames := 2, cells := 0, slots := 0, locals := 45 } : Room) s m args below meth c H locs 0 0 (MZ G A x ar (fun r N' F' B' => r = some (.int (nI (who g q (N 1) pl) - 1)) ∧ N = N' ∧ sc2 F g q = F' ∧ B = B') below args s 0 0) (F0 m 4 ls []) := by
    intro n9
    induction n9 with
    | zero => intro i t hi hm9 ht; exact absurd hm9 (by omega)
    | succ n9 ih_loop =>
      intro i t hi hm9 ht H locs ls h hl
      have ht2 := whoN_le g q (N 1) pl i
      refine lv_iload_n X.1 X.2.1 dX7_who_4 rfl (lv_at hl 3 rfl) ?_
      refine lv_aload_n X.1 X.2.1 dX7_who_5 rfl (lv_at hl 0 rfl) ?_
      refine mr_get X h kf_X7_83 (by decide) dX7_who_6 (v := .int (nI (N 1))) rfl ?_
      refine b_icmp_ge (tgt := 33) X dX7_who_9 (by decide) (a := ((i : Nat) : Int)) (b := ((N 1 : Nat) : Int)) (nI_ti (by omega)) (nI_ti (by omega)) (fun c1 => ?_) (fun c1 => ?_)
      · skip
        refine lv_iload_n X.1 X.2.1 dX7_who_33 rfl (lv_at hl 2 rfl) ?_
        exact mr_iret X hr hlocks h dX7_who_34 ⟨Nat.le_of_ble_eq_true rfl, Nat.le_of_ble_eq_true rfl⟩ (⟨congrArg (fun z => some (Value.int (nI z - 1))) (by rw [ht, show i = N 1 by omega]; rfl), rfl, rfl, rfl⟩)
      · skip
        refine lv_aload_n X.1 X.2.1 dX7_who_12 rfl (lv_at hl 0 rfl) ?_
        refine lv_iload_n X.1 X.2.1 dX7_who_13 rfl (lv_at hl 3 rfl) ?_
        refine mr_callV X h ck_X7_123 ki_X7_placeOf ks_X7_placeOf dX7_who_14 (As := [.int (nI (i))]) (c_X7_placeOf l G x ar N F B i g q (show N 1 ≤ 16 by omega) hb (show i < N 1 by omega)) rfl hl rfl (Nat.le_of_ble_eq_true rfl) ⟨Nat.le_of_ble_eq_true rfl, Nat.le_of_ble_eq_true rfl⟩ ⟨Nat.le_of_ble_eq_true rfl, Nat.le_of_ble_eq_true rfl⟩ ?_
        rintro _ _ _ _ H locs ⟨rfl, rfl, rfl, rfl⟩ h
        have b2 := plM_le g q (N 1) (i)
        refine lv_iload_n X.1 X.2.1 dX7_who_17 rfl (lv_at hl 1 rfl) ?_
        refine b_icmp_ne (tgt := 25) X dX7_who_18 (by decide) (a := ((plM g q (N 1) (i) : Nat) : Int)) (b := ((pl : Nat) : Int)) (nI_ti (by omega)) (nI_ti (by omega)) (fun c3 => ?_) (fun c3 => ?_)
        · skip
          refine lv_iload_n X.1 X.2.1 dX7_who_25 rfl (lv_at hl 2 rfl) ?_
          refine lv_istore_n (lv' := [(2, .int (nI (t) - 1)), (0, .ref x), (1, .int (nI (pl))), (3, .int (nI (i)))]) X.1 X.2.1 dX7_who_26 rfl hl (by decide) rfl (fun ls hl => ?_)
          refine lv_iinc (v := nI (i + 1)) (lv' := [(3, .int (nI (i + 1))), (2, .int (nI (t) - 1)), (0, .ref x), (1, .int (nI (pl)))]) X.1 X.2.1 dX7_who_27 hl (k := 3) rfl (nI_add (i) 1) (by decide) rfl (fun ls hl => ?_)
          refine lv_goto (tgt := 4) X.1 X.2.1 dX7_who_30 (by decide) ?_
          exact ih_loop (i + 1) (t) (by omega) (by omega) (by subst ht; first | exact whoN_t (by omega) | exact whoN_f (by omega)) _ _ _ h (lv_sub hl [2, 3, 1, 0] rfl)
        · skip
          refine lv_iload_n X.1 X.2.1 dX7_who_21 rfl (lv_at hl 3 rfl) ?_
          refine lv_goto (tgt := 26) X.1 X.2.1 dX7_who_22 (by decide) ?_
          refine lv_istore_n (lv' := [(2, .int (nI (i))), (0, .ref x), (1, .int (nI (pl))), (3, .int (nI (i)))]) X.1 X.2.1 dX7_who_26 rfl hl (by decide) rfl (fun ls hl => ?_)
          refine lv_iinc (v := nI (i + 1)) (lv' := [(3, .int (nI (i + 1))), (2, .int (nI (i))), (0, .ref x), (1, .int (nI (pl)))]) X.1 X.2.1 dX7_who_27 hl (k := 3) rfl (nI_add (i) 1) (by decide) rfl (fun ls hl => ?_)
          refine lv_goto (tgt := 4) X.1 X.2.1 dX7_who_30 (by decide) ?_
          have hl : lv_has ls 4 [(3, .int (nI (i + 1))), (2, .int (nI (i))), (0, .ref x), (1, .int (nI (pl)))] := hl
          have hl : lv_has ls 4 [(3, .int (nI (i + 1))), (2, .int (nI (i + 1) - 1)), (0, .ref x), (1, .int (nI (pl)))] := by rw [← eI_suc]; exact hl
          exact ih_loop (i + 1) (i + 1) (by omega) (by omega) (by subst ht; first | exact whoN_t (by omega) | exact whoN_f (by omega)) _ _ _ h (lv_sub hl [2, 3, 1, 0] rfl)
  exact loop (N 1 + 1) 0 0 (by omega) (by omega) rfl _ _ _ h (lv_sub hl [2, 3, 1, 0] rfl)
end
section
theorem MA.bad {N : Nat → Nat} {F : Nat → Nat → Nat} {B : Nat → Int32} {k c : Nat} {v w : Int32} {N1 : Nat → Nat} {F1 : Nat → Nat → Nat} {B1 : Nat → Int32} (hk : k = c) (hc : c ≠ 0) : MA (some (.int w)) (va_up N 29 c) F B k v N1 F1 B1 N F B := by
  subst hk
  exact ⟨va_up_at _ _ _, ⟨w, rfl, fun h => absurd h hc⟩, fun h => absurd h hc, fun _ => ⟨(SN.rf N).up (Or.inr rfl), SF.rf F, rfl⟩⟩
theorem MA.ok {N N' : Nat → Nat} {F F' : Nat → Nat → Nat} {B B' : Nat → Int32} {k : Nat} {v w : Int32} {N1 : Nat → Nat} {F1 : Nat → Nat → Nat} {B1 : Nat → Int32} (hk : k = 0) (hv : w = v) (h29 : N' 29 = 0) (hN : SN N1 N') (hF : SF F1 F') (hB : B' = B1) : MA (some (.int w)) N' F' B' k v N1 F1 B1 N F B := by
  subst hk
  exact ⟨h29, ⟨w, rfl, fun _ => hv⟩, fun _ => ⟨hN, hF, hB⟩, fun h => absurd rfl h⟩
theorem in_t {x : Int32} {n : Nat} (l : Nat) (h : ((l : Nat) : Int) ≤ x.toInt ∧ x.toInt ≤ ((n : Nat) : Int)) (hn : n + 1 < 2 ^ 31) : ∃ j : Nat, l ≤ j ∧ j ≤ n ∧ x = nI j := by
  obtain ⟨j, hj, rfl⟩ := vp_in_of (x := x) (n := n + 1) (vp_in_iff.mpr ⟨by omega, by omega⟩) hn
  rw [nI_toInt (by omega)] at h
  exact ⟨j, by omega, by omega, rfl⟩
theorem iR_lt {j n : Nat} (h : j < n) (hn : n < 2 ^ 31) : iR (nI j) n = true := by rw [iR_nI (by omega)]; exact decide_eq_true h
theorem set1_at (F : Nat → Nat → Nat) (k i v : Nat) : set1 F k i v k i = v := by simp [set1, va_up]
theorem set1_off (F : Nat → Nat → Nat) {k i v k' i' : Nat} (h : k' ≠ k ∨ i' ≠ i) : set1 F k i v k' i' = F k' i' := by
  unfold set1
  by_cases hk : k' = k
  · subst hk
    have hi : i' ≠ i := by omega
    simp [va_up, hi]
  · simp [va_up, hk]
theorem SF.set {F F' : Nat → Nat → Nat} (h : SF F F') (k i v : Nat) : SF (set1 F k i v) (set1 F' k i v) := fun j h1 h2 h3 => by
  unfold set1
  by_cases hj : j = k
  · subst hj
    rw [va_up_at, va_up_at, h j h1 h2 h3]
  · rw [va_up_off _ _ hj, va_up_off _ _ hj, h j h1 h2 h3]
theorem Iv.set5 {N : Nat → Nat} {F : Nat → Nat → Nat} (h : Iv N F) (r v : Nat) (hv : v ≤ 50) : Iv N (set1 F 5 r v) := by
  refine ⟨h.1, h.2.1, fun q => ?_, h.2.2.2.1, h.2.2.2.2.1, h.2.2.2.2.2⟩
  by_cases hq : q = r
  · subst hq; rw [set1_at]; exact hv
  · rw [set1_off F (Or.inr hq)]; exact h.r q
end
section
set_option maxHeartbeats 4000000 in
set_option maxRecDepth 100000 in
theorem c_X7_player (l : Launch) (G : mG) (x : Nat) (ar N : Nat → Nat) (F : Nat → Nat → Nat) (B : Nat → Int32)  (hI : Iv N F) : MMet l yX7_player cX7_player 1 (some FieldType.int) ({ frames := 1, cells := 0, slots := 0, locals := 21 } : Room) G x ar [.ref x] N F B (fun r N' F' B' => MA r N' F' B' (kPlayer N) (nI (N 1)) (va_up N 1 (N 1 + 1)) (set1 F 2 (N 1) 0) (B) N F B) := by
  refine MMet.of (by decide) (Nat.le_of_ble_eq_true rfl) ?_
  intro p e s m args below meth c A ls X hr hlocks h hl
  have hl : lv_has ls 1 [(0, .ref x)] := hl
  have hn := hI.n
  refine lv_aload_n X.1 X.2.1 dX7_player_0 rfl (lv_at hl 0 rfl) ?_
  refine lv_aload_n X.1 X.2.1 dX7_player_1 rfl (lv_at hl 0 rfl) ?_
  refine mr_get X h kf_X7_83 (by decide) dX7_player_2 (v := .int (nI (N 1))) rfl ?_
  refine lv_bipush (v := nI (16)) X.1 X.2.1 dX7_player_5 (by decide) ?_
  refine b_icmp_ne (tgt := 14) X dX7_player_7 (by decide) (a := ((N 1 : Nat) : Int)) (b := ((16 : Nat) : Int)) (nI_ti (by omega)) (nI_ti (by omega)) (fun c1 => ?_) (fun c1 => ?_)
  · skip
    refine lv_iconst (v := nI (0)) X.1 X.2.1 dX7_player_14 (by decide) ?_
    refine mr_callV X h ck_X7_93 ki_X7_fails ks_X7_fails dX7_player_15 (As := [.int (nI (0))]) (c_X7_fails l G x ar N F B 0 (by omega)) rfl hl rfl (Nat.le_of_ble_eq_true rfl) ⟨Nat.le_of_ble_eq_true rfl, Nat.le_of_ble_eq_true rfl⟩ ⟨Nat.le_of_ble_eq_true rfl, Nat.le_of_ble_eq_true rfl⟩ ?_
    rintro _ _ _ _ H locs ⟨rfl, rfl, rfl, rfl⟩ h
    refine b_bool_eq (tgt := 23) X dX7_player_18 (by decide) (fun c2 => ?_) (fun c2 => ?_)
    · skip
      have c2 := of_decide_eq_false c2
      refine lv_aload_n X.1 X.2.1 dX7_player_23 rfl (lv_at hl 0 rfl) ?_
      refine mr_get X h kf_X7_7 (by decide) dX7_player_24 rfl ?_
      refine lv_aload_n X.1 X.2.1 dX7_player_27 rfl (lv_at hl 0 rfl) ?_
      refine mr_get X h kf_X7_83 (by decide) dX7_player_28 (v := .int (nI (N 1))) rfl ?_
      refine lv_iconst (v := nI (0) - 1) X.1 X.2.1 dX7_player_31 (by decide) ?_
      refine mr_ast X h 2 rfl (by decide) dX7_player_32 (i := N 1) (v := 0) rfl (by show _ < 16; omega) rfl (fun H locs h => ?_)
      refine lv_aload_n X.1 X.2.1 dX7_player_33 rfl (lv_at hl 0 rfl) ?_
      refine lv_dup X.1 X.2.1 dX7_player_34 rfl ?_
      refine mr_get X h kf_X7_83 (by decide) dX7_player_35 (v := .int (nI (N 1))) rfl ?_
      refine lv_iconst (v := nI (1)) X.1 X.2.1 dX7_player_38 (by decide) ?_
      refine lv_iadd X.1 X.2.1 dX7_player_39 ?_
      refine lv_top (y := nI (N 1 + 1)) (nI_add _ _) ?_
      refine mr_put X h kf_X7_83 (by decide) rfl rfl dX7_player_40 rfl (fun H locs h => ?_)
      refine lv_aload_n X.1 X.2.1 dX7_player_43 rfl (lv_at hl 0 rfl) ?_
      refine mr_get X h kf_X7_83 (by decide) dX7_player_44 (v := .int (nI ((N 1 + 1)))) rfl ?_
      refine lv_iconst (v := nI (1)) X.1 X.2.1 dX7_player_47 (by decide) ?_
      refine lv_isub X.1 X.2.1 dX7_player_48 ?_
      refine lv_top (y := nI ((N 1 + 1)) - 1) rfl ?_
      exact mr_iret X hr hlocks h dX7_player_49 ⟨Nat.le_of_ble_eq_true rfl, Nat.le_of_ble_eq_true rfl⟩ (MA.ok (if_neg (by omega)) (nI_pred _) rfl (fun k h1 h2 => by simp [va_up, h1, h2]) (SF.rf _) (rfl))
    · skip
      exact absurd c2 (by first | decide | omega)
  · skip
    refine lv_iconst (v := nI (1)) X.1 X.2.1 dX7_player_10 (by decide) ?_
    refine lv_goto (tgt := 15) X.1 X.2.1 dX7_player_11 (by decide) ?_
    refine mr_callV X h ck_X7_93 ki_X7_fails ks_X7_fails dX7_player_15 (As := [.int (nI (1))]) (c_X7_fails l G x ar N F B 1 (by omega)) rfl hl rfl (Nat.le_of_ble_eq_true rfl) ⟨Nat.le_of_ble_eq_true rfl, Nat.le_of_ble_eq_true rfl⟩ ⟨Nat.le_of_ble_eq_true rfl, Nat.le_of_ble_eq_true rfl⟩ ?_
    rintro _ _ _ _ H locs ⟨rfl, rfl, rfl, rfl⟩ h
    refine b_bool_eq (tgt := 23) X dX7_player_18 (by decide) (fun c3 => ?_) (fun c3 => ?_)
    · skip
      exact absurd c3 (by first | decide | omega)
    · skip
      have c3 := of_decide_eq_true c3
      refine lv_iconst (v := nI (0)) X.1 X.2.1 dX7_player_21 (by decide) ?_
      exact mr_iret X hr hlocks h dX7_player_22 ⟨Nat.le_of_ble_eq_true rfl, Nat.le_of_ble_eq_true rfl⟩ (MA.bad (if_pos (by omega)) (by decide))
set_option maxHeartbeats 4000000 in
set_option maxRecDepth 100000 in
theorem c_X7_room (l : Launch) (G : mG) (x : Nat) (ar N : Nat → Nat) (F : Nat → Nat → Nat) (B : Nat → Int32) (r0 : Int32) (its : Int32) (hI : Iv N F) : MMet l yX7_room cX7_room 3 (some FieldType.int) ({ frames := 2, cells := 0, slots := 0, locals := 42 } : Room) G x ar [.ref x, .int (r0), .int (its)] N F B (fun r N' F' B' => MA r N' F' B' (kRoom r0 its) (nI (tdy F (N 0) (ix r0) (N 6))) (N) (fRoom F r0 its) (B) N F B) := by
  refine MMet.of (by decide) (Nat.le_of_ble_eq_true rfl) ?_
  intro p e s m args below meth c A ls X hr hlocks h hl
  have hl : lv_has ls 3 [(0, .ref x), (1, .int (r0)), (2, .int (its))] := hl
  have hn := hI.n
  refine lv_aload_n X.1 X.2.1 dX7_room_0 rfl (lv_at hl 0 rfl) ?_
  refine lv_iload_n X.1 X.2.1 dX7_room_1 rfl (lv_at hl 1 rfl) ?_
  refine mr_callS X h ck_X7_100 kst_X7_isRegion dX7_room_2 (As := [.int (r0)]) (c_X7_isRegion l G x ar N F B (r0)) rfl hl rfl (Nat.le_of_ble_eq_true rfl) ⟨Nat.le_of_ble_eq_true rfl, Nat.le_of_ble_eq_true rfl⟩ ⟨Nat.le_of_ble_eq_true rfl, Nat.le_of_ble_eq_true rfl⟩ ?_
  rintro _ _ _ _ H locs ⟨rfl, rfl, rfl, rfl⟩ h
  refine b_bool_ne (tgt := 12) X dX7_room_5 (by decide) (fun c1 => ?_) (fun c1 => ?_)
  · skip
    obtain ⟨j0, hj0, rfl⟩ := iR_t c1 (by omega)
    refine lv_iload_n X.1 X.2.1 dX7_room_12 rfl (lv_at hl 2 rfl) ?_
    refine lv_iconst (v := nI (0)) X.1 X.2.1 dX7_room_13 (by decide) ?_
    refine lv_bipush (v := nI (50)) X.1 X.2.1 dX7_room_14 (by decide) ?_
    refine mr_callS X h ck_X7_86 kst_X7_isIn dX7_room_16 (As := [.int (its), .int (nI (0)), .int (nI (50))]) (c_X7_isIn l G x ar N F B (its) (nI (0)) (nI (50))) rfl hl rfl (Nat.le_of_ble_eq_true rfl) ⟨Nat.le_of_ble_eq_true rfl, Nat.le_of_ble_eq_true rfl⟩ ⟨Nat.le_of_ble_eq_true rfl, Nat.le_of_ble_eq_true rfl⟩ ?_
    rintro _ _ _ _ H locs ⟨rfl, rfl, rfl, rfl⟩ h
    refine lv_top (y := bI (decide (((0 : Nat) : Int) ≤ (its).toInt ∧ (its).toInt ≤ ((50 : Nat) : Int)))) (by rw [show (its).toInt = (its).toInt from rfl, show (nI (0)).toInt = ((0 : Nat) : Int) from nI_ti (by omega), show (nI (50)).toInt = ((50 : Nat) : Int) from nI_ti (by omega)]) ?_
    refine b_bool_eq (tgt := 26) X dX7_room_19 (by decide) (fun c2 => ?_) (fun c2 => ?_)
    · skip
      have c2 := of_decide_eq_false c2
      refine lv_iconst (v := nI (2)) X.1 X.2.1 dX7_room_26 (by decide) ?_
      refine mr_callV X h ck_X7_93 ki_X7_fails ks_X7_fails dX7_room_27 (As := [.int (nI (2))]) (c_X7_fails l G x ar N F B 2 (by omega)) rfl hl rfl (Nat.le_of_ble_eq_true rfl) ⟨Nat.le_of_ble_eq_true rfl, Nat.le_of_ble_eq_true rfl⟩ ⟨Nat.le_of_ble_eq_true rfl, Nat.le_of_ble_eq_true rfl⟩ ?_
      rintro _ _ _ _ H locs ⟨rfl, rfl, rfl, rfl⟩ h
      refine b_bool_eq (tgt := 35) X dX7_room_30 (by decide) (fun c3 => ?_) (fun c3 => ?_)
      · skip
        exact absurd c3 (by first | decide | omega)
      · skip
        have c3 := of_decide_eq_true c3
        refine lv_iconst (v := nI (0)) X.1 X.2.1 dX7_room_33 (by decide) ?_
        exact mr_iret X hr hlocks h dX7_room_34 ⟨Nat.le_of_ble_eq_true rfl, Nat.le_of_ble_eq_true rfl⟩ (MA.bad ((if_neg (by rw [iR_lt hj0 (by omega)]; decide)).trans (if_neg (by omega))) (by decide))
    · skip
      have c2 := of_decide_eq_true c2
      obtain ⟨j1, hj1l, hj1, rfl⟩ := in_t 0 (n := 50) c2 (by omega)
      refine lv_iconst (v := nI (0)) X.1 X.2.1 dX7_room_22 (by decide) ?_
      refine lv_goto (tgt := 27) X.1 X.2.1 dX7_room_23 (by decide) ?_
      refine mr_callV X h ck_X7_93 ki_X7_fails ks_X7_fails dX7_room_27 (As := [.int (nI (0))]) (c_X7_fails l G x ar N F B 0 (by omega)) rfl hl rfl (Nat.le_of_ble_eq_true rfl) ⟨Nat.le_of_ble_eq_true rfl, Nat.le_of_ble_eq_true rfl⟩ ⟨Nat.le_of_ble_eq_true rfl, Nat.le_of_ble_eq_true rfl⟩ ?_
      rintro _ _ _ _ H locs ⟨rfl, rfl, rfl, rfl⟩ h
      refine b_bool_eq (tgt := 35) X dX7_room_30 (by decide) (fun c4 => ?_) (fun c4 => ?_)
      · skip
        have c4 := of_decide_eq_false c4
        refine lv_aload_n X.1 X.2.1 dX7_room_35 rfl (lv_at hl 0 rfl) ?_
        refine mr_get X h kf_X7_19 (by decide) dX7_room_36 rfl ?_
        refine lv_iload_n X.1 X.2.1 dX7_room_39 rfl (lv_at hl 1 rfl) ?_
        refine lv_iload_n X.1 X.2.1 dX7_room_40 rfl (lv_at hl 2 rfl) ?_
        refine mr_ast X h 5 rfl (by decide) dX7_room_41 (i := j0) (v := j1) rfl (by show _ < 4; omega) rfl (fun H locs h => ?_)
        refine lv_aload_n X.1 X.2.1 dX7_room_42 rfl (lv_at hl 0 rfl) ?_
        refine lv_iload_n X.1 X.2.1 dX7_room_43 rfl (lv_at hl 1 rfl) ?_
        refine mr_callV X h ck_X7_103 ki_X7_today ks_X7_today dX7_room_44 (As := [.int (nI (j0))]) (c_X7_today l G x ar (va_up N 29 (0)) (set1 F 5 (j0) (j1)) B j0 (hI.set5 j0 j1 (by omega)) (by omega)) rfl hl rfl (Nat.le_of_ble_eq_true rfl) ⟨Nat.le_of_ble_eq_true rfl, Nat.le_of_ble_eq_true rfl⟩ ⟨Nat.le_of_ble_eq_true rfl, Nat.le_of_ble_eq_true rfl⟩ ?_
        rintro _ _ _ _ H locs ⟨rfl, rfl, rfl, rfl⟩ h
        have b5 := tdy_le F (N 0) (j0) (N 6)
        exact mr_iret X hr hlocks h dX7_room_47 ⟨Nat.le_of_ble_eq_true rfl, Nat.le_of_ble_eq_true rfl⟩ (MA.ok ((if_neg (by rw [iR_lt hj0 (by omega)]; decide)).trans (if_pos (by rw [nI_ti (by omega)]; omega))) (by rw [ix_nI (by omega)]; rfl) rfl (fun k h1 h2 => by simp [va_up, h1, h2]) (by rw [fRoom, ix_nI (by omega), ix_nI (by omega)]; exact SF.rf _) (rfl))
      · skip
        exact absurd c4 (by first | decide | omega)
  · skip
    refine lv_iconst (v := nI (1)) X.1 X.2.1 dX7_room_8 (by decide) ?_
    refine lv_goto (tgt := 27) X.1 X.2.1 dX7_room_9 (by decide) ?_
    refine mr_callV X h ck_X7_93 ki_X7_fails ks_X7_fails dX7_room_27 (As := [.int (nI (1))]) (c_X7_fails l G x ar N F B 1 (by omega)) rfl hl rfl (Nat.le_of_ble_eq_true rfl) ⟨Nat.le_of_ble_eq_true rfl, Nat.le_of_ble_eq_true rfl⟩ ⟨Nat.le_of_ble_eq_true rfl, Nat.le_of_ble_eq_true rfl⟩ ?_
    rintro _ _ _ _ H locs ⟨rfl, rfl, rfl, rfl⟩ h
    refine b_bool_eq (tgt := 35) X dX7_room_30 (by decide) (fun c6 => ?_) (fun c6 => ?_)
    · skip
      exact absurd c6 (by first | decide | omega)
    · skip
      have c6 := of_decide_eq_true c6
      refine lv_iconst (v := nI (0)) X.1 X.2.1 dX7_room_33 (by decide) ?_
      exact mr_iret X hr hlocks h dX7_room_34 ⟨Nat.le_of_ble_eq_true rfl, Nat.le_of_ble_eq_true rfl⟩ (MA.bad (if_pos c1) (by decide))
set_option maxHeartbeats 4000000 in
set_option maxRecDepth 100000 in
theorem c_X7_ban (l : Launch) (G : mG) (x : Nat) (ar N : Nat → Nat) (F : Nat → Nat → Nat) (B : Nat → Int32) (p0 : Int32) (d0 : Int32) (hI : Iv N F) : MMet l yX7_ban cX7_ban 3 (some FieldType.int) ({ frames := 2, cells := 0, slots := 0, locals := 43 } : Room) G x ar [.ref x, .int (p0), .int (d0)] N F B (fun r N' F' B' => MA r N' F' B' (kBan N p0 d0) (nI (N 0 + ix d0)) (N) (set1 F 3 (ix p0) (N 0 + ix d0)) (B) N F B) := by
  refine MMet.of (by decide) (Nat.le_of_ble_eq_true rfl) ?_
  intro p e s m args below meth c A ls X hr hlocks h hl
  have hl : lv_has ls 3 [(0, .ref x), (1, .int (p0)), (2, .int (d0))] := hl
  have hn := hI.n
  refine lv_aload_n X.1 X.2.1 dX7_ban_0 rfl (lv_at hl 0 rfl) ?_
  refine lv_aload_n X.1 X.2.1 dX7_ban_1 rfl (lv_at hl 0 rfl) ?_
  refine lv_iload_n X.1 X.2.1 dX7_ban_2 rfl (lv_at hl 1 rfl) ?_
  refine mr_callV X h ck_X7_107 ki_X7_isPlayer ks_X7_isPlayer dX7_ban_3 (As := [.int (p0)]) (c_X7_isPlayer l G x ar N F B (p0) hI) rfl hl rfl (Nat.le_of_ble_eq_true rfl) ⟨Nat.le_of_ble_eq_true rfl, Nat.le_of_ble_eq_true rfl⟩ ⟨Nat.le_of_ble_eq_true rfl, Nat.le_of_ble_eq_true rfl⟩ ?_
  rintro _ _ _ _ H locs ⟨rfl, rfl, rfl, rfl⟩ h
  refine b_bool_ne (tgt := 13) X dX7_ban_6 (by decide) (fun c1 => ?_) (fun c1 => ?_)
  · skip
    obtain ⟨j0, hj0, rfl⟩ := iR_t c1 (by omega)
    refine lv_iload_n X.1 X.2.1 dX7_ban_13 rfl (lv_at hl 2 rfl) ?_
    refine lv_iconst (v := nI (0)) X.1 X.2.1 dX7_ban_14 (by decide) ?_
    refine lv_sipush (v := nI (1000)) X.1 X.2.1 dX7_ban_15 (by decide) ?_
    refine mr_callS X h ck_X7_86 kst_X7_isIn dX7_ban_18 (As := [.int (d0), .int (nI (0)), .int (nI (1000))]) (c_X7_isIn l G x ar N F B (d0) (nI (0)) (nI (1000))) rfl hl rfl (Nat.le_of_ble_eq_true rfl) ⟨Nat.le_of_ble_eq_true rfl, Nat.le_of_ble_eq_true rfl⟩ ⟨Nat.le_of_ble_eq_true rfl, Nat.le_of_ble_eq_true rfl⟩ ?_
    rintro _ _ _ _ H locs ⟨rfl, rfl, rfl, rfl⟩ h
    refine lv_top (y := bI (decide (((0 : Nat) : Int) ≤ (d0).toInt ∧ (d0).toInt ≤ ((1000 : Nat) : Int)))) (by rw [show (d0).toInt = (d0).toInt from rfl, show (nI (0)).toInt = ((0 : Nat) : Int) from nI_ti (by omega), show (nI (1000)).toInt = ((1000 : Nat) : Int) from nI_ti (by omega)]) ?_
    refine b_bool_eq (tgt := 28) X dX7_ban_21 (by decide) (fun c2 => ?_) (fun c2 => ?_)
    · skip
      have c2 := of_decide_eq_false c2
      refine lv_iconst (v := nI (2)) X.1 X.2.1 dX7_ban_28 (by decide) ?_
      refine mr_callV X h ck_X7_93 ki_X7_fails ks_X7_fails dX7_ban_29 (As := [.int (nI (2))]) (c_X7_fails l G x ar N F B 2 (by omega)) rfl hl rfl (Nat.le_of_ble_eq_true rfl) ⟨Nat.le_of_ble_eq_true rfl, Nat.le_of_ble_eq_true rfl⟩ ⟨Nat.le_of_ble_eq_true rfl, Nat.le_of_ble_eq_true rfl⟩ ?_
      rintro _ _ _ _ H locs ⟨rfl, rfl, rfl, rfl⟩ h
      refine b_bool_eq (tgt := 37) X dX7_ban_32 (by decide) (fun c3 => ?_) (fun c3 => ?_)
      · skip
        exact absurd c3 (by first | decide | omega)
      · skip
        have c3 := of_decide_eq_true c3
        refine lv_iconst (v := nI (0)) X.1 X.2.1 dX7_ban_35 (by decide) ?_
        exact mr_iret X hr hlocks h dX7_ban_36 ⟨Nat.le_of_ble_eq_true rfl, Nat.le_of_ble_eq_true rfl⟩ (MA.bad ((if_neg (by rw [iR_lt hj0 (by omega)]; decide)).trans (if_neg (by omega))) (by decide))
    · skip
      have c2 := of_decide_eq_true c2
      obtain ⟨j1, hj1l, hj1, rfl⟩ := in_t 0 (n := 1000) c2 (by omega)
      refine lv_iconst (v := nI (0)) X.1 X.2.1 dX7_ban_24 (by decide) ?_
      refine lv_goto (tgt := 29) X.1 X.2.1 dX7_ban_25 (by decide) ?_
      refine mr_callV X h ck_X7_93 ki_X7_fails ks_X7_fails dX7_ban_29 (As := [.int (nI (0))]) (c_X7_fails l G x ar N F B 0 (by omega)) rfl hl rfl (Nat.le_of_ble_eq_true rfl) ⟨Nat.le_of_ble_eq_true rfl, Nat.le_of_ble_eq_true rfl⟩ ⟨Nat.le_of_ble_eq_true rfl, Nat.le_of_ble_eq_true rfl⟩ ?_
      rintro _ _ _ _ H locs ⟨rfl, rfl, rfl, rfl⟩ h
      refine b_bool_eq (tgt := 37) X dX7_ban_32 (by decide) (fun c4 => ?_) (fun c4 => ?_)
      · skip
        have c4 := of_decide_eq_false c4
        refine lv_aload_n X.1 X.2.1 dX7_ban_37 rfl (lv_at hl 0 rfl) ?_
        refine mr_get X h kf_X7_13 (by decide) dX7_ban_38 rfl ?_
        refine lv_iload_n X.1 X.2.1 dX7_ban_41 rfl (lv_at hl 1 rfl) ?_
        refine lv_aload_n X.1 X.2.1 dX7_ban_42 rfl (lv_at hl 0 rfl) ?_
        refine mr_get X h kf_X7_90 (by decide) dX7_ban_43 (v := .int (nI (N 0))) rfl ?_
        refine lv_iload_n X.1 X.2.1 dX7_ban_46 rfl (lv_at hl 2 rfl) ?_
        refine lv_iadd X.1 X.2.1 dX7_ban_47 ?_
        refine lv_top (y := nI (N 0 + j1)) (nI_add _ _) ?_
        refine mr_ast X h 3 rfl (by decide) dX7_ban_48 (i := j0) (v := N 0 + j1) rfl (by show _ < 16; omega) rfl (fun H locs h => ?_)
        refine lv_aload_n X.1 X.2.1 dX7_ban_49 rfl (lv_at hl 0 rfl) ?_
        refine mr_get X h kf_X7_13 (by decide) dX7_ban_50 rfl ?_
        refine lv_iload_n X.1 X.2.1 dX7_ban_53 rfl (lv_at hl 1 rfl) ?_
        refine mr_ald X h 3 rfl dX7_ban_54 (i := j0) (v := nI (N 0 + j1)) rfl (by show _ < 16; omega) (by simp [rowM, shN, set1, va_up]) ?_
        exact mr_iret X hr hlocks h dX7_ban_55 ⟨Nat.le_of_ble_eq_true rfl, Nat.le_of_ble_eq_true rfl⟩ (MA.ok ((if_neg (by rw [iR_lt hj0 (by omega)]; decide)).trans (if_pos (by rw [nI_ti (by omega)]; omega))) (by rw [ix_nI (by omega)]) rfl (fun k h1 h2 => by simp [va_up, h1, h2]) (by rw [ix_nI (by omega), ix_nI (by omega)]; exact SF.rf _) (rfl))
      · skip
        exact absurd c4 (by first | decide | omega)
  · skip
    refine lv_iconst (v := nI (1)) X.1 X.2.1 dX7_ban_9 (by decide) ?_
    refine lv_goto (tgt := 29) X.1 X.2.1 dX7_ban_10 (by decide) ?_
    refine mr_callV X h ck_X7_93 ki_X7_fails ks_X7_fails dX7_ban_29 (As := [.int (nI (1))]) (c_X7_fails l G x ar N F B 1 (by omega)) rfl hl rfl (Nat.le_of_ble_eq_true rfl) ⟨Nat.le_of_ble_eq_true rfl, Nat.le_of_ble_eq_true rfl⟩ ⟨Nat.le_of_ble_eq_true rfl, Nat.le_of_ble_eq_true rfl⟩ ?_
    rintro _ _ _ _ H locs ⟨rfl, rfl, rfl, rfl⟩ h
    refine b_bool_eq (tgt := 37) X dX7_ban_32 (by decide) (fun c5 => ?_) (fun c5 => ?_)
    · skip
      exact absurd c5 (by first | decide | omega)
    · skip
      have c5 := of_decide_eq_true c5
      refine lv_iconst (v := nI (0)) X.1 X.2.1 dX7_ban_35 (by decide) ?_
      exact mr_iret X hr hlocks h dX7_ban_36 ⟨Nat.le_of_ble_eq_true rfl, Nat.le_of_ble_eq_true rfl⟩ (MA.bad (if_pos c1) (by decide))
set_option maxHeartbeats 4000000 in
set_option maxRecDepth 100000 in
theorem c_X7_pass (l : Launch) (G : mG) (x : Nat) (ar N : Nat → Nat) (F : Nat → Nat → Nat) (B : Nat → Int32) (d0 : Int32) (hI : Iv N F) : MMet l yX7_pass cX7_pass 2 (some FieldType.int) ({ frames := 1, cells := 0, slots := 0, locals := 22 } : Room) G x ar [.ref x, .int (d0)] N F B (fun r N' F' B' => MA r N' F' B' (kPass d0) (nI (N 0 + ix d0)) (va_up N 0 (N 0 + ix d0)) (F) (B) N F B) := by
  refine MMet.of (by decide) (Nat.le_of_ble_eq_true rfl) ?_
  intro p e s m args below meth c A ls X hr hlocks h hl
  have hl : lv_has ls 2 [(0, .ref x), (1, .int (d0))] := hl
  have hn := hI.n
  refine lv_aload_n X.1 X.2.1 dX7_pass_0 rfl (lv_at hl 0 rfl) ?_
  refine lv_iload_n X.1 X.2.1 dX7_pass_1 rfl (lv_at hl 1 rfl) ?_
  refine lv_iconst (v := nI (1)) X.1 X.2.1 dX7_pass_2 (by decide) ?_
  refine lv_sipush (v := nI (400)) X.1 X.2.1 dX7_pass_3 (by decide) ?_
  refine mr_callS X h ck_X7_86 kst_X7_isIn dX7_pass_6 (As := [.int (d0), .int (nI (1)), .int (nI (400))]) (c_X7_isIn l G x ar N F B (d0) (nI (1)) (nI (400))) rfl hl rfl (Nat.le_of_ble_eq_true rfl) ⟨Nat.le_of_ble_eq_true rfl, Nat.le_of_ble_eq_true rfl⟩ ⟨Nat.le_of_ble_eq_true rfl, Nat.le_of_ble_eq_true rfl⟩ ?_
  rintro _ _ _ _ H locs ⟨rfl, rfl, rfl, rfl⟩ h
  refine lv_top (y := bI (decide (((1 : Nat) : Int) ≤ (d0).toInt ∧ (d0).toInt ≤ ((400 : Nat) : Int)))) (by rw [show (d0).toInt = (d0).toInt from rfl, show (nI (1)).toInt = ((1 : Nat) : Int) from nI_ti (by omega), show (nI (400)).toInt = ((400 : Nat) : Int) from nI_ti (by omega)]) ?_
  refine b_bool_eq (tgt := 16) X dX7_pass_9 (by decide) (fun c1 => ?_) (fun c1 => ?_)
  · skip
    have c1 := of_decide_eq_false c1
    refine lv_iconst (v := nI (1)) X.1 X.2.1 dX7_pass_16 (by decide) ?_
    refine mr_callV X h ck_X7_93 ki_X7_fails ks_X7_fails dX7_pass_17 (As := [.int (nI (1))]) (c_X7_fails l G x ar N F B 1 (by omega)) rfl hl rfl (Nat.le_of_ble_eq_true rfl) ⟨Nat.le_of_ble_eq_true rfl, Nat.le_of_ble_eq_true rfl⟩ ⟨Nat.le_of_ble_eq_true rfl, Nat.le_of_ble_eq_true rfl⟩ ?_
    rintro _ _ _ _ H locs ⟨rfl, rfl, rfl, rfl⟩ h
    refine b_bool_eq (tgt := 25) X dX7_pass_20 (by decide) (fun c2 => ?_) (fun c2 => ?_)
    · skip
      exact absurd c2 (by first | decide | omega)
    · skip
      have c2 := of_decide_eq_true c2
      refine lv_iconst (v := nI (0)) X.1 X.2.1 dX7_pass_23 (by decide) ?_
      exact mr_iret X hr hlocks h dX7_pass_24 ⟨Nat.le_of_ble_eq_true rfl, Nat.le_of_ble_eq_true rfl⟩ (MA.bad (if_neg (by omega)) (by decide))
  · skip
    have c1 := of_decide_eq_true c1
    obtain ⟨j1, hj1l, hj1, rfl⟩ := in_t 1 (n := 400) c1 (by omega)
    refine lv_iconst (v := nI (0)) X.1 X.2.1 dX7_pass_12 (by decide) ?_
    refine lv_goto (tgt := 17) X.1 X.2.1 dX7_pass_13 (by decide) ?_
    refine mr_callV X h ck_X7_93 ki_X7_fails ks_X7_fails dX7_pass_17 (As := [.int (nI (0))]) (c_X7_fails l G x ar N F B 0 (by omega)) rfl hl rfl (Nat.le_of_ble_eq_true rfl) ⟨Nat.le_of_ble_eq_true rfl, Nat.le_of_ble_eq_true rfl⟩ ⟨Nat.le_of_ble_eq_true rfl, Nat.le_of_ble_eq_true rfl⟩ ?_
    rintro _ _ _ _ H locs ⟨rfl, rfl, rfl, rfl⟩ h
    refine b_bool_eq (tgt := 25) X dX7_pass_20 (by decide) (fun c3 => ?_) (fun c3 => ?_)
    · skip
      have c3 := of_decide_eq_false c3
      refine lv_aload_n X.1 X.2.1 dX7_pass_25 rfl (lv_at hl 0 rfl) ?_
      refine lv_dup X.1 X.2.1 dX7_pass_26 rfl ?_
      refine mr_get X h kf_X7_90 (by decide) dX7_pass_27 (v := .int (nI (N 0))) rfl ?_
      refine lv_iload_n X.1 X.2.1 dX7_pass_30 rfl (lv_at hl 1 rfl) ?_
      refine lv_iadd X.1 X.2.1 dX7_pass_31 ?_
      refine lv_top (y := nI (N 0 + j1)) (nI_add _ _) ?_
      refine mr_put X h kf_X7_90 (by decide) rfl rfl dX7_pass_32 rfl (fun H locs h => ?_)
      refine lv_aload_n X.1 X.2.1 dX7_pass_35 rfl (lv_at hl 0 rfl) ?_
      refine mr_get X h kf_X7_90 (by decide) dX7_pass_36 (v := .int (nI ((N 0 + j1)))) rfl ?_
      exact mr_iret X hr hlocks h dX7_pass_39 ⟨Nat.le_of_ble_eq_true rfl, Nat.le_of_ble_eq_true rfl⟩ (MA.ok (if_pos (by rw [nI_ti (by omega)]; omega)) (by rw [ix_nI (by omega)]; try rfl) rfl (fun k h1 h2 => by rw [ix_nI (by omega)]; simp [va_up, h1, h2]) (SF.rf _) (rfl))
    · skip
      exact absurd c3 (by first | decide | omega)
set_option maxHeartbeats 4000000 in
set_option maxRecDepth 100000 in
theorem c_X7_money (l : Launch) (G : mG) (x : Nat) (ar N : Nat → Nat) (F : Nat → Nat → Nat) (B : Nat → Int32) (p0 : Int32) (hI : Iv N F) : MMet l yX7_money cX7_money 2 (some FieldType.int) ({ frames := 2, cells := 0, slots := 0, locals := 43 } : Room) G x ar [.ref x, .int (p0)] N F B (fun r N' F' B' => MA r N' F' B' (kOne (iR p0 (N 1))) (B (ix p0)) (N) (F) (B) N F B) := by
  refine MMet.of (by decide) (Nat.le_of_ble_eq_true rfl) ?_
  intro p e s m args below meth c A ls X hr hlocks h hl
  have hl : lv_has ls 2 [(0, .ref x), (1, .int (p0))] := hl
  have hn := hI.n
  refine lv_aload_n X.1 X.2.1 dX7_money_0 rfl (lv_at hl 0 rfl) ?_
  refine lv_aload_n X.1 X.2.1 dX7_money_1 rfl (lv_at hl 0 rfl) ?_
  refine lv_iload_n X.1 X.2.1 dX7_money_2 rfl (lv_at hl 1 rfl) ?_
  refine mr_callV X h ck_X7_107 ki_X7_isPlayer ks_X7_isPlayer dX7_money_3 (As := [.int (p0)]) (c_X7_isPlayer l G x ar N F B (p0) hI) rfl hl rfl (Nat.le_of_ble_eq_true rfl) ⟨Nat.le_of_ble_eq_true rfl, Nat.le_of_ble_eq_true rfl⟩ ⟨Nat.le_of_ble_eq_true rfl, Nat.le_of_ble_eq_true rfl⟩ ?_
  rintro _ _ _ _ H locs ⟨rfl, rfl, rfl, rfl⟩ h
  refine b_bool_eq (tgt := 13) X dX7_money_6 (by decide) (fun c1 => ?_) (fun c1 => ?_)
  · skip
    refine lv_iconst (v := nI (1)) X.1 X.2.1 dX7_money_13 (by decide) ?_
    refine mr_callV X h ck_X7_93 ki_X7_fails ks_X7_fails dX7_money_14 (As := [.int (nI (1))]) (c_X7_fails l G x ar N F B 1 (by omega)) rfl hl rfl (Nat.le_of_ble_eq_true rfl) ⟨Nat.le_of_ble_eq_true rfl, Nat.le_of_ble_eq_true rfl⟩ ⟨Nat.le_of_ble_eq_true rfl, Nat.le_of_ble_eq_true rfl⟩ ?_
    rintro _ _ _ _ H locs ⟨rfl, rfl, rfl, rfl⟩ h
    refine b_bool_eq (tgt := 24) X dX7_money_17 (by decide) (fun c2 => ?_) (fun c2 => ?_)
    · skip
      exact absurd c2 (by first | decide | omega)
    · skip
      have c2 := of_decide_eq_true c2
      refine lv_iconst (v := nI (0)) X.1 X.2.1 dX7_money_20 (by decide) ?_
      refine lv_goto (tgt := 30) X.1 X.2.1 dX7_money_21 (by decide) ?_
      exact mr_iret X hr hlocks h dX7_money_30 ⟨Nat.le_of_ble_eq_true rfl, Nat.le_of_ble_eq_true rfl⟩ (MA.bad (if_neg (by rw [c1]; decide)) (by decide))
  · skip
    obtain ⟨j0, hj0, rfl⟩ := iR_t c1 (by omega)
    refine lv_iconst (v := nI (0)) X.1 X.2.1 dX7_money_9 (by decide) ?_
    refine lv_goto (tgt := 14) X.1 X.2.1 dX7_money_10 (by decide) ?_
    refine mr_callV X h ck_X7_93 ki_X7_fails ks_X7_fails dX7_money_14 (As := [.int (nI (0))]) (c_X7_fails l G x ar N F B 0 (by omega)) rfl hl rfl (Nat.le_of_ble_eq_true rfl) ⟨Nat.le_of_ble_eq_true rfl, Nat.le_of_ble_eq_true rfl⟩ ⟨Nat.le_of_ble_eq_true rfl, Nat.le_of_ble_eq_true rfl⟩ ?_
    rintro _ _ _ _ H locs ⟨rfl, rfl, rfl, rfl⟩ h
    refine b_bool_eq (tgt := 24) X dX7_money_17 (by decide) (fun c3 => ?_) (fun c3 => ?_)
    · skip
      have c3 := of_decide_eq_false c3
      refine lv_aload_n X.1 X.2.1 dX7_money_24 rfl (lv_at hl 0 rfl) ?_
      refine mr_get X h kf_X7_16 (by decide) dX7_money_25 rfl ?_
      refine lv_iload_n X.1 X.2.1 dX7_money_28 rfl (lv_at hl 1 rfl) ?_
      refine mr_ald X h 4 rfl dX7_money_29 (i := j0) (v := B (j0)) rfl (by show _ < 16; omega) rfl ?_
      exact mr_iret X hr hlocks h dX7_money_30 ⟨Nat.le_of_ble_eq_true rfl, Nat.le_of_ble_eq_true rfl⟩ (MA.ok (if_pos (iR_lt hj0 (by omega))) (by rw [ix_nI (by omega)]) rfl (fun k h1 h2 => by simp [va_up, h1, h2]) (SF.rf _) rfl)
    · skip
      exact absurd c3 (by first | decide | omega)
set_option maxHeartbeats 4000000 in
set_option maxRecDepth 100000 in
theorem c_X7_pays (l : Launch) (G : mG) (x : Nat) (ar N : Nat → Nat) (F : Nat → Nat → Nat) (B : Nat → Int32) (z1 : Int32) (z2 : Int32) (z3 : Int32) (f0 : Nat) (t0 : Nat) (am : Nat) (hn : N 1 ≤ 16) (hf : f0 ≤ N 1) (ht : t0 ≤ N 1) (hz1 : z1 = nI f0 - 1) (hz2 : z2 = nI t0 - 1) (hz3 : z3 = nI am) : MMet l yX7_pays cX7_pays 4 none ({ frames := 0, cells := 0, slots := 0, locals := 0 } : Room) G x ar [.ref x, .int (z1), .int (z2), .int (z3)] N F B (fun r N' F' B' => r = none ∧ N = N' ∧ F = F' ∧ payS B f0 t0 am = B') := by
  refine MMet.of (by decide) (Nat.le_of_ble_eq_true rfl) ?_
  intro p e s m args below meth c A ls X hr hlocks h hl
  have hl : lv_has ls 4 [(0, .ref x), (1, .int (z1)), (2, .int (z2)), (3, .int (z3))] := hl
  subst hz1 hz2 hz3
  have hl : lv_has ls 4 [(0, .ref x), (1, .int (nI (f0) - 1)), (2, .int (nI (t0) - 1)), (3, .int (nI (am)))] := hl
  refine lv_iload_n X.1 X.2.1 dX7_pays_0 rfl (lv_at hl 1 rfl) ?_
  refine lv_iconst (v := nI (0) - 1) X.1 X.2.1 dX7_pays_1 (by decide) ?_
  refine b_icmp_eq (tgt := 30) X dX7_pays_2 (by decide) (a := ((f0 : Nat) : Int) - 1) (b := ((0 : Nat) : Int) - 1) (eI_ti (by omega)) (eI_ti (by omega)) (fun c1 => ?_) (fun c1 => ?_)
  · skip
    exact mr_vret X hr hlocks h dX7_pays_30 ⟨Nat.le_of_ble_eq_true rfl, Nat.le_of_ble_eq_true rfl⟩ (⟨rfl, rfl, rfl, by first | exact if_pos (by omega) | (rw [payS, if_neg (by omega)])⟩)
  · skip
    refine lv_iload_n X.1 X.2.1 dX7_pays_5 rfl (lv_at hl 2 rfl) ?_
    refine lv_iconst (v := nI (0) - 1) X.1 X.2.1 dX7_pays_6 (by decide) ?_
    refine b_icmp_eq (tgt := 30) X dX7_pays_7 (by decide) (a := ((t0 : Nat) : Int) - 1) (b := ((0 : Nat) : Int) - 1) (eI_ti (by omega)) (eI_ti (by omega)) (fun c2 => ?_) (fun c2 => ?_)
    · skip
      exact mr_vret X hr hlocks h dX7_pays_30 ⟨Nat.le_of_ble_eq_true rfl, Nat.le_of_ble_eq_true rfl⟩ (⟨rfl, rfl, rfl, by first | exact if_pos (by omega) | (rw [payS, if_neg (by omega)])⟩)
    · skip
      refine lv_aload_n X.1 X.2.1 dX7_pays_10 rfl (lv_at hl 0 rfl) ?_
      refine mr_get X h kf_X7_16 (by decide) dX7_pays_11 rfl ?_
      refine lv_iload_n X.1 X.2.1 dX7_pays_14 rfl (lv_at hl 1 rfl) ?_
      refine lv_dup2_11 X.1 X.2.1 dX7_pays_15 rfl rfl ?_
      refine mr_ald X h 4 rfl dX7_pays_16 (i := f0 - 1) (v := B (f0 - 1)) (eI_pos (by omega)) (by show _ < 16; omega) rfl ?_
      refine lv_iload_n X.1 X.2.1 dX7_pays_17 rfl (lv_at hl 3 rfl) ?_
      refine lv_isub X.1 X.2.1 dX7_pays_18 ?_
      refine mr_astB X h dX7_pays_19 (i := f0 - 1) (eI_pos (by omega)) (by show _ < 16; omega) (fun H locs h => ?_)
      refine lv_aload_n X.1 X.2.1 dX7_pays_20 rfl (lv_at hl 0 rfl) ?_
      refine mr_get X h kf_X7_16 (by decide) dX7_pays_21 rfl ?_
      refine lv_iload_n X.1 X.2.1 dX7_pays_24 rfl (lv_at hl 2 rfl) ?_
      refine lv_dup2_11 X.1 X.2.1 dX7_pays_25 rfl rfl ?_
      refine mr_ald X h 4 rfl dX7_pays_26 (i := t0 - 1) (v := (upd B (f0 - 1) ((B (f0 - 1)) - (nI (am)))) (t0 - 1)) (eI_pos (by omega)) (by show _ < 16; omega) rfl ?_
      refine lv_iload_n X.1 X.2.1 dX7_pays_27 rfl (lv_at hl 3 rfl) ?_
      refine lv_iadd X.1 X.2.1 dX7_pays_28 ?_
      refine mr_astB X h dX7_pays_29 (i := t0 - 1) (eI_pos (by omega)) (by show _ < 16; omega) (fun H locs h => ?_)
      exact mr_vret X hr hlocks h dX7_pays_30 ⟨Nat.le_of_ble_eq_true rfl, Nat.le_of_ble_eq_true rfl⟩ (⟨rfl, rfl, rfl, by first | exact if_pos (by omega) | (rw [payS, if_neg (by omega)])⟩)
set_option maxHeartbeats 4000000 in
set_option maxRecDepth 100000 in
theorem c_X7_user (l : Launch) (G : mG) (x : Nat) (ar N : Nat → Nat) (F : Nat → Nat → Nat) (B : Nat → Int32) (k0 : Nat) (hI : Iv N F) (hk : k0 < N 13) : MMet l yX7_user cX7_user 2 (some FieldType.int) ({ frames := 0, cells := 0, slots := 0, locals := 0 } : Room) G x ar [.ref x, .int (nI (k0))] N F B (fun r N' F' B' => r = some (.int (nI (userS N F k0) - 1)) ∧ N = N' ∧ F = F' ∧ B = B') := by
  refine MMet.of (by decide) (Nat.le_of_ble_eq_true rfl) ?_
  intro p e s m args below meth c A ls X hr hlocks h hl
  have hl : lv_has ls 2 [(0, .ref x), (1, .int (nI (k0)))] := hl
  have hn := hI.n
  refine lv_aload_n X.1 X.2.1 dX7_user_0 rfl (lv_at hl 0 rfl) ?_
  refine mr_get X h kf_X7_46 (by decide) dX7_user_1 rfl ?_
  refine lv_iload_n X.1 X.2.1 dX7_user_4 rfl (lv_at hl 1 rfl) ?_
  refine mr_ald X h 17 rfl dX7_user_5 (i := k0) (v := nI (F 17 (k0)) - 1) rfl (by show _ < 36; omega) rfl ?_
  have b1 := hI.k (k := k0) (by omega)
  refine lv_iconst (v := nI (0) - 1) X.1 X.2.1 dX7_user_6 (by decide) ?_
  refine b_icmp_eq (tgt := 42) X dX7_user_7 (by decide) (a := ((F 17 (k0) : Nat) : Int) - 1) (b := ((0 : Nat) : Int) - 1) (eI_ti (by omega)) (eI_ti (by omega)) (fun c2 => ?_) (fun c2 => ?_)
  · skip
    refine lv_aload_n X.1 X.2.1 dX7_user_42 rfl (lv_at hl 0 rfl) ?_
    refine mr_get X h kf_X7_46 (by decide) dX7_user_43 rfl ?_
    refine lv_iload_n X.1 X.2.1 dX7_user_46 rfl (lv_at hl 1 rfl) ?_
    refine mr_ald X h 17 rfl dX7_user_47 (i := k0) (v := nI (F 17 (k0)) - 1) rfl (by show _ < 36; omega) rfl ?_
    have b3 := hI.k (k := k0) (by omega)
    exact mr_iret X hr hlocks h dX7_user_48 ⟨Nat.le_of_ble_eq_true rfl, Nat.le_of_ble_eq_true rfl⟩ (⟨congrArg (fun z => some (Value.int (nI z - 1))) (by rw [userS]; first | rw [if_pos (by omega)] | rw [if_neg (by omega)]), rfl, rfl, rfl⟩)
  · skip
    refine lv_aload_n X.1 X.2.1 dX7_user_10 rfl (lv_at hl 0 rfl) ?_
    refine mr_get X h kf_X7_49 (by decide) dX7_user_11 rfl ?_
    refine lv_iload_n X.1 X.2.1 dX7_user_14 rfl (lv_at hl 1 rfl) ?_
    refine mr_ald X h 18 rfl dX7_user_15 (i := k0) (v := nI (F 18 (k0)) - 1) rfl (by show _ < 36; omega) rfl ?_
    refine lv_iconst (v := nI (0) - 1) X.1 X.2.1 dX7_user_16 (by decide) ?_
    refine b_icmp_eq (tgt := 42) X dX7_user_17 (by decide) (a := ((F 18 (k0) : Nat) : Int) - 1) (b := ((0 : Nat) : Int) - 1) (eI_ti (by omega)) (eI_ti (by omega)) (fun c4 => ?_) (fun c4 => ?_)
    · skip
      refine lv_aload_n X.1 X.2.1 dX7_user_42 rfl (lv_at hl 0 rfl) ?_
      refine mr_get X h kf_X7_46 (by decide) dX7_user_43 rfl ?_
      refine lv_iload_n X.1 X.2.1 dX7_user_46 rfl (lv_at hl 1 rfl) ?_
      refine mr_ald X h 17 rfl dX7_user_47 (i := k0) (v := nI (F 17 (k0)) - 1) rfl (by show _ < 36; omega) rfl ?_
      have b5 := hI.k (k := k0) (by omega)
      exact mr_iret X hr hlocks h dX7_user_48 ⟨Nat.le_of_ble_eq_true rfl, Nat.le_of_ble_eq_true rfl⟩ (⟨congrArg (fun z => some (Value.int (nI z - 1))) (by rw [userS]; first | rw [if_pos (by omega)] | rw [if_neg (by omega)]), rfl, rfl, rfl⟩)
    · skip
      refine lv_aload_n X.1 X.2.1 dX7_user_20 rfl (lv_at hl 0 rfl) ?_
      refine mr_get X h kf_X7_90 (by decide) dX7_user_21 (v := .int (nI (N 0))) rfl ?_
      refine lv_aload_n X.1 X.2.1 dX7_user_24 rfl (lv_at hl 0 rfl) ?_
      refine mr_get X h kf_X7_52 (by decide) dX7_user_25 rfl ?_
      refine lv_iload_n X.1 X.2.1 dX7_user_28 rfl (lv_at hl 1 rfl) ?_
      refine mr_ald X h 19 rfl dX7_user_29 (i := k0) (v := nI (F 19 (k0))) rfl (by show _ < 36; omega) rfl ?_
      refine b_icmp_gt (tgt := 42) X dX7_user_30 (by decide) (a := ((N 0 : Nat) : Int)) (b := ((F 19 (k0) : Nat) : Int)) (nI_ti (by omega)) (nI_ti (by omega)) (fun c6 => ?_) (fun c6 => ?_)
      · skip
        refine lv_aload_n X.1 X.2.1 dX7_user_42 rfl (lv_at hl 0 rfl) ?_
        refine mr_get X h kf_X7_46 (by decide) dX7_user_43 rfl ?_
        refine lv_iload_n X.1 X.2.1 dX7_user_46 rfl (lv_at hl 1 rfl) ?_
        refine mr_ald X h 17 rfl dX7_user_47 (i := k0) (v := nI (F 17 (k0)) - 1) rfl (by show _ < 36; omega) rfl ?_
        have b7 := hI.k (k := k0) (by omega)
        exact mr_iret X hr hlocks h dX7_user_48 ⟨Nat.le_of_ble_eq_true rfl, Nat.le_of_ble_eq_true rfl⟩ (⟨congrArg (fun z => some (Value.int (nI z - 1))) (by rw [userS]; first | rw [if_pos (by omega)] | rw [if_neg (by omega)]), rfl, rfl, rfl⟩)
      · skip
        refine lv_aload_n X.1 X.2.1 dX7_user_33 rfl (lv_at hl 0 rfl) ?_
        refine mr_get X h kf_X7_49 (by decide) dX7_user_34 rfl ?_
        refine lv_iload_n X.1 X.2.1 dX7_user_37 rfl (lv_at hl 1 rfl) ?_
        refine mr_ald X h 18 rfl dX7_user_38 (i := k0) (v := nI (F 18 (k0)) - 1) rfl (by show _ < 36; omega) rfl ?_
        refine lv_goto (tgt := 48) X.1 X.2.1 dX7_user_39 (by decide) ?_
        exact mr_iret X hr hlocks h dX7_user_48 ⟨Nat.le_of_ble_eq_true rfl, Nat.le_of_ble_eq_true rfl⟩ (⟨congrArg (fun z => some (Value.int (nI z - 1))) (by rw [userS]; first | rw [if_pos (by omega)] | rw [if_neg (by omega)]), rfl, rfl, rfl⟩)
end
section
/-! the heirs found anew: what a look keeps -/
theorem dec_sh (n : Nat) : nI n + Int32.ofInt (-1) = nI n - 1 := by
  rw [Int32.sub_eq_add_neg]; rfl
theorem add_sh {a b : Nat} (h : 0 < b) : nI a + (nI b - 1) = nI (a + (b - 1)) := by rw [eI_pos h]; exact nI_add _ _
theorem SF.at {F F' : Nat → Nat → Nat} (h : SF F F') (k i : Nat) (hk : k ≠ 25 ∧ k ≠ 26 ∧ k ≠ 27) : F' k i = F k i := by rw [h k hk.1 hk.2.1 hk.2.2]
theorem SF.trans {F1 F2 F3 : Nat → Nat → Nat} (h : SF F1 F2) (q : SF F2 F3) : SF F1 F3 := fun k h1 h2 h3 => (q k h1 h2 h3).trans (h k h1 h2 h3)
theorem SN.trans {F1 F2 F3 : Nat → Nat} (h : SN F1 F2) (q : SN F2 F3) : SN F1 F3 := fun k h1 h2 => (q k h1 h2).trans (h k h1 h2)
theorem SF.sym {F1 F2 : Nat → Nat → Nat} (h : SF F1 F2) : SF F2 F1 := fun k h1 h2 h3 => (h k h1 h2 h3).symm
theorem SN.sym {F1 F2 : Nat → Nat} (h : SN F1 F2) : SN F2 F1 := fun k h1 h2 => (h k h1 h2).symm
theorem Iv.congr {N N' : Nat → Nat} {F F' : Nat → Nat → Nat} (hI : Iv N F) (hN : SN N N') (hF : SF F F') : Iv N' F' := by
  have n0 := hN 0 (by decide) (by decide)
  have n1 := hN 1 (by decide) (by decide)
  have n6 := hN 6 (by decide) (by decide)
  have n12 := hN 12 (by decide) (by decide)
  have n13 := hN 13 (by decide) (by decide)
  have f : ∀ k, k ≠ 25 ∧ k ≠ 26 ∧ k ≠ 27 → F' k = F k := fun k h => hF k h.1 h.2.1 h.2.2
  unfold Iv IvM IvK IvS
  rw [n0, n1, n6, n12, n13, f 2 (by decide), f 3 (by decide), f 5 (by decide), f 7 (by decide), f 8 (by decide), f 9 (by decide), f 10 (by decide), f 11 (by decide), f 14 (by decide), f 15 (by decide), f 16 (by decide), f 17 (by decide), f 18 (by decide), f 19 (by decide), f 20 (by decide), f 21 (by decide), f 22 (by decide), f 23 (by decide), f 24 (by decide)]
  exact hI
theorem goodS_congr {F F' : Nat → Nat → Nat} (h2 : F' 2 = F 2) (h7 : F' 7 = F 7) (h10 : F' 10 = F 10) : goodS F' = goodS F := by
  funext m
  simp only [goodS, h2, h7, h10]
theorem badN_congr {F F' : Nat → Nat → Nat} (h2 : F' 2 = F 2) (h7 : F' 7 = F 7) (h10 : F' 10 = F 10) : badN F' = badN F := by
  funext n
  simp only [badN, goodS_congr h2 h7 h10]
theorem pts_congr {F F' : Nat → Nat → Nat} (h2 : F' 2 = F 2) (h7 : F' 7 = F 7) (h8 : F' 8 = F 8) (h10 : F' 10 = F 10) (h11 : F' 11 = F 11) (s p : Nat) : ptC F' s p = ptC F s p ∧ gmC F' s p = gmC F s p := by
  constructor
  · funext m
    simp only [ptC, goodS_congr h2 h7 h10, h7, h8, h11]
  · funext m
    simp only [gmC, goodS_congr h2 h7 h10, h7, h8, h11]
theorem heirS_congr {N N' : Nat → Nat} {F F' : Nat → Nat → Nat} (n1 : N' 1 = N 1) (n6 : N' 6 = N 6) (h2 : F' 2 = F 2) (h7 : F' 7 = F 7) (h8 : F' 8 = F 8) (h10 : F' 10 = F 10) (h11 : F' 11 = F 11) (s pl : Nat) : heirS N' F' s pl = heirS N F s pl := by
  have e1 : (fun p => pts F' s p (N' 6)) = fun p => pts F s p (N 6) := by
    funext p; rw [pts, (pts_congr h2 h7 h8 h10 h11 s p).1, n6]; rfl
  have e2 : (fun p => gms F' s p (N' 6)) = fun p => gms F s p (N 6) := by
    funext p; rw [gms, (pts_congr h2 h7 h8 h10 h11 s p).2, n6]; rfl
  rw [heirS, heirS, e1, e2, n1]
theorem undoS_congr {F F' : Nat → Nat → Nat} (h22 : F' 22 = F 22) (h23 : F' 23 = F 23) (h24 : F' 24 = F 24) (k : Nat) : ∀ (n : Nat) (B : Nat → Int32), undoS F' k B n = undoS F k B n
  | 0, _ => rfl
  | n + 1, B => by rw [undoS, undoS, undoS_congr h22 h23 h24 k n, h22, h23, h24]
theorem inhF_SF {F F' : Nat → Nat → Nat} (h : SF F F') (k v : Nat) : SF (inhF F k v) (inhF F' k v) := by
  unfold inhF
  rw [h.at 20 k (by decide)]
  split
  · exact (((h.set 21 k 0).set 17 k v).set 18 k 0).set 16 k v
  · exact h.set 16 k v
theorem inhB_SF {F F' : Nat → Nat → Nat} (h : SF F F') (B : Nat → Int32) (k v : Nat) : inhB F' B k v = inhB F B k v := by
  unfold inhB
  rw [undoS_congr (h 22 (by decide) (by decide) (by decide)) (h 23 (by decide) (by decide) (by decide)) (h 24 (by decide) (by decide) (by decide)), h.at 20 k (by decide), h.at 21 k (by decide), h.at 16 k (by decide), h.at 24 _ (by decide)]
theorem inhF_off (F : Nat → Nat → Nat) (k v : Nat) {j : Nat} (hj : j ≠ 16 ∧ j ≠ 17 ∧ j ≠ 18 ∧ j ≠ 21) : inhF F k v j = F j := by
  unfold inhF
  obtain ⟨h1, h2, h3, h4⟩ := hj
  split
  · funext i
    rw [set1_off _ (Or.inl h1), set1_off _ (Or.inl h3), set1_off _ (Or.inl h2), set1_off _ (Or.inl h4)]
  · funext i
    rw [set1_off _ (Or.inl h1)]
theorem lookS_off (N : Nat → Nat) (F : Nat → Nat → Nat) (B : Nat → Int32) {j : Nat} (hj : j ≠ 16 ∧ j ≠ 17 ∧ j ≠ 18 ∧ j ≠ 21) : ∀ k, (lookS N F B k).1 j = F j
  | 0 => rfl
  | k + 1 => by
    rw [lookS]
    split
    · exact lookS_off N F B hj k
    · show inhF _ _ _ j = F j
      rw [inhF_off _ _ _ hj, lookS_off N F B hj k]
theorem lookS_N {N N' : Nat → Nat} (hN : SN N N') (F : Nat → Nat → Nat) (B : Nat → Int32) : ∀ k, lookS N' F B k = lookS N F B k
  | 0 => rfl
  | k + 1 => by rw [lookS, lookS, lookS_N hN F B k, heirS_congr (hN 1 (by decide) (by decide)) (hN 6 (by decide) (by decide)) rfl rfl rfl rfl rfl]
theorem Iv.inh {N : Nat → Nat} {F : Nat → Nat → Nat} (hI : Iv N F) {k v : Nat} (hk : k < N 13) (hv : v ≤ N 1) : Iv N (inhF F k v) := by
  have e : ∀ j, (j ≠ 16 ∧ j ≠ 17 ∧ j ≠ 18 ∧ j ≠ 21) → inhF F k v j = F j := fun j hj => inhF_off F k v hj
  refine ⟨hI.1, ?_, ?_, ?_, ?_, ?_⟩
  · rw [e 2 (by decide), e 3 (by decide)]; exact hI.2.1
  · rw [e 5 (by decide)]; exact hI.2.2.1
  · unfold IvM
    rw [e 7 (by decide), e 8 (by decide), e 9 (by decide), e 10 (by decide), e 11 (by decide)]; exact hI.2.2.2.1
  · intro k' hk'
    unfold IvK
    rw [e 14 (by decide), e 15 (by decide), e 19 (by decide), e 20 (by decide)]
    obtain ⟨q1, q2, q3, q4, q5, q6, q7, q8, q9⟩ := hI.k hk'
    by_cases hkk : k' = k
    · subst hkk
      unfold inhF
      split
      · rename_i h0
        simp [set1, va_up]
        omega
      · simp [set1, va_up]
        omega
    · have f : ∀ j, inhF F k v j k' = F j k' := by
        intro j
        unfold inhF
        split
        · rw [set1_off _ (Or.inr hkk), set1_off _ (Or.inr hkk), set1_off _ (Or.inr hkk), set1_off _ (Or.inr hkk)]
        · rw [set1_off _ (Or.inr hkk)]
      rw [f 16, f 17, f 18, f 21]
      exact ⟨q1, q2, q3, q4, q5, q6, q7, q8, q9⟩
  · intro k' j hk' hj
    unfold IvS
    rw [e 22 (by decide), e 23 (by decide), e 24 (by decide)]
    refine hI.s hk' ?_
    by_cases hkk : k' = k
    · subst hkk
      unfold inhF at hj
      split at hj
      · simp [set1, va_up] at hj
      · simp [set1, va_up] at hj
        exact hj
    · unfold inhF at hj
      split at hj
      · rw [set1_off _ (Or.inr hkk), set1_off _ (Or.inr hkk), set1_off _ (Or.inr hkk), set1_off _ (Or.inr hkk)] at hj
        exact hj
      · rw [set1_off _ (Or.inr hkk)] at hj
        exact hj
/-- a step of a look, over rows that say the same -/
theorem look_heir {N : Nat → Nat} {F F1 : Nat → Nat → Nat} {B : Nat → Int32} {k : Nat} (h : SF (lookS N F B k).1 F1) (s pl : Nat) : heirS N F1 s pl = heirS N F s pl := by
  have f : ∀ j, (j ≠ 16 ∧ j ≠ 17 ∧ j ≠ 18 ∧ j ≠ 21) → (j ≠ 25 ∧ j ≠ 26 ∧ j ≠ 27) → F1 j = F j := fun j h1 h2 => (h j h2.1 h2.2.1 h2.2.2).trans (lookS_off N F B h1 k)
  exact heirS_congr rfl rfl (f 2 (by decide) (by decide)) (f 7 (by decide) (by decide)) (f 8 (by decide) (by decide)) (f 10 (by decide) (by decide)) (f 11 (by decide) (by decide)) s pl
theorem look_t {N : Nat → Nat} {F F1 : Nat → Nat → Nat} {B B1 : Nat → Int32} {k v : Nat} (h : SF (lookS N F B k).1 F1) (hB : (lookS N F B k).2 = B1) (hv : heirS N F1 (F1 14 k) (F1 15 k) = v) (hne : ¬ v = F1 16 k) : SF (lookS N F B (k + 1)).1 (inhF F1 k v) ∧ (lookS N F B (k + 1)).2 = inhB F1 B1 k v := by
  have e14 : F1 14 k = F 14 k := by rw [h.at 14 k (by decide), lookS_off N F B (by decide)]
  have e15 : F1 15 k = F 15 k := by rw [h.at 15 k (by decide), lookS_off N F B (by decide)]
  rw [look_heir h, e14, e15] at hv
  rw [lookS, hv, if_neg (by rw [← h.at 16 k (by decide)]; exact hne)]
  exact ⟨inhF_SF h k v, by rw [← hB]; exact (inhB_SF h _ k v).symm⟩
theorem look_f {N : Nat → Nat} {F F1 : Nat → Nat → Nat} {B B1 : Nat → Int32} {k v : Nat} (h : SF (lookS N F B k).1 F1) (hB : (lookS N F B k).2 = B1) (hv : heirS N F1 (F1 14 k) (F1 15 k) = v) (hne : v = F1 16 k) : SF (lookS N F B (k + 1)).1 F1 ∧ (lookS N F B (k + 1)).2 = B1 := by
  have e14 : F1 14 k = F 14 k := by rw [h.at 14 k (by decide), lookS_off N F B (by decide)]
  have e15 : F1 15 k = F 15 k := by rw [h.at 15 k (by decide), lookS_off N F B (by decide)]
  rw [look_heir h, e14, e15] at hv
  rw [lookS, hv, if_pos (by rw [← h.at 16 k (by decide)]; exact hne)]
  exact ⟨h, hB⟩
theorem sc2_SF (F : Nat → Nat → Nat) (g q : Nat → Nat) : SF F (sc2 F g q) := (SF.rf F).sc g q
end
section
set_option maxHeartbeats 4000000 in
set_option maxRecDepth 100000 in
theorem c_X7_stands (l : Launch) (G : mG) (x : Nat) (ar N : Nat → Nat) (F : Nat → Nat → Nat) (B : Nat → Int32) (m0 : Int32) (hI : Iv N F) : MMet l yX7_stands cX7_stands 2 (some FieldType.boolean) ({ frames := 1, cells := 0, slots := 0, locals := 22 } : Room) G x ar [.ref x, .int (m0)] N F B (fun r N' F' B' => MA r N' F' B' (kOne (iR m0 (N 6))) (bI (goodS F (ix m0))) (N) (F) (B) N F B) := by
  refine MMet.of (by decide) (Nat.le_of_ble_eq_true rfl) ?_
  intro p e s m args below meth c A ls X hr hlocks h hl
  have hl : lv_has ls 2 [(0, .ref x), (1, .int (m0))] := hl
  have hn := hI.n
  refine lv_aload_n X.1 X.2.1 dX7_stands_0 rfl (lv_at hl 0 rfl) ?_
  refine lv_iload_n X.1 X.2.1 dX7_stands_1 rfl (lv_at hl 1 rfl) ?_
  refine lv_iconst (v := nI (0)) X.1 X.2.1 dX7_stands_2 (by decide) ?_
  refine lv_aload_n X.1 X.2.1 dX7_stands_3 rfl (lv_at hl 0 rfl) ?_
  refine mr_get X h kf_X7_97 (by decide) dX7_stands_4 (v := .int (nI (N 6))) rfl ?_
  refine lv_iconst (v := nI (1)) X.1 X.2.1 dX7_stands_7 (by decide) ?_
  refine lv_isub X.1 X.2.1 dX7_stands_8 ?_
  refine lv_top (y := nI (N 6) - 1) rfl ?_
  refine mr_callS X h ck_X7_86 kst_X7_isIn dX7_stands_9 (As := [.int (m0), .int (nI (0)), .int (nI (N 6) - 1)]) (c_X7_isIn l G x ar N F B (m0) (nI (0)) (nI (N 6) - 1)) rfl hl rfl (Nat.le_of_ble_eq_true rfl) ⟨Nat.le_of_ble_eq_true rfl, Nat.le_of_ble_eq_true rfl⟩ ⟨Nat.le_of_ble_eq_true rfl, Nat.le_of_ble_eq_true rfl⟩ ?_
  rintro _ _ _ _ H locs ⟨rfl, rfl, rfl, rfl⟩ h
  refine lv_top (y := bI (decide (((0 : Nat) : Int) ≤ (m0).toInt ∧ (m0).toInt ≤ ((N 6 : Nat) : Int) - 1))) (by rw [show (m0).toInt = (m0).toInt from rfl, show (nI (0)).toInt = ((0 : Nat) : Int) from nI_ti (by omega), show (nI (N 6) - 1).toInt = ((N 6 : Nat) : Int) - 1 from eI_ti (by omega)]) ?_
  refine b_bool_eq (tgt := 19) X dX7_stands_12 (by decide) (fun c1 => ?_) (fun c1 => ?_)
  · skip
    have c1 := of_decide_eq_false c1
    refine lv_iconst (v := nI (1)) X.1 X.2.1 dX7_stands_19 (by decide) ?_
    refine mr_callV X h ck_X7_93 ki_X7_fails ks_X7_fails dX7_stands_20 (As := [.int (nI (1))]) (c_X7_fails l G x ar N F B 1 (by omega)) rfl hl rfl (Nat.le_of_ble_eq_true rfl) ⟨Nat.le_of_ble_eq_true rfl, Nat.le_of_ble_eq_true rfl⟩ ⟨Nat.le_of_ble_eq_true rfl, Nat.le_of_ble_eq_true rfl⟩ ?_
    rintro _ _ _ _ H locs ⟨rfl, rfl, rfl, rfl⟩ h
    refine b_bool_ne (tgt := 38) X dX7_stands_23 (by decide) (fun c2 => ?_) (fun c2 => ?_)
    · skip
      have c2 := of_decide_eq_true c2
      refine lv_iconst (v := nI (0)) X.1 X.2.1 dX7_stands_38 (by decide) ?_
      exact mr_zret X hr hlocks h dX7_stands_39 ⟨Nat.le_of_ble_eq_true rfl, Nat.le_of_ble_eq_true rfl⟩ (rfl) (MA.bad (if_neg (fun z => by rw [iR] at z; have := of_decide_eq_true z; omega)) (by decide))
    · skip
      exact absurd c2 (by first | decide | omega)
  · skip
    have c1 := of_decide_eq_true c1
    obtain ⟨j0, hj0, rfl⟩ := iR_t (p := m0) (n := N 6) (decide_eq_true (by omega)) (by omega)
    refine lv_iconst (v := nI (0)) X.1 X.2.1 dX7_stands_15 (by decide) ?_
    refine lv_goto (tgt := 20) X.1 X.2.1 dX7_stands_16 (by decide) ?_
    refine mr_callV X h ck_X7_93 ki_X7_fails ks_X7_fails dX7_stands_20 (As := [.int (nI (0))]) (c_X7_fails l G x ar N F B 0 (by omega)) rfl hl rfl (Nat.le_of_ble_eq_true rfl) ⟨Nat.le_of_ble_eq_true rfl, Nat.le_of_ble_eq_true rfl⟩ ⟨Nat.le_of_ble_eq_true rfl, Nat.le_of_ble_eq_true rfl⟩ ?_
    rintro _ _ _ _ H locs ⟨rfl, rfl, rfl, rfl⟩ h
    refine b_bool_ne (tgt := 38) X dX7_stands_23 (by decide) (fun c3 => ?_) (fun c3 => ?_)
    · skip
      exact absurd c3 (by first | decide | omega)
    · skip
      have c3 := of_decide_eq_false c3
      refine lv_aload_n X.1 X.2.1 dX7_stands_26 rfl (lv_at hl 0 rfl) ?_
      refine lv_iload_n X.1 X.2.1 dX7_stands_27 rfl (lv_at hl 1 rfl) ?_
      refine mr_callV X h ck_X7_116 ki_X7_isGood ks_X7_isGood dX7_stands_28 (As := [.int (nI (j0))]) (c_X7_isGood l G x ar (va_up N 29 (0)) F B j0 hI (show j0 < N 6 by omega)) rfl hl rfl (Nat.le_of_ble_eq_true rfl) ⟨Nat.le_of_ble_eq_true rfl, Nat.le_of_ble_eq_true rfl⟩ ⟨Nat.le_of_ble_eq_true rfl, Nat.le_of_ble_eq_true rfl⟩ ?_
      rintro _ _ _ _ H locs ⟨rfl, rfl, rfl, rfl⟩ h
      refine b_bool_eq (tgt := 38) X dX7_stands_31 (by decide) (fun c4 => ?_) (fun c4 => ?_)
      · skip
        refine lv_iconst (v := nI (0)) X.1 X.2.1 dX7_stands_38 (by decide) ?_
        exact mr_zret X hr hlocks h dX7_stands_39 ⟨Nat.le_of_ble_eq_true rfl, Nat.le_of_ble_eq_true rfl⟩ (rfl) (MA.ok (if_pos (iR_lt hj0 (by omega))) (by rw [ix_nI (by omega)]; first | exact bI_t (by assumption) | exact bI_f (by assumption)) rfl (fun k h1 h2 => by simp [va_up, h1, h2]) (SF.rf _) rfl)
      · skip
        refine lv_iconst (v := nI (1)) X.1 X.2.1 dX7_stands_34 (by decide) ?_
        refine lv_goto (tgt := 39) X.1 X.2.1 dX7_stands_35 (by decide) ?_
        exact mr_zret X hr hlocks h dX7_stands_39 ⟨Nat.le_of_ble_eq_true rfl, Nat.le_of_ble_eq_true rfl⟩ (rfl) (MA.ok (if_pos (iR_lt hj0 (by omega))) (by rw [ix_nI (by omega)]; first | exact bI_t (by assumption) | exact bI_f (by assumption)) rfl (fun k h1 h2 => by simp [va_up, h1, h2]) (SF.rf _) rfl)
set_option maxHeartbeats 4000000 in
set_option maxRecDepth 100000 in
theorem c_X7_inherits (l : Launch) (G : mG) (x : Nat) (ar N : Nat → Nat) (F : Nat → Nat → Nat) (B : Nat → Int32) (k0 : Nat) (h0 : Nat) (hI : Iv N F) (hk : k0 < N 13) (hh : h0 ≤ N 1) : MMet l yX7_inherits cX7_inherits 4 none ({ frames := 1, cells := 0, slots := 0, locals := 23 } : Room) G x ar [.ref x, .int (nI (k0)), .int (nI (h0) - 1)] N F B (fun r N' F' B' => r = none ∧ N = N' ∧ inhF F k0 h0 = F' ∧ inhB F B k0 h0 = B') := by
  refine MMet.of (by decide) (Nat.le_of_ble_eq_true rfl) ?_
  intro p e s m args below meth c A ls X hr hlocks h hl
  have hl : lv_has ls 4 [(0, .ref x), (1, .int (nI (k0))), (2, .int (nI (h0) - 1))] := hl
  have hn := hI.n
  refine lv_aload_n X.1 X.2.1 dX7_inherits_0 rfl (lv_at hl 0 rfl) ?_
  refine mr_get X h kf_X7_55 (by decide) dX7_inherits_1 rfl ?_
  refine lv_iload_n X.1 X.2.1 dX7_inherits_4 rfl (lv_at hl 1 rfl) ?_
  refine mr_ald X h 20 rfl dX7_inherits_5 (i := k0) (v := nI (F 20 (k0)) - 1) rfl (by show _ < 36; omega) rfl ?_
  have b1 := hI.k (k := k0) (by omega)
  refine lv_iconst (v := nI (0) - 1) X.1 X.2.1 dX7_inherits_6 (by decide) ?_
  refine b_icmp_eq (tgt := 40) X dX7_inherits_7 (by decide) (a := ((F 20 (k0) : Nat) : Int) - 1) (b := ((0 : Nat) : Int) - 1) (eI_ti (by omega)) (eI_ti (by omega)) (fun c2 => ?_) (fun c2 => ?_)
  · skip
    refine lv_bipush (v := nI (20)) X.1 X.2.1 dX7_inherits_40 (by decide) ?_
    refine lv_iload_n X.1 X.2.1 dX7_inherits_42 rfl (lv_at hl 1 rfl) ?_
    refine lv_imul X.1 X.2.1 dX7_inherits_43 ?_
    refine lv_top (y := nI (20 * k0)) (pk_mul _ _) ?_
    refine lv_aload_n X.1 X.2.1 dX7_inherits_44 rfl (lv_at hl 0 rfl) ?_
    refine mr_get X h kf_X7_58 (by decide) dX7_inherits_45 rfl ?_
    refine lv_iload_n X.1 X.2.1 dX7_inherits_48 rfl (lv_at hl 1 rfl) ?_
    refine mr_ald X h 21 rfl dX7_inherits_49 (i := k0) (v := nI (F 21 (k0))) rfl (by show _ < 36; omega) rfl ?_
    have b3 := hI.k (k := k0) (by omega)
    refine lv_iadd X.1 X.2.1 dX7_inherits_50 ?_
    refine lv_top (y := nI (20 * k0 + (F 21 (k0)))) (nI_add _ _) ?_
    refine lv_iconst (v := nI (1)) X.1 X.2.1 dX7_inherits_51 (by decide) ?_
    refine lv_isub X.1 X.2.1 dX7_inherits_52 ?_
    refine lv_top (y := nI (20 * k0 + (F 21 (k0))) - 1) rfl ?_
    refine lv_istore_n (lv' := [(3, .int (nI (20 * k0 + (F 21 (k0))) - 1)), (0, .ref x), (1, .int (nI (k0))), (2, .int (nI (h0) - 1))]) X.1 X.2.1 dX7_inherits_53 rfl hl (by decide) rfl (fun ls hl => ?_)
    have loop : ∀ (n9 : Nat) (t : Nat) (B1 : Nat → Int32), (t < n9) → (t ≤ F 21 k0) → (undoS F k0 B1 t = undoS F k0 B (F 21 k0)) → ∀ (H : Heap) (locs : List Loc) (ls : Array Slot), mM G A s.heap x ar N F B1 H locs → lv_has ls 4 [(0, .ref x), (1, .int (nI (k0))), (2, .int (nI (h0) - 1)), (3, .int (nI (20 * k0 + t) - 1))] → W p l e ({ frames := 1, cells := 0, slots := 0, locals := 23 } : Room) s m args below meth c H locs 0 0 (MZ G A x ar (fun r N' F' B' => r = none ∧ N = N' ∧ inhF F k0 h0 = F' ∧ inhB F B k0 h0 = B') below args s 0 0) (F0 m 54 ls []) := by
      intro n9
      induction n9 with
      | zero => intro t B1 hm9 ht hB; exact absurd hm9 (by omega)
      | succ n9 ih_loop =>
        intro t B1 hm9 ht hB H locs ls h hl
        refine lv_iload_n X.1 X.2.1 dX7_inherits_54 rfl (lv_at hl 3 rfl) ?_
        refine lv_bipush (v := nI (20)) X.1 X.2.1 dX7_inherits_55 (by decide) ?_
        refine lv_iload_n X.1 X.2.1 dX7_inherits_57 rfl (lv_at hl 1 rfl) ?_
        refine lv_imul X.1 X.2.1 dX7_inherits_58 ?_
        refine lv_top (y := nI (20 * k0)) (pk_mul _ _) ?_
        refine b_icmp_lt (tgt := 90) X dX7_inherits_59 (by decide) (a := ((20 * k0 + t : Nat) : Int) - 1) (b := ((20 * k0 : Nat) : Int)) (eI_ti (by omega)) (nI_ti (by omega)) (fun c4 => ?_) (fun c4 => ?_)
        · skip
          refine lv_aload_n X.1 X.2.1 dX7_inherits_90 rfl (lv_at hl 0 rfl) ?_
          refine mr_get X h kf_X7_58 (by decide) dX7_inherits_91 rfl ?_
          refine lv_iload_n X.1 X.2.1 dX7_inherits_94 rfl (lv_at hl 1 rfl) ?_
          refine lv_iconst (v := nI (0)) X.1 X.2.1 dX7_inherits_95 (by decide) ?_
          refine mr_ast X h 21 rfl (by decide) dX7_inherits_96 (i := k0) (v := 0) rfl (by show _ < 36; omega) rfl (fun H locs h => ?_)
          refine lv_aload_n X.1 X.2.1 dX7_inherits_97 rfl (lv_at hl 0 rfl) ?_
          refine mr_get X h kf_X7_46 (by decide) dX7_inherits_98 rfl ?_
          refine lv_iload_n X.1 X.2.1 dX7_inherits_101 rfl (lv_at hl 1 rfl) ?_
          refine lv_iload_n X.1 X.2.1 dX7_inherits_102 rfl (lv_at hl 2 rfl) ?_
          refine mr_ast X h 17 rfl (by decide) dX7_inherits_103 (i := k0) (v := h0) rfl (by show _ < 36; omega) rfl (fun H locs h => ?_)
          refine lv_aload_n X.1 X.2.1 dX7_inherits_104 rfl (lv_at hl 0 rfl) ?_
          refine mr_get X h kf_X7_49 (by decide) dX7_inherits_105 rfl ?_
          refine lv_iload_n X.1 X.2.1 dX7_inherits_108 rfl (lv_at hl 1 rfl) ?_
          refine lv_iconst (v := nI (0) - 1) X.1 X.2.1 dX7_inherits_109 (by decide) ?_
          refine mr_ast X h 18 rfl (by decide) dX7_inherits_110 (i := k0) (v := 0) rfl (by show _ < 36; omega) rfl (fun H locs h => ?_)
          refine lv_aload_n X.1 X.2.1 dX7_inherits_111 rfl (lv_at hl 0 rfl) ?_
          refine mr_get X h kf_X7_43 (by decide) dX7_inherits_112 rfl ?_
          refine lv_iload_n X.1 X.2.1 dX7_inherits_115 rfl (lv_at hl 1 rfl) ?_
          refine lv_iload_n X.1 X.2.1 dX7_inherits_116 rfl (lv_at hl 2 rfl) ?_
          refine mr_ast X h 16 rfl (by decide) dX7_inherits_117 (i := k0) (v := h0) rfl (by show _ < 36; omega) rfl (fun H locs h => ?_)
          exact mr_vret X hr hlocks h dX7_inherits_118 ⟨Nat.le_of_ble_eq_true rfl, Nat.le_of_ble_eq_true rfl⟩ (⟨rfl, rfl, by unfold inhF; rw [if_pos (by omega)]; rfl, by unfold inhB; rw [if_pos (by omega)]; obtain rfl : t = 0 := (by omega); exact hB.symm⟩)
        · skip
          obtain ⟨u, rfl⟩ : ∃ u, t = u + 1 := ⟨t - 1, by omega⟩
          have hl : lv_has ls 4 [(0, .ref x), (1, .int (nI (k0))), (2, .int (nI (h0) - 1)), (3, .int (nI (20 * k0 + u)))] := by rw [show nI (20 * k0 + u) = nI (20 * k0 + (u + 1)) - 1 from (nI_pred _).symm]; exact hl
          refine lv_aload_n X.1 X.2.1 dX7_inherits_62 rfl (lv_at hl 0 rfl) ?_
          refine lv_aload_n X.1 X.2.1 dX7_inherits_63 rfl (lv_at hl 0 rfl) ?_
          refine mr_get X h kf_X7_61 (by decide) dX7_inherits_64 rfl ?_
          refine lv_iload_n X.1 X.2.1 dX7_inherits_67 rfl (lv_at hl 3 rfl) ?_
          refine mr_ald X h 22 rfl dX7_inherits_68 (i := 20 * k0 + u) (v := nI (F 22 (20 * k0 + u))) rfl (by show _ < 720; omega) rfl ?_
          have b5 := hI.s (k := k0) (j := u) (by omega) (by omega)
          refine lv_aload_n X.1 X.2.1 dX7_inherits_69 rfl (lv_at hl 0 rfl) ?_
          refine mr_get X h kf_X7_64 (by decide) dX7_inherits_70 rfl ?_
          refine lv_iload_n X.1 X.2.1 dX7_inherits_73 rfl (lv_at hl 3 rfl) ?_
          refine mr_ald X h 23 rfl dX7_inherits_74 (i := 20 * k0 + u) (v := nI (F 23 (20 * k0 + u))) rfl (by show _ < 720; omega) rfl ?_
          refine lv_aload_n X.1 X.2.1 dX7_inherits_75 rfl (lv_at hl 0 rfl) ?_
          refine mr_get X h kf_X7_67 (by decide) dX7_inherits_76 rfl ?_
          refine lv_iload_n X.1 X.2.1 dX7_inherits_79 rfl (lv_at hl 3 rfl) ?_
          refine mr_ald X h 24 rfl dX7_inherits_80 (i := 20 * k0 + u) (v := nI (F 24 (20 * k0 + u))) rfl (by show _ < 720; omega) rfl ?_
          refine mr_callV X h ck_X7_139 ki_X7_pays ks_X7_pays dX7_inherits_81 (As := [.int (nI (F 22 (20 * k0 + u))), .int (nI (F 23 (20 * k0 + u))), .int (nI (F 24 (20 * k0 + u)))]) (c_X7_pays l G x ar N F B1 (nI (F 22 (20 * k0 + u))) (nI (F 23 (20 * k0 + u))) (nI (F 24 (20 * k0 + u))) ((F 22 (20 * k0 + u) + 1)) ((F 23 (20 * k0 + u) + 1)) (F 24 (20 * k0 + u)) (show N 1 ≤ 16 by omega) (show (F 22 (20 * k0 + u) + 1) ≤ N 1 by omega) (show (F 23 (20 * k0 + u) + 1) ≤ N 1 by omega) (eI_suc _) (eI_suc _) rfl) rfl hl rfl (Nat.le_of_ble_eq_true rfl) ⟨Nat.le_of_ble_eq_true rfl, Nat.le_of_ble_eq_true rfl⟩ ⟨Nat.le_of_ble_eq_true rfl, Nat.le_of_ble_eq_true rfl⟩ ?_
          rintro _ _ _ _ H locs ⟨rfl, rfl, rfl, rfl⟩ h
          refine lv_iinc (v := nI (20 * k0 + u) - 1) (lv' := [(3, .int (nI (20 * k0 + u) - 1)), (0, .ref x), (1, .int (nI (k0))), (2, .int (nI (h0) - 1))]) X.1 X.2.1 dX7_inherits_84 hl (k := 3) rfl (dec_sh _) (by decide) rfl (fun ls hl => ?_)
          refine lv_goto (tgt := 54) X.1 X.2.1 dX7_inherits_87 (by decide) ?_
          exact ih_loop u (payS B1 ((F 22 (20 * k0 + u) + 1)) ((F 23 (20 * k0 + u) + 1)) (F 24 (20 * k0 + u))) (by omega) (by omega) hB _ _ _ h (lv_sub hl [1, 2, 3, 0] rfl)
    exact loop (F 21 k0 + 1) (F 21 k0) B (by omega) (Nat.le_refl _) rfl _ _ _ h (lv_sub hl [1, 2, 3, 0] rfl)
  · skip
    refine lv_aload_n X.1 X.2.1 dX7_inherits_10 rfl (lv_at hl 0 rfl) ?_
    refine lv_aload_n X.1 X.2.1 dX7_inherits_11 rfl (lv_at hl 0 rfl) ?_
    refine mr_get X h kf_X7_43 (by decide) dX7_inherits_12 rfl ?_
    refine lv_iload_n X.1 X.2.1 dX7_inherits_15 rfl (lv_at hl 1 rfl) ?_
    refine mr_ald X h 16 rfl dX7_inherits_16 (i := k0) (v := nI (F 16 (k0)) - 1) rfl (by show _ < 36; omega) rfl ?_
    have b6 := hI.k (k := k0) (by omega)
    refine lv_iload_n X.1 X.2.1 dX7_inherits_17 rfl (lv_at hl 2 rfl) ?_
    refine lv_aload_n X.1 X.2.1 dX7_inherits_18 rfl (lv_at hl 0 rfl) ?_
    refine mr_get X h kf_X7_67 (by decide) dX7_inherits_19 rfl ?_
    refine lv_bipush (v := nI (20)) X.1 X.2.1 dX7_inherits_22 (by decide) ?_
    refine lv_iload_n X.1 X.2.1 dX7_inherits_24 rfl (lv_at hl 1 rfl) ?_
    refine lv_imul X.1 X.2.1 dX7_inherits_25 ?_
    refine lv_top (y := nI (20 * k0)) (pk_mul _ _) ?_
    refine lv_aload_n X.1 X.2.1 dX7_inherits_26 rfl (lv_at hl 0 rfl) ?_
    refine mr_get X h kf_X7_55 (by decide) dX7_inherits_27 rfl ?_
    refine lv_iload_n X.1 X.2.1 dX7_inherits_30 rfl (lv_at hl 1 rfl) ?_
    refine mr_ald X h 20 rfl dX7_inherits_31 (i := k0) (v := nI (F 20 (k0)) - 1) rfl (by show _ < 36; omega) rfl ?_
    have b7 := hI.k (k := k0) (by omega)
    refine lv_iadd X.1 X.2.1 dX7_inherits_32 ?_
    refine lv_top (y := nI (20 * k0 + ((F 20 (k0)) - 1))) (add_sh (by omega)) ?_
    refine mr_ald X h 24 rfl dX7_inherits_33 (i := 20 * k0 + ((F 20 (k0)) - 1)) (v := nI (F 24 (20 * k0 + ((F 20 (k0)) - 1)))) rfl (by show _ < 720; omega) rfl ?_
    refine mr_callV X h ck_X7_139 ki_X7_pays ks_X7_pays dX7_inherits_34 (As := [.int (nI (F 16 (k0)) - 1), .int (nI (h0) - 1), .int (nI (F 24 (20 * k0 + ((F 20 (k0)) - 1))))]) (c_X7_pays l G x ar N F B (nI (F 16 (k0)) - 1) (nI (h0) - 1) (nI (F 24 (20 * k0 + ((F 20 (k0)) - 1)))) (F 16 (k0)) h0 (F 24 (20 * k0 + ((F 20 (k0)) - 1))) (show N 1 ≤ 16 by omega) (show F 16 (k0) ≤ N 1 by omega) (show h0 ≤ N 1 by omega) rfl rfl rfl) rfl hl rfl (Nat.le_of_ble_eq_true rfl) ⟨Nat.le_of_ble_eq_true rfl, Nat.le_of_ble_eq_true rfl⟩ ⟨Nat.le_of_ble_eq_true rfl, Nat.le_of_ble_eq_true rfl⟩ ?_
    rintro _ _ _ _ H locs ⟨rfl, rfl, rfl, rfl⟩ h
    refine lv_goto (tgt := 111) X.1 X.2.1 dX7_inherits_37 (by decide) ?_
    refine lv_aload_n X.1 X.2.1 dX7_inherits_111 rfl (lv_at hl 0 rfl) ?_
    refine mr_get X h kf_X7_43 (by decide) dX7_inherits_112 rfl ?_
    refine lv_iload_n X.1 X.2.1 dX7_inherits_115 rfl (lv_at hl 1 rfl) ?_
    refine lv_iload_n X.1 X.2.1 dX7_inherits_116 rfl (lv_at hl 2 rfl) ?_
    refine mr_ast X h 16 rfl (by decide) dX7_inherits_117 (i := k0) (v := h0) rfl (by show _ < 36; omega) rfl (fun H locs h => ?_)
    exact mr_vret X hr hlocks h dX7_inherits_118 ⟨Nat.le_of_ble_eq_true rfl, Nat.le_of_ble_eq_true rfl⟩ (⟨rfl, rfl, by unfold inhF; rw [if_neg (by omega)]; rfl, by unfold inhB; rw [if_neg (by omega)]⟩)
set_option maxHeartbeats 4000000 in
set_option maxRecDepth 100000 in
theorem c_X7_looks (l : Launch) (G : mG) (x : Nat) (ar N : Nat → Nat) (F : Nat → Nat → Nat) (B : Nat → Int32)  (hI : Iv N F) : MMet l yX7_looks cX7_looks 3 none ({ frames := 3, cells := 0, slots := 0, locals := 68 } : Room) G x ar [.ref x] N F B (fun r N' F' B' => r = none ∧ N = N' ∧ SF (lookS N F B (N 13)).1 F' ∧ (lookS N F B (N 13)).2 = B' ∧ Iv N F') := by
  refine MMet.of (by decide) (Nat.le_of_ble_eq_true rfl) ?_
  intro p e s m args below meth c A ls X hr hlocks h hl
  have hl : lv_has ls 3 [(0, .ref x)] := hl
  have hn := hI.n
  refine lv_iconst (v := nI (0)) X.1 X.2.1 dX7_looks_0 (by decide) ?_
  refine lv_istore_n (lv' := [(1, .int (nI (0))), (0, .ref x)]) X.1 X.2.1 dX7_looks_1 rfl hl (by decide) rfl (fun ls hl => ?_)
  have loop : ∀ (n9 : Nat) (k : Nat) (F1 : Nat → Nat → Nat) (B1 : Nat → Int32), (k ≤ N 13) → (N 13 + 1 ≤ k + n9) → (SF (lookS N F B k).1 F1) → ((lookS N F B k).2 = B1) → (Iv N F1) → ∀ (H : Heap) (locs : List Loc) (ls : Array Slot), mM G A s.heap x ar N F1 B1 H locs → lv_has ls 3 [(0, .ref x), (1, .int (nI (k)))] → W p l e ({ frames := 3, cells := 0, slots := 0, locals := 68 } : Room) s m args below meth c H locs 0 0 (MZ G A x ar (fun r N' F' B' => r = none ∧ N = N' ∧ SF (lookS N F B (N 13)).1 F' ∧ (lookS N F B (N 13)).2 = B' ∧ Iv N F') below args s 0 0) (F0 m 2 ls []) := by
    intro n9
    induction n9 with
    | zero => intro k F1 B1 hk hm9 hS hB hI1; exact absurd hm9 (by omega)
    | succ n9 ih_loop =>
      intro k F1 B1 hk hm9 hS hB hI1 H locs ls h hl
      refine lv_iload_n X.1 X.2.1 dX7_looks_2 rfl (lv_at hl 1 rfl) ?_
      refine lv_aload_n X.1 X.2.1 dX7_looks_3 rfl (lv_at hl 0 rfl) ?_
      refine mr_get X h kf_X7_133 (by decide) dX7_looks_4 (v := .int (nI (N 13))) rfl ?_
      refine b_icmp_ge (tgt := 53) X dX7_looks_7 (by decide) (a := ((k : Nat) : Int)) (b := ((N 13 : Nat) : Int)) (nI_ti (by omega)) (nI_ti (by omega)) (fun c1 => ?_) (fun c1 => ?_)
      · skip
        exact mr_vret X hr hlocks h dX7_looks_53 ⟨Nat.le_of_ble_eq_true rfl, Nat.le_of_ble_eq_true rfl⟩ (⟨rfl, rfl, by rw [show k = N 13 by omega] at hS; exact hS, by rw [show k = N 13 by omega] at hB; exact hB, hI1⟩)
      · skip
        refine lv_aload_n X.1 X.2.1 dX7_looks_10 rfl (lv_at hl 0 rfl) ?_
        refine lv_aload_n X.1 X.2.1 dX7_looks_11 rfl (lv_at hl 0 rfl) ?_
        refine mr_get X h kf_X7_37 (by decide) dX7_looks_12 rfl ?_
        refine lv_iload_n X.1 X.2.1 dX7_looks_15 rfl (lv_at hl 1 rfl) ?_
        refine mr_ald X h 14 rfl dX7_looks_16 (i := k) (v := nI (F1 14 (k))) rfl (by show _ < 36; omega) rfl ?_
        have b2 := hI1.k (k := k) (by omega)
        refine mr_callV X h ck_X7_126 ki_X7_counts ks_X7_counts dX7_looks_17 (As := [.int (nI (F1 14 (k)))]) (c_X7_counts l G x ar N F1 B1 (F1 14 (k)) hI1 (by omega)) rfl hl rfl (Nat.le_of_ble_eq_true rfl) ⟨Nat.le_of_ble_eq_true rfl, Nat.le_of_ble_eq_true rfl⟩ ⟨Nat.le_of_ble_eq_true rfl, Nat.le_of_ble_eq_true rfl⟩ ?_
        rintro _ _ _ _ H locs ⟨rfl, rfl, rfl, g, q, rfl, hg⟩ h
        have hb : ∀ z, z < N 1 → g z ≤ 400 ∧ q z ≤ 400 := fun z hz => by have := cnt_b hg (show N 6 ≤ 100 by omega) hz; omega
        refine lv_aload_n X.1 X.2.1 dX7_looks_20 rfl (lv_at hl 0 rfl) ?_
        refine lv_aload_n X.1 X.2.1 dX7_looks_21 rfl (lv_at hl 0 rfl) ?_
        refine mr_get X h kf_X7_40 (by decide) dX7_looks_22 rfl ?_
        refine lv_iload_n X.1 X.2.1 dX7_looks_25 rfl (lv_at hl 1 rfl) ?_
        refine mr_ald X h 15 rfl dX7_looks_26 (i := k) (v := nI (F1 15 (k))) rfl (by show _ < 36; omega) rfl ?_
        refine mr_callV X h ck_X7_130 ki_X7_who ks_X7_who dX7_looks_27 (As := [.int (nI (F1 15 (k)))]) (c_X7_who l G x ar N F1 B1 (F1 15 (k)) g q (show N 1 ≤ 16 by omega) (fun z hz => by first | exact hb z hz | exact hb z (by omega)) (by omega)) rfl hl rfl (Nat.le_of_ble_eq_true rfl) ⟨Nat.le_of_ble_eq_true rfl, Nat.le_of_ble_eq_true rfl⟩ ⟨Nat.le_of_ble_eq_true rfl, Nat.le_of_ble_eq_true rfl⟩ ?_
        rintro _ _ _ _ H locs ⟨rfl, rfl, rfl, rfl⟩ h
        have b3 : who g q (N 1) (F1 15 (k)) ≤ N 1 := whoN_le _ _ _ _ _
        refine lv_istore_n (lv' := [(2, .int (nI (who g q (N 1) (F1 15 (k))) - 1)), (0, .ref x), (1, .int (nI (k)))]) X.1 X.2.1 dX7_looks_30 rfl hl (by decide) rfl (fun ls hl => ?_)
        refine lv_iload_n X.1 X.2.1 dX7_looks_31 rfl (lv_at hl 0 rfl) ?_
        refine lv_aload_n X.1 X.2.1 dX7_looks_32 rfl (lv_at hl 1 rfl) ?_
        refine mr_get X h kf_X7_43 (by decide) dX7_looks_33 rfl ?_
        refine lv_iload_n X.1 X.2.1 dX7_looks_36 rfl (lv_at hl 2 rfl) ?_
        refine mr_ald X h 16 rfl dX7_looks_37 (i := k) (v := nI (F1 16 (k)) - 1) rfl (by show _ < 36; omega) rfl ?_
        refine b_icmp_eq (tgt := 47) X dX7_looks_38 (by decide) (a := ((who g q (N 1) (F1 15 (k)) : Nat) : Int) - 1) (b := ((F1 16 (k) : Nat) : Int) - 1) (eI_ti (by omega)) (eI_ti (by omega)) (fun c4 => ?_) (fun c4 => ?_)
        · skip
          refine lv_iinc (v := nI (k + 1)) (lv' := [(1, .int (nI (k + 1))), (2, .int (nI (who g q (N 1) (F1 15 (k))) - 1)), (0, .ref x)]) X.1 X.2.1 dX7_looks_47 hl (k := 2) rfl (nI_add (k) 1) (by decide) rfl (fun ls hl => ?_)
          refine lv_goto (tgt := 2) X.1 X.2.1 dX7_looks_50 (by decide) ?_
          have hlk := look_f (N := N) (F := F) (B := B) (F1 := sc2 F1 g q) (hS.sc g q) hB (who_heir (F := sc2 F1 g q) hg).symm (show who g q (N 1) (F1 15 k) = F1 16 k by omega)
          exact ih_loop (k + 1) ((sc2 F1 g q)) (B1) (by omega) (by omega) hlk.1 hlk.2 hI1 _ _ _ h (lv_sub hl [2, 0] rfl)
        · skip
          refine lv_aload_n X.1 X.2.1 dX7_looks_41 rfl (lv_at hl 1 rfl) ?_
          refine lv_iload_n X.1 X.2.1 dX7_looks_42 rfl (lv_at hl 2 rfl) ?_
          refine lv_iload_n X.1 X.2.1 dX7_looks_43 rfl (lv_at hl 0 rfl) ?_
          refine mr_callV X h ck_X7_143 ki_X7_inherits ks_X7_inherits dX7_looks_44 (As := [.int (nI (k)), .int (nI (who g q (N 1) (F1 15 (k))) - 1)]) (c_X7_inherits l G x ar N (sc2 F1 g q) B1 k (who g q (N 1) (F1 15 (k))) hI1 (show k < N 13 by omega) (show who g q (N 1) (F1 15 (k)) ≤ N 1 by omega)) rfl hl rfl (Nat.le_of_ble_eq_true rfl) ⟨Nat.le_of_ble_eq_true rfl, Nat.le_of_ble_eq_true rfl⟩ ⟨Nat.le_of_ble_eq_true rfl, Nat.le_of_ble_eq_true rfl⟩ ?_
          rintro _ _ _ _ H locs ⟨rfl, rfl, rfl, rfl⟩ h
          refine lv_iinc (v := nI (k + 1)) (lv' := [(1, .int (nI (k + 1))), (2, .int (nI (who g q (N 1) (F1 15 (k))) - 1)), (0, .ref x)]) X.1 X.2.1 dX7_looks_47 hl (k := 2) rfl (nI_add (k) 1) (by decide) rfl (fun ls hl => ?_)
          refine lv_goto (tgt := 2) X.1 X.2.1 dX7_looks_50 (by decide) ?_
          have hlk := look_t (N := N) (F := F) (B := B) (F1 := sc2 F1 g q) (hS.sc g q) hB (who_heir (F := sc2 F1 g q) hg).symm (show ¬ who g q (N 1) (F1 15 k) = F1 16 k by omega)
          exact ih_loop (k + 1) ((inhF (sc2 F1 g q) k (who g q (N 1) (F1 15 (k))))) ((inhB (sc2 F1 g q) B1 k (who g q (N 1) (F1 15 (k))))) (by omega) (by omega) hlk.1 hlk.2 (Iv.inh (F := sc2 F1 g q) hI1 (by omega) (by rw [who_heir hg]; exact heirS_le _ _ _ _)) _ _ _ h (lv_sub hl [2, 0] rfl)
  exact loop (N 13 + 1) 0 F B (by omega) (by omega) (SF.rf F) rfl hI _ _ _ h (lv_sub hl [1, 0] rfl)
end
section
theorem Iv.set2 {N : Nat → Nat} {F : Nat → Nat → Nat} (h : Iv N F) (r v : Nat) (hv : v ≤ 250001) : Iv N (set1 F 2 r v) := by
  refine ⟨h.1, fun q => ?_, h.2.2.1, h.2.2.2.1, h.2.2.2.2.1, h.2.2.2.2.2⟩
  by_cases hq : q = r
  · subst hq; rw [set1_at]; exact ⟨hv, (h.p q).2⟩
  · rw [set1_off F (Or.inr hq)]; exact h.p q
theorem Iv.pf {N : Nat → Nat} {F : Nat → Nat → Nat} (h : Iv N F) (p d : Nat) (hd : d ≤ 250000) : Iv N (fProof F p d) := by
  refine h.set2 p _ ?_
  have := h.p p
  split <;> omega
theorem look_bad {N : Nat → Nat} {F F2 : Nat → Nat → Nat} {B : Nat → Int32} {k : Nat} (h : SF (lookS N F B k).1 F2) : badN F2 = badN F := by
  have f : ∀ j, (j ≠ 16 ∧ j ≠ 17 ∧ j ≠ 18 ∧ j ≠ 21) → (j ≠ 25 ∧ j ≠ 26 ∧ j ≠ 27) → F2 j = F j := fun j h1 h2 => (h j h2.1 h2.2.1 h2.2.2).trans (lookS_off N F B h1 k)
  exact badN_congr (f 2 (by decide) (by decide)) (f 7 (by decide) (by decide)) (f 10 (by decide) (by decide))
theorem SN29 (N : Nat → Nat) (v : Nat) : SN N (va_up N 29 v) := (SN.rf N).up (Or.inr rfl)
end
section
set_option maxHeartbeats 4000000 in
set_option maxRecDepth 100000 in
theorem c_X7_proof (l : Launch) (G : mG) (x : Nat) (ar N : Nat → Nat) (F : Nat → Nat → Nat) (B : Nat → Int32) (p0 : Int32) (d0 : Int32) (hI : Iv N F) : MMet l yX7_proof cX7_proof 5 (some FieldType.int) ({ frames := 4, cells := 0, slots := 0, locals := 90 } : Room) G x ar [.ref x, .int (p0), .int (d0)] N F B (fun r N' F' B' => MA r N' F' B' (kProof N p0 d0) (nI (badN (fProof F (ix p0) (ix d0)) (N 6))) (N) ((lookS N (fProof F (ix p0) (ix d0)) B (N 13)).1) ((lookS N (fProof F (ix p0) (ix d0)) B (N 13)).2) N F B) := by
  refine MMet.of (by decide) (Nat.le_of_ble_eq_true rfl) ?_
  intro p e s m args below meth c A ls X hr hlocks h hl
  have hl : lv_has ls 5 [(0, .ref x), (1, .int (p0)), (2, .int (d0))] := hl
  have hn := hI.n
  refine lv_aload_n X.1 X.2.1 dX7_proof_0 rfl (lv_at hl 0 rfl) ?_
  refine lv_aload_n X.1 X.2.1 dX7_proof_1 rfl (lv_at hl 0 rfl) ?_
  refine lv_iload_n X.1 X.2.1 dX7_proof_2 rfl (lv_at hl 1 rfl) ?_
  refine mr_callV X h ck_X7_107 ki_X7_isPlayer ks_X7_isPlayer dX7_proof_3 (As := [.int (p0)]) (c_X7_isPlayer l G x ar N F B (p0) hI) rfl hl rfl (Nat.le_of_ble_eq_true rfl) ⟨Nat.le_of_ble_eq_true rfl, Nat.le_of_ble_eq_true rfl⟩ ⟨Nat.le_of_ble_eq_true rfl, Nat.le_of_ble_eq_true rfl⟩ ?_
  rintro _ _ _ _ H locs ⟨rfl, rfl, rfl, rfl⟩ h
  refine b_bool_ne (tgt := 13) X dX7_proof_6 (by decide) (fun c1 => ?_) (fun c1 => ?_)
  · skip
    obtain ⟨j0, hj0, rfl⟩ := iR_t c1 (by omega)
    refine lv_iload_n X.1 X.2.1 dX7_proof_13 rfl (lv_at hl 2 rfl) ?_
    refine lv_iconst (v := nI (0)) X.1 X.2.1 dX7_proof_14 (by decide) ?_
    refine lv_aload_n X.1 X.2.1 dX7_proof_15 rfl (lv_at hl 0 rfl) ?_
    refine mr_get X h kf_X7_90 (by decide) dX7_proof_16 (v := .int (nI (N 0))) rfl ?_
    refine mr_callS X h ck_X7_86 kst_X7_isIn dX7_proof_19 (As := [.int (d0), .int (nI (0)), .int (nI (N 0))]) (c_X7_isIn l G x ar N F B (d0) (nI (0)) (nI (N 0))) rfl hl rfl (Nat.le_of_ble_eq_true rfl) ⟨Nat.le_of_ble_eq_true rfl, Nat.le_of_ble_eq_true rfl⟩ ⟨Nat.le_of_ble_eq_true rfl, Nat.le_of_ble_eq_true rfl⟩ ?_
    rintro _ _ _ _ H locs ⟨rfl, rfl, rfl, rfl⟩ h
    refine lv_top (y := bI (decide (((0 : Nat) : Int) ≤ (d0).toInt ∧ (d0).toInt ≤ ((N 0 : Nat) : Int)))) (by rw [show (d0).toInt = (d0).toInt from rfl, show (nI (0)).toInt = ((0 : Nat) : Int) from nI_ti (by omega), show (nI (N 0)).toInt = ((N 0 : Nat) : Int) from nI_ti (by omega)]) ?_
    refine b_bool_eq (tgt := 29) X dX7_proof_22 (by decide) (fun c2 => ?_) (fun c2 => ?_)
    · skip
      have c2 := of_decide_eq_false c2
      refine lv_iconst (v := nI (2)) X.1 X.2.1 dX7_proof_29 (by decide) ?_
      refine mr_callV X h ck_X7_93 ki_X7_fails ks_X7_fails dX7_proof_30 (As := [.int (nI (2))]) (c_X7_fails l G x ar N F B 2 (by omega)) rfl hl rfl (Nat.le_of_ble_eq_true rfl) ⟨Nat.le_of_ble_eq_true rfl, Nat.le_of_ble_eq_true rfl⟩ ⟨Nat.le_of_ble_eq_true rfl, Nat.le_of_ble_eq_true rfl⟩ ?_
      rintro _ _ _ _ H locs ⟨rfl, rfl, rfl, rfl⟩ h
      refine b_bool_eq (tgt := 38) X dX7_proof_33 (by decide) (fun c3 => ?_) (fun c3 => ?_)
      · skip
        exact absurd c3 (by first | decide | omega)
      · skip
        have c3 := of_decide_eq_true c3
        refine lv_iconst (v := nI (0)) X.1 X.2.1 dX7_proof_36 (by decide) ?_
        exact mr_iret X hr hlocks h dX7_proof_37 ⟨Nat.le_of_ble_eq_true rfl, Nat.le_of_ble_eq_true rfl⟩ (MA.bad ((if_neg (by rw [iR_lt hj0 (by omega)]; decide)).trans (if_neg (by omega))) (by decide))
    · skip
      have c2 := of_decide_eq_true c2
      obtain ⟨j1, hj1l, hj1, rfl⟩ := in_t 0 (n := N 0) c2 (by omega)
      refine lv_iconst (v := nI (0)) X.1 X.2.1 dX7_proof_25 (by decide) ?_
      refine lv_goto (tgt := 30) X.1 X.2.1 dX7_proof_26 (by decide) ?_
      refine mr_callV X h ck_X7_93 ki_X7_fails ks_X7_fails dX7_proof_30 (As := [.int (nI (0))]) (c_X7_fails l G x ar N F B 0 (by omega)) rfl hl rfl (Nat.le_of_ble_eq_true rfl) ⟨Nat.le_of_ble_eq_true rfl, Nat.le_of_ble_eq_true rfl⟩ ⟨Nat.le_of_ble_eq_true rfl, Nat.le_of_ble_eq_true rfl⟩ ?_
      rintro _ _ _ _ H locs ⟨rfl, rfl, rfl, rfl⟩ h
      refine b_bool_eq (tgt := 38) X dX7_proof_33 (by decide) (fun c4 => ?_) (fun c4 => ?_)
      · skip
        have c4 := of_decide_eq_false c4
        refine lv_aload_n X.1 X.2.1 dX7_proof_38 rfl (lv_at hl 0 rfl) ?_
        refine mr_get X h kf_X7_7 (by decide) dX7_proof_39 rfl ?_
        refine lv_iload_n X.1 X.2.1 dX7_proof_42 rfl (lv_at hl 1 rfl) ?_
        refine lv_aload_n X.1 X.2.1 dX7_proof_43 rfl (lv_at hl 0 rfl) ?_
        refine mr_get X h kf_X7_7 (by decide) dX7_proof_44 rfl ?_
        refine lv_iload_n X.1 X.2.1 dX7_proof_47 rfl (lv_at hl 1 rfl) ?_
        refine mr_ald X h 2 rfl dX7_proof_48 (i := j0) (v := nI (F 2 (j0)) - 1) rfl (by show _ < 16; omega) rfl ?_
        have b5 := hI.p j0
        refine lv_iconst (v := nI (0) - 1) X.1 X.2.1 dX7_proof_49 (by decide) ?_
        refine b_icmp_eq (tgt := 63) X dX7_proof_50 (by decide) (a := ((F 2 (j0) : Nat) : Int) - 1) (b := ((0 : Nat) : Int) - 1) (eI_ti (by omega)) (eI_ti (by omega)) (fun c6 => ?_) (fun c6 => ?_)
        · skip
          refine lv_iload_n X.1 X.2.1 dX7_proof_63 rfl (lv_at hl 2 rfl) ?_
          refine lv_goto (tgt := 73) X.1 X.2.1 dX7_proof_64 (by decide) ?_
          refine mr_ast X h 2 rfl (by decide) dX7_proof_73 (i := j0) (v := j1 + 1) rfl (by show _ < 16; omega) (eI_suc _) (fun H locs h => ?_)
          refine lv_aload_n X.1 X.2.1 dX7_proof_74 rfl (lv_at hl 0 rfl) ?_
          have hF : set1 F 2 j0 (j1 + 1) = fProof F j0 j1 := by unfold fProof; first | (rw [if_pos (by omega)]; done) | (rw [if_neg (by omega)]; done)
          have h : mM G A s.heap x ar (va_up N 29 (0)) (fProof F j0 j1) B H locs := by rw [← hF]; exact h
          refine mr_callV X h ck_X7_147 ki_X7_looks ks_X7_looks dX7_proof_75 (As := []) (c_X7_looks l G x ar (va_up N 29 (0)) (fProof F j0 j1) B (hI.pf j0 j1 (by omega))) rfl hl rfl (Nat.le_of_ble_eq_true rfl) ⟨Nat.le_of_ble_eq_true rfl, Nat.le_of_ble_eq_true rfl⟩ ⟨Nat.le_of_ble_eq_true rfl, Nat.le_of_ble_eq_true rfl⟩ ?_
          rintro _ _ F2 _ H locs ⟨rfl, rfl, hS2, rfl, hI2⟩ h
          refine lv_iconst (v := nI (0)) X.1 X.2.1 dX7_proof_78 (by decide) ?_
          refine lv_istore_n (lv' := [(3, .int (nI (0))), (0, .ref x), (1, .int (nI (j0))), (2, .int (nI (j1)))]) X.1 X.2.1 dX7_proof_79 rfl hl (by decide) rfl (fun ls hl => ?_)
          refine lv_iconst (v := nI (0)) X.1 X.2.1 dX7_proof_80 (by decide) ?_
          refine lv_istore (lv' := [(4, .int (nI (0))), (3, .int (nI (0))), (0, .ref x), (1, .int (nI (j0))), (2, .int (nI (j1)))]) X.1 X.2.1 dX7_proof_81 hl (by decide) rfl (fun ls hl => ?_)
          have loop : ∀ (n9 : Nat) (i : Nat) (t : Nat), (i ≤ N 6) → (N 6 + 1 ≤ i + n9) → (t = badN F2 i) → ∀ (H : Heap) (locs : List Loc) (ls : Array Slot), mM G A s.heap x ar (va_up N 29 (0)) F2 (lookS (va_up N 29 (0)) (fProof F j0 j1) B ((va_up N 29 (0)) 13)).2 H locs → lv_has ls 5 [(0, .ref x), (1, .int (nI (j0))), (2, .int (nI (j1))), (3, .int (nI (t))), (4, .int (nI (i)))] → W p l e ({ frames := 4, cells := 0, slots := 0, locals := 90 } : Room) s m args below meth c H locs 0 0 (MZ G A x ar (fun r N' F' B' => MA r N' F' B' (kProof N (nI j0) (nI j1)) (nI (badN (fProof F (ix (nI j0)) (ix (nI j1))) (N 6))) (N) ((lookS N (fProof F (ix (nI j0)) (ix (nI j1))) B (N 13)).1) ((lookS N (fProof F (ix (nI j0)) (ix (nI j1))) B (N 13)).2) N F B) below args s 0 0) (F0 m 83 ls []) := by
            intro n9
            induction n9 with
            | zero => intro i t hi hm9 ht; exact absurd hm9 (by omega)
            | succ n9 ih_loop =>
              intro i t hi hm9 ht H locs ls h hl
              have ht2 := badN_le F2 i
              refine lv_iload X.1 X.2.1 dX7_proof_83 (lv_at hl 4 rfl) ?_
              refine lv_aload_n X.1 X.2.1 dX7_proof_85 rfl (lv_at hl 0 rfl) ?_
              refine mr_get X h kf_X7_97 (by decide) dX7_proof_86 (v := .int (nI (N 6))) rfl ?_
              refine b_icmp_ge (tgt := 115) X dX7_proof_89 (by decide) (a := ((i : Nat) : Int)) (b := ((N 6 : Nat) : Int)) (nI_ti (by omega)) (nI_ti (by omega)) (fun c7 => ?_) (fun c7 => ?_)
              · skip
                refine lv_iload_n X.1 X.2.1 dX7_proof_115 rfl (lv_at hl 3 rfl) ?_
                exact mr_iret X hr hlocks h dX7_proof_116 ⟨Nat.le_of_ble_eq_true rfl, Nat.le_of_ble_eq_true rfl⟩ (MA.ok ((if_neg (by rw [iR_lt hj0 (by omega)]; decide)).trans (if_pos (by rw [nI_ti (by omega)]; omega))) (by rw [ht, show i = N 6 by omega, ix_nI (by omega), ix_nI (by omega), look_bad hS2]) rfl (fun k h1 h2 => by simp [va_up, h1, h2]) (by rw [ix_nI (by omega), ix_nI (by omega), ← lookS_N (SN29 N 0)]; exact hS2) (by rw [ix_nI (by omega), ix_nI (by omega), ← lookS_N (SN29 N 0)]; rfl))
              · skip
                refine lv_iload_n X.1 X.2.1 dX7_proof_92 rfl (lv_at hl 3 rfl) ?_
                refine lv_aload_n X.1 X.2.1 dX7_proof_93 rfl (lv_at hl 0 rfl) ?_
                refine lv_iload X.1 X.2.1 dX7_proof_94 (lv_at hl 4 rfl) ?_
                refine mr_callV X h ck_X7_116 ki_X7_isGood ks_X7_isGood dX7_proof_96 (As := [.int (nI (i))]) (c_X7_isGood l G x ar (va_up N 29 (0)) F2 ((lookS (va_up N 29 (0)) (fProof F j0 j1) B ((va_up N 29 (0)) 13)).2) i hI2 (show i < N 6 by omega)) rfl hl rfl (Nat.le_of_ble_eq_true rfl) ⟨Nat.le_of_ble_eq_true rfl, Nat.le_of_ble_eq_true rfl⟩ ⟨Nat.le_of_ble_eq_true rfl, Nat.le_of_ble_eq_true rfl⟩ ?_
                rintro _ _ _ _ H locs ⟨rfl, rfl, rfl, rfl⟩ h
                refine b_bool_eq (tgt := 106) X dX7_proof_99 (by decide) (fun c8 => ?_) (fun c8 => ?_)
                · skip
                  refine lv_iconst (v := nI (1)) X.1 X.2.1 dX7_proof_106 (by decide) ?_
                  refine lv_iadd X.1 X.2.1 dX7_proof_107 ?_
                  refine lv_top (y := nI (t + 1)) (nI_add _ _) ?_
                  refine lv_istore_n (lv' := [(3, .int (nI (t + 1))), (0, .ref x), (1, .int (nI (j0))), (2, .int (nI (j1))), (4, .int (nI (i)))]) X.1 X.2.1 dX7_proof_108 rfl hl (by decide) rfl (fun ls hl => ?_)
                  refine lv_iinc (v := nI (i + 1)) (lv' := [(4, .int (nI (i + 1))), (3, .int (nI (t + 1))), (0, .ref x), (1, .int (nI (j0))), (2, .int (nI (j1)))]) X.1 X.2.1 dX7_proof_109 hl (k := 4) rfl (nI_add (i) 1) (by decide) rfl (fun ls hl => ?_)
                  refine lv_goto (tgt := 83) X.1 X.2.1 dX7_proof_112 (by decide) ?_
                  exact ih_loop (i + 1) (t + 1) (by omega) (by omega) (by subst ht; first | exact badN_t (by assumption) | exact badN_f (by assumption)) _ _ _ h (lv_sub hl [2, 3, 4, 1, 0] rfl)
                · skip
                  refine lv_iconst (v := nI (0)) X.1 X.2.1 dX7_proof_102 (by decide) ?_
                  refine lv_goto (tgt := 107) X.1 X.2.1 dX7_proof_103 (by decide) ?_
                  refine lv_iadd X.1 X.2.1 dX7_proof_107 ?_
                  refine lv_top (y := nI (t + 0)) (nI_add _ _) ?_
                  refine lv_istore_n (lv' := [(3, .int (nI (t + 0))), (0, .ref x), (1, .int (nI (j0))), (2, .int (nI (j1))), (4, .int (nI (i)))]) X.1 X.2.1 dX7_proof_108 rfl hl (by decide) rfl (fun ls hl => ?_)
                  refine lv_iinc (v := nI (i + 1)) (lv' := [(4, .int (nI (i + 1))), (3, .int (nI (t + 0))), (0, .ref x), (1, .int (nI (j0))), (2, .int (nI (j1)))]) X.1 X.2.1 dX7_proof_109 hl (k := 4) rfl (nI_add (i) 1) (by decide) rfl (fun ls hl => ?_)
                  refine lv_goto (tgt := 83) X.1 X.2.1 dX7_proof_112 (by decide) ?_
                  exact ih_loop (i + 1) (t + 0) (by omega) (by omega) (by subst ht; first | exact badN_t (by assumption) | exact badN_f (by assumption)) _ _ _ h (lv_sub hl [2, 3, 4, 1, 0] rfl)
          exact loop (N 6 + 1) 0 0 (by omega) (by omega) rfl _ _ _ h (lv_sub hl [2, 3, 4, 1, 0] rfl)
        · skip
          refine lv_iload_n X.1 X.2.1 dX7_proof_53 rfl (lv_at hl 2 rfl) ?_
          refine lv_aload_n X.1 X.2.1 dX7_proof_54 rfl (lv_at hl 0 rfl) ?_
          refine mr_get X h kf_X7_7 (by decide) dX7_proof_55 rfl ?_
          refine lv_iload_n X.1 X.2.1 dX7_proof_58 rfl (lv_at hl 1 rfl) ?_
          refine mr_ald X h 2 rfl dX7_proof_59 (i := j0) (v := nI (F 2 (j0)) - 1) rfl (by show _ < 16; omega) rfl ?_
          have b9 := hI.p j0
          refine b_icmp_ge (tgt := 67) X dX7_proof_60 (by decide) (a := ((j1 : Nat) : Int)) (b := ((F 2 (j0) : Nat) : Int) - 1) (nI_ti (by omega)) (eI_ti (by omega)) (fun c10 => ?_) (fun c10 => ?_)
          · skip
            refine lv_aload_n X.1 X.2.1 dX7_proof_67 rfl (lv_at hl 0 rfl) ?_
            refine mr_get X h kf_X7_7 (by decide) dX7_proof_68 rfl ?_
            refine lv_iload_n X.1 X.2.1 dX7_proof_71 rfl (lv_at hl 1 rfl) ?_
            refine mr_ald X h 2 rfl dX7_proof_72 (i := j0) (v := nI (F 2 (j0)) - 1) rfl (by show _ < 16; omega) rfl ?_
            have b11 := hI.p j0
            refine mr_ast X h 2 rfl (by decide) dX7_proof_73 (i := j0) (v := F 2 (j0)) rfl (by show _ < 16; omega) rfl (fun H locs h => ?_)
            refine lv_aload_n X.1 X.2.1 dX7_proof_74 rfl (lv_at hl 0 rfl) ?_
            have hF : set1 F 2 j0 (F 2 (j0)) = fProof F j0 j1 := by unfold fProof; first | (rw [if_pos (by omega)]; done) | (rw [if_neg (by omega)]; done)
            have h : mM G A s.heap x ar (va_up N 29 (0)) (fProof F j0 j1) B H locs := by rw [← hF]; exact h
            refine mr_callV X h ck_X7_147 ki_X7_looks ks_X7_looks dX7_proof_75 (As := []) (c_X7_looks l G x ar (va_up N 29 (0)) (fProof F j0 j1) B (hI.pf j0 j1 (by omega))) rfl hl rfl (Nat.le_of_ble_eq_true rfl) ⟨Nat.le_of_ble_eq_true rfl, Nat.le_of_ble_eq_true rfl⟩ ⟨Nat.le_of_ble_eq_true rfl, Nat.le_of_ble_eq_true rfl⟩ ?_
            rintro _ _ F2 _ H locs ⟨rfl, rfl, hS2, rfl, hI2⟩ h
            refine lv_iconst (v := nI (0)) X.1 X.2.1 dX7_proof_78 (by decide) ?_
            refine lv_istore_n (lv' := [(3, .int (nI (0))), (0, .ref x), (1, .int (nI (j0))), (2, .int (nI (j1)))]) X.1 X.2.1 dX7_proof_79 rfl hl (by decide) rfl (fun ls hl => ?_)
            refine lv_iconst (v := nI (0)) X.1 X.2.1 dX7_proof_80 (by decide) ?_
            refine lv_istore (lv' := [(4, .int (nI (0))), (3, .int (nI (0))), (0, .ref x), (1, .int (nI (j0))), (2, .int (nI (j1)))]) X.1 X.2.1 dX7_proof_81 hl (by decide) rfl (fun ls hl => ?_)
            have loop : ∀ (n9 : Nat) (i : Nat) (t : Nat), (i ≤ N 6) → (N 6 + 1 ≤ i + n9) → (t = badN F2 i) → ∀ (H : Heap) (locs : List Loc) (ls : Array Slot), mM G A s.heap x ar (va_up N 29 (0)) F2 (lookS (va_up N 29 (0)) (fProof F j0 j1) B ((va_up N 29 (0)) 13)).2 H locs → lv_has ls 5 [(0, .ref x), (1, .int (nI (j0))), (2, .int (nI (j1))), (3, .int (nI (t))), (4, .int (nI (i)))] → W p l e ({ frames := 4, cells := 0, slots := 0, locals := 90 } : Room) s m args below meth c H locs 0 0 (MZ G A x ar (fun r N' F' B' => MA r N' F' B' (kProof N (nI j0) (nI j1)) (nI (badN (fProof F (ix (nI j0)) (ix (nI j1))) (N 6))) (N) ((lookS N (fProof F (ix (nI j0)) (ix (nI j1))) B (N 13)).1) ((lookS N (fProof F (ix (nI j0)) (ix (nI j1))) B (N 13)).2) N F B) below args s 0 0) (F0 m 83 ls []) := by
              intro n9
              induction n9 with
              | zero => intro i t hi hm9 ht; exact absurd hm9 (by omega)
              | succ n9 ih_loop =>
                intro i t hi hm9 ht H locs ls h hl
                have ht2 := badN_le F2 i
                refine lv_iload X.1 X.2.1 dX7_proof_83 (lv_at hl 4 rfl) ?_
                refine lv_aload_n X.1 X.2.1 dX7_proof_85 rfl (lv_at hl 0 rfl) ?_
                refine mr_get X h kf_X7_97 (by decide) dX7_proof_86 (v := .int (nI (N 6))) rfl ?_
                refine b_icmp_ge (tgt := 115) X dX7_proof_89 (by decide) (a := ((i : Nat) : Int)) (b := ((N 6 : Nat) : Int)) (nI_ti (by omega)) (nI_ti (by omega)) (fun c12 => ?_) (fun c12 => ?_)
                · skip
                  refine lv_iload_n X.1 X.2.1 dX7_proof_115 rfl (lv_at hl 3 rfl) ?_
                  exact mr_iret X hr hlocks h dX7_proof_116 ⟨Nat.le_of_ble_eq_true rfl, Nat.le_of_ble_eq_true rfl⟩ (MA.ok ((if_neg (by rw [iR_lt hj0 (by omega)]; decide)).trans (if_pos (by rw [nI_ti (by omega)]; omega))) (by rw [ht, show i = N 6 by omega, ix_nI (by omega), ix_nI (by omega), look_bad hS2]) rfl (fun k h1 h2 => by simp [va_up, h1, h2]) (by rw [ix_nI (by omega), ix_nI (by omega), ← lookS_N (SN29 N 0)]; exact hS2) (by rw [ix_nI (by omega), ix_nI (by omega), ← lookS_N (SN29 N 0)]; rfl))
                · skip
                  refine lv_iload_n X.1 X.2.1 dX7_proof_92 rfl (lv_at hl 3 rfl) ?_
                  refine lv_aload_n X.1 X.2.1 dX7_proof_93 rfl (lv_at hl 0 rfl) ?_
                  refine lv_iload X.1 X.2.1 dX7_proof_94 (lv_at hl 4 rfl) ?_
                  refine mr_callV X h ck_X7_116 ki_X7_isGood ks_X7_isGood dX7_proof_96 (As := [.int (nI (i))]) (c_X7_isGood l G x ar (va_up N 29 (0)) F2 ((lookS (va_up N 29 (0)) (fProof F j0 j1) B ((va_up N 29 (0)) 13)).2) i hI2 (show i < N 6 by omega)) rfl hl rfl (Nat.le_of_ble_eq_true rfl) ⟨Nat.le_of_ble_eq_true rfl, Nat.le_of_ble_eq_true rfl⟩ ⟨Nat.le_of_ble_eq_true rfl, Nat.le_of_ble_eq_true rfl⟩ ?_
                  rintro _ _ _ _ H locs ⟨rfl, rfl, rfl, rfl⟩ h
                  refine b_bool_eq (tgt := 106) X dX7_proof_99 (by decide) (fun c13 => ?_) (fun c13 => ?_)
                  · skip
                    refine lv_iconst (v := nI (1)) X.1 X.2.1 dX7_proof_106 (by decide) ?_
                    refine lv_iadd X.1 X.2.1 dX7_proof_107 ?_
                    refine lv_top (y := nI (t + 1)) (nI_add _ _) ?_
                    refine lv_istore_n (lv' := [(3, .int (nI (t + 1))), (0, .ref x), (1, .int (nI (j0))), (2, .int (nI (j1))), (4, .int (nI (i)))]) X.1 X.2.1 dX7_proof_108 rfl hl (by decide) rfl (fun ls hl => ?_)
                    refine lv_iinc (v := nI (i + 1)) (lv' := [(4, .int (nI (i + 1))), (3, .int (nI (t + 1))), (0, .ref x), (1, .int (nI (j0))), (2, .int (nI (j1)))]) X.1 X.2.1 dX7_proof_109 hl (k := 4) rfl (nI_add (i) 1) (by decide) rfl (fun ls hl => ?_)
                    refine lv_goto (tgt := 83) X.1 X.2.1 dX7_proof_112 (by decide) ?_
                    exact ih_loop (i + 1) (t + 1) (by omega) (by omega) (by subst ht; first | exact badN_t (by assumption) | exact badN_f (by assumption)) _ _ _ h (lv_sub hl [2, 3, 4, 1, 0] rfl)
                  · skip
                    refine lv_iconst (v := nI (0)) X.1 X.2.1 dX7_proof_102 (by decide) ?_
                    refine lv_goto (tgt := 107) X.1 X.2.1 dX7_proof_103 (by decide) ?_
                    refine lv_iadd X.1 X.2.1 dX7_proof_107 ?_
                    refine lv_top (y := nI (t + 0)) (nI_add _ _) ?_
                    refine lv_istore_n (lv' := [(3, .int (nI (t + 0))), (0, .ref x), (1, .int (nI (j0))), (2, .int (nI (j1))), (4, .int (nI (i)))]) X.1 X.2.1 dX7_proof_108 rfl hl (by decide) rfl (fun ls hl => ?_)
                    refine lv_iinc (v := nI (i + 1)) (lv' := [(4, .int (nI (i + 1))), (3, .int (nI (t + 0))), (0, .ref x), (1, .int (nI (j0))), (2, .int (nI (j1)))]) X.1 X.2.1 dX7_proof_109 hl (k := 4) rfl (nI_add (i) 1) (by decide) rfl (fun ls hl => ?_)
                    refine lv_goto (tgt := 83) X.1 X.2.1 dX7_proof_112 (by decide) ?_
                    exact ih_loop (i + 1) (t + 0) (by omega) (by omega) (by subst ht; first | exact badN_t (by assumption) | exact badN_f (by assumption)) _ _ _ h (lv_sub hl [2, 3, 4, 1, 0] rfl)
            exact loop (N 6 + 1) 0 0 (by omega) (by omega) rfl _ _ _ h (lv_sub hl [2, 3, 4, 1, 0] rfl)
          · skip
            refine lv_iload_n X.1 X.2.1 dX7_proof_63 rfl (lv_at hl 2 rfl) ?_
            refine lv_goto (tgt := 73) X.1 X.2.1 dX7_proof_64 (by decide) ?_
            refine mr_ast X h 2 rfl (by decide) dX7_proof_73 (i := j0) (v := j1 + 1) rfl (by show _ < 16; omega) (eI_suc _) (fun H locs h => ?_)
            refine lv_aload_n X.1 X.2.1 dX7_proof_74 rfl (lv_at hl 0 rfl) ?_
            have hF : set1 F 2 j0 (j1 + 1) = fProof F j0 j1 := by unfold fProof; first | (rw [if_pos (by omega)]; done) | (rw [if_neg (by omega)]; done)
            have h : mM G A s.heap x ar (va_up N 29 (0)) (fProof F j0 j1) B H locs := by rw [← hF]; exact h
            refine mr_callV X h ck_X7_147 ki_X7_looks ks_X7_looks dX7_proof_75 (As := []) (c_X7_looks l G x ar (va_up N 29 (0)) (fProof F j0 j1) B (hI.pf j0 j1 (by omega))) rfl hl rfl (Nat.le_of_ble_eq_true rfl) ⟨Nat.le_of_ble_eq_true rfl, Nat.le_of_ble_eq_true rfl⟩ ⟨Nat.le_of_ble_eq_true rfl, Nat.le_of_ble_eq_true rfl⟩ ?_
            rintro _ _ F2 _ H locs ⟨rfl, rfl, hS2, rfl, hI2⟩ h
            refine lv_iconst (v := nI (0)) X.1 X.2.1 dX7_proof_78 (by decide) ?_
            refine lv_istore_n (lv' := [(3, .int (nI (0))), (0, .ref x), (1, .int (nI (j0))), (2, .int (nI (j1)))]) X.1 X.2.1 dX7_proof_79 rfl hl (by decide) rfl (fun ls hl => ?_)
            refine lv_iconst (v := nI (0)) X.1 X.2.1 dX7_proof_80 (by decide) ?_
            refine lv_istore (lv' := [(4, .int (nI (0))), (3, .int (nI (0))), (0, .ref x), (1, .int (nI (j0))), (2, .int (nI (j1)))]) X.1 X.2.1 dX7_proof_81 hl (by decide) rfl (fun ls hl => ?_)
            have loop : ∀ (n9 : Nat) (i : Nat) (t : Nat), (i ≤ N 6) → (N 6 + 1 ≤ i + n9) → (t = badN F2 i) → ∀ (H : Heap) (locs : List Loc) (ls : Array Slot), mM G A s.heap x ar (va_up N 29 (0)) F2 (lookS (va_up N 29 (0)) (fProof F j0 j1) B ((va_up N 29 (0)) 13)).2 H locs → lv_has ls 5 [(0, .ref x), (1, .int (nI (j0))), (2, .int (nI (j1))), (3, .int (nI (t))), (4, .int (nI (i)))] → W p l e ({ frames := 4, cells := 0, slots := 0, locals := 90 } : Room) s m args below meth c H locs 0 0 (MZ G A x ar (fun r N' F' B' => MA r N' F' B' (kProof N (nI j0) (nI j1)) (nI (badN (fProof F (ix (nI j0)) (ix (nI j1))) (N 6))) (N) ((lookS N (fProof F (ix (nI j0)) (ix (nI j1))) B (N 13)).1) ((lookS N (fProof F (ix (nI j0)) (ix (nI j1))) B (N 13)).2) N F B) below args s 0 0) (F0 m 83 ls []) := by
              intro n9
              induction n9 with
              | zero => intro i t hi hm9 ht; exact absurd hm9 (by omega)
              | succ n9 ih_loop =>
                intro i t hi hm9 ht H locs ls h hl
                have ht2 := badN_le F2 i
                refine lv_iload X.1 X.2.1 dX7_proof_83 (lv_at hl 4 rfl) ?_
                refine lv_aload_n X.1 X.2.1 dX7_proof_85 rfl (lv_at hl 0 rfl) ?_
                refine mr_get X h kf_X7_97 (by decide) dX7_proof_86 (v := .int (nI (N 6))) rfl ?_
                refine b_icmp_ge (tgt := 115) X dX7_proof_89 (by decide) (a := ((i : Nat) : Int)) (b := ((N 6 : Nat) : Int)) (nI_ti (by omega)) (nI_ti (by omega)) (fun c14 => ?_) (fun c14 => ?_)
                · skip
                  refine lv_iload_n X.1 X.2.1 dX7_proof_115 rfl (lv_at hl 3 rfl) ?_
                  exact mr_iret X hr hlocks h dX7_proof_116 ⟨Nat.le_of_ble_eq_true rfl, Nat.le_of_ble_eq_true rfl⟩ (MA.ok ((if_neg (by rw [iR_lt hj0 (by omega)]; decide)).trans (if_pos (by rw [nI_ti (by omega)]; omega))) (by rw [ht, show i = N 6 by omega, ix_nI (by omega), ix_nI (by omega), look_bad hS2]) rfl (fun k h1 h2 => by simp [va_up, h1, h2]) (by rw [ix_nI (by omega), ix_nI (by omega), ← lookS_N (SN29 N 0)]; exact hS2) (by rw [ix_nI (by omega), ix_nI (by omega), ← lookS_N (SN29 N 0)]; rfl))
                · skip
                  refine lv_iload_n X.1 X.2.1 dX7_proof_92 rfl (lv_at hl 3 rfl) ?_
                  refine lv_aload_n X.1 X.2.1 dX7_proof_93 rfl (lv_at hl 0 rfl) ?_
                  refine lv_iload X.1 X.2.1 dX7_proof_94 (lv_at hl 4 rfl) ?_
                  refine mr_callV X h ck_X7_116 ki_X7_isGood ks_X7_isGood dX7_proof_96 (As := [.int (nI (i))]) (c_X7_isGood l G x ar (va_up N 29 (0)) F2 ((lookS (va_up N 29 (0)) (fProof F j0 j1) B ((va_up N 29 (0)) 13)).2) i hI2 (show i < N 6 by omega)) rfl hl rfl (Nat.le_of_ble_eq_true rfl) ⟨Nat.le_of_ble_eq_true rfl, Nat.le_of_ble_eq_true rfl⟩ ⟨Nat.le_of_ble_eq_true rfl, Nat.le_of_ble_eq_true rfl⟩ ?_
                  rintro _ _ _ _ H locs ⟨rfl, rfl, rfl, rfl⟩ h
                  refine b_bool_eq (tgt := 106) X dX7_proof_99 (by decide) (fun c15 => ?_) (fun c15 => ?_)
                  · skip
                    refine lv_iconst (v := nI (1)) X.1 X.2.1 dX7_proof_106 (by decide) ?_
                    refine lv_iadd X.1 X.2.1 dX7_proof_107 ?_
                    refine lv_top (y := nI (t + 1)) (nI_add _ _) ?_
                    refine lv_istore_n (lv' := [(3, .int (nI (t + 1))), (0, .ref x), (1, .int (nI (j0))), (2, .int (nI (j1))), (4, .int (nI (i)))]) X.1 X.2.1 dX7_proof_108 rfl hl (by decide) rfl (fun ls hl => ?_)
                    refine lv_iinc (v := nI (i + 1)) (lv' := [(4, .int (nI (i + 1))), (3, .int (nI (t + 1))), (0, .ref x), (1, .int (nI (j0))), (2, .int (nI (j1)))]) X.1 X.2.1 dX7_proof_109 hl (k := 4) rfl (nI_add (i) 1) (by decide) rfl (fun ls hl => ?_)
                    refine lv_goto (tgt := 83) X.1 X.2.1 dX7_proof_112 (by decide) ?_
                    exact ih_loop (i + 1) (t + 1) (by omega) (by omega) (by subst ht; first | exact badN_t (by assumption) | exact badN_f (by assumption)) _ _ _ h (lv_sub hl [2, 3, 4, 1, 0] rfl)
                  · skip
                    refine lv_iconst (v := nI (0)) X.1 X.2.1 dX7_proof_102 (by decide) ?_
                    refine lv_goto (tgt := 107) X.1 X.2.1 dX7_proof_103 (by decide) ?_
                    refine lv_iadd X.1 X.2.1 dX7_proof_107 ?_
                    refine lv_top (y := nI (t + 0)) (nI_add _ _) ?_
                    refine lv_istore_n (lv' := [(3, .int (nI (t + 0))), (0, .ref x), (1, .int (nI (j0))), (2, .int (nI (j1))), (4, .int (nI (i)))]) X.1 X.2.1 dX7_proof_108 rfl hl (by decide) rfl (fun ls hl => ?_)
                    refine lv_iinc (v := nI (i + 1)) (lv' := [(4, .int (nI (i + 1))), (3, .int (nI (t + 0))), (0, .ref x), (1, .int (nI (j0))), (2, .int (nI (j1)))]) X.1 X.2.1 dX7_proof_109 hl (k := 4) rfl (nI_add (i) 1) (by decide) rfl (fun ls hl => ?_)
                    refine lv_goto (tgt := 83) X.1 X.2.1 dX7_proof_112 (by decide) ?_
                    exact ih_loop (i + 1) (t + 0) (by omega) (by omega) (by subst ht; first | exact badN_t (by assumption) | exact badN_f (by assumption)) _ _ _ h (lv_sub hl [2, 3, 4, 1, 0] rfl)
            exact loop (N 6 + 1) 0 0 (by omega) (by omega) rfl _ _ _ h (lv_sub hl [2, 3, 4, 1, 0] rfl)
      · skip
        exact absurd c4 (by first | decide | omega)
  · skip
    refine lv_iconst (v := nI (1)) X.1 X.2.1 dX7_proof_9 (by decide) ?_
    refine lv_goto (tgt := 30) X.1 X.2.1 dX7_proof_10 (by decide) ?_
    refine mr_callV X h ck_X7_93 ki_X7_fails ks_X7_fails dX7_proof_30 (As := [.int (nI (1))]) (c_X7_fails l G x ar N F B 1 (by omega)) rfl hl rfl (Nat.le_of_ble_eq_true rfl) ⟨Nat.le_of_ble_eq_true rfl, Nat.le_of_ble_eq_true rfl⟩ ⟨Nat.le_of_ble_eq_true rfl, Nat.le_of_ble_eq_true rfl⟩ ?_
    rintro _ _ _ _ H locs ⟨rfl, rfl, rfl, rfl⟩ h
    refine b_bool_eq (tgt := 38) X dX7_proof_33 (by decide) (fun c16 => ?_) (fun c16 => ?_)
    · skip
      exact absurd c16 (by first | decide | omega)
    · skip
      have c16 := of_decide_eq_true c16
      refine lv_iconst (v := nI (0)) X.1 X.2.1 dX7_proof_36 (by decide) ?_
      exact mr_iret X hr hlocks h dX7_proof_37 ⟨Nat.le_of_ble_eq_true rfl, Nat.le_of_ble_eq_true rfl⟩ (MA.bad (if_pos c1) (by decide))
set_option maxHeartbeats 4000000 in
set_option maxRecDepth 100000 in
theorem c_X7_clear (l : Launch) (G : mG) (x : Nat) (ar N : Nat → Nat) (F : Nat → Nat → Nat) (B : Nat → Int32) (p0 : Int32) (hI : Iv N F) : MMet l yX7_clear cX7_clear 3 (some FieldType.int) ({ frames := 4, cells := 0, slots := 0, locals := 90 } : Room) G x ar [.ref x, .int (p0)] N F B (fun r N' F' B' => MA r N' F' B' (kClear N F p0) (nI (F 2 (ix p0)) - 1) (N) ((lookS N (set1 F 2 (ix p0) 0) B (N 13)).1) ((lookS N (set1 F 2 (ix p0) 0) B (N 13)).2) N F B) := by
  refine MMet.of (by decide) (Nat.le_of_ble_eq_true rfl) ?_
  intro p e s m args below meth c A ls X hr hlocks h hl
  have hl : lv_has ls 3 [(0, .ref x), (1, .int (p0))] := hl
  have hn := hI.n
  refine lv_aload_n X.1 X.2.1 dX7_clear_0 rfl (lv_at hl 0 rfl) ?_
  refine lv_aload_n X.1 X.2.1 dX7_clear_1 rfl (lv_at hl 0 rfl) ?_
  refine lv_iload_n X.1 X.2.1 dX7_clear_2 rfl (lv_at hl 1 rfl) ?_
  refine mr_callV X h ck_X7_107 ki_X7_isPlayer ks_X7_isPlayer dX7_clear_3 (As := [.int (p0)]) (c_X7_isPlayer l G x ar N F B (p0) hI) rfl hl rfl (Nat.le_of_ble_eq_true rfl) ⟨Nat.le_of_ble_eq_true rfl, Nat.le_of_ble_eq_true rfl⟩ ⟨Nat.le_of_ble_eq_true rfl, Nat.le_of_ble_eq_true rfl⟩ ?_
  rintro _ _ _ _ H locs ⟨rfl, rfl, rfl, rfl⟩ h
  refine b_bool_ne (tgt := 13) X dX7_clear_6 (by decide) (fun c1 => ?_) (fun c1 => ?_)
  · skip
    obtain ⟨j0, hj0, rfl⟩ := iR_t c1 (by omega)
    refine lv_aload_n X.1 X.2.1 dX7_clear_13 rfl (lv_at hl 0 rfl) ?_
    refine mr_get X h kf_X7_7 (by decide) dX7_clear_14 rfl ?_
    refine lv_iload_n X.1 X.2.1 dX7_clear_17 rfl (lv_at hl 1 rfl) ?_
    refine mr_ald X h 2 rfl dX7_clear_18 (i := j0) (v := nI (F 2 (j0)) - 1) rfl (by show _ < 16; omega) rfl ?_
    have b2 := hI.p j0
    refine lv_iconst (v := nI (0) - 1) X.1 X.2.1 dX7_clear_19 (by decide) ?_
    refine b_icmp_ne (tgt := 27) X dX7_clear_20 (by decide) (a := ((F 2 (j0) : Nat) : Int) - 1) (b := ((0 : Nat) : Int) - 1) (eI_ti (by omega)) (eI_ti (by omega)) (fun c3 => ?_) (fun c3 => ?_)
    · skip
      refine lv_iconst (v := nI (0)) X.1 X.2.1 dX7_clear_27 (by decide) ?_
      refine mr_callV X h ck_X7_93 ki_X7_fails ks_X7_fails dX7_clear_28 (As := [.int (nI (0))]) (c_X7_fails l G x ar N F B 0 (by omega)) rfl hl rfl (Nat.le_of_ble_eq_true rfl) ⟨Nat.le_of_ble_eq_true rfl, Nat.le_of_ble_eq_true rfl⟩ ⟨Nat.le_of_ble_eq_true rfl, Nat.le_of_ble_eq_true rfl⟩ ?_
      rintro _ _ _ _ H locs ⟨rfl, rfl, rfl, rfl⟩ h
      refine b_bool_eq (tgt := 36) X dX7_clear_31 (by decide) (fun c4 => ?_) (fun c4 => ?_)
      · skip
        have c4 := of_decide_eq_false c4
        refine lv_aload_n X.1 X.2.1 dX7_clear_36 rfl (lv_at hl 0 rfl) ?_
        refine mr_get X h kf_X7_7 (by decide) dX7_clear_37 rfl ?_
        refine lv_iload_n X.1 X.2.1 dX7_clear_40 rfl (lv_at hl 1 rfl) ?_
        refine mr_ald X h 2 rfl dX7_clear_41 (i := j0) (v := nI (F 2 (j0)) - 1) rfl (by show _ < 16; omega) rfl ?_
        have b5 := hI.p j0
        refine lv_istore_n (lv' := [(2, .int (nI (F 2 (j0)) - 1)), (0, .ref x), (1, .int (nI (j0)))]) X.1 X.2.1 dX7_clear_42 rfl hl (by decide) rfl (fun ls hl => ?_)
        refine lv_aload_n X.1 X.2.1 dX7_clear_43 rfl (lv_at hl 1 rfl) ?_
        refine mr_get X h kf_X7_7 (by decide) dX7_clear_44 rfl ?_
        refine lv_iload_n X.1 X.2.1 dX7_clear_47 rfl (lv_at hl 2 rfl) ?_
        refine lv_iconst (v := nI (0) - 1) X.1 X.2.1 dX7_clear_48 (by decide) ?_
        refine mr_ast X h 2 rfl (by decide) dX7_clear_49 (i := j0) (v := 0) rfl (by show _ < 16; omega) rfl (fun H locs h => ?_)
        refine lv_aload_n X.1 X.2.1 dX7_clear_50 rfl (lv_at hl 1 rfl) ?_
        refine mr_callV X h ck_X7_147 ki_X7_looks ks_X7_looks dX7_clear_51 (As := []) (c_X7_looks l G x ar (va_up N 29 (0)) (set1 F 2 (j0) (0)) B (hI.set2 j0 0 (by omega))) rfl hl rfl (Nat.le_of_ble_eq_true rfl) ⟨Nat.le_of_ble_eq_true rfl, Nat.le_of_ble_eq_true rfl⟩ ⟨Nat.le_of_ble_eq_true rfl, Nat.le_of_ble_eq_true rfl⟩ ?_
        rintro _ _ F2 _ H locs ⟨rfl, rfl, hS2, rfl, hI2⟩ h
        refine lv_iload_n X.1 X.2.1 dX7_clear_54 rfl (lv_at hl 0 rfl) ?_
        exact mr_iret X hr hlocks h dX7_clear_55 ⟨Nat.le_of_ble_eq_true rfl, Nat.le_of_ble_eq_true rfl⟩ (MA.ok ((if_neg (by rw [iR_lt hj0 (by omega)]; decide)).trans (if_neg (by rw [ix_nI (by omega)]; omega))) (by rw [ix_nI (by omega)]) rfl (fun k h1 h2 => by simp [va_up, h1, h2]) (by rw [ix_nI (by omega), ← lookS_N (SN29 N 0)]; exact hS2) (by rw [ix_nI (by omega), ← lookS_N (SN29 N 0)]; rfl))
      · skip
        exact absurd c4 (by first | decide | omega)
    · skip
      refine lv_iconst (v := nI (2)) X.1 X.2.1 dX7_clear_23 (by decide) ?_
      refine lv_goto (tgt := 28) X.1 X.2.1 dX7_clear_24 (by decide) ?_
      refine mr_callV X h ck_X7_93 ki_X7_fails ks_X7_fails dX7_clear_28 (As := [.int (nI (2))]) (c_X7_fails l G x ar N F B 2 (by omega)) rfl hl rfl (Nat.le_of_ble_eq_true rfl) ⟨Nat.le_of_ble_eq_true rfl, Nat.le_of_ble_eq_true rfl⟩ ⟨Nat.le_of_ble_eq_true rfl, Nat.le_of_ble_eq_true rfl⟩ ?_
      rintro _ _ _ _ H locs ⟨rfl, rfl, rfl, rfl⟩ h
      refine b_bool_eq (tgt := 36) X dX7_clear_31 (by decide) (fun c6 => ?_) (fun c6 => ?_)
      · skip
        exact absurd c6 (by first | decide | omega)
      · skip
        have c6 := of_decide_eq_true c6
        refine lv_iconst (v := nI (0)) X.1 X.2.1 dX7_clear_34 (by decide) ?_
        exact mr_iret X hr hlocks h dX7_clear_35 ⟨Nat.le_of_ble_eq_true rfl, Nat.le_of_ble_eq_true rfl⟩ (MA.bad ((if_neg (by rw [iR_lt hj0 (by omega)]; decide)).trans (if_pos (by rw [ix_nI (by omega)]; omega))) (by decide))
  · skip
    refine lv_iconst (v := nI (1)) X.1 X.2.1 dX7_clear_9 (by decide) ?_
    refine lv_goto (tgt := 28) X.1 X.2.1 dX7_clear_10 (by decide) ?_
    refine mr_callV X h ck_X7_93 ki_X7_fails ks_X7_fails dX7_clear_28 (As := [.int (nI (1))]) (c_X7_fails l G x ar N F B 1 (by omega)) rfl hl rfl (Nat.le_of_ble_eq_true rfl) ⟨Nat.le_of_ble_eq_true rfl, Nat.le_of_ble_eq_true rfl⟩ ⟨Nat.le_of_ble_eq_true rfl, Nat.le_of_ble_eq_true rfl⟩ ?_
    rintro _ _ _ _ H locs ⟨rfl, rfl, rfl, rfl⟩ h
    refine b_bool_eq (tgt := 36) X dX7_clear_31 (by decide) (fun c7 => ?_) (fun c7 => ?_)
    · skip
      exact absurd c7 (by first | decide | omega)
    · skip
      have c7 := of_decide_eq_true c7
      refine lv_iconst (v := nI (0)) X.1 X.2.1 dX7_clear_34 (by decide) ?_
      exact mr_iret X hr hlocks h dX7_clear_35 ⟨Nat.le_of_ble_eq_true rfl, Nat.le_of_ble_eq_true rfl⟩ (MA.bad (if_pos c1) (by decide))
set_option maxHeartbeats 4000000 in
set_option maxRecDepth 100000 in
theorem c_X7_match (l : Launch) (G : mG) (x : Nat) (ar N : Nat → Nat) (F : Nat → Nat → Nat) (B : Nat → Int32) (a0 : Int32) (b0 : Int32) (r0 : Int32) (hI : Iv N F) : MMet l yX7_match cX7_match 6 (some FieldType.int) ({ frames := 2, cells := 0, slots := 0, locals := 43 } : Room) G x ar [.ref x, .int (a0), .int (b0), .int (r0)] N F B (fun r N' F' B' => MA r N' F' B' (kMatch N F a0 b0 r0) (nI (N 6)) (va_up N 6 (N 6 + 1)) (fMatch N F a0 b0 r0) (B) N F B) := by
  refine MMet.of (by decide) (Nat.le_of_ble_eq_true rfl) ?_
  intro p e s m args below meth c A ls X hr hlocks h hl
  have hl : lv_has ls 6 [(0, .ref x), (1, .int (a0)), (2, .int (b0)), (3, .int (r0))] := hl
  have hn := hI.n
  refine lv_aload_n X.1 X.2.1 dX7_match_0 rfl (lv_at hl 0 rfl) ?_
  refine lv_iload_n X.1 X.2.1 dX7_match_1 rfl (lv_at hl 1 rfl) ?_
  refine mr_callV X h ck_X7_107 ki_X7_isPlayer ks_X7_isPlayer dX7_match_2 (As := [.int (a0)]) (c_X7_isPlayer l G x ar N F B (a0) hI) rfl hl rfl (Nat.le_of_ble_eq_true rfl) ⟨Nat.le_of_ble_eq_true rfl, Nat.le_of_ble_eq_true rfl⟩ ⟨Nat.le_of_ble_eq_true rfl, Nat.le_of_ble_eq_true rfl⟩ ?_
  rintro _ _ _ _ H locs ⟨rfl, rfl, rfl, rfl⟩ h
  refine b_bool_eq (tgt := 27) X dX7_match_5 (by decide) (fun c1 => ?_) (fun c1 => ?_)
  · skip
    refine lv_iconst (v := nI (0)) X.1 X.2.1 dX7_match_27 (by decide) ?_
    refine lv_istore (lv' := [(4, .int (nI (0))), (0, .ref x), (1, .int (a0)), (2, .int (b0)), (3, .int (r0))]) X.1 X.2.1 dX7_match_28 hl (by decide) rfl (fun ls hl => ?_)
    refine lv_iload X.1 X.2.1 dX7_match_30 (lv_at hl 0 rfl) ?_
    refine b_if_eq (tgt := 78) X dX7_match_32 (by decide) (a := ((0 : Nat) : Int)) (nI_ti (by omega)) (fun c2 => ?_) (fun c2 => ?_)
    · skip
      refine lv_iconst (v := nI (0)) X.1 X.2.1 dX7_match_78 (by decide) ?_
      refine lv_istore (lv' := [(5, .int (nI (0))), (4, .int (nI (0))), (0, .ref x), (1, .int (a0)), (2, .int (b0)), (3, .int (r0))]) X.1 X.2.1 dX7_match_79 hl (by decide) rfl (fun ls hl => ?_)
      refine lv_aload_n X.1 X.2.1 dX7_match_81 rfl (lv_at hl 2 rfl) ?_
      refine lv_iload X.1 X.2.1 dX7_match_82 (lv_at hl 1 rfl) ?_
      refine b_if_ne (tgt := 91) X dX7_match_84 (by decide) (a := ((0 : Nat) : Int)) (nI_ti (by omega)) (fun c3 => ?_) (fun c3 => ?_)
      · skip
        exact absurd c3 (by first | decide | omega)
      · skip
        refine lv_iconst (v := nI (1)) X.1 X.2.1 dX7_match_87 (by decide) ?_
        refine lv_goto (tgt := 110) X.1 X.2.1 dX7_match_88 (by decide) ?_
        refine mr_callV X h ck_X7_93 ki_X7_fails ks_X7_fails dX7_match_110 (As := [.int (nI (1))]) (c_X7_fails l G x ar N F B 1 (by omega)) rfl hl rfl (Nat.le_of_ble_eq_true rfl) ⟨Nat.le_of_ble_eq_true rfl, Nat.le_of_ble_eq_true rfl⟩ ⟨Nat.le_of_ble_eq_true rfl, Nat.le_of_ble_eq_true rfl⟩ ?_
        rintro _ _ _ _ H locs ⟨rfl, rfl, rfl, rfl⟩ h
        refine b_bool_eq (tgt := 118) X dX7_match_113 (by decide) (fun c4 => ?_) (fun c4 => ?_)
        · skip
          exact absurd c4 (by first | decide | omega)
        · skip
          have c4 := of_decide_eq_true c4
          refine lv_iconst (v := nI (0)) X.1 X.2.1 dX7_match_116 (by decide) ?_
          exact mr_iret X hr hlocks h dX7_match_117 ⟨Nat.le_of_ble_eq_true rfl, Nat.le_of_ble_eq_true rfl⟩ (MA.bad (if_pos (by simp [c1])) (by decide))
    · skip
      exact absurd c2 (by first | decide | omega)
  · skip
    obtain ⟨i1, hi1, rfl⟩ := iR_t c1 (by omega)
    refine lv_aload_n X.1 X.2.1 dX7_match_8 rfl (lv_at hl 0 rfl) ?_
    refine lv_iload_n X.1 X.2.1 dX7_match_9 rfl (lv_at hl 2 rfl) ?_
    refine mr_callV X h ck_X7_107 ki_X7_isPlayer ks_X7_isPlayer dX7_match_10 (As := [.int (b0)]) (c_X7_isPlayer l G x ar N F B (b0) hI) rfl hl rfl (Nat.le_of_ble_eq_true rfl) ⟨Nat.le_of_ble_eq_true rfl, Nat.le_of_ble_eq_true rfl⟩ ⟨Nat.le_of_ble_eq_true rfl, Nat.le_of_ble_eq_true rfl⟩ ?_
    rintro _ _ _ _ H locs ⟨rfl, rfl, rfl, rfl⟩ h
    refine b_bool_eq (tgt := 27) X dX7_match_13 (by decide) (fun c5 => ?_) (fun c5 => ?_)
    · skip
      refine lv_iconst (v := nI (0)) X.1 X.2.1 dX7_match_27 (by decide) ?_
      refine lv_istore (lv' := [(4, .int (nI (0))), (0, .ref x), (1, .int (nI (i1))), (2, .int (b0)), (3, .int (r0))]) X.1 X.2.1 dX7_match_28 hl (by decide) rfl (fun ls hl => ?_)
      refine lv_iload X.1 X.2.1 dX7_match_30 (lv_at hl 0 rfl) ?_
      refine b_if_eq (tgt := 78) X dX7_match_32 (by decide) (a := ((0 : Nat) : Int)) (nI_ti (by omega)) (fun c6 => ?_) (fun c6 => ?_)
      · skip
        refine lv_iconst (v := nI (0)) X.1 X.2.1 dX7_match_78 (by decide) ?_
        refine lv_istore (lv' := [(5, .int (nI (0))), (4, .int (nI (0))), (0, .ref x), (1, .int (nI (i1))), (2, .int (b0)), (3, .int (r0))]) X.1 X.2.1 dX7_match_79 hl (by decide) rfl (fun ls hl => ?_)
        refine lv_aload_n X.1 X.2.1 dX7_match_81 rfl (lv_at hl 2 rfl) ?_
        refine lv_iload X.1 X.2.1 dX7_match_82 (lv_at hl 1 rfl) ?_
        refine b_if_ne (tgt := 91) X dX7_match_84 (by decide) (a := ((0 : Nat) : Int)) (nI_ti (by omega)) (fun c7 => ?_) (fun c7 => ?_)
        · skip
          exact absurd c7 (by first | decide | omega)
        · skip
          refine lv_iconst (v := nI (1)) X.1 X.2.1 dX7_match_87 (by decide) ?_
          refine lv_goto (tgt := 110) X.1 X.2.1 dX7_match_88 (by decide) ?_
          refine mr_callV X h ck_X7_93 ki_X7_fails ks_X7_fails dX7_match_110 (As := [.int (nI (1))]) (c_X7_fails l G x ar N F B 1 (by omega)) rfl hl rfl (Nat.le_of_ble_eq_true rfl) ⟨Nat.le_of_ble_eq_true rfl, Nat.le_of_ble_eq_true rfl⟩ ⟨Nat.le_of_ble_eq_true rfl, Nat.le_of_ble_eq_true rfl⟩ ?_
          rintro _ _ _ _ H locs ⟨rfl, rfl, rfl, rfl⟩ h
          refine b_bool_eq (tgt := 118) X dX7_match_113 (by decide) (fun c8 => ?_) (fun c8 => ?_)
          · skip
            exact absurd c8 (by first | decide | omega)
          · skip
            have c8 := of_decide_eq_true c8
            refine lv_iconst (v := nI (0)) X.1 X.2.1 dX7_match_116 (by decide) ?_
            exact mr_iret X hr hlocks h dX7_match_117 ⟨Nat.le_of_ble_eq_true rfl, Nat.le_of_ble_eq_true rfl⟩ (MA.bad (if_pos (by simp [iR_lt hi1 (show N 1 < 2 ^ 31 by omega), c5])) (by decide))
      · skip
        exact absurd c6 (by first | decide | omega)
    · skip
      obtain ⟨i2, hi2, rfl⟩ := iR_t c5 (by omega)
      refine lv_iload_n X.1 X.2.1 dX7_match_16 rfl (lv_at hl 3 rfl) ?_
      refine mr_callS X h ck_X7_100 kst_X7_isRegion dX7_match_17 (As := [.int (r0)]) (c_X7_isRegion l G x ar N F B (r0)) rfl hl rfl (Nat.le_of_ble_eq_true rfl) ⟨Nat.le_of_ble_eq_true rfl, Nat.le_of_ble_eq_true rfl⟩ ⟨Nat.le_of_ble_eq_true rfl, Nat.le_of_ble_eq_true rfl⟩ ?_
      rintro _ _ _ _ H locs ⟨rfl, rfl, rfl, rfl⟩ h
      refine b_bool_eq (tgt := 27) X dX7_match_20 (by decide) (fun c9 => ?_) (fun c9 => ?_)
      · skip
        refine lv_iconst (v := nI (0)) X.1 X.2.1 dX7_match_27 (by decide) ?_
        refine lv_istore (lv' := [(4, .int (nI (0))), (0, .ref x), (1, .int (nI (i1))), (2, .int (nI (i2))), (3, .int (r0))]) X.1 X.2.1 dX7_match_28 hl (by decide) rfl (fun ls hl => ?_)
        refine lv_iload X.1 X.2.1 dX7_match_30 (lv_at hl 0 rfl) ?_
        refine b_if_eq (tgt := 78) X dX7_match_32 (by decide) (a := ((0 : Nat) : Int)) (nI_ti (by omega)) (fun c10 => ?_) (fun c10 => ?_)
        · skip
          refine lv_iconst (v := nI (0)) X.1 X.2.1 dX7_match_78 (by decide) ?_
          refine lv_istore (lv' := [(5, .int (nI (0))), (4, .int (nI (0))), (0, .ref x), (1, .int (nI (i1))), (2, .int (nI (i2))), (3, .int (r0))]) X.1 X.2.1 dX7_match_79 hl (by decide) rfl (fun ls hl => ?_)
          refine lv_aload_n X.1 X.2.1 dX7_match_81 rfl (lv_at hl 2 rfl) ?_
          refine lv_iload X.1 X.2.1 dX7_match_82 (lv_at hl 1 rfl) ?_
          refine b_if_ne (tgt := 91) X dX7_match_84 (by decide) (a := ((0 : Nat) : Int)) (nI_ti (by omega)) (fun c11 => ?_) (fun c11 => ?_)
          · skip
            exact absurd c11 (by first | decide | omega)
          · skip
            refine lv_iconst (v := nI (1)) X.1 X.2.1 dX7_match_87 (by decide) ?_
            refine lv_goto (tgt := 110) X.1 X.2.1 dX7_match_88 (by decide) ?_
            refine mr_callV X h ck_X7_93 ki_X7_fails ks_X7_fails dX7_match_110 (As := [.int (nI (1))]) (c_X7_fails l G x ar N F B 1 (by omega)) rfl hl rfl (Nat.le_of_ble_eq_true rfl) ⟨Nat.le_of_ble_eq_true rfl, Nat.le_of_ble_eq_true rfl⟩ ⟨Nat.le_of_ble_eq_true rfl, Nat.le_of_ble_eq_true rfl⟩ ?_
            rintro _ _ _ _ H locs ⟨rfl, rfl, rfl, rfl⟩ h
            refine b_bool_eq (tgt := 118) X dX7_match_113 (by decide) (fun c12 => ?_) (fun c12 => ?_)
            · skip
              exact absurd c12 (by first | decide | omega)
            · skip
              have c12 := of_decide_eq_true c12
              refine lv_iconst (v := nI (0)) X.1 X.2.1 dX7_match_116 (by decide) ?_
              exact mr_iret X hr hlocks h dX7_match_117 ⟨Nat.le_of_ble_eq_true rfl, Nat.le_of_ble_eq_true rfl⟩ (MA.bad (if_pos (by simp [iR_lt hi1 (show N 1 < 2 ^ 31 by omega), iR_lt hi2 (show N 1 < 2 ^ 31 by omega), c9])) (by decide))
        · skip
          exact absurd c10 (by first | decide | omega)
      · skip
        obtain ⟨i3, hi3, rfl⟩ := iR_t c9 (by omega)
        refine lv_iconst (v := nI (1)) X.1 X.2.1 dX7_match_23 (by decide) ?_
        refine lv_goto (tgt := 28) X.1 X.2.1 dX7_match_24 (by decide) ?_
        refine lv_istore (lv' := [(4, .int (nI (1))), (0, .ref x), (1, .int (nI (i1))), (2, .int (nI (i2))), (3, .int (nI (i3)))]) X.1 X.2.1 dX7_match_28 hl (by decide) rfl (fun ls hl => ?_)
        refine lv_iload X.1 X.2.1 dX7_match_30 (lv_at hl 0 rfl) ?_
        refine b_if_eq (tgt := 78) X dX7_match_32 (by decide) (a := ((1 : Nat) : Int)) (nI_ti (by omega)) (fun c13 => ?_) (fun c13 => ?_)
        · skip
          exact absurd c13 (by first | decide | omega)
        · skip
          refine lv_aload_n X.1 X.2.1 dX7_match_35 rfl (lv_at hl 1 rfl) ?_
          refine mr_get X h kf_X7_97 (by decide) dX7_match_36 (v := .int (nI (N 6))) rfl ?_
          refine lv_bipush (v := nI (100)) X.1 X.2.1 dX7_match_39 (by decide) ?_
          refine b_icmp_ge (tgt := 78) X dX7_match_41 (by decide) (a := ((N 6 : Nat) : Int)) (b := ((100 : Nat) : Int)) (nI_ti (by omega)) (nI_ti (by omega)) (fun c14 => ?_) (fun c14 => ?_)
          · skip
            refine lv_iconst (v := nI (0)) X.1 X.2.1 dX7_match_78 (by decide) ?_
            refine lv_istore (lv' := [(5, .int (nI (0))), (4, .int (nI (1))), (0, .ref x), (1, .int (nI (i1))), (2, .int (nI (i2))), (3, .int (nI (i3)))]) X.1 X.2.1 dX7_match_79 hl (by decide) rfl (fun ls hl => ?_)
            refine lv_aload_n X.1 X.2.1 dX7_match_81 rfl (lv_at hl 2 rfl) ?_
            refine lv_iload X.1 X.2.1 dX7_match_82 (lv_at hl 1 rfl) ?_
            refine b_if_ne (tgt := 91) X dX7_match_84 (by decide) (a := ((1 : Nat) : Int)) (nI_ti (by omega)) (fun c15 => ?_) (fun c15 => ?_)
            · skip
              refine lv_iload_n X.1 X.2.1 dX7_match_91 rfl (lv_at hl 3 rfl) ?_
              refine lv_iload_n X.1 X.2.1 dX7_match_92 rfl (lv_at hl 4 rfl) ?_
              refine b_icmp_ne (tgt := 100) X dX7_match_93 (by decide) (a := ((i1 : Nat) : Int)) (b := ((i2 : Nat) : Int)) (nI_ti (by omega)) (nI_ti (by omega)) (fun c16 => ?_) (fun c16 => ?_)
              · skip
                refine lv_iload X.1 X.2.1 dX7_match_100 (lv_at hl 0 rfl) ?_
                refine b_if_eq (tgt := 109) X dX7_match_102 (by decide) (a := ((0 : Nat) : Int)) (nI_ti (by omega)) (fun c17 => ?_) (fun c17 => ?_)
                · skip
                  refine lv_iconst (v := nI (3)) X.1 X.2.1 dX7_match_109 (by decide) ?_
                  refine mr_callV X h ck_X7_93 ki_X7_fails ks_X7_fails dX7_match_110 (As := [.int (nI (3))]) (c_X7_fails l G x ar N F B 3 (by omega)) rfl hl rfl (Nat.le_of_ble_eq_true rfl) ⟨Nat.le_of_ble_eq_true rfl, Nat.le_of_ble_eq_true rfl⟩ ⟨Nat.le_of_ble_eq_true rfl, Nat.le_of_ble_eq_true rfl⟩ ?_
                  rintro _ _ _ _ H locs ⟨rfl, rfl, rfl, rfl⟩ h
                  refine b_bool_eq (tgt := 118) X dX7_match_113 (by decide) (fun c18 => ?_) (fun c18 => ?_)
                  · skip
                    exact absurd c18 (by first | decide | omega)
                  · skip
                    have c18 := of_decide_eq_true c18
                    refine lv_iconst (v := nI (0)) X.1 X.2.1 dX7_match_116 (by decide) ?_
                    exact mr_iret X hr hlocks h dX7_match_117 ⟨Nat.le_of_ble_eq_true rfl, Nat.le_of_ble_eq_true rfl⟩ (MA.bad ((if_neg (by rw [iR_lt hi1 (by omega), iR_lt hi2 (by omega), iR_lt hi3 (by omega)]; decide)).trans ((if_neg (fun z => by have := (nI_eq (by omega) (by omega)).mp z; omega)).trans (if_neg (by rw [ix_nI (by omega), ix_nI (by omega), ix_nI (by omega)]; intro z; have := of_decide_eq_true z; omega)))) (by decide))
                · skip
                  exact absurd c17 (by first | decide | omega)
              · skip
                refine lv_iconst (v := nI (2)) X.1 X.2.1 dX7_match_96 (by decide) ?_
                refine lv_goto (tgt := 110) X.1 X.2.1 dX7_match_97 (by decide) ?_
                refine mr_callV X h ck_X7_93 ki_X7_fails ks_X7_fails dX7_match_110 (As := [.int (nI (2))]) (c_X7_fails l G x ar N F B 2 (by omega)) rfl hl rfl (Nat.le_of_ble_eq_true rfl) ⟨Nat.le_of_ble_eq_true rfl, Nat.le_of_ble_eq_true rfl⟩ ⟨Nat.le_of_ble_eq_true rfl, Nat.le_of_ble_eq_true rfl⟩ ?_
                rintro _ _ _ _ H locs ⟨rfl, rfl, rfl, rfl⟩ h
                refine b_bool_eq (tgt := 118) X dX7_match_113 (by decide) (fun c19 => ?_) (fun c19 => ?_)
                · skip
                  exact absurd c19 (by first | decide | omega)
                · skip
                  have c19 := of_decide_eq_true c19
                  refine lv_iconst (v := nI (0)) X.1 X.2.1 dX7_match_116 (by decide) ?_
                  exact mr_iret X hr hlocks h dX7_match_117 ⟨Nat.le_of_ble_eq_true rfl, Nat.le_of_ble_eq_true rfl⟩ (MA.bad ((if_neg (by rw [iR_lt hi1 (by omega), iR_lt hi2 (by omega), iR_lt hi3 (by omega)]; decide)).trans (if_pos (Int32.toInt_inj.mp (by rw [nI_ti (by omega), nI_ti (by omega)]; omega)))) (by decide))
            · skip
              exact absurd c15 (by first | decide | omega)
          · skip
            refine lv_aload_n X.1 X.2.1 dX7_match_44 rfl (lv_at hl 1 rfl) ?_
            refine lv_iload_n X.1 X.2.1 dX7_match_45 rfl (lv_at hl 2 rfl) ?_
            refine mr_callV X h ck_X7_110 ki_X7_isBanned ks_X7_isBanned dX7_match_46 (As := [.int (nI (i1))]) (c_X7_isBanned l G x ar N F B i1 hI (show i1 < N 1 by omega)) rfl hl rfl (Nat.le_of_ble_eq_true rfl) ⟨Nat.le_of_ble_eq_true rfl, Nat.le_of_ble_eq_true rfl⟩ ⟨Nat.le_of_ble_eq_true rfl, Nat.le_of_ble_eq_true rfl⟩ ?_
            rintro _ _ _ _ H locs ⟨rfl, rfl, rfl, rfl⟩ h
            have b20 := hI.p (i1)
            refine b_bool_ne (tgt := 78) X dX7_match_49 (by decide) (fun c21 => ?_) (fun c21 => ?_)
            · skip
              have c21 := of_decide_eq_true c21
              refine lv_iconst (v := nI (0)) X.1 X.2.1 dX7_match_78 (by decide) ?_
              refine lv_istore (lv' := [(5, .int (nI (0))), (4, .int (nI (1))), (0, .ref x), (1, .int (nI (i1))), (2, .int (nI (i2))), (3, .int (nI (i3)))]) X.1 X.2.1 dX7_match_79 hl (by decide) rfl (fun ls hl => ?_)
              refine lv_aload_n X.1 X.2.1 dX7_match_81 rfl (lv_at hl 2 rfl) ?_
              refine lv_iload X.1 X.2.1 dX7_match_82 (lv_at hl 1 rfl) ?_
              refine b_if_ne (tgt := 91) X dX7_match_84 (by decide) (a := ((1 : Nat) : Int)) (nI_ti (by omega)) (fun c22 => ?_) (fun c22 => ?_)
              · skip
                refine lv_iload_n X.1 X.2.1 dX7_match_91 rfl (lv_at hl 3 rfl) ?_
                refine lv_iload_n X.1 X.2.1 dX7_match_92 rfl (lv_at hl 4 rfl) ?_
                refine b_icmp_ne (tgt := 100) X dX7_match_93 (by decide) (a := ((i1 : Nat) : Int)) (b := ((i2 : Nat) : Int)) (nI_ti (by omega)) (nI_ti (by omega)) (fun c23 => ?_) (fun c23 => ?_)
                · skip
                  refine lv_iload X.1 X.2.1 dX7_match_100 (lv_at hl 0 rfl) ?_
                  refine b_if_eq (tgt := 109) X dX7_match_102 (by decide) (a := ((0 : Nat) : Int)) (nI_ti (by omega)) (fun c24 => ?_) (fun c24 => ?_)
                  · skip
                    refine lv_iconst (v := nI (3)) X.1 X.2.1 dX7_match_109 (by decide) ?_
                    refine mr_callV X h ck_X7_93 ki_X7_fails ks_X7_fails dX7_match_110 (As := [.int (nI (3))]) (c_X7_fails l G x ar N F B 3 (by omega)) rfl hl rfl (Nat.le_of_ble_eq_true rfl) ⟨Nat.le_of_ble_eq_true rfl, Nat.le_of_ble_eq_true rfl⟩ ⟨Nat.le_of_ble_eq_true rfl, Nat.le_of_ble_eq_true rfl⟩ ?_
                    rintro _ _ _ _ H locs ⟨rfl, rfl, rfl, rfl⟩ h
                    refine b_bool_eq (tgt := 118) X dX7_match_113 (by decide) (fun c25 => ?_) (fun c25 => ?_)
                    · skip
                      exact absurd c25 (by first | decide | omega)
                    · skip
                      have c25 := of_decide_eq_true c25
                      refine lv_iconst (v := nI (0)) X.1 X.2.1 dX7_match_116 (by decide) ?_
                      exact mr_iret X hr hlocks h dX7_match_117 ⟨Nat.le_of_ble_eq_true rfl, Nat.le_of_ble_eq_true rfl⟩ (MA.bad ((if_neg (by rw [iR_lt hi1 (by omega), iR_lt hi2 (by omega), iR_lt hi3 (by omega)]; decide)).trans ((if_neg (fun z => by have := (nI_eq (by omega) (by omega)).mp z; omega)).trans (if_neg (by rw [ix_nI (by omega), ix_nI (by omega), ix_nI (by omega)]; intro z; have := of_decide_eq_true z; omega)))) (by decide))
                  · skip
                    exact absurd c24 (by first | decide | omega)
                · skip
                  refine lv_iconst (v := nI (2)) X.1 X.2.1 dX7_match_96 (by decide) ?_
                  refine lv_goto (tgt := 110) X.1 X.2.1 dX7_match_97 (by decide) ?_
                  refine mr_callV X h ck_X7_93 ki_X7_fails ks_X7_fails dX7_match_110 (As := [.int (nI (2))]) (c_X7_fails l G x ar N F B 2 (by omega)) rfl hl rfl (Nat.le_of_ble_eq_true rfl) ⟨Nat.le_of_ble_eq_true rfl, Nat.le_of_ble_eq_true rfl⟩ ⟨Nat.le_of_ble_eq_true rfl, Nat.le_of_ble_eq_true rfl⟩ ?_
                  rintro _ _ _ _ H locs ⟨rfl, rfl, rfl, rfl⟩ h
                  refine b_bool_eq (tgt := 118) X dX7_match_113 (by decide) (fun c26 => ?_) (fun c26 => ?_)
                  · skip
                    exact absurd c26 (by first | decide | omega)
                  · skip
                    have c26 := of_decide_eq_true c26
                    refine lv_iconst (v := nI (0)) X.1 X.2.1 dX7_match_116 (by decide) ?_
                    exact mr_iret X hr hlocks h dX7_match_117 ⟨Nat.le_of_ble_eq_true rfl, Nat.le_of_ble_eq_true rfl⟩ (MA.bad ((if_neg (by rw [iR_lt hi1 (by omega), iR_lt hi2 (by omega), iR_lt hi3 (by omega)]; decide)).trans (if_pos (Int32.toInt_inj.mp (by rw [nI_ti (by omega), nI_ti (by omega)]; omega)))) (by decide))
              · skip
                exact absurd c22 (by first | decide | omega)
            · skip
              have c21 := of_decide_eq_false c21
              refine lv_aload_n X.1 X.2.1 dX7_match_52 rfl (lv_at hl 1 rfl) ?_
              refine lv_iload_n X.1 X.2.1 dX7_match_53 rfl (lv_at hl 3 rfl) ?_
              refine mr_callV X h ck_X7_110 ki_X7_isBanned ks_X7_isBanned dX7_match_54 (As := [.int (nI (i2))]) (c_X7_isBanned l G x ar N F B i2 hI (show i2 < N 1 by omega)) rfl hl rfl (Nat.le_of_ble_eq_true rfl) ⟨Nat.le_of_ble_eq_true rfl, Nat.le_of_ble_eq_true rfl⟩ ⟨Nat.le_of_ble_eq_true rfl, Nat.le_of_ble_eq_true rfl⟩ ?_
              rintro _ _ _ _ H locs ⟨rfl, rfl, rfl, rfl⟩ h
              have b27 := hI.p (i2)
              refine b_bool_ne (tgt := 78) X dX7_match_57 (by decide) (fun c28 => ?_) (fun c28 => ?_)
              · skip
                have c28 := of_decide_eq_true c28
                refine lv_iconst (v := nI (0)) X.1 X.2.1 dX7_match_78 (by decide) ?_
                refine lv_istore (lv' := [(5, .int (nI (0))), (4, .int (nI (1))), (0, .ref x), (1, .int (nI (i1))), (2, .int (nI (i2))), (3, .int (nI (i3)))]) X.1 X.2.1 dX7_match_79 hl (by decide) rfl (fun ls hl => ?_)
                refine lv_aload_n X.1 X.2.1 dX7_match_81 rfl (lv_at hl 2 rfl) ?_
                refine lv_iload X.1 X.2.1 dX7_match_82 (lv_at hl 1 rfl) ?_
                refine b_if_ne (tgt := 91) X dX7_match_84 (by decide) (a := ((1 : Nat) : Int)) (nI_ti (by omega)) (fun c29 => ?_) (fun c29 => ?_)
                · skip
                  refine lv_iload_n X.1 X.2.1 dX7_match_91 rfl (lv_at hl 3 rfl) ?_
                  refine lv_iload_n X.1 X.2.1 dX7_match_92 rfl (lv_at hl 4 rfl) ?_
                  refine b_icmp_ne (tgt := 100) X dX7_match_93 (by decide) (a := ((i1 : Nat) : Int)) (b := ((i2 : Nat) : Int)) (nI_ti (by omega)) (nI_ti (by omega)) (fun c30 => ?_) (fun c30 => ?_)
                  · skip
                    refine lv_iload X.1 X.2.1 dX7_match_100 (lv_at hl 0 rfl) ?_
                    refine b_if_eq (tgt := 109) X dX7_match_102 (by decide) (a := ((0 : Nat) : Int)) (nI_ti (by omega)) (fun c31 => ?_) (fun c31 => ?_)
                    · skip
                      refine lv_iconst (v := nI (3)) X.1 X.2.1 dX7_match_109 (by decide) ?_
                      refine mr_callV X h ck_X7_93 ki_X7_fails ks_X7_fails dX7_match_110 (As := [.int (nI (3))]) (c_X7_fails l G x ar N F B 3 (by omega)) rfl hl rfl (Nat.le_of_ble_eq_true rfl) ⟨Nat.le_of_ble_eq_true rfl, Nat.le_of_ble_eq_true rfl⟩ ⟨Nat.le_of_ble_eq_true rfl, Nat.le_of_ble_eq_true rfl⟩ ?_
                      rintro _ _ _ _ H locs ⟨rfl, rfl, rfl, rfl⟩ h
                      refine b_bool_eq (tgt := 118) X dX7_match_113 (by decide) (fun c32 => ?_) (fun c32 => ?_)
                      · skip
                        exact absurd c32 (by first | decide | omega)
                      · skip
                        have c32 := of_decide_eq_true c32
                        refine lv_iconst (v := nI (0)) X.1 X.2.1 dX7_match_116 (by decide) ?_
                        exact mr_iret X hr hlocks h dX7_match_117 ⟨Nat.le_of_ble_eq_true rfl, Nat.le_of_ble_eq_true rfl⟩ (MA.bad ((if_neg (by rw [iR_lt hi1 (by omega), iR_lt hi2 (by omega), iR_lt hi3 (by omega)]; decide)).trans ((if_neg (fun z => by have := (nI_eq (by omega) (by omega)).mp z; omega)).trans (if_neg (by rw [ix_nI (by omega), ix_nI (by omega), ix_nI (by omega)]; intro z; have := of_decide_eq_true z; omega)))) (by decide))
                    · skip
                      exact absurd c31 (by first | decide | omega)
                  · skip
                    refine lv_iconst (v := nI (2)) X.1 X.2.1 dX7_match_96 (by decide) ?_
                    refine lv_goto (tgt := 110) X.1 X.2.1 dX7_match_97 (by decide) ?_
                    refine mr_callV X h ck_X7_93 ki_X7_fails ks_X7_fails dX7_match_110 (As := [.int (nI (2))]) (c_X7_fails l G x ar N F B 2 (by omega)) rfl hl rfl (Nat.le_of_ble_eq_true rfl) ⟨Nat.le_of_ble_eq_true rfl, Nat.le_of_ble_eq_true rfl⟩ ⟨Nat.le_of_ble_eq_true rfl, Nat.le_of_ble_eq_true rfl⟩ ?_
                    rintro _ _ _ _ H locs ⟨rfl, rfl, rfl, rfl⟩ h
                    refine b_bool_eq (tgt := 118) X dX7_match_113 (by decide) (fun c33 => ?_) (fun c33 => ?_)
                    · skip
                      exact absurd c33 (by first | decide | omega)
                    · skip
                      have c33 := of_decide_eq_true c33
                      refine lv_iconst (v := nI (0)) X.1 X.2.1 dX7_match_116 (by decide) ?_
                      exact mr_iret X hr hlocks h dX7_match_117 ⟨Nat.le_of_ble_eq_true rfl, Nat.le_of_ble_eq_true rfl⟩ (MA.bad ((if_neg (by rw [iR_lt hi1 (by omega), iR_lt hi2 (by omega), iR_lt hi3 (by omega)]; decide)).trans (if_pos (Int32.toInt_inj.mp (by rw [nI_ti (by omega), nI_ti (by omega)]; omega)))) (by decide))
                · skip
                  exact absurd c29 (by first | decide | omega)
              · skip
                have c28 := of_decide_eq_false c28
                refine lv_aload_n X.1 X.2.1 dX7_match_60 rfl (lv_at hl 1 rfl) ?_
                refine lv_iload_n X.1 X.2.1 dX7_match_61 rfl (lv_at hl 4 rfl) ?_
                refine mr_callV X h ck_X7_103 ki_X7_today ks_X7_today dX7_match_62 (As := [.int (nI (i3))]) (c_X7_today l G x ar N F B i3 hI (by omega)) rfl hl rfl (Nat.le_of_ble_eq_true rfl) ⟨Nat.le_of_ble_eq_true rfl, Nat.le_of_ble_eq_true rfl⟩ ⟨Nat.le_of_ble_eq_true rfl, Nat.le_of_ble_eq_true rfl⟩ ?_
                rintro _ _ _ _ H locs ⟨rfl, rfl, rfl, rfl⟩ h
                have b34 := tdy_le F (N 0) (i3) (N 6)
                refine lv_aload_n X.1 X.2.1 dX7_match_65 rfl (lv_at hl 1 rfl) ?_
                refine mr_get X h kf_X7_19 (by decide) dX7_match_66 rfl ?_
                refine lv_iload_n X.1 X.2.1 dX7_match_69 rfl (lv_at hl 4 rfl) ?_
                refine mr_ald X h 5 rfl dX7_match_70 (i := i3) (v := nI (F 5 (i3))) rfl (by show _ < 4; omega) rfl ?_
                have b35 := hI.r i3
                refine b_icmp_ge (tgt := 78) X dX7_match_71 (by decide) (a := ((tdy F (N 0) (i3) (N 6) : Nat) : Int)) (b := ((F 5 (i3) : Nat) : Int)) (nI_ti (by omega)) (nI_ti (by omega)) (fun c36 => ?_) (fun c36 => ?_)
                · skip
                  refine lv_iconst (v := nI (0)) X.1 X.2.1 dX7_match_78 (by decide) ?_
                  refine lv_istore (lv' := [(5, .int (nI (0))), (4, .int (nI (1))), (0, .ref x), (1, .int (nI (i1))), (2, .int (nI (i2))), (3, .int (nI (i3)))]) X.1 X.2.1 dX7_match_79 hl (by decide) rfl (fun ls hl => ?_)
                  refine lv_aload_n X.1 X.2.1 dX7_match_81 rfl (lv_at hl 2 rfl) ?_
                  refine lv_iload X.1 X.2.1 dX7_match_82 (lv_at hl 1 rfl) ?_
                  refine b_if_ne (tgt := 91) X dX7_match_84 (by decide) (a := ((1 : Nat) : Int)) (nI_ti (by omega)) (fun c37 => ?_) (fun c37 => ?_)
                  · skip
                    refine lv_iload_n X.1 X.2.1 dX7_match_91 rfl (lv_at hl 3 rfl) ?_
                    refine lv_iload_n X.1 X.2.1 dX7_match_92 rfl (lv_at hl 4 rfl) ?_
                    refine b_icmp_ne (tgt := 100) X dX7_match_93 (by decide) (a := ((i1 : Nat) : Int)) (b := ((i2 : Nat) : Int)) (nI_ti (by omega)) (nI_ti (by omega)) (fun c38 => ?_) (fun c38 => ?_)
                    · skip
                      refine lv_iload X.1 X.2.1 dX7_match_100 (lv_at hl 0 rfl) ?_
                      refine b_if_eq (tgt := 109) X dX7_match_102 (by decide) (a := ((0 : Nat) : Int)) (nI_ti (by omega)) (fun c39 => ?_) (fun c39 => ?_)
                      · skip
                        refine lv_iconst (v := nI (3)) X.1 X.2.1 dX7_match_109 (by decide) ?_
                        refine mr_callV X h ck_X7_93 ki_X7_fails ks_X7_fails dX7_match_110 (As := [.int (nI (3))]) (c_X7_fails l G x ar N F B 3 (by omega)) rfl hl rfl (Nat.le_of_ble_eq_true rfl) ⟨Nat.le_of_ble_eq_true rfl, Nat.le_of_ble_eq_true rfl⟩ ⟨Nat.le_of_ble_eq_true rfl, Nat.le_of_ble_eq_true rfl⟩ ?_
                        rintro _ _ _ _ H locs ⟨rfl, rfl, rfl, rfl⟩ h
                        refine b_bool_eq (tgt := 118) X dX7_match_113 (by decide) (fun c40 => ?_) (fun c40 => ?_)
                        · skip
                          exact absurd c40 (by first | decide | omega)
                        · skip
                          have c40 := of_decide_eq_true c40
                          refine lv_iconst (v := nI (0)) X.1 X.2.1 dX7_match_116 (by decide) ?_
                          exact mr_iret X hr hlocks h dX7_match_117 ⟨Nat.le_of_ble_eq_true rfl, Nat.le_of_ble_eq_true rfl⟩ (MA.bad ((if_neg (by rw [iR_lt hi1 (by omega), iR_lt hi2 (by omega), iR_lt hi3 (by omega)]; decide)).trans ((if_neg (fun z => by have := (nI_eq (by omega) (by omega)).mp z; omega)).trans (if_neg (by rw [ix_nI (by omega), ix_nI (by omega), ix_nI (by omega)]; intro z; have := of_decide_eq_true z; omega)))) (by decide))
                      · skip
                        exact absurd c39 (by first | decide | omega)
                    · skip
                      refine lv_iconst (v := nI (2)) X.1 X.2.1 dX7_match_96 (by decide) ?_
                      refine lv_goto (tgt := 110) X.1 X.2.1 dX7_match_97 (by decide) ?_
                      refine mr_callV X h ck_X7_93 ki_X7_fails ks_X7_fails dX7_match_110 (As := [.int (nI (2))]) (c_X7_fails l G x ar N F B 2 (by omega)) rfl hl rfl (Nat.le_of_ble_eq_true rfl) ⟨Nat.le_of_ble_eq_true rfl, Nat.le_of_ble_eq_true rfl⟩ ⟨Nat.le_of_ble_eq_true rfl, Nat.le_of_ble_eq_true rfl⟩ ?_
                      rintro _ _ _ _ H locs ⟨rfl, rfl, rfl, rfl⟩ h
                      refine b_bool_eq (tgt := 118) X dX7_match_113 (by decide) (fun c41 => ?_) (fun c41 => ?_)
                      · skip
                        exact absurd c41 (by first | decide | omega)
                      · skip
                        have c41 := of_decide_eq_true c41
                        refine lv_iconst (v := nI (0)) X.1 X.2.1 dX7_match_116 (by decide) ?_
                        exact mr_iret X hr hlocks h dX7_match_117 ⟨Nat.le_of_ble_eq_true rfl, Nat.le_of_ble_eq_true rfl⟩ (MA.bad ((if_neg (by rw [iR_lt hi1 (by omega), iR_lt hi2 (by omega), iR_lt hi3 (by omega)]; decide)).trans (if_pos (Int32.toInt_inj.mp (by rw [nI_ti (by omega), nI_ti (by omega)]; omega)))) (by decide))
                  · skip
                    exact absurd c37 (by first | decide | omega)
                · skip
                  refine lv_iconst (v := nI (1)) X.1 X.2.1 dX7_match_74 (by decide) ?_
                  refine lv_goto (tgt := 79) X.1 X.2.1 dX7_match_75 (by decide) ?_
                  refine lv_istore (lv' := [(5, .int (nI (1))), (4, .int (nI (1))), (0, .ref x), (1, .int (nI (i1))), (2, .int (nI (i2))), (3, .int (nI (i3)))]) X.1 X.2.1 dX7_match_79 hl (by decide) rfl (fun ls hl => ?_)
                  refine lv_aload_n X.1 X.2.1 dX7_match_81 rfl (lv_at hl 2 rfl) ?_
                  refine lv_iload X.1 X.2.1 dX7_match_82 (lv_at hl 1 rfl) ?_
                  refine b_if_ne (tgt := 91) X dX7_match_84 (by decide) (a := ((1 : Nat) : Int)) (nI_ti (by omega)) (fun c42 => ?_) (fun c42 => ?_)
                  · skip
                    refine lv_iload_n X.1 X.2.1 dX7_match_91 rfl (lv_at hl 3 rfl) ?_
                    refine lv_iload_n X.1 X.2.1 dX7_match_92 rfl (lv_at hl 4 rfl) ?_
                    refine b_icmp_ne (tgt := 100) X dX7_match_93 (by decide) (a := ((i1 : Nat) : Int)) (b := ((i2 : Nat) : Int)) (nI_ti (by omega)) (nI_ti (by omega)) (fun c43 => ?_) (fun c43 => ?_)
                    · skip
                      refine lv_iload X.1 X.2.1 dX7_match_100 (lv_at hl 0 rfl) ?_
                      refine b_if_eq (tgt := 109) X dX7_match_102 (by decide) (a := ((1 : Nat) : Int)) (nI_ti (by omega)) (fun c44 => ?_) (fun c44 => ?_)
                      · skip
                        exact absurd c44 (by first | decide | omega)
                      · skip
                        refine lv_iconst (v := nI (0)) X.1 X.2.1 dX7_match_105 (by decide) ?_
                        refine lv_goto (tgt := 110) X.1 X.2.1 dX7_match_106 (by decide) ?_
                        refine mr_callV X h ck_X7_93 ki_X7_fails ks_X7_fails dX7_match_110 (As := [.int (nI (0))]) (c_X7_fails l G x ar N F B 0 (by omega)) rfl hl rfl (Nat.le_of_ble_eq_true rfl) ⟨Nat.le_of_ble_eq_true rfl, Nat.le_of_ble_eq_true rfl⟩ ⟨Nat.le_of_ble_eq_true rfl, Nat.le_of_ble_eq_true rfl⟩ ?_
                        rintro _ _ _ _ H locs ⟨rfl, rfl, rfl, rfl⟩ h
                        refine b_bool_eq (tgt := 118) X dX7_match_113 (by decide) (fun c45 => ?_) (fun c45 => ?_)
                        · skip
                          have c45 := of_decide_eq_false c45
                          refine lv_aload_n X.1 X.2.1 dX7_match_118 rfl (lv_at hl 2 rfl) ?_
                          refine mr_get X h kf_X7_22 (by decide) dX7_match_119 rfl ?_
                          refine lv_aload_n X.1 X.2.1 dX7_match_122 rfl (lv_at hl 2 rfl) ?_
                          refine mr_get X h kf_X7_97 (by decide) dX7_match_123 (v := .int (nI (N 6))) rfl ?_
                          refine lv_iload_n X.1 X.2.1 dX7_match_126 rfl (lv_at hl 3 rfl) ?_
                          refine mr_ast X h 7 rfl (by decide) dX7_match_127 (i := N 6) (v := i1) rfl (by show _ < 100; omega) rfl (fun H locs h => ?_)
                          refine lv_aload_n X.1 X.2.1 dX7_match_128 rfl (lv_at hl 2 rfl) ?_
                          refine mr_get X h kf_X7_25 (by decide) dX7_match_129 rfl ?_
                          refine lv_aload_n X.1 X.2.1 dX7_match_132 rfl (lv_at hl 2 rfl) ?_
                          refine mr_get X h kf_X7_97 (by decide) dX7_match_133 (v := .int (nI (N 6))) rfl ?_
                          refine lv_iload_n X.1 X.2.1 dX7_match_136 rfl (lv_at hl 4 rfl) ?_
                          refine mr_ast X h 8 rfl (by decide) dX7_match_137 (i := N 6) (v := i2) rfl (by show _ < 100; omega) rfl (fun H locs h => ?_)
                          refine lv_aload_n X.1 X.2.1 dX7_match_138 rfl (lv_at hl 2 rfl) ?_
                          refine mr_get X h kf_X7_28 (by decide) dX7_match_139 rfl ?_
                          refine lv_aload_n X.1 X.2.1 dX7_match_142 rfl (lv_at hl 2 rfl) ?_
                          refine mr_get X h kf_X7_97 (by decide) dX7_match_143 (v := .int (nI (N 6))) rfl ?_
                          refine lv_iload_n X.1 X.2.1 dX7_match_146 rfl (lv_at hl 5 rfl) ?_
                          refine mr_ast X h 9 rfl (by decide) dX7_match_147 (i := N 6) (v := i3) rfl (by show _ < 100; omega) rfl (fun H locs h => ?_)
                          refine lv_aload_n X.1 X.2.1 dX7_match_148 rfl (lv_at hl 2 rfl) ?_
                          refine mr_get X h kf_X7_31 (by decide) dX7_match_149 rfl ?_
                          refine lv_aload_n X.1 X.2.1 dX7_match_152 rfl (lv_at hl 2 rfl) ?_
                          refine mr_get X h kf_X7_97 (by decide) dX7_match_153 (v := .int (nI (N 6))) rfl ?_
                          refine lv_aload_n X.1 X.2.1 dX7_match_156 rfl (lv_at hl 2 rfl) ?_
                          refine mr_get X h kf_X7_90 (by decide) dX7_match_157 (v := .int (nI (N 0))) rfl ?_
                          refine mr_ast X h 10 rfl (by decide) dX7_match_160 (i := N 6) (v := N 0) rfl (by show _ < 100; omega) rfl (fun H locs h => ?_)
                          refine lv_aload_n X.1 X.2.1 dX7_match_161 rfl (lv_at hl 2 rfl) ?_
                          refine mr_get X h kf_X7_34 (by decide) dX7_match_162 rfl ?_
                          refine lv_aload_n X.1 X.2.1 dX7_match_165 rfl (lv_at hl 2 rfl) ?_
                          refine mr_get X h kf_X7_97 (by decide) dX7_match_166 (v := .int (nI (N 6))) rfl ?_
                          refine lv_aload_n X.1 X.2.1 dX7_match_169 rfl (lv_at hl 2 rfl) ?_
                          refine mr_get X h kf_X7_113 (by decide) dX7_match_170 (v := .int (nI (N 12))) rfl ?_
                          refine mr_ast X h 11 rfl (by decide) dX7_match_173 (i := N 6) (v := N 12) rfl (by show _ < 100; omega) rfl (fun H locs h => ?_)
                          refine lv_aload_n X.1 X.2.1 dX7_match_174 rfl (lv_at hl 2 rfl) ?_
                          refine lv_dup X.1 X.2.1 dX7_match_175 rfl ?_
                          refine mr_get X h kf_X7_97 (by decide) dX7_match_176 (v := .int (nI (N 6))) rfl ?_
                          refine lv_iconst (v := nI (1)) X.1 X.2.1 dX7_match_179 (by decide) ?_
                          refine lv_iadd X.1 X.2.1 dX7_match_180 ?_
                          refine lv_top (y := nI (N 6 + 1)) (nI_add _ _) ?_
                          refine mr_put X h kf_X7_97 (by decide) rfl rfl dX7_match_181 rfl (fun H locs h => ?_)
                          refine lv_aload_n X.1 X.2.1 dX7_match_184 rfl (lv_at hl 2 rfl) ?_
                          refine mr_get X h kf_X7_97 (by decide) dX7_match_185 (v := .int (nI ((N 6 + 1)))) rfl ?_
                          refine lv_iconst (v := nI (1)) X.1 X.2.1 dX7_match_188 (by decide) ?_
                          refine lv_isub X.1 X.2.1 dX7_match_189 ?_
                          refine lv_top (y := nI ((N 6 + 1)) - 1) rfl ?_
                          exact mr_iret X hr hlocks h dX7_match_190 ⟨Nat.le_of_ble_eq_true rfl, Nat.le_of_ble_eq_true rfl⟩ (MA.ok ((if_neg (by rw [iR_lt hi1 (by omega), iR_lt hi2 (by omega), iR_lt hi3 (by omega)]; decide)).trans ((if_neg (fun z => by have := (nI_eq (by omega) (by omega)).mp z; omega)).trans (if_pos (by rw [ix_nI (by omega), ix_nI (by omega), ix_nI (by omega)]; exact decide_eq_true (by omega))))) (nI_pred _) rfl (fun k h1 h2 => by simp [va_up, h1, h2]) (by rw [fMatch, ix_nI (by omega), ix_nI (by omega), ix_nI (by omega)]; exact SF.rf _) rfl)
                        · skip
                          exact absurd c45 (by first | decide | omega)
                    · skip
                      refine lv_iconst (v := nI (2)) X.1 X.2.1 dX7_match_96 (by decide) ?_
                      refine lv_goto (tgt := 110) X.1 X.2.1 dX7_match_97 (by decide) ?_
                      refine mr_callV X h ck_X7_93 ki_X7_fails ks_X7_fails dX7_match_110 (As := [.int (nI (2))]) (c_X7_fails l G x ar N F B 2 (by omega)) rfl hl rfl (Nat.le_of_ble_eq_true rfl) ⟨Nat.le_of_ble_eq_true rfl, Nat.le_of_ble_eq_true rfl⟩ ⟨Nat.le_of_ble_eq_true rfl, Nat.le_of_ble_eq_true rfl⟩ ?_
                      rintro _ _ _ _ H locs ⟨rfl, rfl, rfl, rfl⟩ h
                      refine b_bool_eq (tgt := 118) X dX7_match_113 (by decide) (fun c46 => ?_) (fun c46 => ?_)
                      · skip
                        exact absurd c46 (by first | decide | omega)
                      · skip
                        have c46 := of_decide_eq_true c46
                        refine lv_iconst (v := nI (0)) X.1 X.2.1 dX7_match_116 (by decide) ?_
                        exact mr_iret X hr hlocks h dX7_match_117 ⟨Nat.le_of_ble_eq_true rfl, Nat.le_of_ble_eq_true rfl⟩ (MA.bad ((if_neg (by rw [iR_lt hi1 (by omega), iR_lt hi2 (by omega), iR_lt hi3 (by omega)]; decide)).trans (if_pos (Int32.toInt_inj.mp (by rw [nI_ti (by omega), nI_ti (by omega)]; omega)))) (by decide))
                  · skip
                    exact absurd c42 (by first | decide | omega)
end
section
theorem sc2_o (F : Nat → Nat → Nat) (g q : Nat → Nat) (k i v : Nat) (h1 : k ≠ 25) (h2 : k ≠ 26) : va_up (sc2 F g q) k (va_up (sc2 F g q k) i v) = sc2 (set1 F k i v) g q := by
  have e : sc2 F g q k = F k := by simp [sc2, va_up, h1, h2]
  rw [e]
  funext j
  unfold set1 sc2
  by_cases a : j = k
  · subst a; simp [va_up, h1, h2]
  · by_cases b : j = 26
    · subst b; simp [va_up, a]
    · by_cases c : j = 25
      · subst c; simp [va_up, a]
      · simp [va_up, a, b, c]
theorem sc2_14 (F : Nat → Nat → Nat) (g q : Nat → Nat) (i v : Nat) : va_up (sc2 F g q) 14 (va_up (sc2 F g q 14) i v) = sc2 (set1 F 14 i v) g q := sc2_o F g q 14 i v (by decide) (by decide)
theorem sc2_15 (F : Nat → Nat → Nat) (g q : Nat → Nat) (i v : Nat) : va_up (sc2 F g q) 15 (va_up (sc2 F g q 15) i v) = sc2 (set1 F 15 i v) g q := sc2_o F g q 15 i v (by decide) (by decide)
theorem sc2_16 (F : Nat → Nat → Nat) (g q : Nat → Nat) (i v : Nat) : va_up (sc2 F g q) 16 (va_up (sc2 F g q 16) i v) = sc2 (set1 F 16 i v) g q := sc2_o F g q 16 i v (by decide) (by decide)
theorem sc2_17 (F : Nat → Nat → Nat) (g q : Nat → Nat) (i v : Nat) : va_up (sc2 F g q) 17 (va_up (sc2 F g q 17) i v) = sc2 (set1 F 17 i v) g q := sc2_o F g q 17 i v (by decide) (by decide)
theorem sc2_18 (F : Nat → Nat → Nat) (g q : Nat → Nat) (i v : Nat) : va_up (sc2 F g q) 18 (va_up (sc2 F g q 18) i v) = sc2 (set1 F 18 i v) g q := sc2_o F g q 18 i v (by decide) (by decide)
theorem sc2_20 (F : Nat → Nat → Nat) (g q : Nat → Nat) (i v : Nat) : va_up (sc2 F g q) 20 (va_up (sc2 F g q 20) i v) = sc2 (set1 F 20 i v) g q := sc2_o F g q 20 i v (by decide) (by decide)
theorem sc2_21 (F : Nat → Nat → Nat) (g q : Nat → Nat) (i v : Nat) : va_up (sc2 F g q) 21 (va_up (sc2 F g q 21) i v) = sc2 (set1 F 21 i v) g q := sc2_o F g q 21 i v (by decide) (by decide)
theorem awF_SF {F F' : Nat → Nat → Nat} (h : SF F F') (k s pl v : Nat) : SF (awF F k s pl v) (awF F' k s pl v) := ((((((h.set 14 k s).set 15 k pl).set 16 k v).set 17 k v).set 18 k 0).set 20 k 0).set 21 k 0
theorem aw_t {N : Nat → Nat} {F F1 : Nat → Nat → Nat} {j n : Nat} (h1 : (awS N F j).1 = n) (h2 : SF (awS N F j).2 F1) (hne : ¬ heirS N F (N 12) (j + 1) = 0) : (awS N F (j + 1)).1 = n + 1 ∧ SF (awS N F (j + 1)).2 (awF F1 (N 13 + n) (N 12) (j + 1) (heirS N F (N 12) (j + 1))) := by
  rw [awS, if_neg hne, h1]
  exact ⟨rfl, awF_SF h2 _ _ _ _⟩
theorem aw_f {N : Nat → Nat} {F F1 : Nat → Nat → Nat} {j n : Nat} (h1 : (awS N F j).1 = n) (h2 : SF (awS N F j).2 F1) (he : heirS N F (N 12) (j + 1) = 0) : (awS N F (j + 1)).1 = n ∧ SF (awS N F (j + 1)).2 F1 := by
  rw [awS, if_pos he]
  exact ⟨h1, h2⟩
/-- the numbers while the prizes are won: n skins more -/
def NE (N N1 : Nat → Nat) (n : Nat) : Prop := (∀ k, k ≠ 13 → k ≠ 28 → k ≠ 29 → N1 k = N k) ∧ N1 13 = N 13 + n ∧ N1 29 = 0
theorem NE.eqs {N N1 : Nat → Nat} {n : Nat} (h : NE N N1 n) : N1 0 = N 0 ∧ N1 1 = N 1 ∧ N1 6 = N 6 ∧ N1 12 = N 12 ∧ N1 13 = N 13 + n := ⟨h.1 0 (by decide) (by decide) (by decide), h.1 1 (by decide) (by decide) (by decide), h.1 6 (by decide) (by decide) (by decide), h.1 12 (by decide) (by decide) (by decide), h.2.1⟩
theorem NE.up {N N1 : Nat → Nat} {n : Nat} (h : NE N N1 n) : NE N (va_up N1 13 (N1 13 + 1)) (n + 1) := ⟨fun k h1 h2 h3 => by rw [va_up_off _ _ h1]; exact h.1 k h1 h2 h3, by rw [va_up_at, h.2.1]; rfl, h.2.2⟩
theorem NE.st (N : Nat → Nat) : NE N (va_up N 29 0) 0 := ⟨fun k _ _ h => va_up_off _ _ h, rfl, rfl⟩
theorem NE.nd {N N1 : Nat → Nat} {F : Nat → Nat → Nat} {n : Nat} (h : NE N N1 n) (hn : (awS N F 3).1 = n) : SN (nEnd N F) (va_up N1 12 (N1 12 + 1)) := by
  intro k h1 h2
  unfold nEnd
  by_cases a : k = 12
  · subst a; rw [va_up_at, va_up_at, h.eqs.2.2.2.1]
  · rw [va_up_off _ _ a, va_up_off _ _ a]
    by_cases b : k = 13
    · subst b; rw [va_up_at, hn]; exact h.2.1
    · rw [va_up_off _ _ b]; exact h.1 k b h1 h2
/-- decimals -/
def dgs (v : Nat) : List Nat := if 9 < v then [48 + v / 10, 48 + v % 10] else [48 + v % 10]
def labL (F : Nat → Nat → Nat) (k : Nat) : List Nat := (((((dgs k ++ [58]) ++ dgs (F 14 k)) ++ [47]) ++ dgs (F 15 k))) ++ (if F 17 k = 0 then [] else [64] ++ dgs (F 17 k - 1))
def kLabel (N : Nat → Nat) (k pl : Int32) : Nat := if iR k (N 13) = true ∧ 0 ≤ pl.toInt then 0 else 1
def vLabel (F : Nat → Nat → Nat) (k pl : Nat) : Int32 := nI ((labL F k).getD pl 0)
def TX (N : Nat → Nat) (F : Nat → Nat → Nat) (L : List Nat) : Prop := N 28 = L.length ∧ ∀ j, j < L.length → F 27 j = L.getD j 0
def TXp (N : Nat → Nat) (F : Nat → Nat → Nat) (N' : Nat → Nat) (F' : Nat → Nat → Nat) (L : List Nat) : Prop := SN N N' ∧ N' 29 = N 29 ∧ SF F F' ∧ TX N' F' L
theorem TXp.put {N : Nat → Nat} {F : Nat → Nat → Nat} {L : List Nat} (h : TX N F L) (c : Nat) : TXp N F (va_up N 28 (N 28 + 1)) (set1 F 27 (N 28) c) (L ++ [c]) := by
  refine ⟨fun k h1 h2 => va_up_off _ _ h1, rfl, fun k h1 h2 h3 => ?_, ?_, fun j hj => ?_⟩
  · funext i; exact set1_off F (Or.inl h3)
  · rw [va_up_at, h.1]; simp
  · rw [List.length_append, List.length_singleton] at hj
    by_cases hjl : j = L.length
    · subst hjl
      rw [h.1, set1_at]
      simp
    · rw [set1_off F (Or.inr (by rw [h.1]; exact hjl)), h.2 j (by omega)]
      simp [List.getElem?_append_left (show j < L.length by omega)]
theorem TXp.trans {N N1 N2 : Nat → Nat} {F F1 F2 : Nat → Nat → Nat} {L1 L2 : List Nat} (h : TXp N F N1 F1 L1) (q : TXp N1 F1 N2 F2 L2) : TXp N F N2 F2 L2 := ⟨h.1.trans q.1, q.2.1.trans h.2.1, h.2.2.1.trans q.2.2.1, q.2.2.2⟩
theorem dgs_len (v : Nat) : (dgs v).length ≤ 2 := by unfold dgs; split <;> simp
theorem dgs_lt {v : Nat} (h : v ≤ 99) : ∀ c ∈ dgs v, c < 128 := by
  unfold dgs
  intro c hc
  split at hc
  · simp only [List.mem_cons, List.not_mem_nil, or_false] at hc
    omega
  · simp only [List.mem_cons, List.not_mem_nil, or_false] at hc
    omega
theorem labL_lt {F : Nat → Nat → Nat} {k : Nat} (h1 : k ≤ 99) (h2 : F 14 k ≤ 99) (h3 : F 15 k ≤ 99) (h4 : F 17 k ≤ 99) (j : Nat) : (labL F k).getD j 0 < 128 := by
  have hm : ∀ c ∈ labL F k, c < 128 := by
    intro c hc
    unfold labL at hc
    simp only [List.mem_append, List.mem_singleton] at hc
    rcases hc with ((((hc | hc) | hc) | hc) | hc) | hc
    · exact dgs_lt h1 c hc
    · omega
    · exact dgs_lt h2 c hc
    · omega
    · exact dgs_lt h3 c hc
    · split at hc
      · cases hc
      · simp only [List.mem_append, List.mem_singleton] at hc
        rcases hc with hc | hc
        · omega
        · exact dgs_lt (by omega) c hc
  rw [List.getD_eq_getElem?_getD]
  cases hq : (labL F k)[j]? with
  | none => simp
  | some c => exact hm c (List.mem_of_getElem? hq)
theorem labL_len (F : Nat → Nat → Nat) (k : Nat) : (labL F k).length ≤ 11 := by
  have h1 := dgs_len k
  have h2 := dgs_len (F 14 k)
  have h3 := dgs_len (F 15 k)
  have h4 := dgs_len (F 17 k - 1)
  unfold labL
  split
  · simp only [List.length_append, List.length_singleton, List.length_nil]
    omega
  · simp only [List.length_append, List.length_singleton, List.length_nil]
    omega
end
section
set_option maxHeartbeats 4000000 in
set_option maxRecDepth 100000 in
theorem c_X7_end (l : Launch) (G : mG) (x : Nat) (ar N : Nat → Nat) (F : Nat → Nat → Nat) (B : Nat → Int32)  (hI : Iv N F) : MMet l yX7_end cX7_end 4 (some FieldType.int) ({ frames := 3, cells := 0, slots := 0, locals := 68 } : Room) G x ar [.ref x] N F B (fun r N' F' B' => MA r N' F' B' (kEnd N) (nI (awS N F 3).1) (nEnd N F) ((awS N F 3).2) (B) N F B) := by
  refine MMet.of (by decide) (Nat.le_of_ble_eq_true rfl) ?_
  intro p e s m args below meth c A ls X hr hlocks h hl
  have hl : lv_has ls 4 [(0, .ref x)] := hl
  have hn := hI.n
  refine lv_aload_n X.1 X.2.1 dX7_end_0 rfl (lv_at hl 0 rfl) ?_
  refine lv_aload_n X.1 X.2.1 dX7_end_1 rfl (lv_at hl 0 rfl) ?_
  refine mr_get X h kf_X7_113 (by decide) dX7_end_2 (v := .int (nI (N 12))) rfl ?_
  refine lv_bipush (v := nI (11)) X.1 X.2.1 dX7_end_5 (by decide) ?_
  refine b_icmp_ne (tgt := 14) X dX7_end_7 (by decide) (a := ((N 12 : Nat) : Int)) (b := ((11 : Nat) : Int)) (nI_ti (by omega)) (nI_ti (by omega)) (fun c1 => ?_) (fun c1 => ?_)
  · skip
    refine lv_iconst (v := nI (0)) X.1 X.2.1 dX7_end_14 (by decide) ?_
    refine mr_callV X h ck_X7_93 ki_X7_fails ks_X7_fails dX7_end_15 (As := [.int (nI (0))]) (c_X7_fails l G x ar N F B 0 (by omega)) rfl hl rfl (Nat.le_of_ble_eq_true rfl) ⟨Nat.le_of_ble_eq_true rfl, Nat.le_of_ble_eq_true rfl⟩ ⟨Nat.le_of_ble_eq_true rfl, Nat.le_of_ble_eq_true rfl⟩ ?_
    rintro _ _ _ _ H locs ⟨rfl, rfl, rfl, rfl⟩ h
    refine b_bool_eq (tgt := 23) X dX7_end_18 (by decide) (fun c2 => ?_) (fun c2 => ?_)
    · skip
      have c2 := of_decide_eq_false c2
      refine lv_aload_n X.1 X.2.1 dX7_end_23 rfl (lv_at hl 0 rfl) ?_
      refine lv_aload_n X.1 X.2.1 dX7_end_24 rfl (lv_at hl 0 rfl) ?_
      refine mr_get X h kf_X7_113 (by decide) dX7_end_25 (v := .int (nI (N 12))) rfl ?_
      refine mr_callV X h ck_X7_126 ki_X7_counts ks_X7_counts dX7_end_28 (As := [.int (nI (N 12))]) (c_X7_counts l G x ar (va_up N 29 (0)) F B (N 12) hI (by omega)) rfl hl rfl (Nat.le_of_ble_eq_true rfl) ⟨Nat.le_of_ble_eq_true rfl, Nat.le_of_ble_eq_true rfl⟩ ⟨Nat.le_of_ble_eq_true rfl, Nat.le_of_ble_eq_true rfl⟩ ?_
      rintro _ _ _ _ H locs ⟨rfl, rfl, rfl, g, q, rfl, hg⟩ h
      have hb : ∀ z, z < N 1 → g z ≤ 400 ∧ q z ≤ 400 := fun z hz => by have := cnt_b hg (show N 6 ≤ 100 by omega) hz; omega
      refine lv_iconst (v := nI (0)) X.1 X.2.1 dX7_end_31 (by decide) ?_
      refine lv_istore_n (lv' := [(1, .int (nI (0))), (0, .ref x)]) X.1 X.2.1 dX7_end_32 rfl hl (by decide) rfl (fun ls hl => ?_)
      refine lv_iconst (v := nI (1)) X.1 X.2.1 dX7_end_33 (by decide) ?_
      refine lv_istore_n (lv' := [(2, .int (nI (1))), (1, .int (nI (0))), (0, .ref x)]) X.1 X.2.1 dX7_end_34 rfl hl (by decide) rfl (fun ls hl => ?_)
      have loop : ∀ (n9 : Nat) (j : Nat) (n0 : Nat) (N1 : Nat → Nat) (F1 : Nat → Nat → Nat), (j ≤ 3) → (4 ≤ j + n9) → (n0 ≤ j) → (NE N N1 n0) → ((awS N F j).1 = n0) → (SF (awS N F j).2 F1) → ∀ (H : Heap) (locs : List Loc) (ls : Array Slot), mM G A s.heap x ar N1 (sc2 F1 g q) B H locs → lv_has ls 4 [(0, .ref x), (1, .int (nI (n0))), (2, .int (nI (j + 1)))] → W p l e ({ frames := 3, cells := 0, slots := 0, locals := 68 } : Room) s m args below meth c H locs 0 0 (MZ G A x ar (fun r N' F' B' => MA r N' F' B' (kEnd N) (nI (awS N F 3).1) (nEnd N F) ((awS N F 3).2) (B) N F B) below args s 0 0) (F0 m 35 ls []) := by
        intro n9
        induction n9 with
        | zero => intro j n0 N1 F1 hj hm9 hnj hE hA1 hA2; exact absurd hm9 (by omega)
        | succ n9 ih_loop =>
          intro j n0 N1 F1 hj hm9 hnj hE hA1 hA2 H locs ls h hl
          have hE2 := hE.eqs
          refine lv_iload_n X.1 X.2.1 dX7_end_35 rfl (lv_at hl 2 rfl) ?_
          refine lv_iconst (v := nI (3)) X.1 X.2.1 dX7_end_36 (by decide) ?_
          refine b_icmp_gt (tgt := 143) X dX7_end_37 (by decide) (a := ((j + 1 : Nat) : Int)) (b := ((3 : Nat) : Int)) (nI_ti (by omega)) (nI_ti (by omega)) (fun c3 => ?_) (fun c3 => ?_)
          · skip
            refine lv_aload_n X.1 X.2.1 dX7_end_143 rfl (lv_at hl 0 rfl) ?_
            refine lv_dup X.1 X.2.1 dX7_end_144 rfl ?_
            refine mr_get X h kf_X7_113 (by decide) dX7_end_145 (v := .int (nI (N1 12))) rfl ?_
            refine lv_iconst (v := nI (1)) X.1 X.2.1 dX7_end_148 (by decide) ?_
            refine lv_iadd X.1 X.2.1 dX7_end_149 ?_
            refine lv_top (y := nI (N1 12 + 1)) (nI_add _ _) ?_
            refine mr_put X h kf_X7_113 (by decide) rfl rfl dX7_end_150 rfl (fun H locs h => ?_)
            refine lv_iload_n X.1 X.2.1 dX7_end_153 rfl (lv_at hl 1 rfl) ?_
            exact mr_iret X hr hlocks h dX7_end_154 ⟨Nat.le_of_ble_eq_true rfl, Nat.le_of_ble_eq_true rfl⟩ (MA.ok (if_neg (by omega)) (by obtain rfl : j = 3 := (by omega); rw [hA1]) hE.2.2 (hE.nd (by obtain rfl : j = 3 := (by omega); exact hA1)) (by obtain rfl : j = 3 := (by omega); exact hA2.sc g q) rfl)
          · skip
            refine lv_aload_n X.1 X.2.1 dX7_end_40 rfl (lv_at hl 0 rfl) ?_
            refine lv_iload_n X.1 X.2.1 dX7_end_41 rfl (lv_at hl 2 rfl) ?_
            refine mr_callV X h ck_X7_130 ki_X7_who ks_X7_who dX7_end_42 (As := [.int (nI (j + 1))]) (c_X7_who l G x ar N1 F1 B (j + 1) g q (show N1 1 ≤ 16 by omega) (fun z hz => by first | exact hb z hz | exact hb z (by omega)) (by omega)) rfl hl rfl (Nat.le_of_ble_eq_true rfl) ⟨Nat.le_of_ble_eq_true rfl, Nat.le_of_ble_eq_true rfl⟩ ⟨Nat.le_of_ble_eq_true rfl, Nat.le_of_ble_eq_true rfl⟩ ?_
            rintro _ _ _ _ H locs ⟨rfl, rfl, rfl, rfl⟩ h
            have b4 : who g q (N1 1) (j + 1) ≤ N1 1 := whoN_le _ _ _ _ _
            refine lv_istore_n (lv' := [(3, .int (nI (who g q (N1 1) (j + 1)) - 1)), (0, .ref x), (1, .int (nI (n0))), (2, .int (nI (j + 1)))]) X.1 X.2.1 dX7_end_45 rfl hl (by decide) rfl (fun ls hl => ?_)
            refine lv_iload_n X.1 X.2.1 dX7_end_46 rfl (lv_at hl 0 rfl) ?_
            refine lv_iconst (v := nI (0) - 1) X.1 X.2.1 dX7_end_47 (by decide) ?_
            refine b_icmp_eq (tgt := 137) X dX7_end_48 (by decide) (a := ((who g q (N1 1) (j + 1) : Nat) : Int) - 1) (b := ((0 : Nat) : Int) - 1) (eI_ti (by omega)) (eI_ti (by omega)) (fun c5 => ?_) (fun c5 => ?_)
            · skip
              refine lv_iinc (v := nI (j + 1 + 1)) (lv' := [(2, .int (nI (j + 1 + 1))), (3, .int (nI (who g q (N1 1) (j + 1)) - 1)), (0, .ref x), (1, .int (nI (n0)))]) X.1 X.2.1 dX7_end_137 hl (k := 3) rfl (nI_add (j + 1) 1) (by decide) rfl (fun ls hl => ?_)
              refine lv_goto (tgt := 35) X.1 X.2.1 dX7_end_140 (by decide) ?_
              have hhe : who g q (N1 1) (j + 1) = heirS N F (N 12) (j + 1) := (show who g q (N1 1) (j + 1) = heirS N F (N 12) (j + 1) by rw [hE.eqs.2.1]; exact who_heir (F := F) hg)
              have haf := aw_f hA1 hA2 (show heirS N F (N 12) (j + 1) = 0 by omega)
              exact ih_loop (j + 1) (n0) N1 (F1) (by omega) (by omega) (by omega) hE haf.1 haf.2 _ _ _ h (lv_sub hl [2, 3, 0] rfl)
            · skip
              refine lv_aload_n X.1 X.2.1 dX7_end_51 rfl (lv_at hl 1 rfl) ?_
              refine mr_get X h kf_X7_37 (by decide) dX7_end_52 rfl ?_
              refine lv_aload_n X.1 X.2.1 dX7_end_55 rfl (lv_at hl 1 rfl) ?_
              refine mr_get X h kf_X7_133 (by decide) dX7_end_56 (v := .int (nI (N1 13))) rfl ?_
              refine lv_aload_n X.1 X.2.1 dX7_end_59 rfl (lv_at hl 1 rfl) ?_
              refine mr_get X h kf_X7_113 (by decide) dX7_end_60 (v := .int (nI (N1 12))) rfl ?_
              refine mr_ast X h 14 rfl (by decide) dX7_end_63 (i := N1 13) (v := N1 12) rfl (by show _ < 36; omega) rfl (fun H locs h => ?_)
              rw [sc2_14] at h
              refine lv_aload_n X.1 X.2.1 dX7_end_64 rfl (lv_at hl 1 rfl) ?_
              refine mr_get X h kf_X7_40 (by decide) dX7_end_65 rfl ?_
              refine lv_aload_n X.1 X.2.1 dX7_end_68 rfl (lv_at hl 1 rfl) ?_
              refine mr_get X h kf_X7_133 (by decide) dX7_end_69 (v := .int (nI (N1 13))) rfl ?_
              refine lv_iload_n X.1 X.2.1 dX7_end_72 rfl (lv_at hl 3 rfl) ?_
              refine mr_ast X h 15 rfl (by decide) dX7_end_73 (i := N1 13) (v := j + 1) rfl (by show _ < 36; omega) rfl (fun H locs h => ?_)
              rw [sc2_15] at h
              refine lv_aload_n X.1 X.2.1 dX7_end_74 rfl (lv_at hl 1 rfl) ?_
              refine mr_get X h kf_X7_43 (by decide) dX7_end_75 rfl ?_
              refine lv_aload_n X.1 X.2.1 dX7_end_78 rfl (lv_at hl 1 rfl) ?_
              refine mr_get X h kf_X7_133 (by decide) dX7_end_79 (v := .int (nI (N1 13))) rfl ?_
              refine lv_iload_n X.1 X.2.1 dX7_end_82 rfl (lv_at hl 0 rfl) ?_
              refine mr_ast X h 16 rfl (by decide) dX7_end_83 (i := N1 13) (v := who g q (N1 1) (j + 1)) rfl (by show _ < 36; omega) rfl (fun H locs h => ?_)
              rw [sc2_16] at h
              refine lv_aload_n X.1 X.2.1 dX7_end_84 rfl (lv_at hl 1 rfl) ?_
              refine mr_get X h kf_X7_46 (by decide) dX7_end_85 rfl ?_
              refine lv_aload_n X.1 X.2.1 dX7_end_88 rfl (lv_at hl 1 rfl) ?_
              refine mr_get X h kf_X7_133 (by decide) dX7_end_89 (v := .int (nI (N1 13))) rfl ?_
              refine lv_iload_n X.1 X.2.1 dX7_end_92 rfl (lv_at hl 0 rfl) ?_
              refine mr_ast X h 17 rfl (by decide) dX7_end_93 (i := N1 13) (v := who g q (N1 1) (j + 1)) rfl (by show _ < 36; omega) rfl (fun H locs h => ?_)
              rw [sc2_17] at h
              refine lv_aload_n X.1 X.2.1 dX7_end_94 rfl (lv_at hl 1 rfl) ?_
              refine mr_get X h kf_X7_49 (by decide) dX7_end_95 rfl ?_
              refine lv_aload_n X.1 X.2.1 dX7_end_98 rfl (lv_at hl 1 rfl) ?_
              refine mr_get X h kf_X7_133 (by decide) dX7_end_99 (v := .int (nI (N1 13))) rfl ?_
              refine lv_iconst (v := nI (0) - 1) X.1 X.2.1 dX7_end_102 (by decide) ?_
              refine mr_ast X h 18 rfl (by decide) dX7_end_103 (i := N1 13) (v := 0) rfl (by show _ < 36; omega) rfl (fun H locs h => ?_)
              rw [sc2_18] at h
              refine lv_aload_n X.1 X.2.1 dX7_end_104 rfl (lv_at hl 1 rfl) ?_
              refine mr_get X h kf_X7_55 (by decide) dX7_end_105 rfl ?_
              refine lv_aload_n X.1 X.2.1 dX7_end_108 rfl (lv_at hl 1 rfl) ?_
              refine mr_get X h kf_X7_133 (by decide) dX7_end_109 (v := .int (nI (N1 13))) rfl ?_
              refine lv_iconst (v := nI (0) - 1) X.1 X.2.1 dX7_end_112 (by decide) ?_
              refine mr_ast X h 20 rfl (by decide) dX7_end_113 (i := N1 13) (v := 0) rfl (by show _ < 36; omega) rfl (fun H locs h => ?_)
              rw [sc2_20] at h
              refine lv_aload_n X.1 X.2.1 dX7_end_114 rfl (lv_at hl 1 rfl) ?_
              refine mr_get X h kf_X7_58 (by decide) dX7_end_115 rfl ?_
              refine lv_aload_n X.1 X.2.1 dX7_end_118 rfl (lv_at hl 1 rfl) ?_
              refine mr_get X h kf_X7_133 (by decide) dX7_end_119 (v := .int (nI (N1 13))) rfl ?_
              refine lv_iconst (v := nI (0)) X.1 X.2.1 dX7_end_122 (by decide) ?_
              refine mr_ast X h 21 rfl (by decide) dX7_end_123 (i := N1 13) (v := 0) rfl (by show _ < 36; omega) rfl (fun H locs h => ?_)
              rw [sc2_21] at h
              refine lv_aload_n X.1 X.2.1 dX7_end_124 rfl (lv_at hl 1 rfl) ?_
              refine lv_dup X.1 X.2.1 dX7_end_125 rfl ?_
              refine mr_get X h kf_X7_133 (by decide) dX7_end_126 (v := .int (nI (N1 13))) rfl ?_
              refine lv_iconst (v := nI (1)) X.1 X.2.1 dX7_end_129 (by decide) ?_
              refine lv_iadd X.1 X.2.1 dX7_end_130 ?_
              refine lv_top (y := nI (N1 13 + 1)) (nI_add _ _) ?_
              refine mr_put X h kf_X7_133 (by decide) rfl rfl dX7_end_131 rfl (fun H locs h => ?_)
              refine lv_iinc (v := nI (n0 + 1)) (lv' := [(1, .int (nI (n0 + 1))), (3, .int (nI (who g q (N1 1) (j + 1)) - 1)), (0, .ref x), (2, .int (nI (j + 1)))]) X.1 X.2.1 dX7_end_134 hl (k := 2) rfl (nI_add (n0) 1) (by decide) rfl (fun ls hl => ?_)
              refine lv_iinc (v := nI (j + 1 + 1)) (lv' := [(2, .int (nI (j + 1 + 1))), (1, .int (nI (n0 + 1))), (3, .int (nI (who g q (N1 1) (j + 1)) - 1)), (0, .ref x)]) X.1 X.2.1 dX7_end_137 hl (k := 3) rfl (nI_add (j + 1) 1) (by decide) rfl (fun ls hl => ?_)
              refine lv_goto (tgt := 35) X.1 X.2.1 dX7_end_140 (by decide) ?_
              have hhe : who g q (N1 1) (j + 1) = heirS N F (N 12) (j + 1) := (show who g q (N1 1) (j + 1) = heirS N F (N 12) (j + 1) by rw [hE.eqs.2.1]; exact who_heir (F := F) hg)
              have hat := aw_t hA1 hA2 (show ¬ heirS N F (N 12) (j + 1) = 0 by omega)
              rw [← hE.2.1, ← hhe, ← hE.eqs.2.2.2.1] at hat
              exact ih_loop (j + 1) (n0 + 1) (va_up N1 13 (N1 13 + 1)) ((set1 (set1 (set1 (set1 (set1 (set1 (set1 F1 14 (N1 13) (N1 12)) 15 (N1 13) (j + 1)) 16 (N1 13) (who g q (N1 1) (j + 1))) 17 (N1 13) (who g q (N1 1) (j + 1))) 18 (N1 13) (0)) 20 (N1 13) (0)) 21 (N1 13) (0))) (by omega) (by omega) (by omega) hE.up hat.1 hat.2 _ _ _ h (lv_sub hl [3, 1, 0] rfl)
      exact loop 4 0 0 (va_up N 29 (0)) F (by omega) (by omega) (by omega) (NE.st N) rfl (SF.rf F) _ _ _ h (lv_sub hl [2, 1, 0] rfl)
    · skip
      exact absurd c2 (by first | decide | omega)
  · skip
    refine lv_iconst (v := nI (1)) X.1 X.2.1 dX7_end_10 (by decide) ?_
    refine lv_goto (tgt := 15) X.1 X.2.1 dX7_end_11 (by decide) ?_
    refine mr_callV X h ck_X7_93 ki_X7_fails ks_X7_fails dX7_end_15 (As := [.int (nI (1))]) (c_X7_fails l G x ar N F B 1 (by omega)) rfl hl rfl (Nat.le_of_ble_eq_true rfl) ⟨Nat.le_of_ble_eq_true rfl, Nat.le_of_ble_eq_true rfl⟩ ⟨Nat.le_of_ble_eq_true rfl, Nat.le_of_ble_eq_true rfl⟩ ?_
    rintro _ _ _ _ H locs ⟨rfl, rfl, rfl, rfl⟩ h
    refine b_bool_eq (tgt := 23) X dX7_end_18 (by decide) (fun c6 => ?_) (fun c6 => ?_)
    · skip
      exact absurd c6 (by first | decide | omega)
    · skip
      have c6 := of_decide_eq_true c6
      refine lv_iconst (v := nI (0)) X.1 X.2.1 dX7_end_21 (by decide) ?_
      exact mr_iret X hr hlocks h dX7_end_22 ⟨Nat.le_of_ble_eq_true rfl, Nat.le_of_ble_eq_true rfl⟩ (MA.bad (if_pos (by omega)) (by decide))
set_option maxHeartbeats 4000000 in
set_option maxRecDepth 100000 in
theorem c_X7_sell (l : Launch) (G : mG) (x : Nat) (ar N : Nat → Nat) (F : Nat → Nat → Nat) (B : Nat → Int32) (k0 : Int32) (p0 : Int32) (z0 : Int32) (hI : Iv N F) : MMet l yX7_sell cX7_sell 8 (some FieldType.boolean) ({ frames := 2, cells := 0, slots := 0, locals := 43 } : Room) G x ar [.ref x, .int (k0), .int (p0), .int (z0)] N F B (fun r N' F' B' => MA r N' F' B' (kSell N F k0 p0 z0) (bI (faithS F (ix k0) (ix p0))) (N) (fSell F (ix k0) (ix p0) (ix z0)) (bSell F B (ix k0) (ix p0) (ix z0)) N F B) := by
  refine MMet.of (by decide) (Nat.le_of_ble_eq_true rfl) ?_
  intro p e s m args below meth c A ls X hr hlocks h hl
  have hl : lv_has ls 8 [(0, .ref x), (1, .int (k0)), (2, .int (p0)), (3, .int (z0))] := hl
  have hn := hI.n
  refine lv_aload_n X.1 X.2.1 dX7_sell_0 rfl (lv_at hl 0 rfl) ?_
  refine lv_iload_n X.1 X.2.1 dX7_sell_1 rfl (lv_at hl 1 rfl) ?_
  refine mr_callV X h ck_X7_136 ki_X7_isSkin ks_X7_isSkin dX7_sell_2 (As := [.int (k0)]) (c_X7_isSkin l G x ar N F B (k0) hI) rfl hl rfl (Nat.le_of_ble_eq_true rfl) ⟨Nat.le_of_ble_eq_true rfl, Nat.le_of_ble_eq_true rfl⟩ ⟨Nat.le_of_ble_eq_true rfl, Nat.le_of_ble_eq_true rfl⟩ ?_
  rintro _ _ _ _ H locs ⟨rfl, rfl, rfl, rfl⟩ h
  refine b_bool_eq (tgt := 20) X dX7_sell_5 (by decide) (fun c1 => ?_) (fun c1 => ?_)
  · skip
    refine lv_iconst (v := nI (0)) X.1 X.2.1 dX7_sell_20 (by decide) ?_
    refine lv_istore (lv' := [(4, .int (nI (0))), (0, .ref x), (1, .int (k0)), (2, .int (p0)), (3, .int (z0))]) X.1 X.2.1 dX7_sell_21 hl (by decide) rfl (fun ls hl => ?_)
    refine lv_iload X.1 X.2.1 dX7_sell_23 (lv_at hl 0 rfl) ?_
    refine b_if_eq (tgt := 84) X dX7_sell_25 (by decide) (a := ((0 : Nat) : Int)) (nI_ti (by omega)) (fun c2 => ?_) (fun c2 => ?_)
    · skip
      refine lv_iconst (v := nI (0)) X.1 X.2.1 dX7_sell_84 (by decide) ?_
      refine lv_istore (lv' := [(5, .int (nI (0))), (4, .int (nI (0))), (0, .ref x), (1, .int (k0)), (2, .int (p0)), (3, .int (z0))]) X.1 X.2.1 dX7_sell_85 hl (by decide) rfl (fun ls hl => ?_)
      refine lv_aload_n X.1 X.2.1 dX7_sell_87 rfl (lv_at hl 2 rfl) ?_
      refine lv_iload X.1 X.2.1 dX7_sell_88 (lv_at hl 1 rfl) ?_
      refine b_if_ne (tgt := 97) X dX7_sell_90 (by decide) (a := ((0 : Nat) : Int)) (nI_ti (by omega)) (fun c3 => ?_) (fun c3 => ?_)
      · skip
        exact absurd c3 (by first | decide | omega)
      · skip
        refine lv_iconst (v := nI (1)) X.1 X.2.1 dX7_sell_93 (by decide) ?_
        refine lv_goto (tgt := 122) X.1 X.2.1 dX7_sell_94 (by decide) ?_
        refine mr_callV X h ck_X7_93 ki_X7_fails ks_X7_fails dX7_sell_122 (As := [.int (nI (1))]) (c_X7_fails l G x ar N F B 1 (by omega)) rfl hl rfl (Nat.le_of_ble_eq_true rfl) ⟨Nat.le_of_ble_eq_true rfl, Nat.le_of_ble_eq_true rfl⟩ ⟨Nat.le_of_ble_eq_true rfl, Nat.le_of_ble_eq_true rfl⟩ ?_
        rintro _ _ _ _ H locs ⟨rfl, rfl, rfl, rfl⟩ h
        refine b_bool_eq (tgt := 130) X dX7_sell_125 (by decide) (fun c4 => ?_) (fun c4 => ?_)
        · skip
          exact absurd c4 (by first | decide | omega)
        · skip
          have c4 := of_decide_eq_true c4
          refine lv_iconst (v := nI (0)) X.1 X.2.1 dX7_sell_128 (by decide) ?_
          exact mr_zret X hr hlocks h dX7_sell_129 ⟨Nat.le_of_ble_eq_true rfl, Nat.le_of_ble_eq_true rfl⟩ (rfl) (MA.bad (if_pos (by simp [c1])) (by decide))
    · skip
      exact absurd c2 (by first | decide | omega)
  · skip
    obtain ⟨i1, hi1, rfl⟩ := iR_t c1 (by omega)
    refine lv_aload_n X.1 X.2.1 dX7_sell_8 rfl (lv_at hl 0 rfl) ?_
    refine lv_iload_n X.1 X.2.1 dX7_sell_9 rfl (lv_at hl 2 rfl) ?_
    refine mr_callV X h ck_X7_107 ki_X7_isPlayer ks_X7_isPlayer dX7_sell_10 (As := [.int (p0)]) (c_X7_isPlayer l G x ar N F B (p0) hI) rfl hl rfl (Nat.le_of_ble_eq_true rfl) ⟨Nat.le_of_ble_eq_true rfl, Nat.le_of_ble_eq_true rfl⟩ ⟨Nat.le_of_ble_eq_true rfl, Nat.le_of_ble_eq_true rfl⟩ ?_
    rintro _ _ _ _ H locs ⟨rfl, rfl, rfl, rfl⟩ h
    refine b_bool_eq (tgt := 20) X dX7_sell_13 (by decide) (fun c5 => ?_) (fun c5 => ?_)
    · skip
      refine lv_iconst (v := nI (0)) X.1 X.2.1 dX7_sell_20 (by decide) ?_
      refine lv_istore (lv' := [(4, .int (nI (0))), (0, .ref x), (1, .int (nI (i1))), (2, .int (p0)), (3, .int (z0))]) X.1 X.2.1 dX7_sell_21 hl (by decide) rfl (fun ls hl => ?_)
      refine lv_iload X.1 X.2.1 dX7_sell_23 (lv_at hl 0 rfl) ?_
      refine b_if_eq (tgt := 84) X dX7_sell_25 (by decide) (a := ((0 : Nat) : Int)) (nI_ti (by omega)) (fun c6 => ?_) (fun c6 => ?_)
      · skip
        refine lv_iconst (v := nI (0)) X.1 X.2.1 dX7_sell_84 (by decide) ?_
        refine lv_istore (lv' := [(5, .int (nI (0))), (4, .int (nI (0))), (0, .ref x), (1, .int (nI (i1))), (2, .int (p0)), (3, .int (z0))]) X.1 X.2.1 dX7_sell_85 hl (by decide) rfl (fun ls hl => ?_)
        refine lv_aload_n X.1 X.2.1 dX7_sell_87 rfl (lv_at hl 2 rfl) ?_
        refine lv_iload X.1 X.2.1 dX7_sell_88 (lv_at hl 1 rfl) ?_
        refine b_if_ne (tgt := 97) X dX7_sell_90 (by decide) (a := ((0 : Nat) : Int)) (nI_ti (by omega)) (fun c7 => ?_) (fun c7 => ?_)
        · skip
          exact absurd c7 (by first | decide | omega)
        · skip
          refine lv_iconst (v := nI (1)) X.1 X.2.1 dX7_sell_93 (by decide) ?_
          refine lv_goto (tgt := 122) X.1 X.2.1 dX7_sell_94 (by decide) ?_
          refine mr_callV X h ck_X7_93 ki_X7_fails ks_X7_fails dX7_sell_122 (As := [.int (nI (1))]) (c_X7_fails l G x ar N F B 1 (by omega)) rfl hl rfl (Nat.le_of_ble_eq_true rfl) ⟨Nat.le_of_ble_eq_true rfl, Nat.le_of_ble_eq_true rfl⟩ ⟨Nat.le_of_ble_eq_true rfl, Nat.le_of_ble_eq_true rfl⟩ ?_
          rintro _ _ _ _ H locs ⟨rfl, rfl, rfl, rfl⟩ h
          refine b_bool_eq (tgt := 130) X dX7_sell_125 (by decide) (fun c8 => ?_) (fun c8 => ?_)
          · skip
            exact absurd c8 (by first | decide | omega)
          · skip
            have c8 := of_decide_eq_true c8
            refine lv_iconst (v := nI (0)) X.1 X.2.1 dX7_sell_128 (by decide) ?_
            exact mr_zret X hr hlocks h dX7_sell_129 ⟨Nat.le_of_ble_eq_true rfl, Nat.le_of_ble_eq_true rfl⟩ (rfl) (MA.bad (if_pos (by simp [iR_lt hi1 (show N 13 < 2 ^ 31 by omega), c5])) (by decide))
      · skip
        exact absurd c6 (by first | decide | omega)
    · skip
      obtain ⟨i2, hi2, rfl⟩ := iR_t c5 (by omega)
      refine lv_iconst (v := nI (1)) X.1 X.2.1 dX7_sell_16 (by decide) ?_
      refine lv_goto (tgt := 21) X.1 X.2.1 dX7_sell_17 (by decide) ?_
      refine lv_istore (lv' := [(4, .int (nI (1))), (0, .ref x), (1, .int (nI (i1))), (2, .int (nI (i2))), (3, .int (z0))]) X.1 X.2.1 dX7_sell_21 hl (by decide) rfl (fun ls hl => ?_)
      refine lv_iload X.1 X.2.1 dX7_sell_23 (lv_at hl 0 rfl) ?_
      refine b_if_eq (tgt := 84) X dX7_sell_25 (by decide) (a := ((1 : Nat) : Int)) (nI_ti (by omega)) (fun c9 => ?_) (fun c9 => ?_)
      · skip
        exact absurd c9 (by first | decide | omega)
      · skip
        refine lv_aload_n X.1 X.2.1 dX7_sell_28 rfl (lv_at hl 1 rfl) ?_
        refine mr_get X h kf_X7_46 (by decide) dX7_sell_29 rfl ?_
        refine lv_iload_n X.1 X.2.1 dX7_sell_32 rfl (lv_at hl 2 rfl) ?_
        refine mr_ald X h 17 rfl dX7_sell_33 (i := i1) (v := nI (F 17 (i1)) - 1) rfl (by show _ < 36; omega) rfl ?_
        have b10 := hI.k (k := i1) (by omega)
        refine lv_iconst (v := nI (0) - 1) X.1 X.2.1 dX7_sell_34 (by decide) ?_
        refine b_icmp_eq (tgt := 84) X dX7_sell_35 (by decide) (a := ((F 17 (i1) : Nat) : Int) - 1) (b := ((0 : Nat) : Int) - 1) (eI_ti (by omega)) (eI_ti (by omega)) (fun c11 => ?_) (fun c11 => ?_)
        · skip
          refine lv_iconst (v := nI (0)) X.1 X.2.1 dX7_sell_84 (by decide) ?_
          refine lv_istore (lv' := [(5, .int (nI (0))), (4, .int (nI (1))), (0, .ref x), (1, .int (nI (i1))), (2, .int (nI (i2))), (3, .int (z0))]) X.1 X.2.1 dX7_sell_85 hl (by decide) rfl (fun ls hl => ?_)
          refine lv_aload_n X.1 X.2.1 dX7_sell_87 rfl (lv_at hl 2 rfl) ?_
          refine lv_iload X.1 X.2.1 dX7_sell_88 (lv_at hl 1 rfl) ?_
          refine b_if_ne (tgt := 97) X dX7_sell_90 (by decide) (a := ((1 : Nat) : Int)) (nI_ti (by omega)) (fun c12 => ?_) (fun c12 => ?_)
          · skip
            refine lv_iload_n X.1 X.2.1 dX7_sell_97 rfl (lv_at hl 5 rfl) ?_
            refine lv_iconst (v := nI (0)) X.1 X.2.1 dX7_sell_98 (by decide) ?_
            refine lv_sipush (v := nI (10000)) X.1 X.2.1 dX7_sell_99 (by decide) ?_
            refine mr_callS X h ck_X7_86 kst_X7_isIn dX7_sell_102 (As := [.int (z0), .int (nI (0)), .int (nI (10000))]) (c_X7_isIn l G x ar N F B (z0) (nI (0)) (nI (10000))) rfl hl rfl (Nat.le_of_ble_eq_true rfl) ⟨Nat.le_of_ble_eq_true rfl, Nat.le_of_ble_eq_true rfl⟩ ⟨Nat.le_of_ble_eq_true rfl, Nat.le_of_ble_eq_true rfl⟩ ?_
            rintro _ _ _ _ H locs ⟨rfl, rfl, rfl, rfl⟩ h
            refine lv_top (y := bI (decide (((0 : Nat) : Int) ≤ (z0).toInt ∧ (z0).toInt ≤ ((10000 : Nat) : Int)))) (by rw [show (z0).toInt = (z0).toInt from rfl, show (nI (0)).toInt = ((0 : Nat) : Int) from nI_ti (by omega), show (nI (10000)).toInt = ((10000 : Nat) : Int) from nI_ti (by omega)]) ?_
            refine b_bool_ne (tgt := 112) X dX7_sell_105 (by decide) (fun c13 => ?_) (fun c13 => ?_)
            · skip
              have c13 := of_decide_eq_true c13
              obtain ⟨i3, hi3l, hi3, rfl⟩ := in_t 0 (n := 10000) c13 (by omega)
              refine lv_iload X.1 X.2.1 dX7_sell_112 (lv_at hl 0 rfl) ?_
              refine b_if_eq (tgt := 121) X dX7_sell_114 (by decide) (a := ((0 : Nat) : Int)) (nI_ti (by omega)) (fun c14 => ?_) (fun c14 => ?_)
              · skip
                refine lv_iconst (v := nI (3)) X.1 X.2.1 dX7_sell_121 (by decide) ?_
                refine mr_callV X h ck_X7_93 ki_X7_fails ks_X7_fails dX7_sell_122 (As := [.int (nI (3))]) (c_X7_fails l G x ar N F B 3 (by omega)) rfl hl rfl (Nat.le_of_ble_eq_true rfl) ⟨Nat.le_of_ble_eq_true rfl, Nat.le_of_ble_eq_true rfl⟩ ⟨Nat.le_of_ble_eq_true rfl, Nat.le_of_ble_eq_true rfl⟩ ?_
                rintro _ _ _ _ H locs ⟨rfl, rfl, rfl, rfl⟩ h
                refine b_bool_eq (tgt := 130) X dX7_sell_125 (by decide) (fun c15 => ?_) (fun c15 => ?_)
                · skip
                  exact absurd c15 (by first | decide | omega)
                · skip
                  have c15 := of_decide_eq_true c15
                  refine lv_iconst (v := nI (0)) X.1 X.2.1 dX7_sell_128 (by decide) ?_
                  exact mr_zret X hr hlocks h dX7_sell_129 ⟨Nat.le_of_ble_eq_true rfl, Nat.le_of_ble_eq_true rfl⟩ (rfl) (MA.bad ((if_neg (by rw [iR_lt hi1 (by omega), iR_lt hi2 (by omega)]; decide)).trans ((if_neg (fun z => z (by rw [nI_ti (by omega)]; omega))).trans (if_neg (by rw [ix_nI (by omega), ix_nI (by omega)]; intro z; have := of_decide_eq_true z.1; omega)))) (by decide))
              · skip
                exact absurd c14 (by first | decide | omega)
            · skip
              have c13 := of_decide_eq_false c13
              refine lv_iconst (v := nI (2)) X.1 X.2.1 dX7_sell_108 (by decide) ?_
              refine lv_goto (tgt := 122) X.1 X.2.1 dX7_sell_109 (by decide) ?_
              refine mr_callV X h ck_X7_93 ki_X7_fails ks_X7_fails dX7_sell_122 (As := [.int (nI (2))]) (c_X7_fails l G x ar N F B 2 (by omega)) rfl hl rfl (Nat.le_of_ble_eq_true rfl) ⟨Nat.le_of_ble_eq_true rfl, Nat.le_of_ble_eq_true rfl⟩ ⟨Nat.le_of_ble_eq_true rfl, Nat.le_of_ble_eq_true rfl⟩ ?_
              rintro _ _ _ _ H locs ⟨rfl, rfl, rfl, rfl⟩ h
              refine b_bool_eq (tgt := 130) X dX7_sell_125 (by decide) (fun c16 => ?_) (fun c16 => ?_)
              · skip
                exact absurd c16 (by first | decide | omega)
              · skip
                have c16 := of_decide_eq_true c16
                refine lv_iconst (v := nI (0)) X.1 X.2.1 dX7_sell_128 (by decide) ?_
                exact mr_zret X hr hlocks h dX7_sell_129 ⟨Nat.le_of_ble_eq_true rfl, Nat.le_of_ble_eq_true rfl⟩ (rfl) (MA.bad ((if_neg (by rw [iR_lt hi1 (by omega), iR_lt hi2 (by omega)]; decide)).trans (if_pos (by omega))) (by decide))
          · skip
            exact absurd c12 (by first | decide | omega)
        · skip
          refine lv_aload_n X.1 X.2.1 dX7_sell_38 rfl (lv_at hl 1 rfl) ?_
          refine mr_get X h kf_X7_46 (by decide) dX7_sell_39 rfl ?_
          refine lv_iload_n X.1 X.2.1 dX7_sell_42 rfl (lv_at hl 2 rfl) ?_
          refine mr_ald X h 17 rfl dX7_sell_43 (i := i1) (v := nI (F 17 (i1)) - 1) rfl (by show _ < 36; omega) rfl ?_
          have b17 := hI.k (k := i1) (by omega)
          refine lv_iload_n X.1 X.2.1 dX7_sell_44 rfl (lv_at hl 3 rfl) ?_
          refine b_icmp_eq (tgt := 84) X dX7_sell_45 (by decide) (a := ((F 17 (i1) : Nat) : Int) - 1) (b := ((i2 : Nat) : Int)) (eI_ti (by omega)) (nI_ti (by omega)) (fun c18 => ?_) (fun c18 => ?_)
          · skip
            refine lv_iconst (v := nI (0)) X.1 X.2.1 dX7_sell_84 (by decide) ?_
            refine lv_istore (lv' := [(5, .int (nI (0))), (4, .int (nI (1))), (0, .ref x), (1, .int (nI (i1))), (2, .int (nI (i2))), (3, .int (z0))]) X.1 X.2.1 dX7_sell_85 hl (by decide) rfl (fun ls hl => ?_)
            refine lv_aload_n X.1 X.2.1 dX7_sell_87 rfl (lv_at hl 2 rfl) ?_
            refine lv_iload X.1 X.2.1 dX7_sell_88 (lv_at hl 1 rfl) ?_
            refine b_if_ne (tgt := 97) X dX7_sell_90 (by decide) (a := ((1 : Nat) : Int)) (nI_ti (by omega)) (fun c19 => ?_) (fun c19 => ?_)
            · skip
              refine lv_iload_n X.1 X.2.1 dX7_sell_97 rfl (lv_at hl 5 rfl) ?_
              refine lv_iconst (v := nI (0)) X.1 X.2.1 dX7_sell_98 (by decide) ?_
              refine lv_sipush (v := nI (10000)) X.1 X.2.1 dX7_sell_99 (by decide) ?_
              refine mr_callS X h ck_X7_86 kst_X7_isIn dX7_sell_102 (As := [.int (z0), .int (nI (0)), .int (nI (10000))]) (c_X7_isIn l G x ar N F B (z0) (nI (0)) (nI (10000))) rfl hl rfl (Nat.le_of_ble_eq_true rfl) ⟨Nat.le_of_ble_eq_true rfl, Nat.le_of_ble_eq_true rfl⟩ ⟨Nat.le_of_ble_eq_true rfl, Nat.le_of_ble_eq_true rfl⟩ ?_
              rintro _ _ _ _ H locs ⟨rfl, rfl, rfl, rfl⟩ h
              refine lv_top (y := bI (decide (((0 : Nat) : Int) ≤ (z0).toInt ∧ (z0).toInt ≤ ((10000 : Nat) : Int)))) (by rw [show (z0).toInt = (z0).toInt from rfl, show (nI (0)).toInt = ((0 : Nat) : Int) from nI_ti (by omega), show (nI (10000)).toInt = ((10000 : Nat) : Int) from nI_ti (by omega)]) ?_
              refine b_bool_ne (tgt := 112) X dX7_sell_105 (by decide) (fun c20 => ?_) (fun c20 => ?_)
              · skip
                have c20 := of_decide_eq_true c20
                obtain ⟨i3, hi3l, hi3, rfl⟩ := in_t 0 (n := 10000) c20 (by omega)
                refine lv_iload X.1 X.2.1 dX7_sell_112 (lv_at hl 0 rfl) ?_
                refine b_if_eq (tgt := 121) X dX7_sell_114 (by decide) (a := ((0 : Nat) : Int)) (nI_ti (by omega)) (fun c21 => ?_) (fun c21 => ?_)
                · skip
                  refine lv_iconst (v := nI (3)) X.1 X.2.1 dX7_sell_121 (by decide) ?_
                  refine mr_callV X h ck_X7_93 ki_X7_fails ks_X7_fails dX7_sell_122 (As := [.int (nI (3))]) (c_X7_fails l G x ar N F B 3 (by omega)) rfl hl rfl (Nat.le_of_ble_eq_true rfl) ⟨Nat.le_of_ble_eq_true rfl, Nat.le_of_ble_eq_true rfl⟩ ⟨Nat.le_of_ble_eq_true rfl, Nat.le_of_ble_eq_true rfl⟩ ?_
                  rintro _ _ _ _ H locs ⟨rfl, rfl, rfl, rfl⟩ h
                  refine b_bool_eq (tgt := 130) X dX7_sell_125 (by decide) (fun c22 => ?_) (fun c22 => ?_)
                  · skip
                    exact absurd c22 (by first | decide | omega)
                  · skip
                    have c22 := of_decide_eq_true c22
                    refine lv_iconst (v := nI (0)) X.1 X.2.1 dX7_sell_128 (by decide) ?_
                    exact mr_zret X hr hlocks h dX7_sell_129 ⟨Nat.le_of_ble_eq_true rfl, Nat.le_of_ble_eq_true rfl⟩ (rfl) (MA.bad ((if_neg (by rw [iR_lt hi1 (by omega), iR_lt hi2 (by omega)]; decide)).trans ((if_neg (fun z => z (by rw [nI_ti (by omega)]; omega))).trans (if_neg (by rw [ix_nI (by omega), ix_nI (by omega)]; intro z; have := of_decide_eq_true z.1; omega)))) (by decide))
                · skip
                  exact absurd c21 (by first | decide | omega)
              · skip
                have c20 := of_decide_eq_false c20
                refine lv_iconst (v := nI (2)) X.1 X.2.1 dX7_sell_108 (by decide) ?_
                refine lv_goto (tgt := 122) X.1 X.2.1 dX7_sell_109 (by decide) ?_
                refine mr_callV X h ck_X7_93 ki_X7_fails ks_X7_fails dX7_sell_122 (As := [.int (nI (2))]) (c_X7_fails l G x ar N F B 2 (by omega)) rfl hl rfl (Nat.le_of_ble_eq_true rfl) ⟨Nat.le_of_ble_eq_true rfl, Nat.le_of_ble_eq_true rfl⟩ ⟨Nat.le_of_ble_eq_true rfl, Nat.le_of_ble_eq_true rfl⟩ ?_
                rintro _ _ _ _ H locs ⟨rfl, rfl, rfl, rfl⟩ h
                refine b_bool_eq (tgt := 130) X dX7_sell_125 (by decide) (fun c23 => ?_) (fun c23 => ?_)
                · skip
                  exact absurd c23 (by first | decide | omega)
                · skip
                  have c23 := of_decide_eq_true c23
                  refine lv_iconst (v := nI (0)) X.1 X.2.1 dX7_sell_128 (by decide) ?_
                  exact mr_zret X hr hlocks h dX7_sell_129 ⟨Nat.le_of_ble_eq_true rfl, Nat.le_of_ble_eq_true rfl⟩ (rfl) (MA.bad ((if_neg (by rw [iR_lt hi1 (by omega), iR_lt hi2 (by omega)]; decide)).trans (if_pos (by omega))) (by decide))
            · skip
              exact absurd c19 (by first | decide | omega)
          · skip
            refine lv_aload_n X.1 X.2.1 dX7_sell_48 rfl (lv_at hl 1 rfl) ?_
            refine lv_aload_n X.1 X.2.1 dX7_sell_49 rfl (lv_at hl 1 rfl) ?_
            refine mr_get X h kf_X7_46 (by decide) dX7_sell_50 rfl ?_
            refine lv_iload_n X.1 X.2.1 dX7_sell_53 rfl (lv_at hl 2 rfl) ?_
            refine mr_ald X h 17 rfl dX7_sell_54 (i := i1) (v := nI (F 17 (i1)) - 1) rfl (by show _ < 36; omega) rfl ?_
            have b24 := hI.k (k := i1) (by omega)
            refine lv_top (y := nI (F 17 (i1) - 1)) (eI_pos (by omega)) ?_
            refine mr_callV X h ck_X7_110 ki_X7_isBanned ks_X7_isBanned dX7_sell_55 (As := [.int (nI (F 17 (i1) - 1))]) (c_X7_isBanned l G x ar N F B (F 17 (i1) - 1) hI (show F 17 (i1) - 1 < N 1 by omega)) rfl hl rfl (Nat.le_of_ble_eq_true rfl) ⟨Nat.le_of_ble_eq_true rfl, Nat.le_of_ble_eq_true rfl⟩ ⟨Nat.le_of_ble_eq_true rfl, Nat.le_of_ble_eq_true rfl⟩ ?_
            rintro _ _ _ _ H locs ⟨rfl, rfl, rfl, rfl⟩ h
            have b25 := hI.p (F 17 (i1) - 1)
            refine b_bool_ne (tgt := 84) X dX7_sell_58 (by decide) (fun c26 => ?_) (fun c26 => ?_)
            · skip
              have c26 := of_decide_eq_true c26
              refine lv_iconst (v := nI (0)) X.1 X.2.1 dX7_sell_84 (by decide) ?_
              refine lv_istore (lv' := [(5, .int (nI (0))), (4, .int (nI (1))), (0, .ref x), (1, .int (nI (i1))), (2, .int (nI (i2))), (3, .int (z0))]) X.1 X.2.1 dX7_sell_85 hl (by decide) rfl (fun ls hl => ?_)
              refine lv_aload_n X.1 X.2.1 dX7_sell_87 rfl (lv_at hl 2 rfl) ?_
              refine lv_iload X.1 X.2.1 dX7_sell_88 (lv_at hl 1 rfl) ?_
              refine b_if_ne (tgt := 97) X dX7_sell_90 (by decide) (a := ((1 : Nat) : Int)) (nI_ti (by omega)) (fun c27 => ?_) (fun c27 => ?_)
              · skip
                refine lv_iload_n X.1 X.2.1 dX7_sell_97 rfl (lv_at hl 5 rfl) ?_
                refine lv_iconst (v := nI (0)) X.1 X.2.1 dX7_sell_98 (by decide) ?_
                refine lv_sipush (v := nI (10000)) X.1 X.2.1 dX7_sell_99 (by decide) ?_
                refine mr_callS X h ck_X7_86 kst_X7_isIn dX7_sell_102 (As := [.int (z0), .int (nI (0)), .int (nI (10000))]) (c_X7_isIn l G x ar N F B (z0) (nI (0)) (nI (10000))) rfl hl rfl (Nat.le_of_ble_eq_true rfl) ⟨Nat.le_of_ble_eq_true rfl, Nat.le_of_ble_eq_true rfl⟩ ⟨Nat.le_of_ble_eq_true rfl, Nat.le_of_ble_eq_true rfl⟩ ?_
                rintro _ _ _ _ H locs ⟨rfl, rfl, rfl, rfl⟩ h
                refine lv_top (y := bI (decide (((0 : Nat) : Int) ≤ (z0).toInt ∧ (z0).toInt ≤ ((10000 : Nat) : Int)))) (by rw [show (z0).toInt = (z0).toInt from rfl, show (nI (0)).toInt = ((0 : Nat) : Int) from nI_ti (by omega), show (nI (10000)).toInt = ((10000 : Nat) : Int) from nI_ti (by omega)]) ?_
                refine b_bool_ne (tgt := 112) X dX7_sell_105 (by decide) (fun c28 => ?_) (fun c28 => ?_)
                · skip
                  have c28 := of_decide_eq_true c28
                  obtain ⟨i3, hi3l, hi3, rfl⟩ := in_t 0 (n := 10000) c28 (by omega)
                  refine lv_iload X.1 X.2.1 dX7_sell_112 (lv_at hl 0 rfl) ?_
                  refine b_if_eq (tgt := 121) X dX7_sell_114 (by decide) (a := ((0 : Nat) : Int)) (nI_ti (by omega)) (fun c29 => ?_) (fun c29 => ?_)
                  · skip
                    refine lv_iconst (v := nI (3)) X.1 X.2.1 dX7_sell_121 (by decide) ?_
                    refine mr_callV X h ck_X7_93 ki_X7_fails ks_X7_fails dX7_sell_122 (As := [.int (nI (3))]) (c_X7_fails l G x ar N F B 3 (by omega)) rfl hl rfl (Nat.le_of_ble_eq_true rfl) ⟨Nat.le_of_ble_eq_true rfl, Nat.le_of_ble_eq_true rfl⟩ ⟨Nat.le_of_ble_eq_true rfl, Nat.le_of_ble_eq_true rfl⟩ ?_
                    rintro _ _ _ _ H locs ⟨rfl, rfl, rfl, rfl⟩ h
                    refine b_bool_eq (tgt := 130) X dX7_sell_125 (by decide) (fun c30 => ?_) (fun c30 => ?_)
                    · skip
                      exact absurd c30 (by first | decide | omega)
                    · skip
                      have c30 := of_decide_eq_true c30
                      refine lv_iconst (v := nI (0)) X.1 X.2.1 dX7_sell_128 (by decide) ?_
                      exact mr_zret X hr hlocks h dX7_sell_129 ⟨Nat.le_of_ble_eq_true rfl, Nat.le_of_ble_eq_true rfl⟩ (rfl) (MA.bad ((if_neg (by rw [iR_lt hi1 (by omega), iR_lt hi2 (by omega)]; decide)).trans ((if_neg (fun z => z (by rw [nI_ti (by omega)]; omega))).trans (if_neg (by rw [ix_nI (by omega), ix_nI (by omega)]; intro z; have := of_decide_eq_true z.1; omega)))) (by decide))
                  · skip
                    exact absurd c29 (by first | decide | omega)
                · skip
                  have c28 := of_decide_eq_false c28
                  refine lv_iconst (v := nI (2)) X.1 X.2.1 dX7_sell_108 (by decide) ?_
                  refine lv_goto (tgt := 122) X.1 X.2.1 dX7_sell_109 (by decide) ?_
                  refine mr_callV X h ck_X7_93 ki_X7_fails ks_X7_fails dX7_sell_122 (As := [.int (nI (2))]) (c_X7_fails l G x ar N F B 2 (by omega)) rfl hl rfl (Nat.le_of_ble_eq_true rfl) ⟨Nat.le_of_ble_eq_true rfl, Nat.le_of_ble_eq_true rfl⟩ ⟨Nat.le_of_ble_eq_true rfl, Nat.le_of_ble_eq_true rfl⟩ ?_
                  rintro _ _ _ _ H locs ⟨rfl, rfl, rfl, rfl⟩ h
                  refine b_bool_eq (tgt := 130) X dX7_sell_125 (by decide) (fun c31 => ?_) (fun c31 => ?_)
                  · skip
                    exact absurd c31 (by first | decide | omega)
                  · skip
                    have c31 := of_decide_eq_true c31
                    refine lv_iconst (v := nI (0)) X.1 X.2.1 dX7_sell_128 (by decide) ?_
                    exact mr_zret X hr hlocks h dX7_sell_129 ⟨Nat.le_of_ble_eq_true rfl, Nat.le_of_ble_eq_true rfl⟩ (rfl) (MA.bad ((if_neg (by rw [iR_lt hi1 (by omega), iR_lt hi2 (by omega)]; decide)).trans (if_pos (by omega))) (by decide))
              · skip
                exact absurd c27 (by first | decide | omega)
            · skip
              have c26 := of_decide_eq_false c26
              refine lv_aload_n X.1 X.2.1 dX7_sell_61 rfl (lv_at hl 1 rfl) ?_
              refine lv_iload_n X.1 X.2.1 dX7_sell_62 rfl (lv_at hl 3 rfl) ?_
              refine mr_callV X h ck_X7_110 ki_X7_isBanned ks_X7_isBanned dX7_sell_63 (As := [.int (nI (i2))]) (c_X7_isBanned l G x ar N F B i2 hI (show i2 < N 1 by omega)) rfl hl rfl (Nat.le_of_ble_eq_true rfl) ⟨Nat.le_of_ble_eq_true rfl, Nat.le_of_ble_eq_true rfl⟩ ⟨Nat.le_of_ble_eq_true rfl, Nat.le_of_ble_eq_true rfl⟩ ?_
              rintro _ _ _ _ H locs ⟨rfl, rfl, rfl, rfl⟩ h
              have b32 := hI.p (i2)
              refine b_bool_ne (tgt := 84) X dX7_sell_66 (by decide) (fun c33 => ?_) (fun c33 => ?_)
              · skip
                have c33 := of_decide_eq_true c33
                refine lv_iconst (v := nI (0)) X.1 X.2.1 dX7_sell_84 (by decide) ?_
                refine lv_istore (lv' := [(5, .int (nI (0))), (4, .int (nI (1))), (0, .ref x), (1, .int (nI (i1))), (2, .int (nI (i2))), (3, .int (z0))]) X.1 X.2.1 dX7_sell_85 hl (by decide) rfl (fun ls hl => ?_)
                refine lv_aload_n X.1 X.2.1 dX7_sell_87 rfl (lv_at hl 2 rfl) ?_
                refine lv_iload X.1 X.2.1 dX7_sell_88 (lv_at hl 1 rfl) ?_
                refine b_if_ne (tgt := 97) X dX7_sell_90 (by decide) (a := ((1 : Nat) : Int)) (nI_ti (by omega)) (fun c34 => ?_) (fun c34 => ?_)
                · skip
                  refine lv_iload_n X.1 X.2.1 dX7_sell_97 rfl (lv_at hl 5 rfl) ?_
                  refine lv_iconst (v := nI (0)) X.1 X.2.1 dX7_sell_98 (by decide) ?_
                  refine lv_sipush (v := nI (10000)) X.1 X.2.1 dX7_sell_99 (by decide) ?_
                  refine mr_callS X h ck_X7_86 kst_X7_isIn dX7_sell_102 (As := [.int (z0), .int (nI (0)), .int (nI (10000))]) (c_X7_isIn l G x ar N F B (z0) (nI (0)) (nI (10000))) rfl hl rfl (Nat.le_of_ble_eq_true rfl) ⟨Nat.le_of_ble_eq_true rfl, Nat.le_of_ble_eq_true rfl⟩ ⟨Nat.le_of_ble_eq_true rfl, Nat.le_of_ble_eq_true rfl⟩ ?_
                  rintro _ _ _ _ H locs ⟨rfl, rfl, rfl, rfl⟩ h
                  refine lv_top (y := bI (decide (((0 : Nat) : Int) ≤ (z0).toInt ∧ (z0).toInt ≤ ((10000 : Nat) : Int)))) (by rw [show (z0).toInt = (z0).toInt from rfl, show (nI (0)).toInt = ((0 : Nat) : Int) from nI_ti (by omega), show (nI (10000)).toInt = ((10000 : Nat) : Int) from nI_ti (by omega)]) ?_
                  refine b_bool_ne (tgt := 112) X dX7_sell_105 (by decide) (fun c35 => ?_) (fun c35 => ?_)
                  · skip
                    have c35 := of_decide_eq_true c35
                    obtain ⟨i3, hi3l, hi3, rfl⟩ := in_t 0 (n := 10000) c35 (by omega)
                    refine lv_iload X.1 X.2.1 dX7_sell_112 (lv_at hl 0 rfl) ?_
                    refine b_if_eq (tgt := 121) X dX7_sell_114 (by decide) (a := ((0 : Nat) : Int)) (nI_ti (by omega)) (fun c36 => ?_) (fun c36 => ?_)
                    · skip
                      refine lv_iconst (v := nI (3)) X.1 X.2.1 dX7_sell_121 (by decide) ?_
                      refine mr_callV X h ck_X7_93 ki_X7_fails ks_X7_fails dX7_sell_122 (As := [.int (nI (3))]) (c_X7_fails l G x ar N F B 3 (by omega)) rfl hl rfl (Nat.le_of_ble_eq_true rfl) ⟨Nat.le_of_ble_eq_true rfl, Nat.le_of_ble_eq_true rfl⟩ ⟨Nat.le_of_ble_eq_true rfl, Nat.le_of_ble_eq_true rfl⟩ ?_
                      rintro _ _ _ _ H locs ⟨rfl, rfl, rfl, rfl⟩ h
                      refine b_bool_eq (tgt := 130) X dX7_sell_125 (by decide) (fun c37 => ?_) (fun c37 => ?_)
                      · skip
                        exact absurd c37 (by first | decide | omega)
                      · skip
                        have c37 := of_decide_eq_true c37
                        refine lv_iconst (v := nI (0)) X.1 X.2.1 dX7_sell_128 (by decide) ?_
                        exact mr_zret X hr hlocks h dX7_sell_129 ⟨Nat.le_of_ble_eq_true rfl, Nat.le_of_ble_eq_true rfl⟩ (rfl) (MA.bad ((if_neg (by rw [iR_lt hi1 (by omega), iR_lt hi2 (by omega)]; decide)).trans ((if_neg (fun z => z (by rw [nI_ti (by omega)]; omega))).trans (if_neg (by rw [ix_nI (by omega), ix_nI (by omega)]; intro z; have := of_decide_eq_true z.1; omega)))) (by decide))
                    · skip
                      exact absurd c36 (by first | decide | omega)
                  · skip
                    have c35 := of_decide_eq_false c35
                    refine lv_iconst (v := nI (2)) X.1 X.2.1 dX7_sell_108 (by decide) ?_
                    refine lv_goto (tgt := 122) X.1 X.2.1 dX7_sell_109 (by decide) ?_
                    refine mr_callV X h ck_X7_93 ki_X7_fails ks_X7_fails dX7_sell_122 (As := [.int (nI (2))]) (c_X7_fails l G x ar N F B 2 (by omega)) rfl hl rfl (Nat.le_of_ble_eq_true rfl) ⟨Nat.le_of_ble_eq_true rfl, Nat.le_of_ble_eq_true rfl⟩ ⟨Nat.le_of_ble_eq_true rfl, Nat.le_of_ble_eq_true rfl⟩ ?_
                    rintro _ _ _ _ H locs ⟨rfl, rfl, rfl, rfl⟩ h
                    refine b_bool_eq (tgt := 130) X dX7_sell_125 (by decide) (fun c38 => ?_) (fun c38 => ?_)
                    · skip
                      exact absurd c38 (by first | decide | omega)
                    · skip
                      have c38 := of_decide_eq_true c38
                      refine lv_iconst (v := nI (0)) X.1 X.2.1 dX7_sell_128 (by decide) ?_
                      exact mr_zret X hr hlocks h dX7_sell_129 ⟨Nat.le_of_ble_eq_true rfl, Nat.le_of_ble_eq_true rfl⟩ (rfl) (MA.bad ((if_neg (by rw [iR_lt hi1 (by omega), iR_lt hi2 (by omega)]; decide)).trans (if_pos (by omega))) (by decide))
                · skip
                  exact absurd c34 (by first | decide | omega)
              · skip
                have c33 := of_decide_eq_false c33
                refine lv_aload_n X.1 X.2.1 dX7_sell_69 rfl (lv_at hl 1 rfl) ?_
                refine mr_get X h kf_X7_58 (by decide) dX7_sell_70 rfl ?_
                refine lv_iload_n X.1 X.2.1 dX7_sell_73 rfl (lv_at hl 2 rfl) ?_
                refine mr_ald X h 21 rfl dX7_sell_74 (i := i1) (v := nI (F 21 (i1))) rfl (by show _ < 36; omega) rfl ?_
                have b39 := hI.k (k := i1) (by omega)
                refine lv_bipush (v := nI (20)) X.1 X.2.1 dX7_sell_75 (by decide) ?_
                refine b_icmp_ge (tgt := 84) X dX7_sell_77 (by decide) (a := ((F 21 (i1) : Nat) : Int)) (b := ((20 : Nat) : Int)) (nI_ti (by omega)) (nI_ti (by omega)) (fun c40 => ?_) (fun c40 => ?_)
                · skip
                  refine lv_iconst (v := nI (0)) X.1 X.2.1 dX7_sell_84 (by decide) ?_
                  refine lv_istore (lv' := [(5, .int (nI (0))), (4, .int (nI (1))), (0, .ref x), (1, .int (nI (i1))), (2, .int (nI (i2))), (3, .int (z0))]) X.1 X.2.1 dX7_sell_85 hl (by decide) rfl (fun ls hl => ?_)
                  refine lv_aload_n X.1 X.2.1 dX7_sell_87 rfl (lv_at hl 2 rfl) ?_
                  refine lv_iload X.1 X.2.1 dX7_sell_88 (lv_at hl 1 rfl) ?_
                  refine b_if_ne (tgt := 97) X dX7_sell_90 (by decide) (a := ((1 : Nat) : Int)) (nI_ti (by omega)) (fun c41 => ?_) (fun c41 => ?_)
                  · skip
                    refine lv_iload_n X.1 X.2.1 dX7_sell_97 rfl (lv_at hl 5 rfl) ?_
                    refine lv_iconst (v := nI (0)) X.1 X.2.1 dX7_sell_98 (by decide) ?_
                    refine lv_sipush (v := nI (10000)) X.1 X.2.1 dX7_sell_99 (by decide) ?_
                    refine mr_callS X h ck_X7_86 kst_X7_isIn dX7_sell_102 (As := [.int (z0), .int (nI (0)), .int (nI (10000))]) (c_X7_isIn l G x ar N F B (z0) (nI (0)) (nI (10000))) rfl hl rfl (Nat.le_of_ble_eq_true rfl) ⟨Nat.le_of_ble_eq_true rfl, Nat.le_of_ble_eq_true rfl⟩ ⟨Nat.le_of_ble_eq_true rfl, Nat.le_of_ble_eq_true rfl⟩ ?_
                    rintro _ _ _ _ H locs ⟨rfl, rfl, rfl, rfl⟩ h
                    refine lv_top (y := bI (decide (((0 : Nat) : Int) ≤ (z0).toInt ∧ (z0).toInt ≤ ((10000 : Nat) : Int)))) (by rw [show (z0).toInt = (z0).toInt from rfl, show (nI (0)).toInt = ((0 : Nat) : Int) from nI_ti (by omega), show (nI (10000)).toInt = ((10000 : Nat) : Int) from nI_ti (by omega)]) ?_
                    refine b_bool_ne (tgt := 112) X dX7_sell_105 (by decide) (fun c42 => ?_) (fun c42 => ?_)
                    · skip
                      have c42 := of_decide_eq_true c42
                      obtain ⟨i3, hi3l, hi3, rfl⟩ := in_t 0 (n := 10000) c42 (by omega)
                      refine lv_iload X.1 X.2.1 dX7_sell_112 (lv_at hl 0 rfl) ?_
                      refine b_if_eq (tgt := 121) X dX7_sell_114 (by decide) (a := ((0 : Nat) : Int)) (nI_ti (by omega)) (fun c43 => ?_) (fun c43 => ?_)
                      · skip
                        refine lv_iconst (v := nI (3)) X.1 X.2.1 dX7_sell_121 (by decide) ?_
                        refine mr_callV X h ck_X7_93 ki_X7_fails ks_X7_fails dX7_sell_122 (As := [.int (nI (3))]) (c_X7_fails l G x ar N F B 3 (by omega)) rfl hl rfl (Nat.le_of_ble_eq_true rfl) ⟨Nat.le_of_ble_eq_true rfl, Nat.le_of_ble_eq_true rfl⟩ ⟨Nat.le_of_ble_eq_true rfl, Nat.le_of_ble_eq_true rfl⟩ ?_
                        rintro _ _ _ _ H locs ⟨rfl, rfl, rfl, rfl⟩ h
                        refine b_bool_eq (tgt := 130) X dX7_sell_125 (by decide) (fun c44 => ?_) (fun c44 => ?_)
                        · skip
                          exact absurd c44 (by first | decide | omega)
                        · skip
                          have c44 := of_decide_eq_true c44
                          refine lv_iconst (v := nI (0)) X.1 X.2.1 dX7_sell_128 (by decide) ?_
                          exact mr_zret X hr hlocks h dX7_sell_129 ⟨Nat.le_of_ble_eq_true rfl, Nat.le_of_ble_eq_true rfl⟩ (rfl) (MA.bad ((if_neg (by rw [iR_lt hi1 (by omega), iR_lt hi2 (by omega)]; decide)).trans ((if_neg (fun z => z (by rw [nI_ti (by omega)]; omega))).trans (if_neg (by rw [ix_nI (by omega), ix_nI (by omega)]; intro z; have := of_decide_eq_true z.1; omega)))) (by decide))
                      · skip
                        exact absurd c43 (by first | decide | omega)
                    · skip
                      have c42 := of_decide_eq_false c42
                      refine lv_iconst (v := nI (2)) X.1 X.2.1 dX7_sell_108 (by decide) ?_
                      refine lv_goto (tgt := 122) X.1 X.2.1 dX7_sell_109 (by decide) ?_
                      refine mr_callV X h ck_X7_93 ki_X7_fails ks_X7_fails dX7_sell_122 (As := [.int (nI (2))]) (c_X7_fails l G x ar N F B 2 (by omega)) rfl hl rfl (Nat.le_of_ble_eq_true rfl) ⟨Nat.le_of_ble_eq_true rfl, Nat.le_of_ble_eq_true rfl⟩ ⟨Nat.le_of_ble_eq_true rfl, Nat.le_of_ble_eq_true rfl⟩ ?_
                      rintro _ _ _ _ H locs ⟨rfl, rfl, rfl, rfl⟩ h
                      refine b_bool_eq (tgt := 130) X dX7_sell_125 (by decide) (fun c45 => ?_) (fun c45 => ?_)
                      · skip
                        exact absurd c45 (by first | decide | omega)
                      · skip
                        have c45 := of_decide_eq_true c45
                        refine lv_iconst (v := nI (0)) X.1 X.2.1 dX7_sell_128 (by decide) ?_
                        exact mr_zret X hr hlocks h dX7_sell_129 ⟨Nat.le_of_ble_eq_true rfl, Nat.le_of_ble_eq_true rfl⟩ (rfl) (MA.bad ((if_neg (by rw [iR_lt hi1 (by omega), iR_lt hi2 (by omega)]; decide)).trans (if_pos (by omega))) (by decide))
                  · skip
                    exact absurd c41 (by first | decide | omega)
                · skip
                  refine lv_iconst (v := nI (1)) X.1 X.2.1 dX7_sell_80 (by decide) ?_
                  refine lv_goto (tgt := 85) X.1 X.2.1 dX7_sell_81 (by decide) ?_
                  refine lv_istore (lv' := [(5, .int (nI (1))), (4, .int (nI (1))), (0, .ref x), (1, .int (nI (i1))), (2, .int (nI (i2))), (3, .int (z0))]) X.1 X.2.1 dX7_sell_85 hl (by decide) rfl (fun ls hl => ?_)
                  refine lv_aload_n X.1 X.2.1 dX7_sell_87 rfl (lv_at hl 2 rfl) ?_
                  refine lv_iload X.1 X.2.1 dX7_sell_88 (lv_at hl 1 rfl) ?_
                  refine b_if_ne (tgt := 97) X dX7_sell_90 (by decide) (a := ((1 : Nat) : Int)) (nI_ti (by omega)) (fun c46 => ?_) (fun c46 => ?_)
                  · skip
                    refine lv_iload_n X.1 X.2.1 dX7_sell_97 rfl (lv_at hl 5 rfl) ?_
                    refine lv_iconst (v := nI (0)) X.1 X.2.1 dX7_sell_98 (by decide) ?_
                    refine lv_sipush (v := nI (10000)) X.1 X.2.1 dX7_sell_99 (by decide) ?_
                    refine mr_callS X h ck_X7_86 kst_X7_isIn dX7_sell_102 (As := [.int (z0), .int (nI (0)), .int (nI (10000))]) (c_X7_isIn l G x ar N F B (z0) (nI (0)) (nI (10000))) rfl hl rfl (Nat.le_of_ble_eq_true rfl) ⟨Nat.le_of_ble_eq_true rfl, Nat.le_of_ble_eq_true rfl⟩ ⟨Nat.le_of_ble_eq_true rfl, Nat.le_of_ble_eq_true rfl⟩ ?_
                    rintro _ _ _ _ H locs ⟨rfl, rfl, rfl, rfl⟩ h
                    refine lv_top (y := bI (decide (((0 : Nat) : Int) ≤ (z0).toInt ∧ (z0).toInt ≤ ((10000 : Nat) : Int)))) (by rw [show (z0).toInt = (z0).toInt from rfl, show (nI (0)).toInt = ((0 : Nat) : Int) from nI_ti (by omega), show (nI (10000)).toInt = ((10000 : Nat) : Int) from nI_ti (by omega)]) ?_
                    refine b_bool_ne (tgt := 112) X dX7_sell_105 (by decide) (fun c47 => ?_) (fun c47 => ?_)
                    · skip
                      have c47 := of_decide_eq_true c47
                      obtain ⟨i3, hi3l, hi3, rfl⟩ := in_t 0 (n := 10000) c47 (by omega)
                      refine lv_iload X.1 X.2.1 dX7_sell_112 (lv_at hl 0 rfl) ?_
                      refine b_if_eq (tgt := 121) X dX7_sell_114 (by decide) (a := ((1 : Nat) : Int)) (nI_ti (by omega)) (fun c48 => ?_) (fun c48 => ?_)
                      · skip
                        exact absurd c48 (by first | decide | omega)
                      · skip
                        refine lv_iconst (v := nI (0)) X.1 X.2.1 dX7_sell_117 (by decide) ?_
                        refine lv_goto (tgt := 122) X.1 X.2.1 dX7_sell_118 (by decide) ?_
                        refine mr_callV X h ck_X7_93 ki_X7_fails ks_X7_fails dX7_sell_122 (As := [.int (nI (0))]) (c_X7_fails l G x ar N F B 0 (by omega)) rfl hl rfl (Nat.le_of_ble_eq_true rfl) ⟨Nat.le_of_ble_eq_true rfl, Nat.le_of_ble_eq_true rfl⟩ ⟨Nat.le_of_ble_eq_true rfl, Nat.le_of_ble_eq_true rfl⟩ ?_
                        rintro _ _ _ _ H locs ⟨rfl, rfl, rfl, rfl⟩ h
                        refine b_bool_eq (tgt := 130) X dX7_sell_125 (by decide) (fun c49 => ?_) (fun c49 => ?_)
                        · skip
                          have c49 := of_decide_eq_false c49
                          refine lv_aload_n X.1 X.2.1 dX7_sell_130 rfl (lv_at hl 2 rfl) ?_
                          refine mr_get X h kf_X7_7 (by decide) dX7_sell_131 rfl ?_
                          refine lv_aload_n X.1 X.2.1 dX7_sell_134 rfl (lv_at hl 2 rfl) ?_
                          refine mr_get X h kf_X7_46 (by decide) dX7_sell_135 rfl ?_
                          refine lv_iload_n X.1 X.2.1 dX7_sell_138 rfl (lv_at hl 3 rfl) ?_
                          refine mr_ald X h 17 rfl dX7_sell_139 (i := i1) (v := nI (F 17 (i1)) - 1) rfl (by show _ < 36; omega) rfl ?_
                          have b50 := hI.k (k := i1) (by omega)
                          refine mr_ald X h 2 rfl dX7_sell_140 (i := F 17 (i1) - 1) (v := nI (F 2 (F 17 (i1) - 1)) - 1) (eI_pos (by omega)) (by show _ < 16; omega) rfl ?_
                          have b51 := hI.p (F 17 (i1) - 1)
                          refine lv_iconst (v := nI (0) - 1) X.1 X.2.1 dX7_sell_141 (by decide) ?_
                          refine b_icmp_ne (tgt := 159) X dX7_sell_142 (by decide) (a := ((F 2 (F 17 (i1) - 1) : Nat) : Int) - 1) (b := ((0 : Nat) : Int) - 1) (eI_ti (by omega)) (eI_ti (by omega)) (fun c52 => ?_) (fun c52 => ?_)
                          · skip
                            refine lv_iconst (v := nI (0)) X.1 X.2.1 dX7_sell_159 (by decide) ?_
                            refine lv_istore (lv' := [(6, .int (nI (0))), (5, .int (nI (1))), (4, .int (nI (1))), (0, .ref x), (1, .int (nI (i1))), (2, .int (nI (i2))), (3, .int (nI (i3)))]) X.1 X.2.1 dX7_sell_160 hl (by decide) rfl (fun ls hl => ?_)
                            refine lv_bipush (v := nI (20)) X.1 X.2.1 dX7_sell_162 (by decide) ?_
                            refine lv_iload_n X.1 X.2.1 dX7_sell_164 rfl (lv_at hl 4 rfl) ?_
                            refine lv_imul X.1 X.2.1 dX7_sell_165 ?_
                            refine lv_top (y := nI (20 * i1)) (pk_mul _ _) ?_
                            refine lv_aload_n X.1 X.2.1 dX7_sell_166 rfl (lv_at hl 3 rfl) ?_
                            refine mr_get X h kf_X7_58 (by decide) dX7_sell_167 rfl ?_
                            refine lv_iload_n X.1 X.2.1 dX7_sell_170 rfl (lv_at hl 4 rfl) ?_
                            refine mr_ald X h 21 rfl dX7_sell_171 (i := i1) (v := nI (F 21 (i1))) rfl (by show _ < 36; omega) rfl ?_
                            have b53 := hI.k (k := i1) (by omega)
                            refine lv_iadd X.1 X.2.1 dX7_sell_172 ?_
                            refine lv_top (y := nI (20 * i1 + (F 21 (i1)))) (nI_add _ _) ?_
                            refine lv_istore (lv' := [(7, .int (nI (20 * i1 + (F 21 (i1))))), (6, .int (nI (0))), (5, .int (nI (1))), (4, .int (nI (1))), (0, .ref x), (1, .int (nI (i1))), (2, .int (nI (i2))), (3, .int (nI (i3)))]) X.1 X.2.1 dX7_sell_173 hl (by decide) rfl (fun ls hl => ?_)
                            refine lv_aload_n X.1 X.2.1 dX7_sell_175 rfl (lv_at hl 4 rfl) ?_
                            refine mr_get X h kf_X7_61 (by decide) dX7_sell_176 rfl ?_
                            refine lv_iload X.1 X.2.1 dX7_sell_179 (lv_at hl 0 rfl) ?_
                            refine lv_aload_n X.1 X.2.1 dX7_sell_181 rfl (lv_at hl 4 rfl) ?_
                            refine mr_get X h kf_X7_46 (by decide) dX7_sell_182 rfl ?_
                            refine lv_iload_n X.1 X.2.1 dX7_sell_185 rfl (lv_at hl 5 rfl) ?_
                            refine mr_ald X h 17 rfl dX7_sell_186 (i := i1) (v := nI (F 17 (i1)) - 1) rfl (by show _ < 36; omega) rfl ?_
                            have b54 := hI.k (k := i1) (by omega)
                            refine mr_ast X h 22 rfl (by decide) dX7_sell_187 (i := 20 * i1 + (F 21 (i1))) (v := F 17 (i1) - 1) rfl (by show _ < 720; omega) (eI_pos (by omega)) (fun H locs h => ?_)
                            refine lv_aload_n X.1 X.2.1 dX7_sell_188 rfl (lv_at hl 4 rfl) ?_
                            refine mr_get X h kf_X7_64 (by decide) dX7_sell_189 rfl ?_
                            refine lv_iload X.1 X.2.1 dX7_sell_192 (lv_at hl 0 rfl) ?_
                            refine lv_iload_n X.1 X.2.1 dX7_sell_194 rfl (lv_at hl 6 rfl) ?_
                            refine mr_ast X h 23 rfl (by decide) dX7_sell_195 (i := 20 * i1 + (F 21 (i1))) (v := i2) rfl (by show _ < 720; omega) rfl (fun H locs h => ?_)
                            refine lv_aload_n X.1 X.2.1 dX7_sell_196 rfl (lv_at hl 4 rfl) ?_
                            refine mr_get X h kf_X7_67 (by decide) dX7_sell_197 rfl ?_
                            refine lv_iload X.1 X.2.1 dX7_sell_200 (lv_at hl 0 rfl) ?_
                            refine lv_iload_n X.1 X.2.1 dX7_sell_202 rfl (lv_at hl 7 rfl) ?_
                            refine mr_ast X h 24 rfl (by decide) dX7_sell_203 (i := 20 * i1 + (F 21 (i1))) (v := i3) rfl (by show _ < 720; omega) rfl (fun H locs h => ?_)
                            refine lv_aload_n X.1 X.2.1 dX7_sell_204 rfl (lv_at hl 4 rfl) ?_
                            refine mr_get X h kf_X7_55 (by decide) dX7_sell_205 rfl ?_
                            refine lv_iload_n X.1 X.2.1 dX7_sell_208 rfl (lv_at hl 5 rfl) ?_
                            refine lv_iload X.1 X.2.1 dX7_sell_209 (lv_at hl 1 rfl) ?_
                            refine b_if_eq (tgt := 233) X dX7_sell_211 (by decide) (a := ((0 : Nat) : Int)) (nI_ti (by omega)) (fun c55 => ?_) (fun c55 => ?_)
                            · skip
                              refine lv_aload_n X.1 X.2.1 dX7_sell_233 rfl (lv_at hl 4 rfl) ?_
                              refine mr_get X h kf_X7_55 (by decide) dX7_sell_234 rfl ?_
                              refine lv_iload_n X.1 X.2.1 dX7_sell_237 rfl (lv_at hl 5 rfl) ?_
                              refine mr_ald X h 20 rfl dX7_sell_238 (i := i1) (v := nI (F 20 (i1)) - 1) rfl (by show _ < 36; omega) rfl ?_
                              refine mr_ast X h 20 rfl (by decide) dX7_sell_239 (i := i1) (v := F 20 (i1)) rfl (by show _ < 36; omega) rfl (fun H locs h => ?_)
                              refine lv_aload_n X.1 X.2.1 dX7_sell_240 rfl (lv_at hl 4 rfl) ?_
                              refine mr_get X h kf_X7_58 (by decide) dX7_sell_241 rfl ?_
                              refine lv_iload_n X.1 X.2.1 dX7_sell_244 rfl (lv_at hl 5 rfl) ?_
                              refine lv_dup2_11 X.1 X.2.1 dX7_sell_245 rfl rfl ?_
                              refine mr_ald X h 21 rfl dX7_sell_246 (i := i1) (v := nI (F 21 (i1))) rfl (by show _ < 36; omega) rfl ?_
                              have b56 := hI.k (k := i1) (by omega)
                              refine lv_iconst (v := nI (1)) X.1 X.2.1 dX7_sell_247 (by decide) ?_
                              refine lv_iadd X.1 X.2.1 dX7_sell_248 ?_
                              refine lv_top (y := nI (F 21 (i1) + 1)) (nI_add _ _) ?_
                              refine mr_ast X h 21 rfl (by decide) dX7_sell_249 (i := i1) (v := F 21 (i1) + 1) rfl (by show _ < 36; omega) rfl (fun H locs h => ?_)
                              refine lv_aload_n X.1 X.2.1 dX7_sell_250 rfl (lv_at hl 4 rfl) ?_
                              refine mr_get X h kf_X7_16 (by decide) dX7_sell_251 rfl ?_
                              refine lv_aload_n X.1 X.2.1 dX7_sell_254 rfl (lv_at hl 4 rfl) ?_
                              refine mr_get X h kf_X7_46 (by decide) dX7_sell_255 rfl ?_
                              refine lv_iload_n X.1 X.2.1 dX7_sell_258 rfl (lv_at hl 5 rfl) ?_
                              refine mr_ald X h 17 rfl dX7_sell_259 (i := i1) (v := nI (F 17 (i1)) - 1) rfl (by show _ < 36; omega) rfl ?_
                              have b57 := hI.k (k := i1) (by omega)
                              refine lv_dup2_11 X.1 X.2.1 dX7_sell_260 rfl rfl ?_
                              refine mr_ald X h 4 rfl dX7_sell_261 (i := F 17 (i1) - 1) (v := B (F 17 (i1) - 1)) (eI_pos (by omega)) (by show _ < 16; omega) rfl ?_
                              refine lv_iload_n X.1 X.2.1 dX7_sell_262 rfl (lv_at hl 7 rfl) ?_
                              refine lv_iadd X.1 X.2.1 dX7_sell_263 ?_
                              refine mr_astB X h dX7_sell_264 (i := F 17 (i1) - 1) (eI_pos (by omega)) (by show _ < 16; omega) (fun H locs h => ?_)
                              refine lv_aload_n X.1 X.2.1 dX7_sell_265 rfl (lv_at hl 4 rfl) ?_
                              refine mr_get X h kf_X7_16 (by decide) dX7_sell_266 rfl ?_
                              refine lv_iload_n X.1 X.2.1 dX7_sell_269 rfl (lv_at hl 6 rfl) ?_
                              refine lv_dup2_11 X.1 X.2.1 dX7_sell_270 rfl rfl ?_
                              refine mr_ald X h 4 rfl dX7_sell_271 (i := i2) (v := (upd B (F 17 (i1) - 1) ((B (F 17 (i1) - 1)) + (nI (i3)))) (i2)) rfl (by show _ < 16; omega) rfl ?_
                              refine lv_iload_n X.1 X.2.1 dX7_sell_272 rfl (lv_at hl 7 rfl) ?_
                              refine lv_isub X.1 X.2.1 dX7_sell_273 ?_
                              refine mr_astB X h dX7_sell_274 (i := i2) rfl (by show _ < 16; omega) (fun H locs h => ?_)
                              refine lv_aload_n X.1 X.2.1 dX7_sell_275 rfl (lv_at hl 4 rfl) ?_
                              refine mr_get X h kf_X7_46 (by decide) dX7_sell_276 rfl ?_
                              refine lv_iload_n X.1 X.2.1 dX7_sell_279 rfl (lv_at hl 5 rfl) ?_
                              refine lv_iload_n X.1 X.2.1 dX7_sell_280 rfl (lv_at hl 6 rfl) ?_
                              refine mr_ast X h 17 rfl (by decide) dX7_sell_281 (i := i1) (v := i2 + 1) rfl (by show _ < 36; omega) (eI_suc _) (fun H locs h => ?_)
                              refine lv_aload_n X.1 X.2.1 dX7_sell_282 rfl (lv_at hl 4 rfl) ?_
                              refine mr_get X h kf_X7_49 (by decide) dX7_sell_283 rfl ?_
                              refine lv_iload_n X.1 X.2.1 dX7_sell_286 rfl (lv_at hl 5 rfl) ?_
                              refine lv_iconst (v := nI (0) - 1) X.1 X.2.1 dX7_sell_287 (by decide) ?_
                              refine mr_ast X h 18 rfl (by decide) dX7_sell_288 (i := i1) (v := 0) rfl (by show _ < 36; omega) rfl (fun H locs h => ?_)
                              refine lv_iload X.1 X.2.1 dX7_sell_289 (lv_at hl 1 rfl) ?_
                              have hf : faithS F i1 i2 = false := decide_eq_false (by omega)
                              have hv : (if faithS F i1 i2 = true ∧ F 20 i1 = 0 then F 21 i1 + 1 else F 20 i1) = F 20 (i1) := by rw [hf]; first | exact if_pos ⟨rfl, by omega⟩ | exact if_neg (fun z => by have := z.2; omega) | exact if_neg (fun z => absurd z.1 (by decide))
                              exact mr_zret X hr hlocks h dX7_sell_291 ⟨Nat.le_of_ble_eq_true rfl, Nat.le_of_ble_eq_true rfl⟩ (rfl) (MA.ok ((if_neg (by rw [iR_lt hi1 (by omega), iR_lt hi2 (by omega)]; decide)).trans ((if_neg (fun z => z (by rw [nI_ti (by omega)]; omega))).trans (if_pos (by rw [ix_nI (by omega), ix_nI (by omega)]; exact ⟨decide_eq_true (by omega), by omega⟩)))) (by rw [ix_nI (by omega), ix_nI (by omega), hf]; rfl) rfl (fun k h1 h2 => by simp [va_up, h1, h2]) (by rw [ix_nI (by omega), ix_nI (by omega), ix_nI (by omega), fSell, hv]; exact SF.rf _) (by rw [ix_nI (by omega), ix_nI (by omega), ix_nI (by omega)]; rfl))
                            · skip
                              exact absurd c55 (by first | decide | omega)
                          · skip
                            refine lv_aload_n X.1 X.2.1 dX7_sell_145 rfl (lv_at hl 2 rfl) ?_
                            refine mr_get X h kf_X7_7 (by decide) dX7_sell_146 rfl ?_
                            refine lv_iload_n X.1 X.2.1 dX7_sell_149 rfl (lv_at hl 4 rfl) ?_
                            refine mr_ald X h 2 rfl dX7_sell_150 (i := i2) (v := nI (F 2 (i2)) - 1) rfl (by show _ < 16; omega) rfl ?_
                            have b58 := hI.p i2
                            refine lv_iconst (v := nI (0) - 1) X.1 X.2.1 dX7_sell_151 (by decide) ?_
                            refine b_icmp_ne (tgt := 159) X dX7_sell_152 (by decide) (a := ((F 2 (i2) : Nat) : Int) - 1) (b := ((0 : Nat) : Int) - 1) (eI_ti (by omega)) (eI_ti (by omega)) (fun c59 => ?_) (fun c59 => ?_)
                            · skip
                              refine lv_iconst (v := nI (0)) X.1 X.2.1 dX7_sell_159 (by decide) ?_
                              refine lv_istore (lv' := [(6, .int (nI (0))), (5, .int (nI (1))), (4, .int (nI (1))), (0, .ref x), (1, .int (nI (i1))), (2, .int (nI (i2))), (3, .int (nI (i3)))]) X.1 X.2.1 dX7_sell_160 hl (by decide) rfl (fun ls hl => ?_)
                              refine lv_bipush (v := nI (20)) X.1 X.2.1 dX7_sell_162 (by decide) ?_
                              refine lv_iload_n X.1 X.2.1 dX7_sell_164 rfl (lv_at hl 4 rfl) ?_
                              refine lv_imul X.1 X.2.1 dX7_sell_165 ?_
                              refine lv_top (y := nI (20 * i1)) (pk_mul _ _) ?_
                              refine lv_aload_n X.1 X.2.1 dX7_sell_166 rfl (lv_at hl 3 rfl) ?_
                              refine mr_get X h kf_X7_58 (by decide) dX7_sell_167 rfl ?_
                              refine lv_iload_n X.1 X.2.1 dX7_sell_170 rfl (lv_at hl 4 rfl) ?_
                              refine mr_ald X h 21 rfl dX7_sell_171 (i := i1) (v := nI (F 21 (i1))) rfl (by show _ < 36; omega) rfl ?_
                              have b60 := hI.k (k := i1) (by omega)
                              refine lv_iadd X.1 X.2.1 dX7_sell_172 ?_
                              refine lv_top (y := nI (20 * i1 + (F 21 (i1)))) (nI_add _ _) ?_
                              refine lv_istore (lv' := [(7, .int (nI (20 * i1 + (F 21 (i1))))), (6, .int (nI (0))), (5, .int (nI (1))), (4, .int (nI (1))), (0, .ref x), (1, .int (nI (i1))), (2, .int (nI (i2))), (3, .int (nI (i3)))]) X.1 X.2.1 dX7_sell_173 hl (by decide) rfl (fun ls hl => ?_)
                              refine lv_aload_n X.1 X.2.1 dX7_sell_175 rfl (lv_at hl 4 rfl) ?_
                              refine mr_get X h kf_X7_61 (by decide) dX7_sell_176 rfl ?_
                              refine lv_iload X.1 X.2.1 dX7_sell_179 (lv_at hl 0 rfl) ?_
                              refine lv_aload_n X.1 X.2.1 dX7_sell_181 rfl (lv_at hl 4 rfl) ?_
                              refine mr_get X h kf_X7_46 (by decide) dX7_sell_182 rfl ?_
                              refine lv_iload_n X.1 X.2.1 dX7_sell_185 rfl (lv_at hl 5 rfl) ?_
                              refine mr_ald X h 17 rfl dX7_sell_186 (i := i1) (v := nI (F 17 (i1)) - 1) rfl (by show _ < 36; omega) rfl ?_
                              have b61 := hI.k (k := i1) (by omega)
                              refine mr_ast X h 22 rfl (by decide) dX7_sell_187 (i := 20 * i1 + (F 21 (i1))) (v := F 17 (i1) - 1) rfl (by show _ < 720; omega) (eI_pos (by omega)) (fun H locs h => ?_)
                              refine lv_aload_n X.1 X.2.1 dX7_sell_188 rfl (lv_at hl 4 rfl) ?_
                              refine mr_get X h kf_X7_64 (by decide) dX7_sell_189 rfl ?_
                              refine lv_iload X.1 X.2.1 dX7_sell_192 (lv_at hl 0 rfl) ?_
                              refine lv_iload_n X.1 X.2.1 dX7_sell_194 rfl (lv_at hl 6 rfl) ?_
                              refine mr_ast X h 23 rfl (by decide) dX7_sell_195 (i := 20 * i1 + (F 21 (i1))) (v := i2) rfl (by show _ < 720; omega) rfl (fun H locs h => ?_)
                              refine lv_aload_n X.1 X.2.1 dX7_sell_196 rfl (lv_at hl 4 rfl) ?_
                              refine mr_get X h kf_X7_67 (by decide) dX7_sell_197 rfl ?_
                              refine lv_iload X.1 X.2.1 dX7_sell_200 (lv_at hl 0 rfl) ?_
                              refine lv_iload_n X.1 X.2.1 dX7_sell_202 rfl (lv_at hl 7 rfl) ?_
                              refine mr_ast X h 24 rfl (by decide) dX7_sell_203 (i := 20 * i1 + (F 21 (i1))) (v := i3) rfl (by show _ < 720; omega) rfl (fun H locs h => ?_)
                              refine lv_aload_n X.1 X.2.1 dX7_sell_204 rfl (lv_at hl 4 rfl) ?_
                              refine mr_get X h kf_X7_55 (by decide) dX7_sell_205 rfl ?_
                              refine lv_iload_n X.1 X.2.1 dX7_sell_208 rfl (lv_at hl 5 rfl) ?_
                              refine lv_iload X.1 X.2.1 dX7_sell_209 (lv_at hl 1 rfl) ?_
                              refine b_if_eq (tgt := 233) X dX7_sell_211 (by decide) (a := ((0 : Nat) : Int)) (nI_ti (by omega)) (fun c62 => ?_) (fun c62 => ?_)
                              · skip
                                refine lv_aload_n X.1 X.2.1 dX7_sell_233 rfl (lv_at hl 4 rfl) ?_
                                refine mr_get X h kf_X7_55 (by decide) dX7_sell_234 rfl ?_
                                refine lv_iload_n X.1 X.2.1 dX7_sell_237 rfl (lv_at hl 5 rfl) ?_
                                refine mr_ald X h 20 rfl dX7_sell_238 (i := i1) (v := nI (F 20 (i1)) - 1) rfl (by show _ < 36; omega) rfl ?_
                                refine mr_ast X h 20 rfl (by decide) dX7_sell_239 (i := i1) (v := F 20 (i1)) rfl (by show _ < 36; omega) rfl (fun H locs h => ?_)
                                refine lv_aload_n X.1 X.2.1 dX7_sell_240 rfl (lv_at hl 4 rfl) ?_
                                refine mr_get X h kf_X7_58 (by decide) dX7_sell_241 rfl ?_
                                refine lv_iload_n X.1 X.2.1 dX7_sell_244 rfl (lv_at hl 5 rfl) ?_
                                refine lv_dup2_11 X.1 X.2.1 dX7_sell_245 rfl rfl ?_
                                refine mr_ald X h 21 rfl dX7_sell_246 (i := i1) (v := nI (F 21 (i1))) rfl (by show _ < 36; omega) rfl ?_
                                have b63 := hI.k (k := i1) (by omega)
                                refine lv_iconst (v := nI (1)) X.1 X.2.1 dX7_sell_247 (by decide) ?_
                                refine lv_iadd X.1 X.2.1 dX7_sell_248 ?_
                                refine lv_top (y := nI (F 21 (i1) + 1)) (nI_add _ _) ?_
                                refine mr_ast X h 21 rfl (by decide) dX7_sell_249 (i := i1) (v := F 21 (i1) + 1) rfl (by show _ < 36; omega) rfl (fun H locs h => ?_)
                                refine lv_aload_n X.1 X.2.1 dX7_sell_250 rfl (lv_at hl 4 rfl) ?_
                                refine mr_get X h kf_X7_16 (by decide) dX7_sell_251 rfl ?_
                                refine lv_aload_n X.1 X.2.1 dX7_sell_254 rfl (lv_at hl 4 rfl) ?_
                                refine mr_get X h kf_X7_46 (by decide) dX7_sell_255 rfl ?_
                                refine lv_iload_n X.1 X.2.1 dX7_sell_258 rfl (lv_at hl 5 rfl) ?_
                                refine mr_ald X h 17 rfl dX7_sell_259 (i := i1) (v := nI (F 17 (i1)) - 1) rfl (by show _ < 36; omega) rfl ?_
                                have b64 := hI.k (k := i1) (by omega)
                                refine lv_dup2_11 X.1 X.2.1 dX7_sell_260 rfl rfl ?_
                                refine mr_ald X h 4 rfl dX7_sell_261 (i := F 17 (i1) - 1) (v := B (F 17 (i1) - 1)) (eI_pos (by omega)) (by show _ < 16; omega) rfl ?_
                                refine lv_iload_n X.1 X.2.1 dX7_sell_262 rfl (lv_at hl 7 rfl) ?_
                                refine lv_iadd X.1 X.2.1 dX7_sell_263 ?_
                                refine mr_astB X h dX7_sell_264 (i := F 17 (i1) - 1) (eI_pos (by omega)) (by show _ < 16; omega) (fun H locs h => ?_)
                                refine lv_aload_n X.1 X.2.1 dX7_sell_265 rfl (lv_at hl 4 rfl) ?_
                                refine mr_get X h kf_X7_16 (by decide) dX7_sell_266 rfl ?_
                                refine lv_iload_n X.1 X.2.1 dX7_sell_269 rfl (lv_at hl 6 rfl) ?_
                                refine lv_dup2_11 X.1 X.2.1 dX7_sell_270 rfl rfl ?_
                                refine mr_ald X h 4 rfl dX7_sell_271 (i := i2) (v := (upd B (F 17 (i1) - 1) ((B (F 17 (i1) - 1)) + (nI (i3)))) (i2)) rfl (by show _ < 16; omega) rfl ?_
                                refine lv_iload_n X.1 X.2.1 dX7_sell_272 rfl (lv_at hl 7 rfl) ?_
                                refine lv_isub X.1 X.2.1 dX7_sell_273 ?_
                                refine mr_astB X h dX7_sell_274 (i := i2) rfl (by show _ < 16; omega) (fun H locs h => ?_)
                                refine lv_aload_n X.1 X.2.1 dX7_sell_275 rfl (lv_at hl 4 rfl) ?_
                                refine mr_get X h kf_X7_46 (by decide) dX7_sell_276 rfl ?_
                                refine lv_iload_n X.1 X.2.1 dX7_sell_279 rfl (lv_at hl 5 rfl) ?_
                                refine lv_iload_n X.1 X.2.1 dX7_sell_280 rfl (lv_at hl 6 rfl) ?_
                                refine mr_ast X h 17 rfl (by decide) dX7_sell_281 (i := i1) (v := i2 + 1) rfl (by show _ < 36; omega) (eI_suc _) (fun H locs h => ?_)
                                refine lv_aload_n X.1 X.2.1 dX7_sell_282 rfl (lv_at hl 4 rfl) ?_
                                refine mr_get X h kf_X7_49 (by decide) dX7_sell_283 rfl ?_
                                refine lv_iload_n X.1 X.2.1 dX7_sell_286 rfl (lv_at hl 5 rfl) ?_
                                refine lv_iconst (v := nI (0) - 1) X.1 X.2.1 dX7_sell_287 (by decide) ?_
                                refine mr_ast X h 18 rfl (by decide) dX7_sell_288 (i := i1) (v := 0) rfl (by show _ < 36; omega) rfl (fun H locs h => ?_)
                                refine lv_iload X.1 X.2.1 dX7_sell_289 (lv_at hl 1 rfl) ?_
                                have hf : faithS F i1 i2 = false := decide_eq_false (by omega)
                                have hv : (if faithS F i1 i2 = true ∧ F 20 i1 = 0 then F 21 i1 + 1 else F 20 i1) = F 20 (i1) := by rw [hf]; first | exact if_pos ⟨rfl, by omega⟩ | exact if_neg (fun z => by have := z.2; omega) | exact if_neg (fun z => absurd z.1 (by decide))
                                exact mr_zret X hr hlocks h dX7_sell_291 ⟨Nat.le_of_ble_eq_true rfl, Nat.le_of_ble_eq_true rfl⟩ (rfl) (MA.ok ((if_neg (by rw [iR_lt hi1 (by omega), iR_lt hi2 (by omega)]; decide)).trans ((if_neg (fun z => z (by rw [nI_ti (by omega)]; omega))).trans (if_pos (by rw [ix_nI (by omega), ix_nI (by omega)]; exact ⟨decide_eq_true (by omega), by omega⟩)))) (by rw [ix_nI (by omega), ix_nI (by omega), hf]; rfl) rfl (fun k h1 h2 => by simp [va_up, h1, h2]) (by rw [ix_nI (by omega), ix_nI (by omega), ix_nI (by omega), fSell, hv]; exact SF.rf _) (by rw [ix_nI (by omega), ix_nI (by omega), ix_nI (by omega)]; rfl))
                              · skip
                                exact absurd c62 (by first | decide | omega)
                            · skip
                              refine lv_iconst (v := nI (1)) X.1 X.2.1 dX7_sell_155 (by decide) ?_
                              refine lv_goto (tgt := 160) X.1 X.2.1 dX7_sell_156 (by decide) ?_
                              refine lv_istore (lv' := [(6, .int (nI (1))), (5, .int (nI (1))), (4, .int (nI (1))), (0, .ref x), (1, .int (nI (i1))), (2, .int (nI (i2))), (3, .int (nI (i3)))]) X.1 X.2.1 dX7_sell_160 hl (by decide) rfl (fun ls hl => ?_)
                              refine lv_bipush (v := nI (20)) X.1 X.2.1 dX7_sell_162 (by decide) ?_
                              refine lv_iload_n X.1 X.2.1 dX7_sell_164 rfl (lv_at hl 4 rfl) ?_
                              refine lv_imul X.1 X.2.1 dX7_sell_165 ?_
                              refine lv_top (y := nI (20 * i1)) (pk_mul _ _) ?_
                              refine lv_aload_n X.1 X.2.1 dX7_sell_166 rfl (lv_at hl 3 rfl) ?_
                              refine mr_get X h kf_X7_58 (by decide) dX7_sell_167 rfl ?_
                              refine lv_iload_n X.1 X.2.1 dX7_sell_170 rfl (lv_at hl 4 rfl) ?_
                              refine mr_ald X h 21 rfl dX7_sell_171 (i := i1) (v := nI (F 21 (i1))) rfl (by show _ < 36; omega) rfl ?_
                              have b65 := hI.k (k := i1) (by omega)
                              refine lv_iadd X.1 X.2.1 dX7_sell_172 ?_
                              refine lv_top (y := nI (20 * i1 + (F 21 (i1)))) (nI_add _ _) ?_
                              refine lv_istore (lv' := [(7, .int (nI (20 * i1 + (F 21 (i1))))), (6, .int (nI (1))), (5, .int (nI (1))), (4, .int (nI (1))), (0, .ref x), (1, .int (nI (i1))), (2, .int (nI (i2))), (3, .int (nI (i3)))]) X.1 X.2.1 dX7_sell_173 hl (by decide) rfl (fun ls hl => ?_)
                              refine lv_aload_n X.1 X.2.1 dX7_sell_175 rfl (lv_at hl 4 rfl) ?_
                              refine mr_get X h kf_X7_61 (by decide) dX7_sell_176 rfl ?_
                              refine lv_iload X.1 X.2.1 dX7_sell_179 (lv_at hl 0 rfl) ?_
                              refine lv_aload_n X.1 X.2.1 dX7_sell_181 rfl (lv_at hl 4 rfl) ?_
                              refine mr_get X h kf_X7_46 (by decide) dX7_sell_182 rfl ?_
                              refine lv_iload_n X.1 X.2.1 dX7_sell_185 rfl (lv_at hl 5 rfl) ?_
                              refine mr_ald X h 17 rfl dX7_sell_186 (i := i1) (v := nI (F 17 (i1)) - 1) rfl (by show _ < 36; omega) rfl ?_
                              have b66 := hI.k (k := i1) (by omega)
                              refine mr_ast X h 22 rfl (by decide) dX7_sell_187 (i := 20 * i1 + (F 21 (i1))) (v := F 17 (i1) - 1) rfl (by show _ < 720; omega) (eI_pos (by omega)) (fun H locs h => ?_)
                              refine lv_aload_n X.1 X.2.1 dX7_sell_188 rfl (lv_at hl 4 rfl) ?_
                              refine mr_get X h kf_X7_64 (by decide) dX7_sell_189 rfl ?_
                              refine lv_iload X.1 X.2.1 dX7_sell_192 (lv_at hl 0 rfl) ?_
                              refine lv_iload_n X.1 X.2.1 dX7_sell_194 rfl (lv_at hl 6 rfl) ?_
                              refine mr_ast X h 23 rfl (by decide) dX7_sell_195 (i := 20 * i1 + (F 21 (i1))) (v := i2) rfl (by show _ < 720; omega) rfl (fun H locs h => ?_)
                              refine lv_aload_n X.1 X.2.1 dX7_sell_196 rfl (lv_at hl 4 rfl) ?_
                              refine mr_get X h kf_X7_67 (by decide) dX7_sell_197 rfl ?_
                              refine lv_iload X.1 X.2.1 dX7_sell_200 (lv_at hl 0 rfl) ?_
                              refine lv_iload_n X.1 X.2.1 dX7_sell_202 rfl (lv_at hl 7 rfl) ?_
                              refine mr_ast X h 24 rfl (by decide) dX7_sell_203 (i := 20 * i1 + (F 21 (i1))) (v := i3) rfl (by show _ < 720; omega) rfl (fun H locs h => ?_)
                              refine lv_aload_n X.1 X.2.1 dX7_sell_204 rfl (lv_at hl 4 rfl) ?_
                              refine mr_get X h kf_X7_55 (by decide) dX7_sell_205 rfl ?_
                              refine lv_iload_n X.1 X.2.1 dX7_sell_208 rfl (lv_at hl 5 rfl) ?_
                              refine lv_iload X.1 X.2.1 dX7_sell_209 (lv_at hl 1 rfl) ?_
                              refine b_if_eq (tgt := 233) X dX7_sell_211 (by decide) (a := ((1 : Nat) : Int)) (nI_ti (by omega)) (fun c67 => ?_) (fun c67 => ?_)
                              · skip
                                exact absurd c67 (by first | decide | omega)
                              · skip
                                refine lv_aload_n X.1 X.2.1 dX7_sell_214 rfl (lv_at hl 4 rfl) ?_
                                refine mr_get X h kf_X7_55 (by decide) dX7_sell_215 rfl ?_
                                refine lv_iload_n X.1 X.2.1 dX7_sell_218 rfl (lv_at hl 5 rfl) ?_
                                refine mr_ald X h 20 rfl dX7_sell_219 (i := i1) (v := nI (F 20 (i1)) - 1) rfl (by show _ < 36; omega) rfl ?_
                                refine lv_iconst (v := nI (0) - 1) X.1 X.2.1 dX7_sell_220 (by decide) ?_
                                refine b_icmp_ne (tgt := 233) X dX7_sell_221 (by decide) (a := ((F 20 (i1) : Nat) : Int) - 1) (b := ((0 : Nat) : Int) - 1) (eI_ti (by omega)) (eI_ti (by omega)) (fun c68 => ?_) (fun c68 => ?_)
                                · skip
                                  refine lv_aload_n X.1 X.2.1 dX7_sell_233 rfl (lv_at hl 4 rfl) ?_
                                  refine mr_get X h kf_X7_55 (by decide) dX7_sell_234 rfl ?_
                                  refine lv_iload_n X.1 X.2.1 dX7_sell_237 rfl (lv_at hl 5 rfl) ?_
                                  refine mr_ald X h 20 rfl dX7_sell_238 (i := i1) (v := nI (F 20 (i1)) - 1) rfl (by show _ < 36; omega) rfl ?_
                                  refine mr_ast X h 20 rfl (by decide) dX7_sell_239 (i := i1) (v := F 20 (i1)) rfl (by show _ < 36; omega) rfl (fun H locs h => ?_)
                                  refine lv_aload_n X.1 X.2.1 dX7_sell_240 rfl (lv_at hl 4 rfl) ?_
                                  refine mr_get X h kf_X7_58 (by decide) dX7_sell_241 rfl ?_
                                  refine lv_iload_n X.1 X.2.1 dX7_sell_244 rfl (lv_at hl 5 rfl) ?_
                                  refine lv_dup2_11 X.1 X.2.1 dX7_sell_245 rfl rfl ?_
                                  refine mr_ald X h 21 rfl dX7_sell_246 (i := i1) (v := nI (F 21 (i1))) rfl (by show _ < 36; omega) rfl ?_
                                  have b69 := hI.k (k := i1) (by omega)
                                  refine lv_iconst (v := nI (1)) X.1 X.2.1 dX7_sell_247 (by decide) ?_
                                  refine lv_iadd X.1 X.2.1 dX7_sell_248 ?_
                                  refine lv_top (y := nI (F 21 (i1) + 1)) (nI_add _ _) ?_
                                  refine mr_ast X h 21 rfl (by decide) dX7_sell_249 (i := i1) (v := F 21 (i1) + 1) rfl (by show _ < 36; omega) rfl (fun H locs h => ?_)
                                  refine lv_aload_n X.1 X.2.1 dX7_sell_250 rfl (lv_at hl 4 rfl) ?_
                                  refine mr_get X h kf_X7_16 (by decide) dX7_sell_251 rfl ?_
                                  refine lv_aload_n X.1 X.2.1 dX7_sell_254 rfl (lv_at hl 4 rfl) ?_
                                  refine mr_get X h kf_X7_46 (by decide) dX7_sell_255 rfl ?_
                                  refine lv_iload_n X.1 X.2.1 dX7_sell_258 rfl (lv_at hl 5 rfl) ?_
                                  refine mr_ald X h 17 rfl dX7_sell_259 (i := i1) (v := nI (F 17 (i1)) - 1) rfl (by show _ < 36; omega) rfl ?_
                                  have b70 := hI.k (k := i1) (by omega)
                                  refine lv_dup2_11 X.1 X.2.1 dX7_sell_260 rfl rfl ?_
                                  refine mr_ald X h 4 rfl dX7_sell_261 (i := F 17 (i1) - 1) (v := B (F 17 (i1) - 1)) (eI_pos (by omega)) (by show _ < 16; omega) rfl ?_
                                  refine lv_iload_n X.1 X.2.1 dX7_sell_262 rfl (lv_at hl 7 rfl) ?_
                                  refine lv_iadd X.1 X.2.1 dX7_sell_263 ?_
                                  refine mr_astB X h dX7_sell_264 (i := F 17 (i1) - 1) (eI_pos (by omega)) (by show _ < 16; omega) (fun H locs h => ?_)
                                  refine lv_aload_n X.1 X.2.1 dX7_sell_265 rfl (lv_at hl 4 rfl) ?_
                                  refine mr_get X h kf_X7_16 (by decide) dX7_sell_266 rfl ?_
                                  refine lv_iload_n X.1 X.2.1 dX7_sell_269 rfl (lv_at hl 6 rfl) ?_
                                  refine lv_dup2_11 X.1 X.2.1 dX7_sell_270 rfl rfl ?_
                                  refine mr_ald X h 4 rfl dX7_sell_271 (i := i2) (v := (upd B (F 17 (i1) - 1) ((B (F 17 (i1) - 1)) + (nI (i3)))) (i2)) rfl (by show _ < 16; omega) rfl ?_
                                  refine lv_iload_n X.1 X.2.1 dX7_sell_272 rfl (lv_at hl 7 rfl) ?_
                                  refine lv_isub X.1 X.2.1 dX7_sell_273 ?_
                                  refine mr_astB X h dX7_sell_274 (i := i2) rfl (by show _ < 16; omega) (fun H locs h => ?_)
                                  refine lv_aload_n X.1 X.2.1 dX7_sell_275 rfl (lv_at hl 4 rfl) ?_
                                  refine mr_get X h kf_X7_46 (by decide) dX7_sell_276 rfl ?_
                                  refine lv_iload_n X.1 X.2.1 dX7_sell_279 rfl (lv_at hl 5 rfl) ?_
                                  refine lv_iload_n X.1 X.2.1 dX7_sell_280 rfl (lv_at hl 6 rfl) ?_
                                  refine mr_ast X h 17 rfl (by decide) dX7_sell_281 (i := i1) (v := i2 + 1) rfl (by show _ < 36; omega) (eI_suc _) (fun H locs h => ?_)
                                  refine lv_aload_n X.1 X.2.1 dX7_sell_282 rfl (lv_at hl 4 rfl) ?_
                                  refine mr_get X h kf_X7_49 (by decide) dX7_sell_283 rfl ?_
                                  refine lv_iload_n X.1 X.2.1 dX7_sell_286 rfl (lv_at hl 5 rfl) ?_
                                  refine lv_iconst (v := nI (0) - 1) X.1 X.2.1 dX7_sell_287 (by decide) ?_
                                  refine mr_ast X h 18 rfl (by decide) dX7_sell_288 (i := i1) (v := 0) rfl (by show _ < 36; omega) rfl (fun H locs h => ?_)
                                  refine lv_iload X.1 X.2.1 dX7_sell_289 (lv_at hl 1 rfl) ?_
                                  have hf : faithS F i1 i2 = true := decide_eq_true (by omega)
                                  have hv : (if faithS F i1 i2 = true ∧ F 20 i1 = 0 then F 21 i1 + 1 else F 20 i1) = F 20 (i1) := by rw [hf]; first | exact if_pos ⟨rfl, by omega⟩ | exact if_neg (fun z => by have := z.2; omega) | exact if_neg (fun z => absurd z.1 (by decide))
                                  exact mr_zret X hr hlocks h dX7_sell_291 ⟨Nat.le_of_ble_eq_true rfl, Nat.le_of_ble_eq_true rfl⟩ (rfl) (MA.ok ((if_neg (by rw [iR_lt hi1 (by omega), iR_lt hi2 (by omega)]; decide)).trans ((if_neg (fun z => z (by rw [nI_ti (by omega)]; omega))).trans (if_pos (by rw [ix_nI (by omega), ix_nI (by omega)]; exact ⟨decide_eq_true (by omega), by omega⟩)))) (by rw [ix_nI (by omega), ix_nI (by omega), hf]; rfl) rfl (fun k h1 h2 => by simp [va_up, h1, h2]) (by rw [ix_nI (by omega), ix_nI (by omega), ix_nI (by omega), fSell, hv]; exact SF.rf _) (by rw [ix_nI (by omega), ix_nI (by omega), ix_nI (by omega)]; rfl))
                                · skip
                                  refine lv_aload_n X.1 X.2.1 dX7_sell_224 rfl (lv_at hl 4 rfl) ?_
                                  refine mr_get X h kf_X7_58 (by decide) dX7_sell_225 rfl ?_
                                  refine lv_iload_n X.1 X.2.1 dX7_sell_228 rfl (lv_at hl 5 rfl) ?_
                                  refine mr_ald X h 21 rfl dX7_sell_229 (i := i1) (v := nI (F 21 (i1))) rfl (by show _ < 36; omega) rfl ?_
                                  have b71 := hI.k (k := i1) (by omega)
                                  refine lv_goto (tgt := 239) X.1 X.2.1 dX7_sell_230 (by decide) ?_
                                  refine mr_ast X h 20 rfl (by decide) dX7_sell_239 (i := i1) (v := F 21 (i1) + 1) rfl (by show _ < 36; omega) (eI_suc _) (fun H locs h => ?_)
                                  refine lv_aload_n X.1 X.2.1 dX7_sell_240 rfl (lv_at hl 4 rfl) ?_
                                  refine mr_get X h kf_X7_58 (by decide) dX7_sell_241 rfl ?_
                                  refine lv_iload_n X.1 X.2.1 dX7_sell_244 rfl (lv_at hl 5 rfl) ?_
                                  refine lv_dup2_11 X.1 X.2.1 dX7_sell_245 rfl rfl ?_
                                  refine mr_ald X h 21 rfl dX7_sell_246 (i := i1) (v := nI (F 21 (i1))) rfl (by show _ < 36; omega) rfl ?_
                                  have b72 := hI.k (k := i1) (by omega)
                                  refine lv_iconst (v := nI (1)) X.1 X.2.1 dX7_sell_247 (by decide) ?_
                                  refine lv_iadd X.1 X.2.1 dX7_sell_248 ?_
                                  refine lv_top (y := nI (F 21 (i1) + 1)) (nI_add _ _) ?_
                                  refine mr_ast X h 21 rfl (by decide) dX7_sell_249 (i := i1) (v := F 21 (i1) + 1) rfl (by show _ < 36; omega) rfl (fun H locs h => ?_)
                                  refine lv_aload_n X.1 X.2.1 dX7_sell_250 rfl (lv_at hl 4 rfl) ?_
                                  refine mr_get X h kf_X7_16 (by decide) dX7_sell_251 rfl ?_
                                  refine lv_aload_n X.1 X.2.1 dX7_sell_254 rfl (lv_at hl 4 rfl) ?_
                                  refine mr_get X h kf_X7_46 (by decide) dX7_sell_255 rfl ?_
                                  refine lv_iload_n X.1 X.2.1 dX7_sell_258 rfl (lv_at hl 5 rfl) ?_
                                  refine mr_ald X h 17 rfl dX7_sell_259 (i := i1) (v := nI (F 17 (i1)) - 1) rfl (by show _ < 36; omega) rfl ?_
                                  have b73 := hI.k (k := i1) (by omega)
                                  refine lv_dup2_11 X.1 X.2.1 dX7_sell_260 rfl rfl ?_
                                  refine mr_ald X h 4 rfl dX7_sell_261 (i := F 17 (i1) - 1) (v := B (F 17 (i1) - 1)) (eI_pos (by omega)) (by show _ < 16; omega) rfl ?_
                                  refine lv_iload_n X.1 X.2.1 dX7_sell_262 rfl (lv_at hl 7 rfl) ?_
                                  refine lv_iadd X.1 X.2.1 dX7_sell_263 ?_
                                  refine mr_astB X h dX7_sell_264 (i := F 17 (i1) - 1) (eI_pos (by omega)) (by show _ < 16; omega) (fun H locs h => ?_)
                                  refine lv_aload_n X.1 X.2.1 dX7_sell_265 rfl (lv_at hl 4 rfl) ?_
                                  refine mr_get X h kf_X7_16 (by decide) dX7_sell_266 rfl ?_
                                  refine lv_iload_n X.1 X.2.1 dX7_sell_269 rfl (lv_at hl 6 rfl) ?_
                                  refine lv_dup2_11 X.1 X.2.1 dX7_sell_270 rfl rfl ?_
                                  refine mr_ald X h 4 rfl dX7_sell_271 (i := i2) (v := (upd B (F 17 (i1) - 1) ((B (F 17 (i1) - 1)) + (nI (i3)))) (i2)) rfl (by show _ < 16; omega) rfl ?_
                                  refine lv_iload_n X.1 X.2.1 dX7_sell_272 rfl (lv_at hl 7 rfl) ?_
                                  refine lv_isub X.1 X.2.1 dX7_sell_273 ?_
                                  refine mr_astB X h dX7_sell_274 (i := i2) rfl (by show _ < 16; omega) (fun H locs h => ?_)
                                  refine lv_aload_n X.1 X.2.1 dX7_sell_275 rfl (lv_at hl 4 rfl) ?_
                                  refine mr_get X h kf_X7_46 (by decide) dX7_sell_276 rfl ?_
                                  refine lv_iload_n X.1 X.2.1 dX7_sell_279 rfl (lv_at hl 5 rfl) ?_
                                  refine lv_iload_n X.1 X.2.1 dX7_sell_280 rfl (lv_at hl 6 rfl) ?_
                                  refine mr_ast X h 17 rfl (by decide) dX7_sell_281 (i := i1) (v := i2 + 1) rfl (by show _ < 36; omega) (eI_suc _) (fun H locs h => ?_)
                                  refine lv_aload_n X.1 X.2.1 dX7_sell_282 rfl (lv_at hl 4 rfl) ?_
                                  refine mr_get X h kf_X7_49 (by decide) dX7_sell_283 rfl ?_
                                  refine lv_iload_n X.1 X.2.1 dX7_sell_286 rfl (lv_at hl 5 rfl) ?_
                                  refine lv_iconst (v := nI (0) - 1) X.1 X.2.1 dX7_sell_287 (by decide) ?_
                                  refine mr_ast X h 18 rfl (by decide) dX7_sell_288 (i := i1) (v := 0) rfl (by show _ < 36; omega) rfl (fun H locs h => ?_)
                                  refine lv_iload X.1 X.2.1 dX7_sell_289 (lv_at hl 1 rfl) ?_
                                  have hf : faithS F i1 i2 = true := decide_eq_true (by omega)
                                  have hv : (if faithS F i1 i2 = true ∧ F 20 i1 = 0 then F 21 i1 + 1 else F 20 i1) = F 21 (i1) + 1 := by rw [hf]; first | exact if_pos ⟨rfl, by omega⟩ | exact if_neg (fun z => by have := z.2; omega) | exact if_neg (fun z => absurd z.1 (by decide))
                                  exact mr_zret X hr hlocks h dX7_sell_291 ⟨Nat.le_of_ble_eq_true rfl, Nat.le_of_ble_eq_true rfl⟩ (rfl) (MA.ok ((if_neg (by rw [iR_lt hi1 (by omega), iR_lt hi2 (by omega)]; decide)).trans ((if_neg (fun z => z (by rw [nI_ti (by omega)]; omega))).trans (if_pos (by rw [ix_nI (by omega), ix_nI (by omega)]; exact ⟨decide_eq_true (by omega), by omega⟩)))) (by rw [ix_nI (by omega), ix_nI (by omega), hf]; rfl) rfl (fun k h1 h2 => by simp [va_up, h1, h2]) (by rw [ix_nI (by omega), ix_nI (by omega), ix_nI (by omega), fSell, hv]; exact SF.rf _) (by rw [ix_nI (by omega), ix_nI (by omega), ix_nI (by omega)]; rfl))
                        · skip
                          exact absurd c49 (by first | decide | omega)
                    · skip
                      have c47 := of_decide_eq_false c47
                      refine lv_iconst (v := nI (2)) X.1 X.2.1 dX7_sell_108 (by decide) ?_
                      refine lv_goto (tgt := 122) X.1 X.2.1 dX7_sell_109 (by decide) ?_
                      refine mr_callV X h ck_X7_93 ki_X7_fails ks_X7_fails dX7_sell_122 (As := [.int (nI (2))]) (c_X7_fails l G x ar N F B 2 (by omega)) rfl hl rfl (Nat.le_of_ble_eq_true rfl) ⟨Nat.le_of_ble_eq_true rfl, Nat.le_of_ble_eq_true rfl⟩ ⟨Nat.le_of_ble_eq_true rfl, Nat.le_of_ble_eq_true rfl⟩ ?_
                      rintro _ _ _ _ H locs ⟨rfl, rfl, rfl, rfl⟩ h
                      refine b_bool_eq (tgt := 130) X dX7_sell_125 (by decide) (fun c74 => ?_) (fun c74 => ?_)
                      · skip
                        exact absurd c74 (by first | decide | omega)
                      · skip
                        have c74 := of_decide_eq_true c74
                        refine lv_iconst (v := nI (0)) X.1 X.2.1 dX7_sell_128 (by decide) ?_
                        exact mr_zret X hr hlocks h dX7_sell_129 ⟨Nat.le_of_ble_eq_true rfl, Nat.le_of_ble_eq_true rfl⟩ (rfl) (MA.bad ((if_neg (by rw [iR_lt hi1 (by omega), iR_lt hi2 (by omega)]; decide)).trans (if_pos (by omega))) (by decide))
                  · skip
                    exact absurd c46 (by first | decide | omega)
set_option maxHeartbeats 4000000 in
set_option maxRecDepth 100000 in
theorem c_X7_lend (l : Launch) (G : mG) (x : Nat) (ar N : Nat → Nat) (F : Nat → Nat → Nat) (B : Nat → Int32) (k0 : Int32) (p0 : Int32) (z0 : Int32) (hI : Iv N F) : MMet l yX7_lend cX7_lend 6 (some FieldType.int) ({ frames := 2, cells := 0, slots := 0, locals := 43 } : Room) G x ar [.ref x, .int (k0), .int (p0), .int (z0)] N F B (fun r N' F' B' => MA r N' F' B' (kLend N F k0 p0 z0) (nI (N 0 + ix z0 - 1)) (N) (fLend N F (ix k0) (ix p0) (ix z0)) (B) N F B) := by
  refine MMet.of (by decide) (Nat.le_of_ble_eq_true rfl) ?_
  intro p e s m args below meth c A ls X hr hlocks h hl
  have hl : lv_has ls 6 [(0, .ref x), (1, .int (k0)), (2, .int (p0)), (3, .int (z0))] := hl
  have hn := hI.n
  refine lv_aload_n X.1 X.2.1 dX7_lend_0 rfl (lv_at hl 0 rfl) ?_
  refine lv_iload_n X.1 X.2.1 dX7_lend_1 rfl (lv_at hl 1 rfl) ?_
  refine mr_callV X h ck_X7_136 ki_X7_isSkin ks_X7_isSkin dX7_lend_2 (As := [.int (k0)]) (c_X7_isSkin l G x ar N F B (k0) hI) rfl hl rfl (Nat.le_of_ble_eq_true rfl) ⟨Nat.le_of_ble_eq_true rfl, Nat.le_of_ble_eq_true rfl⟩ ⟨Nat.le_of_ble_eq_true rfl, Nat.le_of_ble_eq_true rfl⟩ ?_
  rintro _ _ _ _ H locs ⟨rfl, rfl, rfl, rfl⟩ h
  refine b_bool_eq (tgt := 20) X dX7_lend_5 (by decide) (fun c1 => ?_) (fun c1 => ?_)
  · skip
    refine lv_iconst (v := nI (0)) X.1 X.2.1 dX7_lend_20 (by decide) ?_
    refine lv_istore (lv' := [(4, .int (nI (0))), (0, .ref x), (1, .int (k0)), (2, .int (p0)), (3, .int (z0))]) X.1 X.2.1 dX7_lend_21 hl (by decide) rfl (fun ls hl => ?_)
    refine lv_iload X.1 X.2.1 dX7_lend_23 (lv_at hl 0 rfl) ?_
    refine b_if_eq (tgt := 73) X dX7_lend_25 (by decide) (a := ((0 : Nat) : Int)) (nI_ti (by omega)) (fun c2 => ?_) (fun c2 => ?_)
    · skip
      refine lv_iconst (v := nI (0)) X.1 X.2.1 dX7_lend_73 (by decide) ?_
      refine lv_istore (lv' := [(5, .int (nI (0))), (4, .int (nI (0))), (0, .ref x), (1, .int (k0)), (2, .int (p0)), (3, .int (z0))]) X.1 X.2.1 dX7_lend_74 hl (by decide) rfl (fun ls hl => ?_)
      refine lv_aload_n X.1 X.2.1 dX7_lend_76 rfl (lv_at hl 2 rfl) ?_
      refine lv_iload X.1 X.2.1 dX7_lend_77 (lv_at hl 1 rfl) ?_
      refine b_if_ne (tgt := 86) X dX7_lend_79 (by decide) (a := ((0 : Nat) : Int)) (nI_ti (by omega)) (fun c3 => ?_) (fun c3 => ?_)
      · skip
        exact absurd c3 (by first | decide | omega)
      · skip
        refine lv_iconst (v := nI (1)) X.1 X.2.1 dX7_lend_82 (by decide) ?_
        refine lv_goto (tgt := 110) X.1 X.2.1 dX7_lend_83 (by decide) ?_
        refine mr_callV X h ck_X7_93 ki_X7_fails ks_X7_fails dX7_lend_110 (As := [.int (nI (1))]) (c_X7_fails l G x ar N F B 1 (by omega)) rfl hl rfl (Nat.le_of_ble_eq_true rfl) ⟨Nat.le_of_ble_eq_true rfl, Nat.le_of_ble_eq_true rfl⟩ ⟨Nat.le_of_ble_eq_true rfl, Nat.le_of_ble_eq_true rfl⟩ ?_
        rintro _ _ _ _ H locs ⟨rfl, rfl, rfl, rfl⟩ h
        refine b_bool_eq (tgt := 118) X dX7_lend_113 (by decide) (fun c4 => ?_) (fun c4 => ?_)
        · skip
          exact absurd c4 (by first | decide | omega)
        · skip
          have c4 := of_decide_eq_true c4
          refine lv_iconst (v := nI (0)) X.1 X.2.1 dX7_lend_116 (by decide) ?_
          exact mr_iret X hr hlocks h dX7_lend_117 ⟨Nat.le_of_ble_eq_true rfl, Nat.le_of_ble_eq_true rfl⟩ (MA.bad (if_pos (by simp [c1])) (by decide))
    · skip
      exact absurd c2 (by first | decide | omega)
  · skip
    obtain ⟨i1, hi1, rfl⟩ := iR_t c1 (by omega)
    refine lv_aload_n X.1 X.2.1 dX7_lend_8 rfl (lv_at hl 0 rfl) ?_
    refine lv_iload_n X.1 X.2.1 dX7_lend_9 rfl (lv_at hl 2 rfl) ?_
    refine mr_callV X h ck_X7_107 ki_X7_isPlayer ks_X7_isPlayer dX7_lend_10 (As := [.int (p0)]) (c_X7_isPlayer l G x ar N F B (p0) hI) rfl hl rfl (Nat.le_of_ble_eq_true rfl) ⟨Nat.le_of_ble_eq_true rfl, Nat.le_of_ble_eq_true rfl⟩ ⟨Nat.le_of_ble_eq_true rfl, Nat.le_of_ble_eq_true rfl⟩ ?_
    rintro _ _ _ _ H locs ⟨rfl, rfl, rfl, rfl⟩ h
    refine b_bool_eq (tgt := 20) X dX7_lend_13 (by decide) (fun c5 => ?_) (fun c5 => ?_)
    · skip
      refine lv_iconst (v := nI (0)) X.1 X.2.1 dX7_lend_20 (by decide) ?_
      refine lv_istore (lv' := [(4, .int (nI (0))), (0, .ref x), (1, .int (nI (i1))), (2, .int (p0)), (3, .int (z0))]) X.1 X.2.1 dX7_lend_21 hl (by decide) rfl (fun ls hl => ?_)
      refine lv_iload X.1 X.2.1 dX7_lend_23 (lv_at hl 0 rfl) ?_
      refine b_if_eq (tgt := 73) X dX7_lend_25 (by decide) (a := ((0 : Nat) : Int)) (nI_ti (by omega)) (fun c6 => ?_) (fun c6 => ?_)
      · skip
        refine lv_iconst (v := nI (0)) X.1 X.2.1 dX7_lend_73 (by decide) ?_
        refine lv_istore (lv' := [(5, .int (nI (0))), (4, .int (nI (0))), (0, .ref x), (1, .int (nI (i1))), (2, .int (p0)), (3, .int (z0))]) X.1 X.2.1 dX7_lend_74 hl (by decide) rfl (fun ls hl => ?_)
        refine lv_aload_n X.1 X.2.1 dX7_lend_76 rfl (lv_at hl 2 rfl) ?_
        refine lv_iload X.1 X.2.1 dX7_lend_77 (lv_at hl 1 rfl) ?_
        refine b_if_ne (tgt := 86) X dX7_lend_79 (by decide) (a := ((0 : Nat) : Int)) (nI_ti (by omega)) (fun c7 => ?_) (fun c7 => ?_)
        · skip
          exact absurd c7 (by first | decide | omega)
        · skip
          refine lv_iconst (v := nI (1)) X.1 X.2.1 dX7_lend_82 (by decide) ?_
          refine lv_goto (tgt := 110) X.1 X.2.1 dX7_lend_83 (by decide) ?_
          refine mr_callV X h ck_X7_93 ki_X7_fails ks_X7_fails dX7_lend_110 (As := [.int (nI (1))]) (c_X7_fails l G x ar N F B 1 (by omega)) rfl hl rfl (Nat.le_of_ble_eq_true rfl) ⟨Nat.le_of_ble_eq_true rfl, Nat.le_of_ble_eq_true rfl⟩ ⟨Nat.le_of_ble_eq_true rfl, Nat.le_of_ble_eq_true rfl⟩ ?_
          rintro _ _ _ _ H locs ⟨rfl, rfl, rfl, rfl⟩ h
          refine b_bool_eq (tgt := 118) X dX7_lend_113 (by decide) (fun c8 => ?_) (fun c8 => ?_)
          · skip
            exact absurd c8 (by first | decide | omega)
          · skip
            have c8 := of_decide_eq_true c8
            refine lv_iconst (v := nI (0)) X.1 X.2.1 dX7_lend_116 (by decide) ?_
            exact mr_iret X hr hlocks h dX7_lend_117 ⟨Nat.le_of_ble_eq_true rfl, Nat.le_of_ble_eq_true rfl⟩ (MA.bad (if_pos (by simp [iR_lt hi1 (show N 13 < 2 ^ 31 by omega), c5])) (by decide))
      · skip
        exact absurd c6 (by first | decide | omega)
    · skip
      obtain ⟨i2, hi2, rfl⟩ := iR_t c5 (by omega)
      refine lv_iconst (v := nI (1)) X.1 X.2.1 dX7_lend_16 (by decide) ?_
      refine lv_goto (tgt := 21) X.1 X.2.1 dX7_lend_17 (by decide) ?_
      refine lv_istore (lv' := [(4, .int (nI (1))), (0, .ref x), (1, .int (nI (i1))), (2, .int (nI (i2))), (3, .int (z0))]) X.1 X.2.1 dX7_lend_21 hl (by decide) rfl (fun ls hl => ?_)
      refine lv_iload X.1 X.2.1 dX7_lend_23 (lv_at hl 0 rfl) ?_
      refine b_if_eq (tgt := 73) X dX7_lend_25 (by decide) (a := ((1 : Nat) : Int)) (nI_ti (by omega)) (fun c9 => ?_) (fun c9 => ?_)
      · skip
        exact absurd c9 (by first | decide | omega)
      · skip
        refine lv_aload_n X.1 X.2.1 dX7_lend_28 rfl (lv_at hl 1 rfl) ?_
        refine mr_get X h kf_X7_46 (by decide) dX7_lend_29 rfl ?_
        refine lv_iload_n X.1 X.2.1 dX7_lend_32 rfl (lv_at hl 2 rfl) ?_
        refine mr_ald X h 17 rfl dX7_lend_33 (i := i1) (v := nI (F 17 (i1)) - 1) rfl (by show _ < 36; omega) rfl ?_
        have b10 := hI.k (k := i1) (by omega)
        refine lv_iconst (v := nI (0) - 1) X.1 X.2.1 dX7_lend_34 (by decide) ?_
        refine b_icmp_eq (tgt := 73) X dX7_lend_35 (by decide) (a := ((F 17 (i1) : Nat) : Int) - 1) (b := ((0 : Nat) : Int) - 1) (eI_ti (by omega)) (eI_ti (by omega)) (fun c11 => ?_) (fun c11 => ?_)
        · skip
          refine lv_iconst (v := nI (0)) X.1 X.2.1 dX7_lend_73 (by decide) ?_
          refine lv_istore (lv' := [(5, .int (nI (0))), (4, .int (nI (1))), (0, .ref x), (1, .int (nI (i1))), (2, .int (nI (i2))), (3, .int (z0))]) X.1 X.2.1 dX7_lend_74 hl (by decide) rfl (fun ls hl => ?_)
          refine lv_aload_n X.1 X.2.1 dX7_lend_76 rfl (lv_at hl 2 rfl) ?_
          refine lv_iload X.1 X.2.1 dX7_lend_77 (lv_at hl 1 rfl) ?_
          refine b_if_ne (tgt := 86) X dX7_lend_79 (by decide) (a := ((1 : Nat) : Int)) (nI_ti (by omega)) (fun c12 => ?_) (fun c12 => ?_)
          · skip
            refine lv_iload_n X.1 X.2.1 dX7_lend_86 rfl (lv_at hl 5 rfl) ?_
            refine lv_iconst (v := nI (1)) X.1 X.2.1 dX7_lend_87 (by decide) ?_
            refine lv_bipush (v := nI (100)) X.1 X.2.1 dX7_lend_88 (by decide) ?_
            refine mr_callS X h ck_X7_86 kst_X7_isIn dX7_lend_90 (As := [.int (z0), .int (nI (1)), .int (nI (100))]) (c_X7_isIn l G x ar N F B (z0) (nI (1)) (nI (100))) rfl hl rfl (Nat.le_of_ble_eq_true rfl) ⟨Nat.le_of_ble_eq_true rfl, Nat.le_of_ble_eq_true rfl⟩ ⟨Nat.le_of_ble_eq_true rfl, Nat.le_of_ble_eq_true rfl⟩ ?_
            rintro _ _ _ _ H locs ⟨rfl, rfl, rfl, rfl⟩ h
            refine lv_top (y := bI (decide (((1 : Nat) : Int) ≤ (z0).toInt ∧ (z0).toInt ≤ ((100 : Nat) : Int)))) (by rw [show (z0).toInt = (z0).toInt from rfl, show (nI (1)).toInt = ((1 : Nat) : Int) from nI_ti (by omega), show (nI (100)).toInt = ((100 : Nat) : Int) from nI_ti (by omega)]) ?_
            refine b_bool_ne (tgt := 100) X dX7_lend_93 (by decide) (fun c13 => ?_) (fun c13 => ?_)
            · skip
              have c13 := of_decide_eq_true c13
              obtain ⟨i3, hi3l, hi3, rfl⟩ := in_t 1 (n := 100) c13 (by omega)
              refine lv_iload X.1 X.2.1 dX7_lend_100 (lv_at hl 0 rfl) ?_
              refine b_if_eq (tgt := 109) X dX7_lend_102 (by decide) (a := ((0 : Nat) : Int)) (nI_ti (by omega)) (fun c14 => ?_) (fun c14 => ?_)
              · skip
                refine lv_iconst (v := nI (3)) X.1 X.2.1 dX7_lend_109 (by decide) ?_
                refine mr_callV X h ck_X7_93 ki_X7_fails ks_X7_fails dX7_lend_110 (As := [.int (nI (3))]) (c_X7_fails l G x ar N F B 3 (by omega)) rfl hl rfl (Nat.le_of_ble_eq_true rfl) ⟨Nat.le_of_ble_eq_true rfl, Nat.le_of_ble_eq_true rfl⟩ ⟨Nat.le_of_ble_eq_true rfl, Nat.le_of_ble_eq_true rfl⟩ ?_
                rintro _ _ _ _ H locs ⟨rfl, rfl, rfl, rfl⟩ h
                refine b_bool_eq (tgt := 118) X dX7_lend_113 (by decide) (fun c15 => ?_) (fun c15 => ?_)
                · skip
                  exact absurd c15 (by first | decide | omega)
                · skip
                  have c15 := of_decide_eq_true c15
                  refine lv_iconst (v := nI (0)) X.1 X.2.1 dX7_lend_116 (by decide) ?_
                  exact mr_iret X hr hlocks h dX7_lend_117 ⟨Nat.le_of_ble_eq_true rfl, Nat.le_of_ble_eq_true rfl⟩ (MA.bad ((if_neg (by rw [iR_lt hi1 (by omega), iR_lt hi2 (by omega)]; decide)).trans ((if_neg (fun z => z (by rw [nI_ti (by omega)]; omega))).trans (if_neg (by rw [ix_nI (by omega), ix_nI (by omega)]; intro z; have := of_decide_eq_true z; omega)))) (by decide))
              · skip
                exact absurd c14 (by first | decide | omega)
            · skip
              have c13 := of_decide_eq_false c13
              refine lv_iconst (v := nI (2)) X.1 X.2.1 dX7_lend_96 (by decide) ?_
              refine lv_goto (tgt := 110) X.1 X.2.1 dX7_lend_97 (by decide) ?_
              refine mr_callV X h ck_X7_93 ki_X7_fails ks_X7_fails dX7_lend_110 (As := [.int (nI (2))]) (c_X7_fails l G x ar N F B 2 (by omega)) rfl hl rfl (Nat.le_of_ble_eq_true rfl) ⟨Nat.le_of_ble_eq_true rfl, Nat.le_of_ble_eq_true rfl⟩ ⟨Nat.le_of_ble_eq_true rfl, Nat.le_of_ble_eq_true rfl⟩ ?_
              rintro _ _ _ _ H locs ⟨rfl, rfl, rfl, rfl⟩ h
              refine b_bool_eq (tgt := 118) X dX7_lend_113 (by decide) (fun c16 => ?_) (fun c16 => ?_)
              · skip
                exact absurd c16 (by first | decide | omega)
              · skip
                have c16 := of_decide_eq_true c16
                refine lv_iconst (v := nI (0)) X.1 X.2.1 dX7_lend_116 (by decide) ?_
                exact mr_iret X hr hlocks h dX7_lend_117 ⟨Nat.le_of_ble_eq_true rfl, Nat.le_of_ble_eq_true rfl⟩ (MA.bad ((if_neg (by rw [iR_lt hi1 (by omega), iR_lt hi2 (by omega)]; decide)).trans (if_pos (by omega))) (by decide))
          · skip
            exact absurd c12 (by first | decide | omega)
        · skip
          refine lv_aload_n X.1 X.2.1 dX7_lend_38 rfl (lv_at hl 1 rfl) ?_
          refine mr_get X h kf_X7_46 (by decide) dX7_lend_39 rfl ?_
          refine lv_iload_n X.1 X.2.1 dX7_lend_42 rfl (lv_at hl 2 rfl) ?_
          refine mr_ald X h 17 rfl dX7_lend_43 (i := i1) (v := nI (F 17 (i1)) - 1) rfl (by show _ < 36; omega) rfl ?_
          have b17 := hI.k (k := i1) (by omega)
          refine lv_iload_n X.1 X.2.1 dX7_lend_44 rfl (lv_at hl 3 rfl) ?_
          refine b_icmp_eq (tgt := 73) X dX7_lend_45 (by decide) (a := ((F 17 (i1) : Nat) : Int) - 1) (b := ((i2 : Nat) : Int)) (eI_ti (by omega)) (nI_ti (by omega)) (fun c18 => ?_) (fun c18 => ?_)
          · skip
            refine lv_iconst (v := nI (0)) X.1 X.2.1 dX7_lend_73 (by decide) ?_
            refine lv_istore (lv' := [(5, .int (nI (0))), (4, .int (nI (1))), (0, .ref x), (1, .int (nI (i1))), (2, .int (nI (i2))), (3, .int (z0))]) X.1 X.2.1 dX7_lend_74 hl (by decide) rfl (fun ls hl => ?_)
            refine lv_aload_n X.1 X.2.1 dX7_lend_76 rfl (lv_at hl 2 rfl) ?_
            refine lv_iload X.1 X.2.1 dX7_lend_77 (lv_at hl 1 rfl) ?_
            refine b_if_ne (tgt := 86) X dX7_lend_79 (by decide) (a := ((1 : Nat) : Int)) (nI_ti (by omega)) (fun c19 => ?_) (fun c19 => ?_)
            · skip
              refine lv_iload_n X.1 X.2.1 dX7_lend_86 rfl (lv_at hl 5 rfl) ?_
              refine lv_iconst (v := nI (1)) X.1 X.2.1 dX7_lend_87 (by decide) ?_
              refine lv_bipush (v := nI (100)) X.1 X.2.1 dX7_lend_88 (by decide) ?_
              refine mr_callS X h ck_X7_86 kst_X7_isIn dX7_lend_90 (As := [.int (z0), .int (nI (1)), .int (nI (100))]) (c_X7_isIn l G x ar N F B (z0) (nI (1)) (nI (100))) rfl hl rfl (Nat.le_of_ble_eq_true rfl) ⟨Nat.le_of_ble_eq_true rfl, Nat.le_of_ble_eq_true rfl⟩ ⟨Nat.le_of_ble_eq_true rfl, Nat.le_of_ble_eq_true rfl⟩ ?_
              rintro _ _ _ _ H locs ⟨rfl, rfl, rfl, rfl⟩ h
              refine lv_top (y := bI (decide (((1 : Nat) : Int) ≤ (z0).toInt ∧ (z0).toInt ≤ ((100 : Nat) : Int)))) (by rw [show (z0).toInt = (z0).toInt from rfl, show (nI (1)).toInt = ((1 : Nat) : Int) from nI_ti (by omega), show (nI (100)).toInt = ((100 : Nat) : Int) from nI_ti (by omega)]) ?_
              refine b_bool_ne (tgt := 100) X dX7_lend_93 (by decide) (fun c20 => ?_) (fun c20 => ?_)
              · skip
                have c20 := of_decide_eq_true c20
                obtain ⟨i3, hi3l, hi3, rfl⟩ := in_t 1 (n := 100) c20 (by omega)
                refine lv_iload X.1 X.2.1 dX7_lend_100 (lv_at hl 0 rfl) ?_
                refine b_if_eq (tgt := 109) X dX7_lend_102 (by decide) (a := ((0 : Nat) : Int)) (nI_ti (by omega)) (fun c21 => ?_) (fun c21 => ?_)
                · skip
                  refine lv_iconst (v := nI (3)) X.1 X.2.1 dX7_lend_109 (by decide) ?_
                  refine mr_callV X h ck_X7_93 ki_X7_fails ks_X7_fails dX7_lend_110 (As := [.int (nI (3))]) (c_X7_fails l G x ar N F B 3 (by omega)) rfl hl rfl (Nat.le_of_ble_eq_true rfl) ⟨Nat.le_of_ble_eq_true rfl, Nat.le_of_ble_eq_true rfl⟩ ⟨Nat.le_of_ble_eq_true rfl, Nat.le_of_ble_eq_true rfl⟩ ?_
                  rintro _ _ _ _ H locs ⟨rfl, rfl, rfl, rfl⟩ h
                  refine b_bool_eq (tgt := 118) X dX7_lend_113 (by decide) (fun c22 => ?_) (fun c22 => ?_)
                  · skip
                    exact absurd c22 (by first | decide | omega)
                  · skip
                    have c22 := of_decide_eq_true c22
                    refine lv_iconst (v := nI (0)) X.1 X.2.1 dX7_lend_116 (by decide) ?_
                    exact mr_iret X hr hlocks h dX7_lend_117 ⟨Nat.le_of_ble_eq_true rfl, Nat.le_of_ble_eq_true rfl⟩ (MA.bad ((if_neg (by rw [iR_lt hi1 (by omega), iR_lt hi2 (by omega)]; decide)).trans ((if_neg (fun z => z (by rw [nI_ti (by omega)]; omega))).trans (if_neg (by rw [ix_nI (by omega), ix_nI (by omega)]; intro z; have := of_decide_eq_true z; omega)))) (by decide))
                · skip
                  exact absurd c21 (by first | decide | omega)
              · skip
                have c20 := of_decide_eq_false c20
                refine lv_iconst (v := nI (2)) X.1 X.2.1 dX7_lend_96 (by decide) ?_
                refine lv_goto (tgt := 110) X.1 X.2.1 dX7_lend_97 (by decide) ?_
                refine mr_callV X h ck_X7_93 ki_X7_fails ks_X7_fails dX7_lend_110 (As := [.int (nI (2))]) (c_X7_fails l G x ar N F B 2 (by omega)) rfl hl rfl (Nat.le_of_ble_eq_true rfl) ⟨Nat.le_of_ble_eq_true rfl, Nat.le_of_ble_eq_true rfl⟩ ⟨Nat.le_of_ble_eq_true rfl, Nat.le_of_ble_eq_true rfl⟩ ?_
                rintro _ _ _ _ H locs ⟨rfl, rfl, rfl, rfl⟩ h
                refine b_bool_eq (tgt := 118) X dX7_lend_113 (by decide) (fun c23 => ?_) (fun c23 => ?_)
                · skip
                  exact absurd c23 (by first | decide | omega)
                · skip
                  have c23 := of_decide_eq_true c23
                  refine lv_iconst (v := nI (0)) X.1 X.2.1 dX7_lend_116 (by decide) ?_
                  exact mr_iret X hr hlocks h dX7_lend_117 ⟨Nat.le_of_ble_eq_true rfl, Nat.le_of_ble_eq_true rfl⟩ (MA.bad ((if_neg (by rw [iR_lt hi1 (by omega), iR_lt hi2 (by omega)]; decide)).trans (if_pos (by omega))) (by decide))
            · skip
              exact absurd c19 (by first | decide | omega)
          · skip
            refine lv_aload_n X.1 X.2.1 dX7_lend_48 rfl (lv_at hl 1 rfl) ?_
            refine lv_aload_n X.1 X.2.1 dX7_lend_49 rfl (lv_at hl 1 rfl) ?_
            refine mr_get X h kf_X7_46 (by decide) dX7_lend_50 rfl ?_
            refine lv_iload_n X.1 X.2.1 dX7_lend_53 rfl (lv_at hl 2 rfl) ?_
            refine mr_ald X h 17 rfl dX7_lend_54 (i := i1) (v := nI (F 17 (i1)) - 1) rfl (by show _ < 36; omega) rfl ?_
            have b24 := hI.k (k := i1) (by omega)
            refine lv_top (y := nI (F 17 (i1) - 1)) (eI_pos (by omega)) ?_
            refine mr_callV X h ck_X7_110 ki_X7_isBanned ks_X7_isBanned dX7_lend_55 (As := [.int (nI (F 17 (i1) - 1))]) (c_X7_isBanned l G x ar N F B (F 17 (i1) - 1) hI (show F 17 (i1) - 1 < N 1 by omega)) rfl hl rfl (Nat.le_of_ble_eq_true rfl) ⟨Nat.le_of_ble_eq_true rfl, Nat.le_of_ble_eq_true rfl⟩ ⟨Nat.le_of_ble_eq_true rfl, Nat.le_of_ble_eq_true rfl⟩ ?_
            rintro _ _ _ _ H locs ⟨rfl, rfl, rfl, rfl⟩ h
            have b25 := hI.p (F 17 (i1) - 1)
            refine b_bool_ne (tgt := 73) X dX7_lend_58 (by decide) (fun c26 => ?_) (fun c26 => ?_)
            · skip
              have c26 := of_decide_eq_true c26
              refine lv_iconst (v := nI (0)) X.1 X.2.1 dX7_lend_73 (by decide) ?_
              refine lv_istore (lv' := [(5, .int (nI (0))), (4, .int (nI (1))), (0, .ref x), (1, .int (nI (i1))), (2, .int (nI (i2))), (3, .int (z0))]) X.1 X.2.1 dX7_lend_74 hl (by decide) rfl (fun ls hl => ?_)
              refine lv_aload_n X.1 X.2.1 dX7_lend_76 rfl (lv_at hl 2 rfl) ?_
              refine lv_iload X.1 X.2.1 dX7_lend_77 (lv_at hl 1 rfl) ?_
              refine b_if_ne (tgt := 86) X dX7_lend_79 (by decide) (a := ((1 : Nat) : Int)) (nI_ti (by omega)) (fun c27 => ?_) (fun c27 => ?_)
              · skip
                refine lv_iload_n X.1 X.2.1 dX7_lend_86 rfl (lv_at hl 5 rfl) ?_
                refine lv_iconst (v := nI (1)) X.1 X.2.1 dX7_lend_87 (by decide) ?_
                refine lv_bipush (v := nI (100)) X.1 X.2.1 dX7_lend_88 (by decide) ?_
                refine mr_callS X h ck_X7_86 kst_X7_isIn dX7_lend_90 (As := [.int (z0), .int (nI (1)), .int (nI (100))]) (c_X7_isIn l G x ar N F B (z0) (nI (1)) (nI (100))) rfl hl rfl (Nat.le_of_ble_eq_true rfl) ⟨Nat.le_of_ble_eq_true rfl, Nat.le_of_ble_eq_true rfl⟩ ⟨Nat.le_of_ble_eq_true rfl, Nat.le_of_ble_eq_true rfl⟩ ?_
                rintro _ _ _ _ H locs ⟨rfl, rfl, rfl, rfl⟩ h
                refine lv_top (y := bI (decide (((1 : Nat) : Int) ≤ (z0).toInt ∧ (z0).toInt ≤ ((100 : Nat) : Int)))) (by rw [show (z0).toInt = (z0).toInt from rfl, show (nI (1)).toInt = ((1 : Nat) : Int) from nI_ti (by omega), show (nI (100)).toInt = ((100 : Nat) : Int) from nI_ti (by omega)]) ?_
                refine b_bool_ne (tgt := 100) X dX7_lend_93 (by decide) (fun c28 => ?_) (fun c28 => ?_)
                · skip
                  have c28 := of_decide_eq_true c28
                  obtain ⟨i3, hi3l, hi3, rfl⟩ := in_t 1 (n := 100) c28 (by omega)
                  refine lv_iload X.1 X.2.1 dX7_lend_100 (lv_at hl 0 rfl) ?_
                  refine b_if_eq (tgt := 109) X dX7_lend_102 (by decide) (a := ((0 : Nat) : Int)) (nI_ti (by omega)) (fun c29 => ?_) (fun c29 => ?_)
                  · skip
                    refine lv_iconst (v := nI (3)) X.1 X.2.1 dX7_lend_109 (by decide) ?_
                    refine mr_callV X h ck_X7_93 ki_X7_fails ks_X7_fails dX7_lend_110 (As := [.int (nI (3))]) (c_X7_fails l G x ar N F B 3 (by omega)) rfl hl rfl (Nat.le_of_ble_eq_true rfl) ⟨Nat.le_of_ble_eq_true rfl, Nat.le_of_ble_eq_true rfl⟩ ⟨Nat.le_of_ble_eq_true rfl, Nat.le_of_ble_eq_true rfl⟩ ?_
                    rintro _ _ _ _ H locs ⟨rfl, rfl, rfl, rfl⟩ h
                    refine b_bool_eq (tgt := 118) X dX7_lend_113 (by decide) (fun c30 => ?_) (fun c30 => ?_)
                    · skip
                      exact absurd c30 (by first | decide | omega)
                    · skip
                      have c30 := of_decide_eq_true c30
                      refine lv_iconst (v := nI (0)) X.1 X.2.1 dX7_lend_116 (by decide) ?_
                      exact mr_iret X hr hlocks h dX7_lend_117 ⟨Nat.le_of_ble_eq_true rfl, Nat.le_of_ble_eq_true rfl⟩ (MA.bad ((if_neg (by rw [iR_lt hi1 (by omega), iR_lt hi2 (by omega)]; decide)).trans ((if_neg (fun z => z (by rw [nI_ti (by omega)]; omega))).trans (if_neg (by rw [ix_nI (by omega), ix_nI (by omega)]; intro z; have := of_decide_eq_true z; omega)))) (by decide))
                  · skip
                    exact absurd c29 (by first | decide | omega)
                · skip
                  have c28 := of_decide_eq_false c28
                  refine lv_iconst (v := nI (2)) X.1 X.2.1 dX7_lend_96 (by decide) ?_
                  refine lv_goto (tgt := 110) X.1 X.2.1 dX7_lend_97 (by decide) ?_
                  refine mr_callV X h ck_X7_93 ki_X7_fails ks_X7_fails dX7_lend_110 (As := [.int (nI (2))]) (c_X7_fails l G x ar N F B 2 (by omega)) rfl hl rfl (Nat.le_of_ble_eq_true rfl) ⟨Nat.le_of_ble_eq_true rfl, Nat.le_of_ble_eq_true rfl⟩ ⟨Nat.le_of_ble_eq_true rfl, Nat.le_of_ble_eq_true rfl⟩ ?_
                  rintro _ _ _ _ H locs ⟨rfl, rfl, rfl, rfl⟩ h
                  refine b_bool_eq (tgt := 118) X dX7_lend_113 (by decide) (fun c31 => ?_) (fun c31 => ?_)
                  · skip
                    exact absurd c31 (by first | decide | omega)
                  · skip
                    have c31 := of_decide_eq_true c31
                    refine lv_iconst (v := nI (0)) X.1 X.2.1 dX7_lend_116 (by decide) ?_
                    exact mr_iret X hr hlocks h dX7_lend_117 ⟨Nat.le_of_ble_eq_true rfl, Nat.le_of_ble_eq_true rfl⟩ (MA.bad ((if_neg (by rw [iR_lt hi1 (by omega), iR_lt hi2 (by omega)]; decide)).trans (if_pos (by omega))) (by decide))
              · skip
                exact absurd c27 (by first | decide | omega)
            · skip
              have c26 := of_decide_eq_false c26
              refine lv_aload_n X.1 X.2.1 dX7_lend_61 rfl (lv_at hl 1 rfl) ?_
              refine lv_iload_n X.1 X.2.1 dX7_lend_62 rfl (lv_at hl 3 rfl) ?_
              refine mr_callV X h ck_X7_110 ki_X7_isBanned ks_X7_isBanned dX7_lend_63 (As := [.int (nI (i2))]) (c_X7_isBanned l G x ar N F B i2 hI (show i2 < N 1 by omega)) rfl hl rfl (Nat.le_of_ble_eq_true rfl) ⟨Nat.le_of_ble_eq_true rfl, Nat.le_of_ble_eq_true rfl⟩ ⟨Nat.le_of_ble_eq_true rfl, Nat.le_of_ble_eq_true rfl⟩ ?_
              rintro _ _ _ _ H locs ⟨rfl, rfl, rfl, rfl⟩ h
              have b32 := hI.p (i2)
              refine b_bool_ne (tgt := 73) X dX7_lend_66 (by decide) (fun c33 => ?_) (fun c33 => ?_)
              · skip
                have c33 := of_decide_eq_true c33
                refine lv_iconst (v := nI (0)) X.1 X.2.1 dX7_lend_73 (by decide) ?_
                refine lv_istore (lv' := [(5, .int (nI (0))), (4, .int (nI (1))), (0, .ref x), (1, .int (nI (i1))), (2, .int (nI (i2))), (3, .int (z0))]) X.1 X.2.1 dX7_lend_74 hl (by decide) rfl (fun ls hl => ?_)
                refine lv_aload_n X.1 X.2.1 dX7_lend_76 rfl (lv_at hl 2 rfl) ?_
                refine lv_iload X.1 X.2.1 dX7_lend_77 (lv_at hl 1 rfl) ?_
                refine b_if_ne (tgt := 86) X dX7_lend_79 (by decide) (a := ((1 : Nat) : Int)) (nI_ti (by omega)) (fun c34 => ?_) (fun c34 => ?_)
                · skip
                  refine lv_iload_n X.1 X.2.1 dX7_lend_86 rfl (lv_at hl 5 rfl) ?_
                  refine lv_iconst (v := nI (1)) X.1 X.2.1 dX7_lend_87 (by decide) ?_
                  refine lv_bipush (v := nI (100)) X.1 X.2.1 dX7_lend_88 (by decide) ?_
                  refine mr_callS X h ck_X7_86 kst_X7_isIn dX7_lend_90 (As := [.int (z0), .int (nI (1)), .int (nI (100))]) (c_X7_isIn l G x ar N F B (z0) (nI (1)) (nI (100))) rfl hl rfl (Nat.le_of_ble_eq_true rfl) ⟨Nat.le_of_ble_eq_true rfl, Nat.le_of_ble_eq_true rfl⟩ ⟨Nat.le_of_ble_eq_true rfl, Nat.le_of_ble_eq_true rfl⟩ ?_
                  rintro _ _ _ _ H locs ⟨rfl, rfl, rfl, rfl⟩ h
                  refine lv_top (y := bI (decide (((1 : Nat) : Int) ≤ (z0).toInt ∧ (z0).toInt ≤ ((100 : Nat) : Int)))) (by rw [show (z0).toInt = (z0).toInt from rfl, show (nI (1)).toInt = ((1 : Nat) : Int) from nI_ti (by omega), show (nI (100)).toInt = ((100 : Nat) : Int) from nI_ti (by omega)]) ?_
                  refine b_bool_ne (tgt := 100) X dX7_lend_93 (by decide) (fun c35 => ?_) (fun c35 => ?_)
                  · skip
                    have c35 := of_decide_eq_true c35
                    obtain ⟨i3, hi3l, hi3, rfl⟩ := in_t 1 (n := 100) c35 (by omega)
                    refine lv_iload X.1 X.2.1 dX7_lend_100 (lv_at hl 0 rfl) ?_
                    refine b_if_eq (tgt := 109) X dX7_lend_102 (by decide) (a := ((0 : Nat) : Int)) (nI_ti (by omega)) (fun c36 => ?_) (fun c36 => ?_)
                    · skip
                      refine lv_iconst (v := nI (3)) X.1 X.2.1 dX7_lend_109 (by decide) ?_
                      refine mr_callV X h ck_X7_93 ki_X7_fails ks_X7_fails dX7_lend_110 (As := [.int (nI (3))]) (c_X7_fails l G x ar N F B 3 (by omega)) rfl hl rfl (Nat.le_of_ble_eq_true rfl) ⟨Nat.le_of_ble_eq_true rfl, Nat.le_of_ble_eq_true rfl⟩ ⟨Nat.le_of_ble_eq_true rfl, Nat.le_of_ble_eq_true rfl⟩ ?_
                      rintro _ _ _ _ H locs ⟨rfl, rfl, rfl, rfl⟩ h
                      refine b_bool_eq (tgt := 118) X dX7_lend_113 (by decide) (fun c37 => ?_) (fun c37 => ?_)
                      · skip
                        exact absurd c37 (by first | decide | omega)
                      · skip
                        have c37 := of_decide_eq_true c37
                        refine lv_iconst (v := nI (0)) X.1 X.2.1 dX7_lend_116 (by decide) ?_
                        exact mr_iret X hr hlocks h dX7_lend_117 ⟨Nat.le_of_ble_eq_true rfl, Nat.le_of_ble_eq_true rfl⟩ (MA.bad ((if_neg (by rw [iR_lt hi1 (by omega), iR_lt hi2 (by omega)]; decide)).trans ((if_neg (fun z => z (by rw [nI_ti (by omega)]; omega))).trans (if_neg (by rw [ix_nI (by omega), ix_nI (by omega)]; intro z; have := of_decide_eq_true z; omega)))) (by decide))
                    · skip
                      exact absurd c36 (by first | decide | omega)
                  · skip
                    have c35 := of_decide_eq_false c35
                    refine lv_iconst (v := nI (2)) X.1 X.2.1 dX7_lend_96 (by decide) ?_
                    refine lv_goto (tgt := 110) X.1 X.2.1 dX7_lend_97 (by decide) ?_
                    refine mr_callV X h ck_X7_93 ki_X7_fails ks_X7_fails dX7_lend_110 (As := [.int (nI (2))]) (c_X7_fails l G x ar N F B 2 (by omega)) rfl hl rfl (Nat.le_of_ble_eq_true rfl) ⟨Nat.le_of_ble_eq_true rfl, Nat.le_of_ble_eq_true rfl⟩ ⟨Nat.le_of_ble_eq_true rfl, Nat.le_of_ble_eq_true rfl⟩ ?_
                    rintro _ _ _ _ H locs ⟨rfl, rfl, rfl, rfl⟩ h
                    refine b_bool_eq (tgt := 118) X dX7_lend_113 (by decide) (fun c38 => ?_) (fun c38 => ?_)
                    · skip
                      exact absurd c38 (by first | decide | omega)
                    · skip
                      have c38 := of_decide_eq_true c38
                      refine lv_iconst (v := nI (0)) X.1 X.2.1 dX7_lend_116 (by decide) ?_
                      exact mr_iret X hr hlocks h dX7_lend_117 ⟨Nat.le_of_ble_eq_true rfl, Nat.le_of_ble_eq_true rfl⟩ (MA.bad ((if_neg (by rw [iR_lt hi1 (by omega), iR_lt hi2 (by omega)]; decide)).trans (if_pos (by omega))) (by decide))
                · skip
                  exact absurd c34 (by first | decide | omega)
              · skip
                have c33 := of_decide_eq_false c33
                refine lv_iconst (v := nI (1)) X.1 X.2.1 dX7_lend_69 (by decide) ?_
                refine lv_goto (tgt := 74) X.1 X.2.1 dX7_lend_70 (by decide) ?_
                refine lv_istore (lv' := [(5, .int (nI (1))), (4, .int (nI (1))), (0, .ref x), (1, .int (nI (i1))), (2, .int (nI (i2))), (3, .int (z0))]) X.1 X.2.1 dX7_lend_74 hl (by decide) rfl (fun ls hl => ?_)
                refine lv_aload_n X.1 X.2.1 dX7_lend_76 rfl (lv_at hl 2 rfl) ?_
                refine lv_iload X.1 X.2.1 dX7_lend_77 (lv_at hl 1 rfl) ?_
                refine b_if_ne (tgt := 86) X dX7_lend_79 (by decide) (a := ((1 : Nat) : Int)) (nI_ti (by omega)) (fun c39 => ?_) (fun c39 => ?_)
                · skip
                  refine lv_iload_n X.1 X.2.1 dX7_lend_86 rfl (lv_at hl 5 rfl) ?_
                  refine lv_iconst (v := nI (1)) X.1 X.2.1 dX7_lend_87 (by decide) ?_
                  refine lv_bipush (v := nI (100)) X.1 X.2.1 dX7_lend_88 (by decide) ?_
                  refine mr_callS X h ck_X7_86 kst_X7_isIn dX7_lend_90 (As := [.int (z0), .int (nI (1)), .int (nI (100))]) (c_X7_isIn l G x ar N F B (z0) (nI (1)) (nI (100))) rfl hl rfl (Nat.le_of_ble_eq_true rfl) ⟨Nat.le_of_ble_eq_true rfl, Nat.le_of_ble_eq_true rfl⟩ ⟨Nat.le_of_ble_eq_true rfl, Nat.le_of_ble_eq_true rfl⟩ ?_
                  rintro _ _ _ _ H locs ⟨rfl, rfl, rfl, rfl⟩ h
                  refine lv_top (y := bI (decide (((1 : Nat) : Int) ≤ (z0).toInt ∧ (z0).toInt ≤ ((100 : Nat) : Int)))) (by rw [show (z0).toInt = (z0).toInt from rfl, show (nI (1)).toInt = ((1 : Nat) : Int) from nI_ti (by omega), show (nI (100)).toInt = ((100 : Nat) : Int) from nI_ti (by omega)]) ?_
                  refine b_bool_ne (tgt := 100) X dX7_lend_93 (by decide) (fun c40 => ?_) (fun c40 => ?_)
                  · skip
                    have c40 := of_decide_eq_true c40
                    obtain ⟨i3, hi3l, hi3, rfl⟩ := in_t 1 (n := 100) c40 (by omega)
                    refine lv_iload X.1 X.2.1 dX7_lend_100 (lv_at hl 0 rfl) ?_
                    refine b_if_eq (tgt := 109) X dX7_lend_102 (by decide) (a := ((1 : Nat) : Int)) (nI_ti (by omega)) (fun c41 => ?_) (fun c41 => ?_)
                    · skip
                      exact absurd c41 (by first | decide | omega)
                    · skip
                      refine lv_iconst (v := nI (0)) X.1 X.2.1 dX7_lend_105 (by decide) ?_
                      refine lv_goto (tgt := 110) X.1 X.2.1 dX7_lend_106 (by decide) ?_
                      refine mr_callV X h ck_X7_93 ki_X7_fails ks_X7_fails dX7_lend_110 (As := [.int (nI (0))]) (c_X7_fails l G x ar N F B 0 (by omega)) rfl hl rfl (Nat.le_of_ble_eq_true rfl) ⟨Nat.le_of_ble_eq_true rfl, Nat.le_of_ble_eq_true rfl⟩ ⟨Nat.le_of_ble_eq_true rfl, Nat.le_of_ble_eq_true rfl⟩ ?_
                      rintro _ _ _ _ H locs ⟨rfl, rfl, rfl, rfl⟩ h
                      refine b_bool_eq (tgt := 118) X dX7_lend_113 (by decide) (fun c42 => ?_) (fun c42 => ?_)
                      · skip
                        have c42 := of_decide_eq_false c42
                        refine lv_aload_n X.1 X.2.1 dX7_lend_118 rfl (lv_at hl 2 rfl) ?_
                        refine mr_get X h kf_X7_49 (by decide) dX7_lend_119 rfl ?_
                        refine lv_iload_n X.1 X.2.1 dX7_lend_122 rfl (lv_at hl 3 rfl) ?_
                        refine lv_iload_n X.1 X.2.1 dX7_lend_123 rfl (lv_at hl 4 rfl) ?_
                        refine mr_ast X h 18 rfl (by decide) dX7_lend_124 (i := i1) (v := i2 + 1) rfl (by show _ < 36; omega) (eI_suc _) (fun H locs h => ?_)
                        refine lv_aload_n X.1 X.2.1 dX7_lend_125 rfl (lv_at hl 2 rfl) ?_
                        refine mr_get X h kf_X7_52 (by decide) dX7_lend_126 rfl ?_
                        refine lv_iload_n X.1 X.2.1 dX7_lend_129 rfl (lv_at hl 3 rfl) ?_
                        refine lv_aload_n X.1 X.2.1 dX7_lend_130 rfl (lv_at hl 2 rfl) ?_
                        refine mr_get X h kf_X7_90 (by decide) dX7_lend_131 (v := .int (nI (N 0))) rfl ?_
                        refine lv_iload_n X.1 X.2.1 dX7_lend_134 rfl (lv_at hl 5 rfl) ?_
                        refine lv_iadd X.1 X.2.1 dX7_lend_135 ?_
                        refine lv_top (y := nI (N 0 + i3)) (nI_add _ _) ?_
                        refine lv_iconst (v := nI (1)) X.1 X.2.1 dX7_lend_136 (by decide) ?_
                        refine lv_isub X.1 X.2.1 dX7_lend_137 ?_
                        refine lv_top (y := nI (N 0 + i3) - 1) rfl ?_
                        refine mr_ast X h 19 rfl (by decide) dX7_lend_138 (i := i1) (v := N 0 + i3 - 1) rfl (by show _ < 36; omega) (eI_pos (by omega)) (fun H locs h => ?_)
                        refine lv_aload_n X.1 X.2.1 dX7_lend_139 rfl (lv_at hl 2 rfl) ?_
                        refine mr_get X h kf_X7_52 (by decide) dX7_lend_140 rfl ?_
                        refine lv_iload_n X.1 X.2.1 dX7_lend_143 rfl (lv_at hl 3 rfl) ?_
                        refine mr_ald X h 19 rfl dX7_lend_144 (i := i1) (v := nI (N 0 + i3 - 1)) rfl (by show _ < 36; omega) (by simp [rowM, shN, set1, va_up]) ?_
                        exact mr_iret X hr hlocks h dX7_lend_145 ⟨Nat.le_of_ble_eq_true rfl, Nat.le_of_ble_eq_true rfl⟩ (MA.ok ((if_neg (by rw [iR_lt hi1 (by omega), iR_lt hi2 (by omega)]; decide)).trans ((if_neg (fun z => z (by rw [nI_ti (by omega)]; omega))).trans (if_pos (by rw [ix_nI (by omega), ix_nI (by omega)]; exact decide_eq_true (by omega))))) (by rw [ix_nI (by omega)]) rfl (fun k h1 h2 => by simp [va_up, h1, h2]) (by rw [ix_nI (by omega), ix_nI (by omega), ix_nI (by omega)]; exact SF.rf _) rfl)
                      · skip
                        exact absurd c42 (by first | decide | omega)
                  · skip
                    have c40 := of_decide_eq_false c40
                    refine lv_iconst (v := nI (2)) X.1 X.2.1 dX7_lend_96 (by decide) ?_
                    refine lv_goto (tgt := 110) X.1 X.2.1 dX7_lend_97 (by decide) ?_
                    refine mr_callV X h ck_X7_93 ki_X7_fails ks_X7_fails dX7_lend_110 (As := [.int (nI (2))]) (c_X7_fails l G x ar N F B 2 (by omega)) rfl hl rfl (Nat.le_of_ble_eq_true rfl) ⟨Nat.le_of_ble_eq_true rfl, Nat.le_of_ble_eq_true rfl⟩ ⟨Nat.le_of_ble_eq_true rfl, Nat.le_of_ble_eq_true rfl⟩ ?_
                    rintro _ _ _ _ H locs ⟨rfl, rfl, rfl, rfl⟩ h
                    refine b_bool_eq (tgt := 118) X dX7_lend_113 (by decide) (fun c43 => ?_) (fun c43 => ?_)
                    · skip
                      exact absurd c43 (by first | decide | omega)
                    · skip
                      have c43 := of_decide_eq_true c43
                      refine lv_iconst (v := nI (0)) X.1 X.2.1 dX7_lend_116 (by decide) ?_
                      exact mr_iret X hr hlocks h dX7_lend_117 ⟨Nat.le_of_ble_eq_true rfl, Nat.le_of_ble_eq_true rfl⟩ (MA.bad ((if_neg (by rw [iR_lt hi1 (by omega), iR_lt hi2 (by omega)]; decide)).trans (if_pos (by omega))) (by decide))
                · skip
                  exact absurd c39 (by first | decide | omega)
end
section
set_option maxHeartbeats 4000000 in
set_option maxRecDepth 100000 in
theorem c_X7_ranked (l : Launch) (G : mG) (x : Nat) (ar N : Nat → Nat) (F : Nat → Nat → Nat) (B : Nat → Int32) (s0 : Int32) (p0 : Int32) (w0 : Int32) (hI : Iv N F) : MMet l yX7_ranked cX7_ranked 5 (some FieldType.int) ({ frames := 2, cells := 0, slots := 0, locals := 45 } : Room) G x ar [.ref x, .int (s0), .int (p0), .int (w0)] N F B (fun r N' F' B' => MA r N' F' B' (kRanked N s0 p0 w0) (nI (vRanked N F (ix s0) (ix p0) (ix w0))) (N) (F) (B) N F B) := by
  refine MMet.of (by decide) (Nat.le_of_ble_eq_true rfl) ?_
  intro p e s m args below meth c A ls X hr hlocks h hl
  have hl : lv_has ls 5 [(0, .ref x), (1, .int (s0)), (2, .int (p0)), (3, .int (w0))] := hl
  have hn := hI.n
  refine lv_iload_n X.1 X.2.1 dX7_ranked_0 rfl (lv_at hl 1 rfl) ?_
  refine lv_iconst (v := nI (0)) X.1 X.2.1 dX7_ranked_1 (by decide) ?_
  refine lv_aload_n X.1 X.2.1 dX7_ranked_2 rfl (lv_at hl 0 rfl) ?_
  refine mr_get X h kf_X7_113 (by decide) dX7_ranked_3 (v := .int (nI (N 12))) rfl ?_
  refine mr_callS X h ck_X7_86 kst_X7_isIn dX7_ranked_6 (As := [.int (s0), .int (nI (0)), .int (nI (N 12))]) (c_X7_isIn l G x ar N F B (s0) (nI (0)) (nI (N 12))) rfl hl rfl (Nat.le_of_ble_eq_true rfl) ⟨Nat.le_of_ble_eq_true rfl, Nat.le_of_ble_eq_true rfl⟩ ⟨Nat.le_of_ble_eq_true rfl, Nat.le_of_ble_eq_true rfl⟩ ?_
  rintro _ _ _ _ H locs ⟨rfl, rfl, rfl, rfl⟩ h
  refine lv_top (y := bI (decide (((0 : Nat) : Int) ≤ (s0).toInt ∧ (s0).toInt ≤ ((N 12 : Nat) : Int)))) (by rw [show (s0).toInt = (s0).toInt from rfl, show (nI (0)).toInt = ((0 : Nat) : Int) from nI_ti (by omega), show (nI (N 12)).toInt = ((N 12 : Nat) : Int) from nI_ti (by omega)]) ?_
  refine b_bool_eq (tgt := 24) X dX7_ranked_9 (by decide) (fun c1 => ?_) (fun c1 => ?_)
  · skip
    have c1 := of_decide_eq_false c1
    refine lv_iconst (v := nI (0)) X.1 X.2.1 dX7_ranked_24 (by decide) ?_
    refine lv_istore (lv' := [(4, .int (nI (0))), (0, .ref x), (1, .int (s0)), (2, .int (p0)), (3, .int (w0))]) X.1 X.2.1 dX7_ranked_25 hl (by decide) rfl (fun ls hl => ?_)
    refine lv_aload_n X.1 X.2.1 dX7_ranked_27 rfl (lv_at hl 1 rfl) ?_
    refine lv_iload X.1 X.2.1 dX7_ranked_28 (lv_at hl 0 rfl) ?_
    refine b_if_ne (tgt := 37) X dX7_ranked_30 (by decide) (a := ((0 : Nat) : Int)) (nI_ti (by omega)) (fun c2 => ?_) (fun c2 => ?_)
    · skip
      exact absurd c2 (by first | decide | omega)
    · skip
      refine lv_iconst (v := nI (1)) X.1 X.2.1 dX7_ranked_33 (by decide) ?_
      refine lv_goto (tgt := 51) X.1 X.2.1 dX7_ranked_34 (by decide) ?_
      refine mr_callV X h ck_X7_93 ki_X7_fails ks_X7_fails dX7_ranked_51 (As := [.int (nI (1))]) (c_X7_fails l G x ar N F B 1 (by omega)) rfl hl rfl (Nat.le_of_ble_eq_true rfl) ⟨Nat.le_of_ble_eq_true rfl, Nat.le_of_ble_eq_true rfl⟩ ⟨Nat.le_of_ble_eq_true rfl, Nat.le_of_ble_eq_true rfl⟩ ?_
      rintro _ _ _ _ H locs ⟨rfl, rfl, rfl, rfl⟩ h
      refine b_bool_eq (tgt := 59) X dX7_ranked_54 (by decide) (fun c3 => ?_) (fun c3 => ?_)
      · skip
        exact absurd c3 (by first | decide | omega)
      · skip
        have c3 := of_decide_eq_true c3
        refine lv_iconst (v := nI (0)) X.1 X.2.1 dX7_ranked_57 (by decide) ?_
        exact mr_iret X hr hlocks h dX7_ranked_58 ⟨Nat.le_of_ble_eq_true rfl, Nat.le_of_ble_eq_true rfl⟩ (MA.bad (if_pos (by rw [Bool.and_eq_false_iff]; exact Or.inl (by unfold iR; exact decide_eq_false (by omega)))) (by decide))
  · skip
    have c1 := of_decide_eq_true c1
    obtain ⟨i1, hi1, rfl⟩ := iR_t (p := s0) (n := N 12 + 1) (decide_eq_true (by omega)) (by omega)
    refine lv_aload_n X.1 X.2.1 dX7_ranked_12 rfl (lv_at hl 0 rfl) ?_
    refine lv_iload_n X.1 X.2.1 dX7_ranked_13 rfl (lv_at hl 2 rfl) ?_
    refine mr_callV X h ck_X7_107 ki_X7_isPlayer ks_X7_isPlayer dX7_ranked_14 (As := [.int (p0)]) (c_X7_isPlayer l G x ar N F B (p0) hI) rfl hl rfl (Nat.le_of_ble_eq_true rfl) ⟨Nat.le_of_ble_eq_true rfl, Nat.le_of_ble_eq_true rfl⟩ ⟨Nat.le_of_ble_eq_true rfl, Nat.le_of_ble_eq_true rfl⟩ ?_
    rintro _ _ _ _ H locs ⟨rfl, rfl, rfl, rfl⟩ h
    refine b_bool_eq (tgt := 24) X dX7_ranked_17 (by decide) (fun c4 => ?_) (fun c4 => ?_)
    · skip
      refine lv_iconst (v := nI (0)) X.1 X.2.1 dX7_ranked_24 (by decide) ?_
      refine lv_istore (lv' := [(4, .int (nI (0))), (0, .ref x), (1, .int (nI (i1))), (2, .int (p0)), (3, .int (w0))]) X.1 X.2.1 dX7_ranked_25 hl (by decide) rfl (fun ls hl => ?_)
      refine lv_aload_n X.1 X.2.1 dX7_ranked_27 rfl (lv_at hl 1 rfl) ?_
      refine lv_iload X.1 X.2.1 dX7_ranked_28 (lv_at hl 0 rfl) ?_
      refine b_if_ne (tgt := 37) X dX7_ranked_30 (by decide) (a := ((0 : Nat) : Int)) (nI_ti (by omega)) (fun c5 => ?_) (fun c5 => ?_)
      · skip
        exact absurd c5 (by first | decide | omega)
      · skip
        refine lv_iconst (v := nI (1)) X.1 X.2.1 dX7_ranked_33 (by decide) ?_
        refine lv_goto (tgt := 51) X.1 X.2.1 dX7_ranked_34 (by decide) ?_
        refine mr_callV X h ck_X7_93 ki_X7_fails ks_X7_fails dX7_ranked_51 (As := [.int (nI (1))]) (c_X7_fails l G x ar N F B 1 (by omega)) rfl hl rfl (Nat.le_of_ble_eq_true rfl) ⟨Nat.le_of_ble_eq_true rfl, Nat.le_of_ble_eq_true rfl⟩ ⟨Nat.le_of_ble_eq_true rfl, Nat.le_of_ble_eq_true rfl⟩ ?_
        rintro _ _ _ _ H locs ⟨rfl, rfl, rfl, rfl⟩ h
        refine b_bool_eq (tgt := 59) X dX7_ranked_54 (by decide) (fun c6 => ?_) (fun c6 => ?_)
        · skip
          exact absurd c6 (by first | decide | omega)
        · skip
          have c6 := of_decide_eq_true c6
          refine lv_iconst (v := nI (0)) X.1 X.2.1 dX7_ranked_57 (by decide) ?_
          exact mr_iret X hr hlocks h dX7_ranked_58 ⟨Nat.le_of_ble_eq_true rfl, Nat.le_of_ble_eq_true rfl⟩ (MA.bad (if_pos (by rw [iR_lt (j := i1) (n := N 12 + 1) (by omega) (by omega), Bool.and_eq_false_iff]; exact Or.inr c4)) (by decide))
    · skip
      obtain ⟨i2, hi2, rfl⟩ := iR_t c4 (by omega)
      refine lv_iconst (v := nI (1)) X.1 X.2.1 dX7_ranked_20 (by decide) ?_
      refine lv_goto (tgt := 25) X.1 X.2.1 dX7_ranked_21 (by decide) ?_
      refine lv_istore (lv' := [(4, .int (nI (1))), (0, .ref x), (1, .int (nI (i1))), (2, .int (nI (i2))), (3, .int (w0))]) X.1 X.2.1 dX7_ranked_25 hl (by decide) rfl (fun ls hl => ?_)
      refine lv_aload_n X.1 X.2.1 dX7_ranked_27 rfl (lv_at hl 1 rfl) ?_
      refine lv_iload X.1 X.2.1 dX7_ranked_28 (lv_at hl 0 rfl) ?_
      refine b_if_ne (tgt := 37) X dX7_ranked_30 (by decide) (a := ((1 : Nat) : Int)) (nI_ti (by omega)) (fun c7 => ?_) (fun c7 => ?_)
      · skip
        refine lv_iload_n X.1 X.2.1 dX7_ranked_37 rfl (lv_at hl 4 rfl) ?_
        refine lv_iconst (v := nI (0)) X.1 X.2.1 dX7_ranked_38 (by decide) ?_
        refine lv_iconst (v := nI (2)) X.1 X.2.1 dX7_ranked_39 (by decide) ?_
        refine mr_callS X h ck_X7_86 kst_X7_isIn dX7_ranked_40 (As := [.int (w0), .int (nI (0)), .int (nI (2))]) (c_X7_isIn l G x ar N F B (w0) (nI (0)) (nI (2))) rfl hl rfl (Nat.le_of_ble_eq_true rfl) ⟨Nat.le_of_ble_eq_true rfl, Nat.le_of_ble_eq_true rfl⟩ ⟨Nat.le_of_ble_eq_true rfl, Nat.le_of_ble_eq_true rfl⟩ ?_
        rintro _ _ _ _ H locs ⟨rfl, rfl, rfl, rfl⟩ h
        refine lv_top (y := bI (decide (((0 : Nat) : Int) ≤ (w0).toInt ∧ (w0).toInt ≤ ((2 : Nat) : Int)))) (by rw [show (w0).toInt = (w0).toInt from rfl, show (nI (0)).toInt = ((0 : Nat) : Int) from nI_ti (by omega), show (nI (2)).toInt = ((2 : Nat) : Int) from nI_ti (by omega)]) ?_
        refine b_bool_eq (tgt := 50) X dX7_ranked_43 (by decide) (fun c8 => ?_) (fun c8 => ?_)
        · skip
          have c8 := of_decide_eq_false c8
          refine lv_iconst (v := nI (2)) X.1 X.2.1 dX7_ranked_50 (by decide) ?_
          refine mr_callV X h ck_X7_93 ki_X7_fails ks_X7_fails dX7_ranked_51 (As := [.int (nI (2))]) (c_X7_fails l G x ar N F B 2 (by omega)) rfl hl rfl (Nat.le_of_ble_eq_true rfl) ⟨Nat.le_of_ble_eq_true rfl, Nat.le_of_ble_eq_true rfl⟩ ⟨Nat.le_of_ble_eq_true rfl, Nat.le_of_ble_eq_true rfl⟩ ?_
          rintro _ _ _ _ H locs ⟨rfl, rfl, rfl, rfl⟩ h
          refine b_bool_eq (tgt := 59) X dX7_ranked_54 (by decide) (fun c9 => ?_) (fun c9 => ?_)
          · skip
            exact absurd c9 (by first | decide | omega)
          · skip
            have c9 := of_decide_eq_true c9
            refine lv_iconst (v := nI (0)) X.1 X.2.1 dX7_ranked_57 (by decide) ?_
            exact mr_iret X hr hlocks h dX7_ranked_58 ⟨Nat.le_of_ble_eq_true rfl, Nat.le_of_ble_eq_true rfl⟩ (MA.bad ((if_neg (by rw [iR_lt (j := i1) (n := N 12 + 1) (by omega) (by omega), iR_lt (j := i2) (n := N 1) (by omega) (by omega)]; decide)).trans (if_neg (by omega))) (by decide))
        · skip
          have c8 := of_decide_eq_true c8
          obtain ⟨i3, hi3l, hi3, rfl⟩ := in_t 0 (n := 2) c8 (by omega)
          refine lv_iconst (v := nI (0)) X.1 X.2.1 dX7_ranked_46 (by decide) ?_
          refine lv_goto (tgt := 51) X.1 X.2.1 dX7_ranked_47 (by decide) ?_
          refine mr_callV X h ck_X7_93 ki_X7_fails ks_X7_fails dX7_ranked_51 (As := [.int (nI (0))]) (c_X7_fails l G x ar N F B 0 (by omega)) rfl hl rfl (Nat.le_of_ble_eq_true rfl) ⟨Nat.le_of_ble_eq_true rfl, Nat.le_of_ble_eq_true rfl⟩ ⟨Nat.le_of_ble_eq_true rfl, Nat.le_of_ble_eq_true rfl⟩ ?_
          rintro _ _ _ _ H locs ⟨rfl, rfl, rfl, rfl⟩ h
          refine b_bool_eq (tgt := 59) X dX7_ranked_54 (by decide) (fun c10 => ?_) (fun c10 => ?_)
          · skip
            have c10 := of_decide_eq_false c10
            refine lv_aload_n X.1 X.2.1 dX7_ranked_59 rfl (lv_at hl 1 rfl) ?_
            refine lv_iload_n X.1 X.2.1 dX7_ranked_60 rfl (lv_at hl 2 rfl) ?_
            refine mr_callV X h ck_X7_126 ki_X7_counts ks_X7_counts dX7_ranked_61 (As := [.int (nI (i1))]) (c_X7_counts l G x ar (va_up N 29 (0)) F B i1 hI (by omega)) rfl hl rfl (Nat.le_of_ble_eq_true rfl) ⟨Nat.le_of_ble_eq_true rfl, Nat.le_of_ble_eq_true rfl⟩ ⟨Nat.le_of_ble_eq_true rfl, Nat.le_of_ble_eq_true rfl⟩ ?_
            rintro _ _ _ _ H locs ⟨rfl, rfl, rfl, g, q, rfl, hg⟩ h
            have hb : ∀ z, z < N 1 → g z ≤ 400 ∧ q z ≤ 400 := fun z hz => by have := cnt_b hg (show N 6 ≤ 100 by omega) hz; omega
            refine lv_iload_n X.1 X.2.1 dX7_ranked_64 rfl (lv_at hl 4 rfl) ?_
            refine b_if_ne (tgt := 77) X dX7_ranked_65 (by decide) (a := ((i3 : Nat) : Int)) (nI_ti (by omega)) (fun c11 => ?_) (fun c11 => ?_)
            · skip
              refine lv_iload_n X.1 X.2.1 dX7_ranked_77 rfl (lv_at hl 4 rfl) ?_
              refine lv_iconst (v := nI (1)) X.1 X.2.1 dX7_ranked_78 (by decide) ?_
              refine b_icmp_ne (tgt := 91) X dX7_ranked_79 (by decide) (a := ((i3 : Nat) : Int)) (b := ((1 : Nat) : Int)) (nI_ti (by omega)) (nI_ti (by omega)) (fun c12 => ?_) (fun c12 => ?_)
              · skip
                refine lv_aload_n X.1 X.2.1 dX7_ranked_91 rfl (lv_at hl 1 rfl) ?_
                refine lv_iload_n X.1 X.2.1 dX7_ranked_92 rfl (lv_at hl 3 rfl) ?_
                refine mr_callV X h ck_X7_123 ki_X7_placeOf ks_X7_placeOf dX7_ranked_93 (As := [.int (nI (i2))]) (c_X7_placeOf l G x ar (va_up N 29 (0)) F B i2 g q (show N 1 ≤ 16 by omega) hb (show i2 < N 1 by omega)) rfl hl rfl (Nat.le_of_ble_eq_true rfl) ⟨Nat.le_of_ble_eq_true rfl, Nat.le_of_ble_eq_true rfl⟩ ⟨Nat.le_of_ble_eq_true rfl, Nat.le_of_ble_eq_true rfl⟩ ?_
                rintro _ _ _ _ H locs ⟨rfl, rfl, rfl, rfl⟩ h
                have b13 := plM_le g q (N 1) (i2)
                exact mr_iret X hr hlocks h dX7_ranked_96 ⟨Nat.le_of_ble_eq_true rfl, Nat.le_of_ble_eq_true rfl⟩ (MA.ok ((if_neg (by rw [iR_lt (j := i1) (n := N 12 + 1) (by omega) (by omega), iR_lt (j := i2) (n := N 1) (by omega) (by omega)]; decide)).trans (if_pos (by rw [nI_ti (by omega)]; omega))) (by rw [ix_nI (by omega), ix_nI (by omega), ix_nI (by omega)]; unfold vRanked; first | (rw [if_pos (show i3 = 0 by omega)]; exact congrArg nI (hg i2 hi2).1) | (rw [if_neg (show ¬ i3 = 0 by omega), if_pos (show i3 = 1 by omega)]; exact congrArg nI (hg i2 hi2).2) | (rw [if_neg (show ¬ i3 = 0 by omega), if_neg (show ¬ i3 = 1 by omega)]; exact congrArg nI (plM_congr (hg i2 hi2) hg))) rfl (fun k h1 h2 => by simp [va_up, h1, h2]) (sc2_SF _ _ _) rfl)
              · skip
                refine lv_aload_n X.1 X.2.1 dX7_ranked_82 rfl (lv_at hl 1 rfl) ?_
                refine mr_get X h kf_X7_73 (by decide) dX7_ranked_83 rfl ?_
                refine lv_iload_n X.1 X.2.1 dX7_ranked_86 rfl (lv_at hl 3 rfl) ?_
                refine mr_ald X h 26 rfl dX7_ranked_87 (i := i2) (v := nI (q (i2))) rfl (by show _ < 16; omega) rfl ?_
                have b14 := hb i2 (by omega)
                refine lv_goto (tgt := 96) X.1 X.2.1 dX7_ranked_88 (by decide) ?_
                exact mr_iret X hr hlocks h dX7_ranked_96 ⟨Nat.le_of_ble_eq_true rfl, Nat.le_of_ble_eq_true rfl⟩ (MA.ok ((if_neg (by rw [iR_lt (j := i1) (n := N 12 + 1) (by omega) (by omega), iR_lt (j := i2) (n := N 1) (by omega) (by omega)]; decide)).trans (if_pos (by rw [nI_ti (by omega)]; omega))) (by rw [ix_nI (by omega), ix_nI (by omega), ix_nI (by omega)]; unfold vRanked; first | (rw [if_pos (show i3 = 0 by omega)]; exact congrArg nI (hg i2 hi2).1) | (rw [if_neg (show ¬ i3 = 0 by omega), if_pos (show i3 = 1 by omega)]; exact congrArg nI (hg i2 hi2).2) | (rw [if_neg (show ¬ i3 = 0 by omega), if_neg (show ¬ i3 = 1 by omega)]; exact congrArg nI (plM_congr (hg i2 hi2) hg))) rfl (fun k h1 h2 => by simp [va_up, h1, h2]) (sc2_SF _ _ _) rfl)
            · skip
              refine lv_aload_n X.1 X.2.1 dX7_ranked_68 rfl (lv_at hl 1 rfl) ?_
              refine mr_get X h kf_X7_70 (by decide) dX7_ranked_69 rfl ?_
              refine lv_iload_n X.1 X.2.1 dX7_ranked_72 rfl (lv_at hl 3 rfl) ?_
              refine mr_ald X h 25 rfl dX7_ranked_73 (i := i2) (v := nI (g (i2))) rfl (by show _ < 16; omega) rfl ?_
              have b15 := hb i2 (by omega)
              refine lv_goto (tgt := 96) X.1 X.2.1 dX7_ranked_74 (by decide) ?_
              exact mr_iret X hr hlocks h dX7_ranked_96 ⟨Nat.le_of_ble_eq_true rfl, Nat.le_of_ble_eq_true rfl⟩ (MA.ok ((if_neg (by rw [iR_lt (j := i1) (n := N 12 + 1) (by omega) (by omega), iR_lt (j := i2) (n := N 1) (by omega) (by omega)]; decide)).trans (if_pos (by rw [nI_ti (by omega)]; omega))) (by rw [ix_nI (by omega), ix_nI (by omega), ix_nI (by omega)]; unfold vRanked; first | (rw [if_pos (show i3 = 0 by omega)]; exact congrArg nI (hg i2 hi2).1) | (rw [if_neg (show ¬ i3 = 0 by omega), if_pos (show i3 = 1 by omega)]; exact congrArg nI (hg i2 hi2).2) | (rw [if_neg (show ¬ i3 = 0 by omega), if_neg (show ¬ i3 = 1 by omega)]; exact congrArg nI (plM_congr (hg i2 hi2) hg))) rfl (fun k h1 h2 => by simp [va_up, h1, h2]) (sc2_SF _ _ _) rfl)
          · skip
            exact absurd c10 (by first | decide | omega)
      · skip
        exact absurd c7 (by first | decide | omega)
set_option maxHeartbeats 4000000 in
set_option maxRecDepth 100000 in
theorem c_X7_skinOf (l : Launch) (G : mG) (x : Nat) (ar N : Nat → Nat) (F : Nat → Nat → Nat) (B : Nat → Int32) (k0 : Int32) (w0 : Int32) (hI : Iv N F) : MMet l yX7_skinOf cX7_skinOf 3 (some FieldType.int) ({ frames := 2, cells := 0, slots := 0, locals := 43 } : Room) G x ar [.ref x, .int (k0), .int (w0)] N F B (fun r N' F' B' => MA r N' F' B' (kSkinOf N k0 w0) (vSkinOf N F (ix k0) (ix w0)) (N) (F) (B) N F B) := by
  refine MMet.of (by decide) (Nat.le_of_ble_eq_true rfl) ?_
  intro p e s m args below meth c A ls X hr hlocks h hl
  have hl : lv_has ls 3 [(0, .ref x), (1, .int (k0)), (2, .int (w0))] := hl
  have hn := hI.n
  refine lv_aload_n X.1 X.2.1 dX7_skinOf_0 rfl (lv_at hl 0 rfl) ?_
  refine lv_aload_n X.1 X.2.1 dX7_skinOf_1 rfl (lv_at hl 0 rfl) ?_
  refine lv_iload_n X.1 X.2.1 dX7_skinOf_2 rfl (lv_at hl 1 rfl) ?_
  refine mr_callV X h ck_X7_136 ki_X7_isSkin ks_X7_isSkin dX7_skinOf_3 (As := [.int (k0)]) (c_X7_isSkin l G x ar N F B (k0) hI) rfl hl rfl (Nat.le_of_ble_eq_true rfl) ⟨Nat.le_of_ble_eq_true rfl, Nat.le_of_ble_eq_true rfl⟩ ⟨Nat.le_of_ble_eq_true rfl, Nat.le_of_ble_eq_true rfl⟩ ?_
  rintro _ _ _ _ H locs ⟨rfl, rfl, rfl, rfl⟩ h
  refine b_bool_ne (tgt := 13) X dX7_skinOf_6 (by decide) (fun c1 => ?_) (fun c1 => ?_)
  · skip
    obtain ⟨i1, hi1, rfl⟩ := iR_t c1 (by omega)
    refine lv_iload_n X.1 X.2.1 dX7_skinOf_13 rfl (lv_at hl 2 rfl) ?_
    refine lv_iconst (v := nI (0)) X.1 X.2.1 dX7_skinOf_14 (by decide) ?_
    refine lv_bipush (v := nI (6)) X.1 X.2.1 dX7_skinOf_15 (by decide) ?_
    refine mr_callS X h ck_X7_86 kst_X7_isIn dX7_skinOf_17 (As := [.int (w0), .int (nI (0)), .int (nI (6))]) (c_X7_isIn l G x ar N F B (w0) (nI (0)) (nI (6))) rfl hl rfl (Nat.le_of_ble_eq_true rfl) ⟨Nat.le_of_ble_eq_true rfl, Nat.le_of_ble_eq_true rfl⟩ ⟨Nat.le_of_ble_eq_true rfl, Nat.le_of_ble_eq_true rfl⟩ ?_
    rintro _ _ _ _ H locs ⟨rfl, rfl, rfl, rfl⟩ h
    refine lv_top (y := bI (decide (((0 : Nat) : Int) ≤ (w0).toInt ∧ (w0).toInt ≤ ((6 : Nat) : Int)))) (by rw [show (w0).toInt = (w0).toInt from rfl, show (nI (0)).toInt = ((0 : Nat) : Int) from nI_ti (by omega), show (nI (6)).toInt = ((6 : Nat) : Int) from nI_ti (by omega)]) ?_
    refine b_bool_eq (tgt := 27) X dX7_skinOf_20 (by decide) (fun c2 => ?_) (fun c2 => ?_)
    · skip
      have c2 := of_decide_eq_false c2
      refine lv_iconst (v := nI (2)) X.1 X.2.1 dX7_skinOf_27 (by decide) ?_
      refine mr_callV X h ck_X7_93 ki_X7_fails ks_X7_fails dX7_skinOf_28 (As := [.int (nI (2))]) (c_X7_fails l G x ar N F B 2 (by omega)) rfl hl rfl (Nat.le_of_ble_eq_true rfl) ⟨Nat.le_of_ble_eq_true rfl, Nat.le_of_ble_eq_true rfl⟩ ⟨Nat.le_of_ble_eq_true rfl, Nat.le_of_ble_eq_true rfl⟩ ?_
      rintro _ _ _ _ H locs ⟨rfl, rfl, rfl, rfl⟩ h
      refine b_bool_eq (tgt := 36) X dX7_skinOf_31 (by decide) (fun c3 => ?_) (fun c3 => ?_)
      · skip
        exact absurd c3 (by first | decide | omega)
      · skip
        have c3 := of_decide_eq_true c3
        refine lv_iconst (v := nI (0)) X.1 X.2.1 dX7_skinOf_34 (by decide) ?_
        exact mr_iret X hr hlocks h dX7_skinOf_35 ⟨Nat.le_of_ble_eq_true rfl, Nat.le_of_ble_eq_true rfl⟩ (MA.bad ((if_neg (by rw [iR_lt hi1 (by omega)]; decide)).trans (if_neg (by omega))) (by decide))
    · skip
      have c2 := of_decide_eq_true c2
      obtain ⟨i2, hi2l, hi2, rfl⟩ := in_t 0 (n := 6) c2 (by omega)
      refine lv_iconst (v := nI (0)) X.1 X.2.1 dX7_skinOf_23 (by decide) ?_
      refine lv_goto (tgt := 28) X.1 X.2.1 dX7_skinOf_24 (by decide) ?_
      refine mr_callV X h ck_X7_93 ki_X7_fails ks_X7_fails dX7_skinOf_28 (As := [.int (nI (0))]) (c_X7_fails l G x ar N F B 0 (by omega)) rfl hl rfl (Nat.le_of_ble_eq_true rfl) ⟨Nat.le_of_ble_eq_true rfl, Nat.le_of_ble_eq_true rfl⟩ ⟨Nat.le_of_ble_eq_true rfl, Nat.le_of_ble_eq_true rfl⟩ ?_
      rintro _ _ _ _ H locs ⟨rfl, rfl, rfl, rfl⟩ h
      refine b_bool_eq (tgt := 36) X dX7_skinOf_31 (by decide) (fun c4 => ?_) (fun c4 => ?_)
      · skip
        have c4 := of_decide_eq_false c4
        refine lv_iload_n X.1 X.2.1 dX7_skinOf_36 rfl (lv_at hl 2 rfl) ?_
        rcases (show i2 = 0 ∨ i2 = 1 ∨ i2 = 2 ∨ i2 = 3 ∨ i2 = 4 ∨ i2 = 5 ∨ 5 < i2 by omega) with rfl | rfl | rfl | rfl | rfl | rfl | hout
        · skip
          refine lv_tableIn (x := nI 0) (tgt := 76) X.1 X.2.1 dX7_skinOf_37 (by decide) (by decide) rfl (by decide) ?_
          refine lv_aload_n X.1 X.2.1 dX7_skinOf_76 rfl (lv_at hl 0 rfl) ?_
          refine mr_get X h kf_X7_46 (by decide) dX7_skinOf_77 rfl ?_
          refine lv_iload_n X.1 X.2.1 dX7_skinOf_80 rfl (lv_at hl 1 rfl) ?_
          refine mr_ald X h 17 rfl dX7_skinOf_81 (i := i1) (v := nI (F 17 (i1)) - 1) rfl (by show _ < 36; omega) rfl ?_
          have b5 := hI.k (k := i1) (by omega)
          exact mr_iret X hr hlocks h dX7_skinOf_82 ⟨Nat.le_of_ble_eq_true rfl, Nat.le_of_ble_eq_true rfl⟩ (MA.ok ((if_neg (by rw [iR_lt hi1 (by omega)]; decide)).trans (if_pos (by rw [nI_ti (by omega)]; omega))) (by rw [ix_nI (by omega), ix_nI (by omega)]; rfl) rfl (fun k h1 h2 => by simp [va_up, h1, h2]) (SF.rf _) rfl)
        · skip
          refine lv_tableIn (x := nI 1) (tgt := 83) X.1 X.2.1 dX7_skinOf_37 (by decide) (by decide) rfl (by decide) ?_
          refine lv_aload_n X.1 X.2.1 dX7_skinOf_83 rfl (lv_at hl 0 rfl) ?_
          refine mr_get X h kf_X7_43 (by decide) dX7_skinOf_84 rfl ?_
          refine lv_iload_n X.1 X.2.1 dX7_skinOf_87 rfl (lv_at hl 1 rfl) ?_
          refine mr_ald X h 16 rfl dX7_skinOf_88 (i := i1) (v := nI (F 16 (i1)) - 1) rfl (by show _ < 36; omega) rfl ?_
          have b6 := hI.k (k := i1) (by omega)
          exact mr_iret X hr hlocks h dX7_skinOf_89 ⟨Nat.le_of_ble_eq_true rfl, Nat.le_of_ble_eq_true rfl⟩ (MA.ok ((if_neg (by rw [iR_lt hi1 (by omega)]; decide)).trans (if_pos (by rw [nI_ti (by omega)]; omega))) (by rw [ix_nI (by omega), ix_nI (by omega)]; rfl) rfl (fun k h1 h2 => by simp [va_up, h1, h2]) (SF.rf _) rfl)
        · skip
          refine lv_tableIn (x := nI 2) (tgt := 90) X.1 X.2.1 dX7_skinOf_37 (by decide) (by decide) rfl (by decide) ?_
          refine lv_aload_n X.1 X.2.1 dX7_skinOf_90 rfl (lv_at hl 0 rfl) ?_
          refine lv_iload_n X.1 X.2.1 dX7_skinOf_91 rfl (lv_at hl 1 rfl) ?_
          refine mr_callV X h ck_X7_150 ki_X7_user ks_X7_user dX7_skinOf_92 (As := [.int (nI (i1))]) (c_X7_user l G x ar (va_up N 29 (0)) F B i1 hI (show i1 < N 13 by omega)) rfl hl rfl (Nat.le_of_ble_eq_true rfl) ⟨Nat.le_of_ble_eq_true rfl, Nat.le_of_ble_eq_true rfl⟩ ⟨Nat.le_of_ble_eq_true rfl, Nat.le_of_ble_eq_true rfl⟩ ?_
          rintro _ _ _ _ H locs ⟨rfl, rfl, rfl, rfl⟩ h
          exact mr_iret X hr hlocks h dX7_skinOf_95 ⟨Nat.le_of_ble_eq_true rfl, Nat.le_of_ble_eq_true rfl⟩ (MA.ok ((if_neg (by rw [iR_lt hi1 (by omega)]; decide)).trans (if_pos (by rw [nI_ti (by omega)]; omega))) (by rw [ix_nI (by omega), ix_nI (by omega)]; rfl) rfl (fun k h1 h2 => by simp [va_up, h1, h2]) (SF.rf _) rfl)
        · skip
          refine lv_tableIn (x := nI 3) (tgt := 96) X.1 X.2.1 dX7_skinOf_37 (by decide) (by decide) rfl (by decide) ?_
          refine lv_aload_n X.1 X.2.1 dX7_skinOf_96 rfl (lv_at hl 0 rfl) ?_
          refine mr_get X h kf_X7_37 (by decide) dX7_skinOf_97 rfl ?_
          refine lv_iload_n X.1 X.2.1 dX7_skinOf_100 rfl (lv_at hl 1 rfl) ?_
          refine mr_ald X h 14 rfl dX7_skinOf_101 (i := i1) (v := nI (F 14 (i1))) rfl (by show _ < 36; omega) rfl ?_
          have b7 := hI.k (k := i1) (by omega)
          exact mr_iret X hr hlocks h dX7_skinOf_102 ⟨Nat.le_of_ble_eq_true rfl, Nat.le_of_ble_eq_true rfl⟩ (MA.ok ((if_neg (by rw [iR_lt hi1 (by omega)]; decide)).trans (if_pos (by rw [nI_ti (by omega)]; omega))) (by rw [ix_nI (by omega), ix_nI (by omega)]; rfl) rfl (fun k h1 h2 => by simp [va_up, h1, h2]) (SF.rf _) rfl)
        · skip
          refine lv_tableIn (x := nI 4) (tgt := 103) X.1 X.2.1 dX7_skinOf_37 (by decide) (by decide) rfl (by decide) ?_
          refine lv_aload_n X.1 X.2.1 dX7_skinOf_103 rfl (lv_at hl 0 rfl) ?_
          refine mr_get X h kf_X7_40 (by decide) dX7_skinOf_104 rfl ?_
          refine lv_iload_n X.1 X.2.1 dX7_skinOf_107 rfl (lv_at hl 1 rfl) ?_
          refine mr_ald X h 15 rfl dX7_skinOf_108 (i := i1) (v := nI (F 15 (i1))) rfl (by show _ < 36; omega) rfl ?_
          have b8 := hI.k (k := i1) (by omega)
          exact mr_iret X hr hlocks h dX7_skinOf_109 ⟨Nat.le_of_ble_eq_true rfl, Nat.le_of_ble_eq_true rfl⟩ (MA.ok ((if_neg (by rw [iR_lt hi1 (by omega)]; decide)).trans (if_pos (by rw [nI_ti (by omega)]; omega))) (by rw [ix_nI (by omega), ix_nI (by omega)]; rfl) rfl (fun k h1 h2 => by simp [va_up, h1, h2]) (SF.rf _) rfl)
        · skip
          refine lv_tableIn (x := nI 5) (tgt := 110) X.1 X.2.1 dX7_skinOf_37 (by decide) (by decide) rfl (by decide) ?_
          refine lv_aload_n X.1 X.2.1 dX7_skinOf_110 rfl (lv_at hl 0 rfl) ?_
          refine mr_get X h kf_X7_58 (by decide) dX7_skinOf_111 rfl ?_
          refine lv_iload_n X.1 X.2.1 dX7_skinOf_114 rfl (lv_at hl 1 rfl) ?_
          refine mr_ald X h 21 rfl dX7_skinOf_115 (i := i1) (v := nI (F 21 (i1))) rfl (by show _ < 36; omega) rfl ?_
          have b9 := hI.k (k := i1) (by omega)
          exact mr_iret X hr hlocks h dX7_skinOf_116 ⟨Nat.le_of_ble_eq_true rfl, Nat.le_of_ble_eq_true rfl⟩ (MA.ok ((if_neg (by rw [iR_lt hi1 (by omega)]; decide)).trans (if_pos (by rw [nI_ti (by omega)]; omega))) (by rw [ix_nI (by omega), ix_nI (by omega)]; rfl) rfl (fun k h1 h2 => by simp [va_up, h1, h2]) (SF.rf _) rfl)
        · skip
          refine lv_tableOut (tgt := 117) X.1 X.2.1 dX7_skinOf_37 (Or.inr (by rw [nI_ti (by omega)]; omega)) (by decide) ?_
          refine lv_aload_n X.1 X.2.1 dX7_skinOf_117 rfl (lv_at hl 0 rfl) ?_
          refine mr_get X h kf_X7_55 (by decide) dX7_skinOf_118 rfl ?_
          refine lv_iload_n X.1 X.2.1 dX7_skinOf_121 rfl (lv_at hl 1 rfl) ?_
          refine mr_ald X h 20 rfl dX7_skinOf_122 (i := i1) (v := nI (F 20 (i1)) - 1) rfl (by show _ < 36; omega) rfl ?_
          have b10 := hI.k (k := i1) (by omega)
          refine lv_iconst (v := nI (0) - 1) X.1 X.2.1 dX7_skinOf_123 (by decide) ?_
          refine b_icmp_ne (tgt := 131) X dX7_skinOf_124 (by decide) (a := ((F 20 (i1) : Nat) : Int) - 1) (b := ((0 : Nat) : Int) - 1) (eI_ti (by omega)) (eI_ti (by omega)) (fun c11 => ?_) (fun c11 => ?_)
          · skip
            refine lv_iconst (v := nI (1)) X.1 X.2.1 dX7_skinOf_131 (by decide) ?_
            exact mr_iret X hr hlocks h dX7_skinOf_132 ⟨Nat.le_of_ble_eq_true rfl, Nat.le_of_ble_eq_true rfl⟩ (MA.ok ((if_neg (by rw [iR_lt hi1 (by omega)]; decide)).trans (if_pos (by rw [nI_ti (by omega)]; omega))) (by rw [ix_nI (by omega), ix_nI (by omega)]; unfold vSkinOf; rw [if_neg (by omega), if_neg (by omega), if_neg (by omega), if_neg (by omega), if_neg (by omega), if_neg (by omega)]; first | (rw [if_pos (by omega)]; rfl) | (rw [if_neg (by omega)]; rfl)) rfl (fun k h1 h2 => by simp [va_up, h1, h2]) (SF.rf _) rfl)
          · skip
            refine lv_iconst (v := nI (0)) X.1 X.2.1 dX7_skinOf_127 (by decide) ?_
            refine lv_goto (tgt := 132) X.1 X.2.1 dX7_skinOf_128 (by decide) ?_
            exact mr_iret X hr hlocks h dX7_skinOf_132 ⟨Nat.le_of_ble_eq_true rfl, Nat.le_of_ble_eq_true rfl⟩ (MA.ok ((if_neg (by rw [iR_lt hi1 (by omega)]; decide)).trans (if_pos (by rw [nI_ti (by omega)]; omega))) (by rw [ix_nI (by omega), ix_nI (by omega)]; unfold vSkinOf; rw [if_neg (by omega), if_neg (by omega), if_neg (by omega), if_neg (by omega), if_neg (by omega), if_neg (by omega)]; first | (rw [if_pos (by omega)]; rfl) | (rw [if_neg (by omega)]; rfl)) rfl (fun k h1 h2 => by simp [va_up, h1, h2]) (SF.rf _) rfl)
      · skip
        exact absurd c4 (by first | decide | omega)
  · skip
    refine lv_iconst (v := nI (1)) X.1 X.2.1 dX7_skinOf_9 (by decide) ?_
    refine lv_goto (tgt := 28) X.1 X.2.1 dX7_skinOf_10 (by decide) ?_
    refine mr_callV X h ck_X7_93 ki_X7_fails ks_X7_fails dX7_skinOf_28 (As := [.int (nI (1))]) (c_X7_fails l G x ar N F B 1 (by omega)) rfl hl rfl (Nat.le_of_ble_eq_true rfl) ⟨Nat.le_of_ble_eq_true rfl, Nat.le_of_ble_eq_true rfl⟩ ⟨Nat.le_of_ble_eq_true rfl, Nat.le_of_ble_eq_true rfl⟩ ?_
    rintro _ _ _ _ H locs ⟨rfl, rfl, rfl, rfl⟩ h
    refine b_bool_eq (tgt := 36) X dX7_skinOf_31 (by decide) (fun c12 => ?_) (fun c12 => ?_)
    · skip
      exact absurd c12 (by first | decide | omega)
    · skip
      have c12 := of_decide_eq_true c12
      refine lv_iconst (v := nI (0)) X.1 X.2.1 dX7_skinOf_34 (by decide) ?_
      exact mr_iret X hr hlocks h dX7_skinOf_35 ⟨Nat.le_of_ble_eq_true rfl, Nat.le_of_ble_eq_true rfl⟩ (MA.bad (if_pos c1) (by decide))
set_option maxHeartbeats 4000000 in
set_option maxRecDepth 100000 in
theorem c_X7_puts (l : Launch) (G : mG) (x : Nat) (ar N : Nat → Nat) (F : Nat → Nat → Nat) (B : Nat → Int32) (c0 : Nat) (L : List Nat) (hT : TX N F L) (hL : L.length < 15) : MMet l yX7_puts cX7_puts 2 none ({ frames := 0, cells := 0, slots := 0, locals := 0 } : Room) G x ar [.ref x, .int (nI (c0))] N F B (fun r N' F' B' => r = none ∧ B = B' ∧ TXp N F N' F' (L ++ [c0])) := by
  refine MMet.of (by decide) (Nat.le_of_ble_eq_true rfl) ?_
  intro p e s m args below meth c A ls X hr hlocks h hl
  have hl : lv_has ls 2 [(0, .ref x), (1, .int (nI (c0)))] := hl
  have hT1 := hT.1
  refine lv_aload_n X.1 X.2.1 dX7_puts_0 rfl (lv_at hl 0 rfl) ?_
  refine mr_get X h kf_X7_76 (by decide) dX7_puts_1 rfl ?_
  refine lv_aload_n X.1 X.2.1 dX7_puts_4 rfl (lv_at hl 0 rfl) ?_
  refine mr_get X h kf_X7_153 (by decide) dX7_puts_5 (v := .int (nI (N 28))) rfl ?_
  refine lv_iload_n X.1 X.2.1 dX7_puts_8 rfl (lv_at hl 1 rfl) ?_
  refine mr_ast X h 27 rfl (by decide) dX7_puts_9 (i := N 28) (v := c0) rfl (by show _ < 16; omega) rfl (fun H locs h => ?_)
  refine lv_aload_n X.1 X.2.1 dX7_puts_10 rfl (lv_at hl 0 rfl) ?_
  refine lv_dup X.1 X.2.1 dX7_puts_11 rfl ?_
  refine mr_get X h kf_X7_153 (by decide) dX7_puts_12 (v := .int (nI (N 28))) rfl ?_
  refine lv_iconst (v := nI (1)) X.1 X.2.1 dX7_puts_15 (by decide) ?_
  refine lv_iadd X.1 X.2.1 dX7_puts_16 ?_
  refine lv_top (y := nI (N 28 + 1)) (nI_add _ _) ?_
  refine mr_put X h kf_X7_153 (by decide) rfl rfl dX7_puts_17 rfl (fun H locs h => ?_)
  exact mr_vret X hr hlocks h dX7_puts_20 ⟨Nat.le_of_ble_eq_true rfl, Nat.le_of_ble_eq_true rfl⟩ (⟨rfl, rfl, TXp.put hT c0⟩)
set_option maxHeartbeats 4000000 in
set_option maxRecDepth 100000 in
theorem c_X7_putsNumber (l : Launch) (G : mG) (x : Nat) (ar N : Nat → Nat) (F : Nat → Nat → Nat) (B : Nat → Int32) (v0 : Nat) (L : List Nat) (hT : TX N F L) (hL : L.length < 14) (hv : v0 ≤ 99) : MMet l yX7_putsNumber cX7_putsNumber 2 none ({ frames := 1, cells := 0, slots := 0, locals := 21 } : Room) G x ar [.ref x, .int (nI (v0))] N F B (fun r N' F' B' => r = none ∧ B = B' ∧ TXp N F N' F' (L ++ dgs v0)) := by
  refine MMet.of (by decide) (Nat.le_of_ble_eq_true rfl) ?_
  intro p e s m args below meth c A ls X hr hlocks h hl
  have hl : lv_has ls 2 [(0, .ref x), (1, .int (nI (v0)))] := hl
  refine lv_iload_n X.1 X.2.1 dX7_putsNumber_0 rfl (lv_at hl 1 rfl) ?_
  refine lv_bipush (v := nI (9)) X.1 X.2.1 dX7_putsNumber_1 (by decide) ?_
  refine b_icmp_le (tgt := 17) X dX7_putsNumber_3 (by decide) (a := ((v0 : Nat) : Int)) (b := ((9 : Nat) : Int)) (nI_ti (by omega)) (nI_ti (by omega)) (fun c1 => ?_) (fun c1 => ?_)
  · skip
    refine lv_aload_n X.1 X.2.1 dX7_putsNumber_17 rfl (lv_at hl 0 rfl) ?_
    refine lv_bipush (v := nI (48)) X.1 X.2.1 dX7_putsNumber_18 (by decide) ?_
    refine lv_iload_n X.1 X.2.1 dX7_putsNumber_20 rfl (lv_at hl 1 rfl) ?_
    refine lv_bipush (v := nI (10)) X.1 X.2.1 dX7_putsNumber_21 (by decide) ?_
    refine lv_irem X.1 X.2.1 dX7_putsNumber_23 (by decide) ?_
    refine lv_top (y := nI (v0 % 10)) (pk_rem (by omega) (by omega) (by omega)) ?_
    refine lv_iadd X.1 X.2.1 dX7_putsNumber_24 ?_
    refine lv_top (y := nI (48 + (v0 % 10))) (nI_add _ _) ?_
    refine mr_callV X h ck_X7_156 ki_X7_puts ks_X7_puts dX7_putsNumber_25 (As := [.int (nI (48 + (v0 % 10)))]) (c_X7_puts l G x ar N F B (48 + (v0 % 10)) (L) hT (by (try simp only [List.length_append, List.length_singleton]); omega)) rfl hl rfl (Nat.le_of_ble_eq_true rfl) ⟨Nat.le_of_ble_eq_true rfl, Nat.le_of_ble_eq_true rfl⟩ ⟨Nat.le_of_ble_eq_true rfl, Nat.le_of_ble_eq_true rfl⟩ ?_
    rintro _ N1 F1 _ H locs ⟨rfl, rfl, hT1⟩ h
    have hC1 := hT1
    have hS1 := hC1.2.2.1
    exact mr_vret X hr hlocks h dX7_putsNumber_28 ⟨Nat.le_of_ble_eq_true rfl, Nat.le_of_ble_eq_true rfl⟩ (⟨rfl, rfl, by rw [show dgs v0 = [48 + v0 % 10] from if_neg (by omega)]; exact hC1⟩)
  · skip
    refine lv_aload_n X.1 X.2.1 dX7_putsNumber_6 rfl (lv_at hl 0 rfl) ?_
    refine lv_bipush (v := nI (48)) X.1 X.2.1 dX7_putsNumber_7 (by decide) ?_
    refine lv_iload_n X.1 X.2.1 dX7_putsNumber_9 rfl (lv_at hl 1 rfl) ?_
    refine lv_bipush (v := nI (10)) X.1 X.2.1 dX7_putsNumber_10 (by decide) ?_
    refine lv_idiv X.1 X.2.1 dX7_putsNumber_12 (by decide) ?_
    refine lv_top (y := nI (v0 / 10)) (pk_div (by omega) (by omega) (by omega)) ?_
    refine lv_iadd X.1 X.2.1 dX7_putsNumber_13 ?_
    refine lv_top (y := nI (48 + (v0 / 10))) (nI_add _ _) ?_
    refine mr_callV X h ck_X7_156 ki_X7_puts ks_X7_puts dX7_putsNumber_14 (As := [.int (nI (48 + (v0 / 10)))]) (c_X7_puts l G x ar N F B (48 + (v0 / 10)) (L) hT (by (try simp only [List.length_append, List.length_singleton]); omega)) rfl hl rfl (Nat.le_of_ble_eq_true rfl) ⟨Nat.le_of_ble_eq_true rfl, Nat.le_of_ble_eq_true rfl⟩ ⟨Nat.le_of_ble_eq_true rfl, Nat.le_of_ble_eq_true rfl⟩ ?_
    rintro _ N2 F2 _ H locs ⟨rfl, rfl, hT2⟩ h
    have hC2 := hT2
    have hS2 := hC2.2.2.1
    refine lv_aload_n X.1 X.2.1 dX7_putsNumber_17 rfl (lv_at hl 0 rfl) ?_
    refine lv_bipush (v := nI (48)) X.1 X.2.1 dX7_putsNumber_18 (by decide) ?_
    refine lv_iload_n X.1 X.2.1 dX7_putsNumber_20 rfl (lv_at hl 1 rfl) ?_
    refine lv_bipush (v := nI (10)) X.1 X.2.1 dX7_putsNumber_21 (by decide) ?_
    refine lv_irem X.1 X.2.1 dX7_putsNumber_23 (by decide) ?_
    refine lv_top (y := nI (v0 % 10)) (pk_rem (by omega) (by omega) (by omega)) ?_
    refine lv_iadd X.1 X.2.1 dX7_putsNumber_24 ?_
    refine lv_top (y := nI (48 + (v0 % 10))) (nI_add _ _) ?_
    refine mr_callV X h ck_X7_156 ki_X7_puts ks_X7_puts dX7_putsNumber_25 (As := [.int (nI (48 + (v0 % 10)))]) (c_X7_puts l G x ar N2 F2 B (48 + (v0 % 10)) (L ++ [48 + (v0 / 10)]) hT2.2.2.2 (by (try simp only [List.length_append, List.length_singleton]); omega)) rfl hl rfl (Nat.le_of_ble_eq_true rfl) ⟨Nat.le_of_ble_eq_true rfl, Nat.le_of_ble_eq_true rfl⟩ ⟨Nat.le_of_ble_eq_true rfl, Nat.le_of_ble_eq_true rfl⟩ ?_
    rintro _ N3 F3 _ H locs ⟨rfl, rfl, hT3⟩ h
    have hC3 := TXp.trans hC2 hT3
    have hS3 := hC3.2.2.1
    exact mr_vret X hr hlocks h dX7_putsNumber_28 ⟨Nat.le_of_ble_eq_true rfl, Nat.le_of_ble_eq_true rfl⟩ (⟨rfl, rfl, by rw [show dgs v0 = [48 + v0 / 10] ++ [48 + v0 % 10] from if_pos (by omega), ← List.append_assoc]; exact hC3⟩)
set_option maxHeartbeats 4000000 in
set_option maxRecDepth 100000 in
theorem c_X7_label (l : Launch) (G : mG) (x : Nat) (ar N : Nat → Nat) (F : Nat → Nat → Nat) (B : Nat → Int32) (k0 : Int32) (p0 : Int32) (hI : Iv N F) : MMet l yX7_label cX7_label 3 (some FieldType.char) ({ frames := 2, cells := 0, slots := 0, locals := 43 } : Room) G x ar [.ref x, .int (k0), .int (p0)] N F B (fun r N' F' B' => MA r N' F' B' (kLabel N k0 p0) (vLabel F (ix k0) (ix p0)) (N) (F) (B) N F B) := by
  refine MMet.of (by decide) (Nat.le_of_ble_eq_true rfl) ?_
  intro p e s m args below meth c A ls X hr hlocks h hl
  have hl : lv_has ls 3 [(0, .ref x), (1, .int (k0)), (2, .int (p0))] := hl
  have hn := hI.n
  refine lv_aload_n X.1 X.2.1 dX7_label_0 rfl (lv_at hl 0 rfl) ?_
  refine lv_aload_n X.1 X.2.1 dX7_label_1 rfl (lv_at hl 0 rfl) ?_
  refine lv_iload_n X.1 X.2.1 dX7_label_2 rfl (lv_at hl 1 rfl) ?_
  refine mr_callV X h ck_X7_136 ki_X7_isSkin ks_X7_isSkin dX7_label_3 (As := [.int (k0)]) (c_X7_isSkin l G x ar N F B (k0) hI) rfl hl rfl (Nat.le_of_ble_eq_true rfl) ⟨Nat.le_of_ble_eq_true rfl, Nat.le_of_ble_eq_true rfl⟩ ⟨Nat.le_of_ble_eq_true rfl, Nat.le_of_ble_eq_true rfl⟩ ?_
  rintro _ _ _ _ H locs ⟨rfl, rfl, rfl, rfl⟩ h
  refine b_bool_eq (tgt := 17) X dX7_label_6 (by decide) (fun c1 => ?_) (fun c1 => ?_)
  · skip
    refine lv_iconst (v := nI (1)) X.1 X.2.1 dX7_label_17 (by decide) ?_
    refine mr_callV X h ck_X7_93 ki_X7_fails ks_X7_fails dX7_label_18 (As := [.int (nI (1))]) (c_X7_fails l G x ar N F B 1 (by omega)) rfl hl rfl (Nat.le_of_ble_eq_true rfl) ⟨Nat.le_of_ble_eq_true rfl, Nat.le_of_ble_eq_true rfl⟩ ⟨Nat.le_of_ble_eq_true rfl, Nat.le_of_ble_eq_true rfl⟩ ?_
    rintro _ _ _ _ H locs ⟨rfl, rfl, rfl, rfl⟩ h
    refine b_bool_eq (tgt := 26) X dX7_label_21 (by decide) (fun c2 => ?_) (fun c2 => ?_)
    · skip
      exact absurd c2 (by first | decide | omega)
    · skip
      have c2 := of_decide_eq_true c2
      refine lv_iconst (v := nI (0)) X.1 X.2.1 dX7_label_24 (by decide) ?_
      exact mr_zret X hr hlocks h dX7_label_25 ⟨Nat.le_of_ble_eq_true rfl, Nat.le_of_ble_eq_true rfl⟩ ((pk_charN (by omega)).1) (MA.bad (if_neg (fun z => by rw [c1] at z; exact absurd z.1 (by decide))) (by decide))
  · skip
    obtain ⟨i1, hi1, rfl⟩ := iR_t c1 (by omega)
    refine lv_iload_n X.1 X.2.1 dX7_label_9 rfl (lv_at hl 2 rfl) ?_
    refine b_if_lt (tgt := 17) X dX7_label_10 (by decide) (a := (p0).toInt) (rfl) (fun c3 => ?_) (fun c3 => ?_)
    · skip
      refine lv_iconst (v := nI (1)) X.1 X.2.1 dX7_label_17 (by decide) ?_
      refine mr_callV X h ck_X7_93 ki_X7_fails ks_X7_fails dX7_label_18 (As := [.int (nI (1))]) (c_X7_fails l G x ar N F B 1 (by omega)) rfl hl rfl (Nat.le_of_ble_eq_true rfl) ⟨Nat.le_of_ble_eq_true rfl, Nat.le_of_ble_eq_true rfl⟩ ⟨Nat.le_of_ble_eq_true rfl, Nat.le_of_ble_eq_true rfl⟩ ?_
      rintro _ _ _ _ H locs ⟨rfl, rfl, rfl, rfl⟩ h
      refine b_bool_eq (tgt := 26) X dX7_label_21 (by decide) (fun c4 => ?_) (fun c4 => ?_)
      · skip
        exact absurd c4 (by first | decide | omega)
      · skip
        have c4 := of_decide_eq_true c4
        refine lv_iconst (v := nI (0)) X.1 X.2.1 dX7_label_24 (by decide) ?_
        exact mr_zret X hr hlocks h dX7_label_25 ⟨Nat.le_of_ble_eq_true rfl, Nat.le_of_ble_eq_true rfl⟩ ((pk_charN (by omega)).1) (MA.bad (if_neg (fun z => by have := z.2; omega)) (by decide))
    · skip
      obtain ⟨i2, hi2, rfl⟩ : ∃ j : Nat, j < 2 ^ 31 ∧ p0 = nI j := nI_of (fun q => by have := Int32.lt_iff_toInt_lt.mp q; rw [Int32.toInt_zero] at this; omega)
      refine lv_iconst (v := nI (0)) X.1 X.2.1 dX7_label_13 (by decide) ?_
      refine lv_goto (tgt := 18) X.1 X.2.1 dX7_label_14 (by decide) ?_
      refine mr_callV X h ck_X7_93 ki_X7_fails ks_X7_fails dX7_label_18 (As := [.int (nI (0))]) (c_X7_fails l G x ar N F B 0 (by omega)) rfl hl rfl (Nat.le_of_ble_eq_true rfl) ⟨Nat.le_of_ble_eq_true rfl, Nat.le_of_ble_eq_true rfl⟩ ⟨Nat.le_of_ble_eq_true rfl, Nat.le_of_ble_eq_true rfl⟩ ?_
      rintro _ _ _ _ H locs ⟨rfl, rfl, rfl, rfl⟩ h
      refine b_bool_eq (tgt := 26) X dX7_label_21 (by decide) (fun c5 => ?_) (fun c5 => ?_)
      · skip
        have c5 := of_decide_eq_false c5
        refine lv_aload_n X.1 X.2.1 dX7_label_26 rfl (lv_at hl 0 rfl) ?_
        refine lv_iconst (v := nI (0)) X.1 X.2.1 dX7_label_27 (by decide) ?_
        refine mr_put X h kf_X7_153 (by decide) rfl rfl dX7_label_28 rfl (fun H locs h => ?_)
        refine lv_aload_n X.1 X.2.1 dX7_label_31 rfl (lv_at hl 0 rfl) ?_
        refine lv_iload_n X.1 X.2.1 dX7_label_32 rfl (lv_at hl 1 rfl) ?_
        have hT0 : TX (va_up (va_up N 29 (0)) 28 (0)) F [] := ⟨rfl, fun j hj => absurd hj (by simp)⟩
        have g6 := dgs_len i1
        have g7 := dgs_len (F 14 i1)
        have g8 := dgs_len (F 15 i1)
        have g9 := dgs_len (F 17 i1 - 1)
        refine mr_callV X h ck_X7_159 ki_X7_putsNumber ks_X7_putsNumber dX7_label_33 (As := [.int (nI (i1))]) (c_X7_putsNumber l G x ar (va_up (va_up N 29 (0)) 28 (0)) F B i1 ([]) hT0 (by simp only [List.length_append, List.length_singleton, List.length_nil]; omega) (by omega)) rfl hl rfl (Nat.le_of_ble_eq_true rfl) ⟨Nat.le_of_ble_eq_true rfl, Nat.le_of_ble_eq_true rfl⟩ ⟨Nat.le_of_ble_eq_true rfl, Nat.le_of_ble_eq_true rfl⟩ ?_
        rintro _ N4 F4 _ H locs ⟨rfl, rfl, hT4⟩ h
        have hC4 := hT4
        have hS4 := hC4.2.2.1
        refine lv_aload_n X.1 X.2.1 dX7_label_36 rfl (lv_at hl 0 rfl) ?_
        refine lv_bipush (v := nI (58)) X.1 X.2.1 dX7_label_37 (by decide) ?_
        refine mr_callV X h ck_X7_156 ki_X7_puts ks_X7_puts dX7_label_39 (As := [.int (nI (58))]) (c_X7_puts l G x ar N4 F4 B 58 ([] ++ dgs i1) hT4.2.2.2 (by simp only [List.length_append, List.length_singleton, List.length_nil]; omega)) rfl hl rfl (Nat.le_of_ble_eq_true rfl) ⟨Nat.le_of_ble_eq_true rfl, Nat.le_of_ble_eq_true rfl⟩ ⟨Nat.le_of_ble_eq_true rfl, Nat.le_of_ble_eq_true rfl⟩ ?_
        rintro _ N5 F5 _ H locs ⟨rfl, rfl, hT5⟩ h
        have hC5 := TXp.trans hC4 hT5
        have hS5 := hC5.2.2.1
        refine lv_aload_n X.1 X.2.1 dX7_label_42 rfl (lv_at hl 0 rfl) ?_
        refine lv_aload_n X.1 X.2.1 dX7_label_43 rfl (lv_at hl 0 rfl) ?_
        refine mr_get X h kf_X7_37 (by decide) dX7_label_44 rfl ?_
        refine lv_iload_n X.1 X.2.1 dX7_label_47 rfl (lv_at hl 1 rfl) ?_
        refine mr_ald X h 14 rfl dX7_label_48 (i := i1) (v := nI (F 14 (i1))) rfl (by show _ < 36; omega) (by simp [rowM, shN, hS5.at 14 _ (by decide)]) ?_
        have b10 := hI.k (k := i1) (by omega)
        refine mr_callV X h ck_X7_159 ki_X7_putsNumber ks_X7_putsNumber dX7_label_49 (As := [.int (nI (F 14 (i1)))]) (c_X7_putsNumber l G x ar N5 F5 B (F 14 (i1)) (([] ++ dgs i1) ++ [58]) hT5.2.2.2 (by simp only [List.length_append, List.length_singleton, List.length_nil]; omega) (by omega)) rfl hl rfl (Nat.le_of_ble_eq_true rfl) ⟨Nat.le_of_ble_eq_true rfl, Nat.le_of_ble_eq_true rfl⟩ ⟨Nat.le_of_ble_eq_true rfl, Nat.le_of_ble_eq_true rfl⟩ ?_
        rintro _ N6 F6 _ H locs ⟨rfl, rfl, hT6⟩ h
        have hC6 := TXp.trans hC5 hT6
        have hS6 := hC6.2.2.1
        refine lv_aload_n X.1 X.2.1 dX7_label_52 rfl (lv_at hl 0 rfl) ?_
        refine lv_bipush (v := nI (47)) X.1 X.2.1 dX7_label_53 (by decide) ?_
        refine mr_callV X h ck_X7_156 ki_X7_puts ks_X7_puts dX7_label_55 (As := [.int (nI (47))]) (c_X7_puts l G x ar N6 F6 B 47 ((([] ++ dgs i1) ++ [58]) ++ dgs (F 14 (i1))) hT6.2.2.2 (by simp only [List.length_append, List.length_singleton, List.length_nil]; omega)) rfl hl rfl (Nat.le_of_ble_eq_true rfl) ⟨Nat.le_of_ble_eq_true rfl, Nat.le_of_ble_eq_true rfl⟩ ⟨Nat.le_of_ble_eq_true rfl, Nat.le_of_ble_eq_true rfl⟩ ?_
        rintro _ N7 F7 _ H locs ⟨rfl, rfl, hT7⟩ h
        have hC7 := TXp.trans hC6 hT7
        have hS7 := hC7.2.2.1
        refine lv_aload_n X.1 X.2.1 dX7_label_58 rfl (lv_at hl 0 rfl) ?_
        refine lv_aload_n X.1 X.2.1 dX7_label_59 rfl (lv_at hl 0 rfl) ?_
        refine mr_get X h kf_X7_40 (by decide) dX7_label_60 rfl ?_
        refine lv_iload_n X.1 X.2.1 dX7_label_63 rfl (lv_at hl 1 rfl) ?_
        refine mr_ald X h 15 rfl dX7_label_64 (i := i1) (v := nI (F 15 (i1))) rfl (by show _ < 36; omega) (by simp [rowM, shN, hS7.at 15 _ (by decide)]) ?_
        have b11 := hI.k (k := i1) (by omega)
        refine mr_callV X h ck_X7_159 ki_X7_putsNumber ks_X7_putsNumber dX7_label_65 (As := [.int (nI (F 15 (i1)))]) (c_X7_putsNumber l G x ar N7 F7 B (F 15 (i1)) (((([] ++ dgs i1) ++ [58]) ++ dgs (F 14 (i1))) ++ [47]) hT7.2.2.2 (by simp only [List.length_append, List.length_singleton, List.length_nil]; omega) (by omega)) rfl hl rfl (Nat.le_of_ble_eq_true rfl) ⟨Nat.le_of_ble_eq_true rfl, Nat.le_of_ble_eq_true rfl⟩ ⟨Nat.le_of_ble_eq_true rfl, Nat.le_of_ble_eq_true rfl⟩ ?_
        rintro _ N8 F8 _ H locs ⟨rfl, rfl, hT8⟩ h
        have hC8 := TXp.trans hC7 hT8
        have hS8 := hC8.2.2.1
        refine lv_aload_n X.1 X.2.1 dX7_label_68 rfl (lv_at hl 0 rfl) ?_
        refine mr_get X h kf_X7_46 (by decide) dX7_label_69 rfl ?_
        refine lv_iload_n X.1 X.2.1 dX7_label_72 rfl (lv_at hl 1 rfl) ?_
        refine mr_ald X h 17 rfl dX7_label_73 (i := i1) (v := nI (F 17 (i1)) - 1) rfl (by show _ < 36; omega) (by simp [rowM, shN, hS8.at 17 _ (by decide)]) ?_
        have b12 := hI.k (k := i1) (by omega)
        refine lv_iconst (v := nI (0) - 1) X.1 X.2.1 dX7_label_74 (by decide) ?_
        refine b_icmp_eq (tgt := 94) X dX7_label_75 (by decide) (a := ((F 17 (i1) : Nat) : Int) - 1) (b := ((0 : Nat) : Int) - 1) (eI_ti (by omega)) (eI_ti (by omega)) (fun c13 => ?_) (fun c13 => ?_)
        · skip
          have hLab : labL F i1 = (((([] ++ dgs i1) ++ [58]) ++ dgs (F 14 (i1))) ++ [47]) ++ dgs (F 15 (i1)) := by unfold labL; rw [if_pos (by omega)]; simp only [List.append_assoc, List.append_nil, List.nil_append]
          have hT1 := hT8.2.2.2
          rw [← hLab] at hT1
          have hlen := labL_len F i1
          have hN28 := hT1.1
          have hlt := labL_lt (F := F) (k := i1) (by omega) (by omega) (by omega) (by omega) i2
          refine lv_iload_n X.1 X.2.1 dX7_label_94 rfl (lv_at hl 2 rfl) ?_
          refine lv_aload_n X.1 X.2.1 dX7_label_95 rfl (lv_at hl 0 rfl) ?_
          refine mr_get X h kf_X7_153 (by decide) dX7_label_96 (v := .int (nI (N8 28))) rfl ?_
          refine b_icmp_ge (tgt := 112) X dX7_label_99 (by decide) (a := ((i2 : Nat) : Int)) (b := ((N8 28 : Nat) : Int)) (nI_ti (by omega)) (nI_ti (by omega)) (fun c14 => ?_) (fun c14 => ?_)
          · skip
            refine lv_iconst (v := nI (0)) X.1 X.2.1 dX7_label_112 (by decide) ?_
            exact mr_zret X hr hlocks h dX7_label_113 ⟨Nat.le_of_ble_eq_true rfl, Nat.le_of_ble_eq_true rfl⟩ ((pk_charN (by omega)).1) (MA.ok (if_pos ⟨iR_lt hi1 (by omega), by rw [nI_ti (by omega)]; omega⟩) (by rw [ix_nI (by omega), ix_nI (by omega), vLabel, List.getD_eq_getElem?_getD, List.getElem?_eq_none (by omega)]; rfl) (hC8.2.1) (SN.trans (SN29 N 0) (SN.trans ((SN.rf (va_up N 29 0)).up (Or.inl rfl)) hC8.1)) hC8.2.2.1 rfl)
          · skip
            refine lv_aload_n X.1 X.2.1 dX7_label_102 rfl (lv_at hl 0 rfl) ?_
            refine mr_get X h kf_X7_76 (by decide) dX7_label_103 rfl ?_
            refine lv_iload_n X.1 X.2.1 dX7_label_106 rfl (lv_at hl 2 rfl) ?_
            refine mr_ald X h 27 rfl dX7_label_107 (i := i2) (v := nI (F8 27 (i2))) rfl (by show _ < 16; omega) rfl ?_
            have hch := hT1.2 i2 (by omega)
            refine lv_i2c (v := nI (F8 27 (i2))) X.1 X.2.1 dX7_label_108 (sb_byte _ (by omega)).2.1 ?_
            refine lv_goto (tgt := 113) X.1 X.2.1 dX7_label_109 (by decide) ?_
            exact mr_zret X hr hlocks h dX7_label_113 ⟨Nat.le_of_ble_eq_true rfl, Nat.le_of_ble_eq_true rfl⟩ ((pk_charN (by omega)).1) (MA.ok (if_pos ⟨iR_lt hi1 (by omega), by rw [nI_ti (by omega)]; omega⟩) (by rw [ix_nI (by omega), ix_nI (by omega), vLabel, hch]) (hC8.2.1) (SN.trans (SN29 N 0) (SN.trans ((SN.rf (va_up N 29 0)).up (Or.inl rfl)) hC8.1)) hC8.2.2.1 rfl)
        · skip
          refine lv_aload_n X.1 X.2.1 dX7_label_78 rfl (lv_at hl 0 rfl) ?_
          refine lv_bipush (v := nI (64)) X.1 X.2.1 dX7_label_79 (by decide) ?_
          refine mr_callV X h ck_X7_156 ki_X7_puts ks_X7_puts dX7_label_81 (As := [.int (nI (64))]) (c_X7_puts l G x ar N8 F8 B 64 ((((([] ++ dgs i1) ++ [58]) ++ dgs (F 14 (i1))) ++ [47]) ++ dgs (F 15 (i1))) hT8.2.2.2 (by simp only [List.length_append, List.length_singleton, List.length_nil]; omega)) rfl hl rfl (Nat.le_of_ble_eq_true rfl) ⟨Nat.le_of_ble_eq_true rfl, Nat.le_of_ble_eq_true rfl⟩ ⟨Nat.le_of_ble_eq_true rfl, Nat.le_of_ble_eq_true rfl⟩ ?_
          rintro _ N9 F9 _ H locs ⟨rfl, rfl, hT9⟩ h
          have hC9 := TXp.trans hC8 hT9
          have hS9 := hC9.2.2.1
          refine lv_aload_n X.1 X.2.1 dX7_label_84 rfl (lv_at hl 0 rfl) ?_
          refine lv_aload_n X.1 X.2.1 dX7_label_85 rfl (lv_at hl 0 rfl) ?_
          refine mr_get X h kf_X7_46 (by decide) dX7_label_86 rfl ?_
          refine lv_iload_n X.1 X.2.1 dX7_label_89 rfl (lv_at hl 1 rfl) ?_
          refine mr_ald X h 17 rfl dX7_label_90 (i := i1) (v := nI (F 17 (i1)) - 1) rfl (by show _ < 36; omega) (by simp [rowM, shN, hS9.at 17 _ (by decide)]) ?_
          have b15 := hI.k (k := i1) (by omega)
          refine lv_top (y := nI (F 17 (i1) - 1)) (eI_pos (by omega)) ?_
          refine mr_callV X h ck_X7_159 ki_X7_putsNumber ks_X7_putsNumber dX7_label_91 (As := [.int (nI (F 17 (i1) - 1))]) (c_X7_putsNumber l G x ar N9 F9 B (F 17 (i1) - 1) (((((([] ++ dgs i1) ++ [58]) ++ dgs (F 14 (i1))) ++ [47]) ++ dgs (F 15 (i1))) ++ [64]) hT9.2.2.2 (by simp only [List.length_append, List.length_singleton, List.length_nil]; omega) (by omega)) rfl hl rfl (Nat.le_of_ble_eq_true rfl) ⟨Nat.le_of_ble_eq_true rfl, Nat.le_of_ble_eq_true rfl⟩ ⟨Nat.le_of_ble_eq_true rfl, Nat.le_of_ble_eq_true rfl⟩ ?_
          rintro _ N10 F10 _ H locs ⟨rfl, rfl, hT10⟩ h
          have hC10 := TXp.trans hC9 hT10
          have hS10 := hC10.2.2.1
          have hLab : labL F i1 = (((((([] ++ dgs i1) ++ [58]) ++ dgs (F 14 (i1))) ++ [47]) ++ dgs (F 15 (i1))) ++ [64]) ++ dgs (F 17 (i1) - 1) := by unfold labL; rw [if_neg (by omega)]; simp only [List.append_assoc, List.append_nil, List.nil_append]
          have hT1 := hT10.2.2.2
          rw [← hLab] at hT1
          have hlen := labL_len F i1
          have hN28 := hT1.1
          have hlt := labL_lt (F := F) (k := i1) (by omega) (by omega) (by omega) (by omega) i2
          refine lv_iload_n X.1 X.2.1 dX7_label_94 rfl (lv_at hl 2 rfl) ?_
          refine lv_aload_n X.1 X.2.1 dX7_label_95 rfl (lv_at hl 0 rfl) ?_
          refine mr_get X h kf_X7_153 (by decide) dX7_label_96 (v := .int (nI (N10 28))) rfl ?_
          refine b_icmp_ge (tgt := 112) X dX7_label_99 (by decide) (a := ((i2 : Nat) : Int)) (b := ((N10 28 : Nat) : Int)) (nI_ti (by omega)) (nI_ti (by omega)) (fun c16 => ?_) (fun c16 => ?_)
          · skip
            refine lv_iconst (v := nI (0)) X.1 X.2.1 dX7_label_112 (by decide) ?_
            exact mr_zret X hr hlocks h dX7_label_113 ⟨Nat.le_of_ble_eq_true rfl, Nat.le_of_ble_eq_true rfl⟩ ((pk_charN (by omega)).1) (MA.ok (if_pos ⟨iR_lt hi1 (by omega), by rw [nI_ti (by omega)]; omega⟩) (by rw [ix_nI (by omega), ix_nI (by omega), vLabel, List.getD_eq_getElem?_getD, List.getElem?_eq_none (by omega)]; rfl) (hC10.2.1) (SN.trans (SN29 N 0) (SN.trans ((SN.rf (va_up N 29 0)).up (Or.inl rfl)) hC10.1)) hC10.2.2.1 rfl)
          · skip
            refine lv_aload_n X.1 X.2.1 dX7_label_102 rfl (lv_at hl 0 rfl) ?_
            refine mr_get X h kf_X7_76 (by decide) dX7_label_103 rfl ?_
            refine lv_iload_n X.1 X.2.1 dX7_label_106 rfl (lv_at hl 2 rfl) ?_
            refine mr_ald X h 27 rfl dX7_label_107 (i := i2) (v := nI (F10 27 (i2))) rfl (by show _ < 16; omega) rfl ?_
            have hch := hT1.2 i2 (by omega)
            refine lv_i2c (v := nI (F10 27 (i2))) X.1 X.2.1 dX7_label_108 (sb_byte _ (by omega)).2.1 ?_
            refine lv_goto (tgt := 113) X.1 X.2.1 dX7_label_109 (by decide) ?_
            exact mr_zret X hr hlocks h dX7_label_113 ⟨Nat.le_of_ble_eq_true rfl, Nat.le_of_ble_eq_true rfl⟩ ((pk_charN (by omega)).1) (MA.ok (if_pos ⟨iR_lt hi1 (by omega), by rw [nI_ti (by omega)]; omega⟩) (by rw [ix_nI (by omega), ix_nI (by omega), vLabel, hch]) (hC10.2.1) (SN.trans (SN29 N 0) (SN.trans ((SN.rf (va_up N 29 0)).up (Or.inl rfl)) hC10.1)) hC10.2.2.1 rfl)
      · skip
        exact absurd c5 (by first | decide | omega)
end
section
/-! The class's objects, by kind and number (ad: their addresses). N, F, B as in the reference; E: 0: how many of a kind there are (1 players, 2 matches, 3 seasons, 6 skins), how many places of a row are taken (10 .. 13); 1: a region's matches of today; 2 .. 4: a skin's sales: there, in the row, counted; P, Q: the points and games that a season's rows hold -/
def opA (ad : Nat → Nat → Nat) (v : Nat) : Option Nat := if v = 0 then none else some (ad 1 (v - 1))
def fiA (ad : Nat → Nat → Nat) (i v : Nat) : Option Nat := if v = 0 then none else some (ad 8 (20 * i + (v - 1)))
def rowA (ad : Nat → Nat → Nat) (k n : Nat) : Nat → Option Nat := fun j => if j < n then some (ad k j) else none
def rowS (ad : Nat → Nat → Nat) (i n : Nat) : Nat → Option Nat := fun j => if j < n then some (ad 8 (20 * i + j)) else none
def cellC (G : mG) (ad : Nat → Nat → Nat) (N : Nat → Nat) (F : Nat → Nat → Nat) (B : Nat → Int32) (E P Q : Nat → Nat → Nat) (k i : Nat) : va_E := match k with
  | 0 => .inr (7, [.ref (ad 10 0), .ref (ad 11 0), .ref (ad 12 0), .ref (ad 13 0), .ref (ad 14 0), .int (nI (N 1)), .int (nI (N 6)), .int (nI (N 13)), .int (nI (N 0)), .ref (ad 3 (N 12))])
  | 1 => .inr (2, [.int (nI i), .int (B i), .int (nI (F 2 i) - 1), .int (nI (F 3 i))])
  | 2 => .inr (1, [.ref (ad 1 (F 7 i)), .ref (ad 1 (F 8 i)), .ref (ad 3 (F 11 i)), .int (nI (F 10 i))])
  | 3 => .inr (5, [.int (nI i), .ref (ad 4 i), .ref (ad 5 i)])
  | 4 => .inl (G.2 0, 16, .inl (fun p => nI (P i p)))
  | 5 => .inl (G.2 0, 16, .inl (fun p => nI (Q i p)))
  | 6 => .inr (6, [.int (nI i), .ref (ad 3 (F 14 i)), .int (nI (F 15 i)), .ref (ad 7 i), .int (nI (E 4 i)), va_rf (fiA ad i (F 20 i)), va_rf (opA ad (F 16 i)), va_rf (opA ad (F 17 i)), va_rf (opA ad (F 18 i)), .int (nI (F 19 i))])
  | 7 => .inl (G.2 8, 20, .inr (.inr (.inr (.inr (rowS ad i (E 3 i))))))
  | 8 => .inr (4, [.ref (ad 1 (F 22 i)), .ref (ad 1 (F 23 i)), .int (nI (F 24 i))])
  | 9 => .inr (3, [.int (nI (F 5 i)), .int (nI (E 1 i))])
  | 10 => .inl (G.2 3, 16, .inr (.inr (.inr (.inr (rowA ad 1 (E 0 10))))))
  | 11 => .inl (G.2 4, 100, .inr (.inr (.inr (.inr (rowA ad 2 (E 0 11))))))
  | 12 => .inl (G.2 5, 12, .inr (.inr (.inr (.inr (rowA ad 3 (E 0 12))))))
  | 13 => .inl (G.2 6, 36, .inr (.inr (.inr (.inr (rowA ad 6 (E 0 13))))))
  | _ => .inl (G.2 7, 4, .inr (.inr (.inr (.inr (rowA ad 9 4)))))
def liveC (E : Nat → Nat → Nat) (k i : Nat) : Prop := match k with
  | 0 => i = 0
  | 1 => i < E 0 1
  | 2 => i < E 0 2
  | 3 => i < E 0 3
  | 4 => i < E 0 3
  | 5 => i < E 0 3
  | 6 => i < E 0 6
  | 7 => i < E 0 6
  | 8 => i / 20 < E 0 6 ∧ i % 20 < E 2 (i / 20)
  | 9 => i < 4
  | 10 => i = 0
  | 11 => i = 0
  | 12 => i = 0
  | 13 => i = 0
  | 14 => i = 0
  | _ => False
def RC (G : mG) (ad : Nat → Nat → Nat) (N : Nat → Nat) (F : Nat → Nat → Nat) (B : Nat → Int32) (E P Q : Nat → Nat → Nat) (M : Mem) : Prop :=
  (∀ k i, liveC E k i → M (ad k i) = some (cellC G ad N F B E P Q k i)) ∧ ∀ k i k' i', liveC E k i → liveC E k' i' → ad k i = ad k' i' → k = k' ∧ i = i'
theorem live8 {E : Nat → Nat → Nat} {k j : Nat} (hk : k < E 0 6) (hj : j < E 2 k) (h20 : j < 20) : liveC E 8 (20 * k + j) := by
  show (20 * k + j) / 20 < E 0 6 ∧ (20 * k + j) % 20 < E 2 ((20 * k + j) / 20)
  have h1 : (20 * k + j) / 20 = k := by omega
  have h2 : (20 * k + j) % 20 = j := by omega
  rw [h1, h2]
  exact ⟨hk, hj⟩
theorem RC.set {G : mG} {ad : Nat → Nat → Nat} {N N' : Nat → Nat} {F F' : Nat → Nat → Nat} {B B' : Nat → Int32} {E P Q E' P' Q' : Nat → Nat → Nat} {M : Mem} (R : RC G ad N F B E P Q M) (k i : Nat) (hl : liveC E k i) {e : va_E} (he : e = cellC G ad N' F' B' E' P' Q' k i)
    (hlive : ∀ k' i', liveC E' k' i' → liveC E k' i') (hk : ∀ i', liveC E' k i' → i' ≠ i → cellC G ad N' F' B' E' P' Q' k i' = cellC G ad N F B E P Q k i') (ho : ∀ k' i', k' ≠ k → liveC E' k' i' → cellC G ad N' F' B' E' P' Q' k' i' = cellC G ad N F B E P Q k' i') : RC G ad N' F' B' E' P' Q' (mU M (ad k i) e) := by
  refine ⟨fun k' i' h => ?_, fun k1 i1 k2 i2 h1 h2 => R.2 k1 i1 k2 i2 (hlive _ _ h1) (hlive _ _ h2)⟩
  by_cases hkk : k' = k
  · subst hkk
    by_cases hii : i' = i
    · subst hii
      rw [mU_eq, he]
    · rw [mU_ne (fun q => hii (R.2 k' i' k' i (hlive _ _ h) hl q).2), hk i' h hii]
      exact R.1 k' i' (hlive _ _ h)
  · rw [mU_ne (fun q => hkk (R.2 k' i' k i (hlive _ _ h) hl q).1), ho k' i' hkk h]
    exact R.1 k' i' (hlive _ _ h)
/-- a cell that is none of them -/
theorem RC.off {G : mG} {ad : Nat → Nat → Nat} {N : Nat → Nat} {F : Nat → Nat → Nat} {B : Nat → Int32} {E P Q : Nat → Nat → Nat} {M : Mem} (R : RC G ad N F B E P Q M) {q : Nat} (hq : ∀ k i, liveC E k i → ad k i ≠ q) (e : va_E) : RC G ad N F B E P Q (mU M q e) :=
  ⟨fun k i h => by rw [mU_ne (hq k i h)]; exact R.1 k i h, R.2⟩
theorem RC.new {G : mG} {ad : Nat → Nat → Nat} {N : Nat → Nat} {F : Nat → Nat → Nat} {B : Nat → Int32} {E P Q : Nat → Nat → Nat} {M : Mem} (R : RC G ad N F B E P Q M) {q : Nat} (hq : M q = none) : ∀ k i, liveC E k i → ad k i ≠ q := fun k i h e => by
  have := R.1 k i h
  rw [e, hq] at this
  cases this
theorem RC.fits {G : mG} {ad : Nat → Nat → Nat} {N N' : Nat → Nat} {F F' : Nat → Nat → Nat} {B B' : Nat → Int32} {E P Q E' P' Q' : Nat → Nat → Nat} {M : Mem} (R : RC G ad N F B E P Q M) (hlive : ∀ k' i', liveC E' k' i' → liveC E k' i') (ho : ∀ k' i', liveC E' k' i' → cellC G ad N' F' B' E' P' Q' k' i' = cellC G ad N F B E P Q k' i') : RC G ad N' F' B' E' P' Q' M :=
  ⟨fun k i h => by rw [ho k i h]; exact R.1 k i (hlive _ _ h), fun k1 i1 k2 i2 h1 h2 => R.2 k1 i1 k2 i2 (hlive _ _ h1) (hlive _ _ h2)⟩
/-- a new one is taken in: the i-th of kind k, at q -/
theorem RC.take {G : mG} {ad : Nat → Nat → Nat} {N N' : Nat → Nat} {F F' : Nat → Nat → Nat} {B B' : Nat → Int32} {E P Q E' P' Q' : Nat → Nat → Nat} {M : Mem} (R : RC G ad N F B E P Q M) (k i q : Nat) (hq : ∀ k' i', liveC E k' i' → ad k' i' ≠ q) (hM : M q = some (cellC G (set1 ad k i q) N' F' B' E' P' Q' k i))
    (hlive : ∀ k' i', liveC E' k' i' → liveC E k' i' ∨ (k' = k ∧ i' = i)) (hn : ¬ liveC E k i) (ho : ∀ k' i', liveC E k' i' → liveC E' k' i' → cellC G (set1 ad k i q) N' F' B' E' P' Q' k' i' = cellC G ad N F B E P Q k' i') : RC G (set1 ad k i q) N' F' B' E' P' Q' M := by
  have ha : ∀ k' i', liveC E k' i' → set1 ad k i q k' i' = ad k' i' := fun k' i' h => set1_off ad (by
    by_cases hk : k' = k
    · right; intro hi; subst hk; subst hi; exact hn h
    · left; exact hk)
  refine ⟨fun k' i' h => ?_, fun k1 i1 k2 i2 h1 h2 he => ?_⟩
  · rcases hlive k' i' h with h9 | ⟨rfl, rfl⟩
    · rw [ha k' i' h9, ho k' i' h9 h]
      exact R.1 k' i' h9
    · rw [set1_at]
      exact hM
  · rcases hlive k1 i1 h1 with g1 | ⟨rfl, rfl⟩ <;> rcases hlive k2 i2 h2 with g2 | ⟨rfl, rfl⟩
    · rw [ha k1 i1 g1, ha k2 i2 g2] at he
      exact R.2 k1 i1 k2 i2 g1 g2 he
    · rw [ha k1 i1 g1, set1_at] at he
      exact absurd he (hq k1 i1 g1)
    · rw [ha k2 i2 g2, set1_at] at he
      exact absurd he.symm (hq k2 i2 g2)
    · exact ⟨rfl, rfl⟩
theorem opA_inj {G : mG} {ad : Nat → Nat → Nat} {N : Nat → Nat} {F : Nat → Nat → Nat} {B : Nat → Int32} {E P Q : Nat → Nat → Nat} {M : Mem} (R : RC G ad N F B E P Q M) {a b : Nat} (ha : a ≤ E 0 1) (hb : b ≤ E 0 1) (h : opA ad a = opA ad b) : a = b := by
  unfold opA at h
  by_cases h1 : a = 0
  · by_cases h2 : b = 0
    · omega
    · rw [if_pos h1, if_neg h2] at h; cases h
  · by_cases h2 : b = 0
    · rw [if_neg h1, if_pos h2] at h; cases h
    · rw [if_neg h1, if_neg h2] at h
      have := (R.2 1 (a - 1) 1 (b - 1) (show a - 1 < E 0 1 by omega) (show b - 1 < E 0 1 by omega) (Option.some.inj h)).2
      omega
section CROWS
variable {p : Program} {l : Launch} {e : Env} {R : Room} {s : State} {m : MethodId} {args : Array Value} {below : List Frame} {meth : Method} {c : Code} {H : Heap} {locs : List Loc} {cells slots : Nat} {Q : State → Prop}
variable {cc : ByteArray} {pc nL : Nat} {ls : Array Slot} {rest : List Value}
theorem lw_aload_n (hexec : p.tables.exec = Jvm.exec) (hb : c.code = cc) {k : Fin 4} {i : Nat} {r : Option Nat} (hdg : decode cc pc = .ok (.aload_n k, 1)) (hi : (k : Nat) = i) (hl : ls[i]? = some (.val (va_rf r))) (kk : W p l e R s m args below meth c H locs cells slots Q (F0 m (pc + 1) ls (va_rf r :: rest))) : W p l e R s m args below meth c H locs cells slots Q (F0 m pc ls rest) := by
  cases r with
  | none => exact lv_aload_nN hexec hb hdg hi hl kk
  | some a => exact lv_aload_n hexec hb hdg hi hl kk
theorem lw_aload (hexec : p.tables.exec = Jvm.exec) (hb : c.code = cc) {i : Nat} {r : Option Nat} (hdg : decode cc pc = .ok (.aload i, 2)) (hl : ls[i]? = some (.val (va_rf r))) (kk : W p l e R s m args below meth c H locs cells slots Q (F0 m (pc + 2) ls (va_rf r :: rest))) : W p l e R s m args below meth c H locs cells slots Q (F0 m pc ls rest) := by
  cases r with
  | none => exact lv_aloadN hexec hb hdg hl kk
  | some a => exact lv_aload hexec hb hdg hl kk
theorem lw_astore_n (hexec : p.tables.exec = Jvm.exec) (hb : c.code = cc) {k : Fin 4} {i nL : Nat} {r : Option Nat} {lv lv' : List (Nat × Value)} (hdg : decode cc pc = .ok (.astore_n k, 1)) (hi : (k : Nat) = i) (h : lv_has ls nL lv) (hn : i < nL) (hl : (i, va_rf r) :: lv.filter (fun q => !(q.1 == i) && !(q.1 + 1 == i && q.2.category == 2)) = lv')
    (kk : ∀ ls' : Array Slot, lv_has ls' nL lv' → W p l e R s m args below meth c H locs cells slots Q (F0 m (pc + 1) ls' rest)) : W p l e R s m args below meth c H locs cells slots Q (F0 m pc ls (va_rf r :: rest)) := by
  cases r with
  | none => exact lv_astore_nN hexec hb hdg hi h hn hl kk
  | some a => exact lv_astore_n hexec hb hdg hi h hn hl kk
theorem lw_astore (hexec : p.tables.exec = Jvm.exec) (hb : c.code = cc) {i nL : Nat} {r : Option Nat} {lv lv' : List (Nat × Value)} (hdg : decode cc pc = .ok (.astore i, 2)) (h : lv_has ls nL lv) (hn : i < nL) (hl : (i, va_rf r) :: lv.filter (fun q => !(q.1 == i) && !(q.1 + 1 == i && q.2.category == 2)) = lv')
    (kk : ∀ ls' : Array Slot, lv_has ls' nL lv' → W p l e R s m args below meth c H locs cells slots Q (F0 m (pc + 2) ls' rest)) : W p l e R s m args below meth c H locs cells slots Q (F0 m pc ls (va_rf r :: rest)) := by
  cases r with
  | none => exact lv_astoreN hexec hb hdg h hn hl kk
  | some a => exact lv_astore hexec hb hdg h hn hl kk
end CROWS
end
section
theorem f_pts (P : Nat → Nat → Nat) (j q v : Nat) : upd (fun p => nI (P j p)) q (nI v) = fun p => nI (set1 P j q v j p) := by
  funext z
  by_cases hz : z = q <;> simp [upd, set1, va_up, hz]
theorem rowA_push (ad : Nat → Nat → Nat) (k n : Nat) : va_up (rowA ad k n) n (some (ad k n)) = rowA ad k (n + 1) := by
  funext z
  simp only [rowA, va_up]
  by_cases hz : z = n
  · subst hz; simp
  · simp only [if_neg hz]
    by_cases h2 : z < n
    · rw [if_pos h2, if_pos (by omega)]
    · rw [if_neg h2, if_neg (by omega)]
theorem rowS_push (ad : Nat → Nat → Nat) (i n : Nat) : va_up (rowS ad i n) n (some (ad 8 (20 * i + n))) = rowS ad i (n + 1) := by
  funext z
  simp only [rowS, va_up]
  by_cases hz : z = n
  · subst hz; simp
  · simp only [if_neg hz]
    by_cases h2 : z < n
    · rw [if_pos h2, if_pos (by omega)]
    · rw [if_neg h2, if_neg (by omega)]
theorem rowS_drop {ad : Nat → Nat → Nat} {i m n : Nat} (h : m ≤ n + 1) : va_up (rowS ad i m) n none = rowS ad i (min m n) := by
  funext z
  simp only [rowS, va_up]
  by_cases hz : z = n
  · subst hz; rw [if_pos rfl, if_neg (by omega)]
  · simp only [if_neg hz]
    by_cases h2 : z < m
    · rw [if_pos h2, if_pos (by omega)]
    · rw [if_neg h2, if_neg (by omega)]
theorem RC.bal {G : mG} {ad : Nat → Nat → Nat} {N : Nat → Nat} {F : Nat → Nat → Nat} {B : Nat → Int32} {E P Q : Nat → Nat → Nat} {M : Mem} (R : RC G ad N F B E P Q M) {j : Nat} (h : j < E 0 1) (b : Int32) : RC G ad N F (upd B j b) E P Q (mU M (ad 1 j) (.inr (2, [.int (nI j), .int (b), .int (nI (F 2 j) - 1), .int (nI (F 3 j))]))) :=
  R.set 1 j h (by simp [cellC, upd, set1, va_up]) (fun _ _ h => h) (fun i' _ hne => by simp [cellC, upd, set1, va_up, hne]) (fun k' i' hne _ => by unfold cellC; split <;> first | rfl | exact absurd rfl hne)
theorem RC.since {G : mG} {ad : Nat → Nat → Nat} {N : Nat → Nat} {F : Nat → Nat → Nat} {B : Nat → Int32} {E P Q : Nat → Nat → Nat} {M : Mem} (R : RC G ad N F B E P Q M) {j : Nat} (h : j < E 0 1) (v : Nat) : RC G ad N (set1 F 2 j v) B E P Q (mU M (ad 1 j) (.inr (2, [.int (nI j), .int (B j), .int (nI (v) - 1), .int (nI (F 3 j))]))) :=
  R.set 1 j h (by simp [cellC, upd, set1, va_up]) (fun _ _ h => h) (fun i' _ hne => by simp [cellC, upd, set1, va_up, hne]) (fun k' i' hne _ => by unfold cellC; split <;> first | rfl | exact absurd rfl hne)
theorem RC.free {G : mG} {ad : Nat → Nat → Nat} {N : Nat → Nat} {F : Nat → Nat → Nat} {B : Nat → Int32} {E P Q : Nat → Nat → Nat} {M : Mem} (R : RC G ad N F B E P Q M) {j : Nat} (h : j < E 0 1) (v : Nat) : RC G ad N (set1 F 3 j v) B E P Q (mU M (ad 1 j) (.inr (2, [.int (nI j), .int (B j), .int (nI (F 2 j) - 1), .int (nI (v))]))) :=
  R.set 1 j h (by simp [cellC, upd, set1, va_up]) (fun _ _ h => h) (fun i' _ hne => by simp [cellC, upd, set1, va_up, hne]) (fun k' i' hne _ => by unfold cellC; split <;> first | rfl | exact absurd rfl hne)
theorem RC.roomA {G : mG} {ad : Nat → Nat → Nat} {N : Nat → Nat} {F : Nat → Nat → Nat} {B : Nat → Int32} {E P Q : Nat → Nat → Nat} {M : Mem} (R : RC G ad N F B E P Q M) {j : Nat} (h : j < 4) (v : Nat) : RC G ad N (set1 F 5 j v) B E P Q (mU M (ad 9 j) (.inr (3, [.int (nI (v)), .int (nI (E 1 j))]))) :=
  R.set 9 j h (by simp [cellC, upd, set1, va_up]) (fun _ _ h => h) (fun i' _ hne => by simp [cellC, upd, set1, va_up, hne]) (fun k' i' hne _ => by unfold cellC; split <;> first | rfl | exact absurd rfl hne)
theorem RC.today {G : mG} {ad : Nat → Nat → Nat} {N : Nat → Nat} {F : Nat → Nat → Nat} {B : Nat → Int32} {E P Q : Nat → Nat → Nat} {M : Mem} (R : RC G ad N F B E P Q M) {j : Nat} (h : j < 4) (v : Nat) : RC G ad N F B (set1 E 1 j v) P Q (mU M (ad 9 j) (.inr (3, [.int (nI (F 5 j)), .int (nI (v))]))) :=
  R.set 9 j h (by simp [cellC, upd, set1, va_up]) (fun _ _ h => h) (fun i' _ hne => by simp [cellC, upd, set1, va_up, hne]) (fun k' i' hne _ => by unfold cellC; split <;> first | rfl | exact absurd rfl hne)
theorem RC.ptsW {G : mG} {ad : Nat → Nat → Nat} {N : Nat → Nat} {F : Nat → Nat → Nat} {B : Nat → Int32} {E P Q : Nat → Nat → Nat} {M : Mem} (R : RC G ad N F B E P Q M) {j : Nat} (h : j < E 0 3) (q v : Nat) : RC G ad N F B E (set1 P j q v) Q (mU M (ad 4 j) (.inl (G.2 0, 16, .inl (upd (fun p => nI (P j p)) q (nI v))))) :=
  R.set 4 j h (by simp only [cellC, f_pts]) (fun _ _ h => h) (fun i' _ hne => by simp [cellC, upd, set1, va_up, hne]) (fun k' i' hne _ => by unfold cellC; split <;> first | rfl | exact absurd rfl hne)
theorem RC.gmsW {G : mG} {ad : Nat → Nat → Nat} {N : Nat → Nat} {F : Nat → Nat → Nat} {B : Nat → Int32} {E P Q : Nat → Nat → Nat} {M : Mem} (R : RC G ad N F B E P Q M) {j : Nat} (h : j < E 0 3) (q v : Nat) : RC G ad N F B E P (set1 Q j q v) (mU M (ad 5 j) (.inl (G.2 0, 16, .inl (upd (fun p => nI (Q j p)) q (nI v))))) :=
  R.set 5 j h (by simp only [cellC, f_pts]) (fun _ _ h => h) (fun i' _ hne => by simp [cellC, upd, set1, va_up, hne]) (fun k' i' hne _ => by unfold cellC; split <;> first | rfl | exact absurd rfl hne)
theorem RC.fif {G : mG} {ad : Nat → Nat → Nat} {N : Nat → Nat} {F : Nat → Nat → Nat} {B : Nat → Int32} {E P Q : Nat → Nat → Nat} {M : Mem} (R : RC G ad N F B E P Q M) {j : Nat} (h : j < E 0 6) (v : Nat) : RC G ad N (set1 F 20 j v) B E P Q (mU M (ad 6 j) (.inr (6, [.int (nI j), .ref (ad 3 (F 14 j)), .int (nI (F 15 j)), .ref (ad 7 j), .int (nI (E 4 j)), va_rf (fiA ad j (v)), va_rf (opA ad (F 16 j)), va_rf (opA ad (F 17 j)), va_rf (opA ad (F 18 j)), .int (nI (F 19 j))]))) :=
  R.set 6 j h (by simp [cellC, upd, set1, va_up]) (fun _ _ h => h) (fun i' _ hne => by simp [cellC, upd, set1, va_up, hne]) (fun k' i' hne _ => by unfold cellC; split <;> first | rfl | exact absurd rfl hne)
theorem RC.heir {G : mG} {ad : Nat → Nat → Nat} {N : Nat → Nat} {F : Nat → Nat → Nat} {B : Nat → Int32} {E P Q : Nat → Nat → Nat} {M : Mem} (R : RC G ad N F B E P Q M) {j : Nat} (h : j < E 0 6) (v : Nat) : RC G ad N (set1 F 16 j v) B E P Q (mU M (ad 6 j) (.inr (6, [.int (nI j), .ref (ad 3 (F 14 j)), .int (nI (F 15 j)), .ref (ad 7 j), .int (nI (E 4 j)), va_rf (fiA ad j (F 20 j)), va_rf (opA ad (v)), va_rf (opA ad (F 17 j)), va_rf (opA ad (F 18 j)), .int (nI (F 19 j))]))) :=
  R.set 6 j h (by simp [cellC, upd, set1, va_up]) (fun _ _ h => h) (fun i' _ hne => by simp [cellC, upd, set1, va_up, hne]) (fun k' i' hne _ => by unfold cellC; split <;> first | rfl | exact absurd rfl hne)
theorem RC.holder {G : mG} {ad : Nat → Nat → Nat} {N : Nat → Nat} {F : Nat → Nat → Nat} {B : Nat → Int32} {E P Q : Nat → Nat → Nat} {M : Mem} (R : RC G ad N F B E P Q M) {j : Nat} (h : j < E 0 6) (v : Nat) : RC G ad N (set1 F 17 j v) B E P Q (mU M (ad 6 j) (.inr (6, [.int (nI j), .ref (ad 3 (F 14 j)), .int (nI (F 15 j)), .ref (ad 7 j), .int (nI (E 4 j)), va_rf (fiA ad j (F 20 j)), va_rf (opA ad (F 16 j)), va_rf (opA ad (v)), va_rf (opA ad (F 18 j)), .int (nI (F 19 j))]))) :=
  R.set 6 j h (by simp [cellC, upd, set1, va_up]) (fun _ _ h => h) (fun i' _ hne => by simp [cellC, upd, set1, va_up, hne]) (fun k' i' hne _ => by unfold cellC; split <;> first | rfl | exact absurd rfl hne)
theorem RC.borr {G : mG} {ad : Nat → Nat → Nat} {N : Nat → Nat} {F : Nat → Nat → Nat} {B : Nat → Int32} {E P Q : Nat → Nat → Nat} {M : Mem} (R : RC G ad N F B E P Q M) {j : Nat} (h : j < E 0 6) (v : Nat) : RC G ad N (set1 F 18 j v) B E P Q (mU M (ad 6 j) (.inr (6, [.int (nI j), .ref (ad 3 (F 14 j)), .int (nI (F 15 j)), .ref (ad 7 j), .int (nI (E 4 j)), va_rf (fiA ad j (F 20 j)), va_rf (opA ad (F 16 j)), va_rf (opA ad (F 17 j)), va_rf (opA ad (v)), .int (nI (F 19 j))]))) :=
  R.set 6 j h (by simp [cellC, upd, set1, va_up]) (fun _ _ h => h) (fun i' _ hne => by simp [cellC, upd, set1, va_up, hne]) (fun k' i' hne _ => by unfold cellC; split <;> first | rfl | exact absurd rfl hne)
theorem RC.lent {G : mG} {ad : Nat → Nat → Nat} {N : Nat → Nat} {F : Nat → Nat → Nat} {B : Nat → Int32} {E P Q : Nat → Nat → Nat} {M : Mem} (R : RC G ad N F B E P Q M) {j : Nat} (h : j < E 0 6) (v : Nat) : RC G ad N (set1 F 19 j v) B E P Q (mU M (ad 6 j) (.inr (6, [.int (nI j), .ref (ad 3 (F 14 j)), .int (nI (F 15 j)), .ref (ad 7 j), .int (nI (E 4 j)), va_rf (fiA ad j (F 20 j)), va_rf (opA ad (F 16 j)), va_rf (opA ad (F 17 j)), va_rf (opA ad (F 18 j)), .int (nI (v))]))) :=
  R.set 6 j h (by simp [cellC, upd, set1, va_up]) (fun _ _ h => h) (fun i' _ hne => by simp [cellC, upd, set1, va_up, hne]) (fun k' i' hne _ => by unfold cellC; split <;> first | rfl | exact absurd rfl hne)
theorem RC.count {G : mG} {ad : Nat → Nat → Nat} {N : Nat → Nat} {F : Nat → Nat → Nat} {B : Nat → Int32} {E P Q : Nat → Nat → Nat} {M : Mem} (R : RC G ad N F B E P Q M) {j : Nat} (h : j < E 0 6) (v : Nat) : RC G ad N F B (set1 E 4 j v) P Q (mU M (ad 6 j) (.inr (6, [.int (nI j), .ref (ad 3 (F 14 j)), .int (nI (F 15 j)), .ref (ad 7 j), .int (nI (v)), va_rf (fiA ad j (F 20 j)), va_rf (opA ad (F 16 j)), va_rf (opA ad (F 17 j)), va_rf (opA ad (F 18 j)), .int (nI (F 19 j))]))) :=
  R.set 6 j h (by simp [cellC, upd, set1, va_up]) (fun _ _ h => h) (fun i' _ hne => by simp [cellC, upd, set1, va_up, hne]) (fun k' i' hne _ => by unfold cellC; split <;> first | rfl | exact absurd rfl hne)
theorem RC.rowPush {G : mG} {ad : Nat → Nat → Nat} {N : Nat → Nat} {F : Nat → Nat → Nat} {B : Nat → Int32} {E P Q : Nat → Nat → Nat} {M : Mem} (R : RC G ad N F B E P Q M) {j : Nat} (h : j < E 0 6) : RC G ad N F B (set1 E 3 j (E 3 j + 1)) P Q (mU M (ad 7 j) (.inl (G.2 8, 20, .inr (.inr (.inr (.inr (va_up (rowS ad j (E 3 j)) (E 3 j) (some (ad 8 (20 * j + E 3 j)))))))))) :=
  R.set 7 j h (by simp only [cellC, set1_at, rowS_push]) (fun _ _ h => h) (fun i' _ hne => by simp [cellC, upd, set1, va_up, hne]) (fun k' i' hne _ => by unfold cellC; split <;> first | rfl | exact absurd rfl hne)
theorem RC.rowDrop {G : mG} {ad : Nat → Nat → Nat} {N : Nat → Nat} {F : Nat → Nat → Nat} {B : Nat → Int32} {E P Q : Nat → Nat → Nat} {M : Mem} (R : RC G ad N F B E P Q M) {j n : Nat} (h : j < E 0 6) (hn : E 3 j ≤ n + 1) : RC G ad N F B (set1 E 3 j (min (E 3 j) n)) P Q (mU M (ad 7 j) (.inl (G.2 8, 20, .inr (.inr (.inr (.inr (va_up (rowS ad j (E 3 j)) n none))))))) :=
  R.set 7 j h (by simp only [cellC, set1_at, rowS_drop hn]) (fun _ _ h => h) (fun i' _ hne => by simp [cellC, upd, set1, va_up, hne]) (fun k' i' hne _ => by unfold cellC; split <;> first | rfl | exact absurd rfl hne)
theorem RC.nPl {G : mG} {ad : Nat → Nat → Nat} {N : Nat → Nat} {F : Nat → Nat → Nat} {B : Nat → Int32} {E P Q : Nat → Nat → Nat} {M : Mem} (R : RC G ad N F B E P Q M) (v : Nat) : RC G ad (va_up N 1 v) F B E P Q (mU M (ad 0 0) (.inr (7, [.ref (ad 10 0), .ref (ad 11 0), .ref (ad 12 0), .ref (ad 13 0), .ref (ad 14 0), .int (nI (v)), .int (nI (N 6)), .int (nI (N 13)), .int (nI (N 0)), .ref (ad 3 (N 12))]))) :=
  R.set 0 0 rfl (rfl) (fun _ _ h => h) (fun i' h hne => absurd (show i' = 0 from h) hne) (fun k' i' hne _ => by unfold cellC; split <;> first | rfl | exact absurd rfl hne)
theorem RC.nMa {G : mG} {ad : Nat → Nat → Nat} {N : Nat → Nat} {F : Nat → Nat → Nat} {B : Nat → Int32} {E P Q : Nat → Nat → Nat} {M : Mem} (R : RC G ad N F B E P Q M) (v : Nat) : RC G ad (va_up N 6 v) F B E P Q (mU M (ad 0 0) (.inr (7, [.ref (ad 10 0), .ref (ad 11 0), .ref (ad 12 0), .ref (ad 13 0), .ref (ad 14 0), .int (nI (N 1)), .int (nI (v)), .int (nI (N 13)), .int (nI (N 0)), .ref (ad 3 (N 12))]))) :=
  R.set 0 0 rfl (rfl) (fun _ _ h => h) (fun i' h hne => absurd (show i' = 0 from h) hne) (fun k' i' hne _ => by unfold cellC; split <;> first | rfl | exact absurd rfl hne)
theorem RC.nSk {G : mG} {ad : Nat → Nat → Nat} {N : Nat → Nat} {F : Nat → Nat → Nat} {B : Nat → Int32} {E P Q : Nat → Nat → Nat} {M : Mem} (R : RC G ad N F B E P Q M) (v : Nat) : RC G ad (va_up N 13 v) F B E P Q (mU M (ad 0 0) (.inr (7, [.ref (ad 10 0), .ref (ad 11 0), .ref (ad 12 0), .ref (ad 13 0), .ref (ad 14 0), .int (nI (N 1)), .int (nI (N 6)), .int (nI (v)), .int (nI (N 0)), .ref (ad 3 (N 12))]))) :=
  R.set 0 0 rfl (rfl) (fun _ _ h => h) (fun i' h hne => absurd (show i' = 0 from h) hne) (fun k' i' hne _ => by unfold cellC; split <;> first | rfl | exact absurd rfl hne)
theorem RC.nDay {G : mG} {ad : Nat → Nat → Nat} {N : Nat → Nat} {F : Nat → Nat → Nat} {B : Nat → Int32} {E P Q : Nat → Nat → Nat} {M : Mem} (R : RC G ad N F B E P Q M) (v : Nat) : RC G ad (va_up N 0 v) F B E P Q (mU M (ad 0 0) (.inr (7, [.ref (ad 10 0), .ref (ad 11 0), .ref (ad 12 0), .ref (ad 13 0), .ref (ad 14 0), .int (nI (N 1)), .int (nI (N 6)), .int (nI (N 13)), .int (nI (v)), .ref (ad 3 (N 12))]))) :=
  R.set 0 0 rfl (rfl) (fun _ _ h => h) (fun i' h hne => absurd (show i' = 0 from h) hne) (fun k' i' hne _ => by unfold cellC; split <;> first | rfl | exact absurd rfl hne)
theorem RC.nSe {G : mG} {ad : Nat → Nat → Nat} {N : Nat → Nat} {F : Nat → Nat → Nat} {B : Nat → Int32} {E P Q : Nat → Nat → Nat} {M : Mem} (R : RC G ad N F B E P Q M) (v : Nat) : RC G ad (va_up N 12 v) F B E P Q (mU M (ad 0 0) (.inr (7, [.ref (ad 10 0), .ref (ad 11 0), .ref (ad 12 0), .ref (ad 13 0), .ref (ad 14 0), .int (nI (N 1)), .int (nI (N 6)), .int (nI (N 13)), .int (nI (N 0)), .ref (ad 3 (v))]))) :=
  R.set 0 0 rfl (rfl) (fun _ _ h => h) (fun i' h hne => absurd (show i' = 0 from h) hne) (fun k' i' hne _ => by unfold cellC; split <;> first | rfl | exact absurd rfl hne)
theorem RC.rowPl {G : mG} {ad : Nat → Nat → Nat} {N : Nat → Nat} {F : Nat → Nat → Nat} {B : Nat → Int32} {E P Q : Nat → Nat → Nat} {M : Mem} (R : RC G ad N F B E P Q M)  : RC G ad N F B (set1 E 0 10 (E 0 10 + 1)) P Q (mU M (ad 10 0) (.inl (G.2 3, 16, .inr (.inr (.inr (.inr (va_up (rowA ad 1 (E 0 10)) (E 0 10) (some (ad 1 (E 0 10)))))))))) :=
  R.set 10 0 rfl (by simp only [cellC, set1_at, rowA_push]) (fun _ _ h => h) (fun i' h hne => absurd (show i' = 0 from h) hne) (fun k' i' hne _ => by unfold cellC; split <;> first | rfl | exact absurd rfl hne)
theorem RC.rowMa {G : mG} {ad : Nat → Nat → Nat} {N : Nat → Nat} {F : Nat → Nat → Nat} {B : Nat → Int32} {E P Q : Nat → Nat → Nat} {M : Mem} (R : RC G ad N F B E P Q M)  : RC G ad N F B (set1 E 0 11 (E 0 11 + 1)) P Q (mU M (ad 11 0) (.inl (G.2 4, 100, .inr (.inr (.inr (.inr (va_up (rowA ad 2 (E 0 11)) (E 0 11) (some (ad 2 (E 0 11)))))))))) :=
  R.set 11 0 rfl (by simp only [cellC, set1_at, rowA_push]) (fun _ _ h => h) (fun i' h hne => absurd (show i' = 0 from h) hne) (fun k' i' hne _ => by unfold cellC; split <;> first | rfl | exact absurd rfl hne)
theorem RC.rowSe {G : mG} {ad : Nat → Nat → Nat} {N : Nat → Nat} {F : Nat → Nat → Nat} {B : Nat → Int32} {E P Q : Nat → Nat → Nat} {M : Mem} (R : RC G ad N F B E P Q M)  : RC G ad N F B (set1 E 0 12 (E 0 12 + 1)) P Q (mU M (ad 12 0) (.inl (G.2 5, 12, .inr (.inr (.inr (.inr (va_up (rowA ad 3 (E 0 12)) (E 0 12) (some (ad 3 (E 0 12)))))))))) :=
  R.set 12 0 rfl (by simp only [cellC, set1_at, rowA_push]) (fun _ _ h => h) (fun i' h hne => absurd (show i' = 0 from h) hne) (fun k' i' hne _ => by unfold cellC; split <;> first | rfl | exact absurd rfl hne)
theorem RC.rowSk {G : mG} {ad : Nat → Nat → Nat} {N : Nat → Nat} {F : Nat → Nat → Nat} {B : Nat → Int32} {E P Q : Nat → Nat → Nat} {M : Mem} (R : RC G ad N F B E P Q M)  : RC G ad N F B (set1 E 0 13 (E 0 13 + 1)) P Q (mU M (ad 13 0) (.inl (G.2 6, 36, .inr (.inr (.inr (.inr (va_up (rowA ad 6 (E 0 13)) (E 0 13) (some (ad 6 (E 0 13)))))))))) :=
  R.set 13 0 rfl (by simp only [cellC, set1_at, rowA_push]) (fun _ _ h => h) (fun i' h hne => absurd (show i' = 0 from h) hne) (fun k' i' hne _ => by unfold cellC; split <;> first | rfl | exact absurd rfl hne)
section XROWS
variable {p : Program} {l : Launch} {e : Env} {R : Room} {s : State} {m : MethodId} {args : Array Value} {below : List Frame} {meth : Method} {c : Code} {H : Heap} {locs : List Loc} {cells slots : Nat} {Q : State → Prop}
variable {cc : ByteArray} {pc nL : Nat} {ls : Array Slot} {rest : List Value} {G : mG} {A : Nat → Prop} {a : Nat} {M : Mem} {own : String} {H0 : Heap}
theorem mx_iald (X : Cx p c s m cc own nL G) (hM : mW G A H0 M H locs) {n : Nat} {f : Nat → Int32} (hdg : decode cc pc = .ok (.iaload, 1)) (hc : M a = some (.inl (G.2 0, n, .inl f))) {i : Nat} (hi : i < n) (hn : n < 2 ^ 31) {v : Int32} (hv : f i = v) (kk : W p l e R s m args below meth c H locs cells slots Q (F0 m (pc + 1) ls (.int v :: rest))) : W p l e R s m args below meth c H locs cells slots Q (F0 m pc ls (.int (nI i) :: .ref a :: rest)) := by
  refine mg_iald X hM hdg hc (vp_in_nI hi hn) ?_
  rw [nI_clamp (by omega), hv]
  exact kk
theorem mx_iast (X : Cx p c s m cc own nL G) (hM : mW G A H0 M H locs) {n : Nat} {f : Nat → Int32} (hdg : decode cc pc = .ok (.iastore, 1)) (hc : M a = some (.inl (G.2 0, n, .inl f))) {i : Nat} {x : Int32} (hi : i < n) (hn : n < 2 ^ 31) (kk : ∀ (H1 : Heap) (locs1 : List Loc), mW G A H0 (mU M a (.inl (G.2 0, n, .inl (upd f i x)))) H1 locs1 → W p l e R s m args below meth c H1 locs1 cells slots Q (F0 m (pc + 1) ls rest)) : W p l e R s m args below meth c H locs cells slots Q (F0 m pc ls (.int x :: .int (nI i) :: .ref a :: rest)) := by
  refine mg_iast X hM hdg hc (vp_in_nI hi hn) ?_
  rw [nI_clamp (by omega)]
  exact kk
theorem mx_aald (X : Cx p c s m cc own nL G) (hM : mW G A H0 M H locs) {n : Nat} {f : Nat → Option Nat} (t0 : Nat) {cA : ClassId} {C : String} (ht : (mTys G)[t0]? = some (cA, .object C)) (hdg : decode cc pc = .ok (.aaload, 1)) (hc : M a = some (.inl (cA, n, .inr (.inr (.inr (.inr f)))))) {i : Nat} (hi : i < n) (hn : n < 2 ^ 31) {r : Option Nat} (hv : f i = r) (kk : W p l e R s m args below meth c H locs cells slots Q (F0 m (pc + 1) ls (va_rf r :: rest))) : W p l e R s m args below meth c H locs cells slots Q (F0 m pc ls (.int (nI i) :: .ref a :: rest)) := by
  refine mg_aald X hM t0 ht hdg hc (vp_in_nI hi hn) ?_
  rw [nI_clamp (by omega), hv]
  exact kk
theorem mx_aast (X : Cx p c s m cc own nL G) (hM : mW G A H0 M H locs) {n v ci : Nat} {vs : List Value} {f : Nat → Option Nat} (t0 : Nat) {cA : ClassId} {r : vw_C} (ht : (mTys G)[t0]? = some (cA, .object r.1)) (hci : vwCl[ci]? = some r) (hdg : decode cc pc = .ok (.aastore, 1)) (hc : M a = some (.inl (cA, n, .inr (.inr (.inr (.inr f)))))) (hv : M v = some (.inr (ci, vs))) {i : Nat} (hi : i < n) (hn : n < 2 ^ 31)
    (kk : ∀ (H1 : Heap) (locs1 : List Loc), mW G A H0 (mU M a (.inl (cA, n, .inr (.inr (.inr (.inr (va_up f i (some v)))))))) H1 locs1 → W p l e R s m args below meth c H1 locs1 cells slots Q (F0 m (pc + 1) ls rest)) : W p l e R s m args below meth c H locs cells slots Q (F0 m pc ls (.ref v :: .int (nI i) :: .ref a :: rest)) := by
  refine mg_aast X hM t0 ht hci hdg hc hv (vp_in_nI hi hn) ?_
  rw [nI_clamp (by omega)]
  exact kk
theorem mx_aastN (X : Cx p c s m cc own nL G) (hM : mW G A H0 M H locs) {n : Nat} {f : Nat → Option Nat} (t0 : Nat) {cA : ClassId} {C : String} (ht : (mTys G)[t0]? = some (cA, .object C)) (hdg : decode cc pc = .ok (.aastore, 1)) (hc : M a = some (.inl (cA, n, .inr (.inr (.inr (.inr f)))))) {i : Nat} (hi : i < n) (hn : n < 2 ^ 31)
    (kk : ∀ (H1 : Heap) (locs1 : List Loc), mW G A H0 (mU M a (.inl (cA, n, .inr (.inr (.inr (.inr (va_up f i none))))))) H1 locs1 → W p l e R s m args below meth c H1 locs1 cells slots Q (F0 m (pc + 1) ls rest)) : W p l e R s m args below meth c H locs cells slots Q (F0 m pc ls (.null :: .int (nI i) :: .ref a :: rest)) := by
  refine mg_aastN X hM t0 ht hdg hc (vp_in_nI hi hn) ?_
  rw [nI_clamp (by omega)]
  exact kk
end XROWS
theorem mU_mU (M : Mem) (q : Nat) (e f : va_E) : mU (mU M q e) q f = mU M q f := by
  funext a
  by_cases h : a = q <;> simp [mU, h]
theorem nar_rf (C : String) (r : Option Nat) : narrow (.object C) (va_rf r) = va_rf r := by cases r <;> rfl
theorem fit_rf (C : String) (r : Option Nat) : fits (.object C) (va_rf r) = true := by cases r <;> rfl
end
