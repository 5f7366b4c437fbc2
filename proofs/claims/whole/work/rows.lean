section
-- ===== PART A: goes FIRST, ahead of the names: the tables' words, and 'selects' of the private methods out of them =====
/-- a private method of a class that the tables say can be made, by its rows of tables_1 -/
def lw_okq (q : MethodName × Nat) : Prop := (q.1.cls ≠ "java/lang/invoke/MethodHandle" ∧ q.1.cls ≠ "java/lang/invoke/VarHandle") ∧ Cond.instantiable q.1.cls q.2 ∈ tables_1 ∧ Cond.privateMethod q.1 ∈ tables_1 ∧ Cond.instanceMethod q.1 ∈ tables_1
theorem lw_p0 : lw_okq (⟨"PageTurner", "putBytes", "(I)V"⟩, 6) := ⟨⟨by decide +kernel, by decide +kernel⟩, List.mem_of_getElem? (i := 21) (by decide +kernel), List.mem_of_getElem? (i := 230) (by decide +kernel), List.mem_of_getElem? (i := 231) (by decide +kernel)⟩
theorem lw_p1 : lw_okq (⟨"PageTurner$Follower", "tempoBase", "()LPageTurner$Moment;"⟩, 7) := ⟨⟨by decide +kernel, by decide +kernel⟩, List.mem_of_getElem? (i := 134) (by decide +kernel), List.mem_of_getElem? (i := 258) (by decide +kernel), List.mem_of_getElem? (i := 259) (by decide +kernel)⟩
theorem lw_p2 : lw_okq (⟨"PageTurner$Follower", "beatOf", "(LPageTurner$Moment;)I"⟩, 7) := ⟨⟨by decide +kernel, by decide +kernel⟩, List.mem_of_getElem? (i := 134) (by decide +kernel), List.mem_of_getElem? (i := 266) (by decide +kernel), List.mem_of_getElem? (i := 267) (by decide +kernel)⟩
theorem lw_p3 : lw_okq (⟨"java/lang/Throwable", "fillInStackTrace", "(I)Ljava/lang/Throwable;"⟩, 6) := ⟨⟨by decide +kernel, by decide +kernel⟩, List.mem_of_getElem? (i := 359) (by decide +kernel), List.mem_of_getElem? (i := 357) (by decide +kernel), List.mem_of_getElem? (i := 358) (by decide +kernel)⟩
theorem lw_p4 : lw_okq (⟨"PageTurner$Tokens", "skipBlanks", "()V"⟩, 6) := ⟨⟨by decide +kernel, by decide +kernel⟩, List.mem_of_getElem? (i := 35) (by decide +kernel), List.mem_of_getElem? (i := 407) (by decide +kernel), List.mem_of_getElem? (i := 408) (by decide +kernel)⟩
theorem lw_p5 : lw_okq (⟨"PageTurner$Tokens", "byteAt", "(I)I"⟩, 6) := ⟨⟨by decide +kernel, by decide +kernel⟩, List.mem_of_getElem? (i := 35) (by decide +kernel), List.mem_of_getElem? (i := 411) (by decide +kernel), List.mem_of_getElem? (i := 412) (by decide +kernel)⟩
theorem lw_p6 : lw_okq (⟨"PageTurner$Tokens", "takePitch", "(I)V"⟩, 6) := ⟨⟨by decide +kernel, by decide +kernel⟩, List.mem_of_getElem? (i := 35) (by decide +kernel), List.mem_of_getElem? (i := 415) (by decide +kernel), List.mem_of_getElem? (i := 416) (by decide +kernel)⟩
theorem lw_p7 : lw_okq (⟨"PageTurner$Tokens", "take", "(II)V"⟩, 6) := ⟨⟨by decide +kernel, by decide +kernel⟩, List.mem_of_getElem? (i := 35) (by decide +kernel), List.mem_of_getElem? (i := 421) (by decide +kernel), List.mem_of_getElem? (i := 422) (by decide +kernel)⟩
theorem lw_p8 : lw_okq (⟨"PageTurner$Tokens", "takeNumber", "()V"⟩, 6) := ⟨⟨by decide +kernel, by decide +kernel⟩, List.mem_of_getElem? (i := 35) (by decide +kernel), List.mem_of_getElem? (i := 428) (by decide +kernel), List.mem_of_getElem? (i := 429) (by decide +kernel)⟩
theorem lw_p9 : lw_okq (⟨"PageTurner$Reader", "faultOfToken", "()I"⟩, 10) := ⟨⟨by decide +kernel, by decide +kernel⟩, List.mem_of_getElem? (i := 29) (by decide +kernel), List.mem_of_getElem? (i := 517) (by decide +kernel), List.mem_of_getElem? (i := 518) (by decide +kernel)⟩
theorem lw_p10 : lw_okq (⟨"PageTurner$Reader", "standsIn", "(I)Z"⟩, 10) := ⟨⟨by decide +kernel, by decide +kernel⟩, List.mem_of_getElem? (i := 29) (by decide +kernel), List.mem_of_getElem? (i := 524) (by decide +kernel), List.mem_of_getElem? (i := 525) (by decide +kernel)⟩
theorem lw_p11 : lw_okq (⟨"PageTurner$Reader", "isTooMuch", "()Z"⟩, 10) := ⟨⟨by decide +kernel, by decide +kernel⟩, List.mem_of_getElem? (i := 29) (by decide +kernel), List.mem_of_getElem? (i := 528) (by decide +kernel), List.mem_of_getElem? (i := 529) (by decide +kernel)⟩
theorem lw_p12 : lw_okq (⟨"PageTurner$Reader", "takeToken", "()V"⟩, 10) := ⟨⟨by decide +kernel, by decide +kernel⟩, List.mem_of_getElem? (i := 29) (by decide +kernel), List.mem_of_getElem? (i := 545) (by decide +kernel), List.mem_of_getElem? (i := 546) (by decide +kernel)⟩
theorem lw_p13 : lw_okq (⟨"PageTurner$Reader", "takeMark", "()V"⟩, 10) := ⟨⟨by decide +kernel, by decide +kernel⟩, List.mem_of_getElem? (i := 29) (by decide +kernel), List.mem_of_getElem? (i := 549) (by decide +kernel), List.mem_of_getElem? (i := 550) (by decide +kernel)⟩
theorem lw_p14 : lw_okq (⟨"PageTurner$Reader", "takeCue", "()V"⟩, 10) := ⟨⟨by decide +kernel, by decide +kernel⟩, List.mem_of_getElem? (i := 29) (by decide +kernel), List.mem_of_getElem? (i := 553) (by decide +kernel), List.mem_of_getElem? (i := 554) (by decide +kernel)⟩
theorem lw_p15 : lw_okq (⟨"PageTurner$Reader", "openEvent", "(II)V"⟩, 10) := ⟨⟨by decide +kernel, by decide +kernel⟩, List.mem_of_getElem? (i := 29) (by decide +kernel), List.mem_of_getElem? (i := 557) (by decide +kernel), List.mem_of_getElem? (i := 558) (by decide +kernel)⟩
def lw_privs_1 : List (MethodName × Nat) := [(⟨"PageTurner", "putBytes", "(I)V"⟩, 6), (⟨"PageTurner$Follower", "tempoBase", "()LPageTurner$Moment;"⟩, 7), (⟨"PageTurner$Follower", "beatOf", "(LPageTurner$Moment;)I"⟩, 7), (⟨"java/lang/Throwable", "fillInStackTrace", "(I)Ljava/lang/Throwable;"⟩, 6), (⟨"PageTurner$Tokens", "skipBlanks", "()V"⟩, 6), (⟨"PageTurner$Tokens", "byteAt", "(I)I"⟩, 6), (⟨"PageTurner$Tokens", "takePitch", "(I)V"⟩, 6), (⟨"PageTurner$Tokens", "take", "(II)V"⟩, 6), (⟨"PageTurner$Tokens", "takeNumber", "()V"⟩, 6), (⟨"PageTurner$Reader", "faultOfToken", "()I"⟩, 10), (⟨"PageTurner$Reader", "standsIn", "(I)Z"⟩, 10), (⟨"PageTurner$Reader", "isTooMuch", "()Z"⟩, 10), (⟨"PageTurner$Reader", "takeToken", "()V"⟩, 10), (⟨"PageTurner$Reader", "takeMark", "()V"⟩, 10), (⟨"PageTurner$Reader", "takeCue", "()V"⟩, 10), (⟨"PageTurner$Reader", "openEvent", "(II)V"⟩, 10)]
theorem lw_r1 : ∀ q ∈ lw_privs_1, lw_okq q := List.forall_mem_cons.mpr ⟨lw_p0, List.forall_mem_cons.mpr ⟨lw_p1, List.forall_mem_cons.mpr ⟨lw_p2, List.forall_mem_cons.mpr ⟨lw_p3, List.forall_mem_cons.mpr ⟨lw_p4, List.forall_mem_cons.mpr ⟨lw_p5, List.forall_mem_cons.mpr ⟨lw_p6, List.forall_mem_cons.mpr ⟨lw_p7, List.forall_mem_cons.mpr ⟨lw_p8, List.forall_mem_cons.mpr ⟨lw_p9, List.forall_mem_cons.mpr ⟨lw_p10, List.forall_mem_cons.mpr ⟨lw_p11, List.forall_mem_cons.mpr ⟨lw_p12, List.forall_mem_cons.mpr ⟨lw_p13, List.forall_mem_cons.mpr ⟨lw_p14, List.forall_mem_cons.mpr ⟨lw_p15, fun _ h => absurd h List.not_mem_nil⟩⟩⟩⟩⟩⟩⟩⟩⟩⟩⟩⟩⟩⟩⟩⟩
theorem lw_p16 : lw_okq (⟨"PageTurner$Score", "write", "(III)V"⟩, 7) := ⟨⟨by decide +kernel, by decide +kernel⟩, List.mem_of_getElem? (i := 64) (by decide +kernel), List.mem_of_getElem? (i := 565) (by decide +kernel), List.mem_of_getElem? (i := 566) (by decide +kernel)⟩
theorem lw_p17 : lw_okq (⟨"PageTurner$Reader", "takePitch", "()V"⟩, 10) := ⟨⟨by decide +kernel, by decide +kernel⟩, List.mem_of_getElem? (i := 29) (by decide +kernel), List.mem_of_getElem? (i := 569) (by decide +kernel), List.mem_of_getElem? (i := 570) (by decide +kernel)⟩
theorem lw_p18 : lw_okq (⟨"PageTurner$Reader", "takeBarOrPage", "()V"⟩, 10) := ⟨⟨by decide +kernel, by decide +kernel⟩, List.mem_of_getElem? (i := 29) (by decide +kernel), List.mem_of_getElem? (i := 586) (by decide +kernel), List.mem_of_getElem? (i := 587) (by decide +kernel)⟩
theorem lw_p19 : lw_okq (⟨"PageTurner$Follower", "makeSilentMoves", "()V"⟩, 7) := ⟨⟨by decide +kernel, by decide +kernel⟩, List.mem_of_getElem? (i := 134) (by decide +kernel), List.mem_of_getElem? (i := 708) (by decide +kernel), List.mem_of_getElem? (i := 709) (by decide +kernel)⟩
theorem lw_p20 : lw_okq (⟨"PageTurner$Follower", "departureFrom", "(I)I"⟩, 7) := ⟨⟨by decide +kernel, by decide +kernel⟩, List.mem_of_getElem? (i := 134) (by decide +kernel), List.mem_of_getElem? (i := 717) (by decide +kernel), List.mem_of_getElem? (i := 718) (by decide +kernel)⟩
theorem lw_p21 : lw_okq (⟨"PageTurner$Follower", "walkOn", "()Z"⟩, 7) := ⟨⟨by decide +kernel, by decide +kernel⟩, List.mem_of_getElem? (i := 134) (by decide +kernel), List.mem_of_getElem? (i := 729) (by decide +kernel), List.mem_of_getElem? (i := 730) (by decide +kernel)⟩
theorem lw_p22 : lw_okq (⟨"PageTurner$Follower", "arrive", "(II)Z"⟩, 7) := ⟨⟨by decide +kernel, by decide +kernel⟩, List.mem_of_getElem? (i := 134) (by decide +kernel), List.mem_of_getElem? (i := 733) (by decide +kernel), List.mem_of_getElem? (i := 734) (by decide +kernel)⟩
theorem lw_p23 : lw_okq (⟨"PageTurner$Follower", "takeNote", "(IILPageTurner$Moment;)V"⟩, 7) := ⟨⟨by decide +kernel, by decide +kernel⟩, List.mem_of_getElem? (i := 134) (by decide +kernel), List.mem_of_getElem? (i := 738) (by decide +kernel), List.mem_of_getElem? (i := 739) (by decide +kernel)⟩
theorem lw_p24 : lw_okq (⟨"PageTurner$Follower", "findPlace", "(ILPageTurner$Moment;)V"⟩, 7) := ⟨⟨by decide +kernel, by decide +kernel⟩, List.mem_of_getElem? (i := 134) (by decide +kernel), List.mem_of_getElem? (i := 749) (by decide +kernel), List.mem_of_getElem? (i := 750) (by decide +kernel)⟩
theorem lw_p25 : lw_okq (⟨"PageTurner$Follower", "dropAnchor", "(LPageTurner$Moment;)V"⟩, 7) := ⟨⟨by decide +kernel, by decide +kernel⟩, List.mem_of_getElem? (i := 134) (by decide +kernel), List.mem_of_getElem? (i := 753) (by decide +kernel), List.mem_of_getElem? (i := 754) (by decide +kernel)⟩
theorem lw_p26 : lw_okq (⟨"PageTurner$Follower", "leastOf", "(I)I"⟩, 7) := ⟨⟨by decide +kernel, by decide +kernel⟩, List.mem_of_getElem? (i := 134) (by decide +kernel), List.mem_of_getElem? (i := 798) (by decide +kernel), List.mem_of_getElem? (i := 799) (by decide +kernel)⟩
theorem lw_p27 : lw_okq (⟨"PageTurnerModel", "fail", "()I"⟩, 45) := ⟨⟨by decide +kernel, by decide +kernel⟩, List.mem_of_getElem? (i := 820) (by decide +kernel), List.mem_of_getElem? (i := 977) (by decide +kernel), List.mem_of_getElem? (i := 978) (by decide +kernel)⟩
theorem lw_p28 : lw_okq (⟨"PageTurnerModel", "readAll", "()V"⟩, 45) := ⟨⟨by decide +kernel, by decide +kernel⟩, List.mem_of_getElem? (i := 820) (by decide +kernel), List.mem_of_getElem? (i := 981) (by decide +kernel), List.mem_of_getElem? (i := 982) (by decide +kernel)⟩
theorem lw_p29 : lw_okq (⟨"PageTurnerModel", "next", "()V"⟩, 45) := ⟨⟨by decide +kernel, by decide +kernel⟩, List.mem_of_getElem? (i := 820) (by decide +kernel), List.mem_of_getElem? (i := 985) (by decide +kernel), List.mem_of_getElem? (i := 986) (by decide +kernel)⟩
theorem lw_p30 : lw_okq (⟨"PageTurnerModel", "byteAt", "(I)I"⟩, 45) := ⟨⟨by decide +kernel, by decide +kernel⟩, List.mem_of_getElem? (i := 820) (by decide +kernel), List.mem_of_getElem? (i := 989) (by decide +kernel), List.mem_of_getElem? (i := 990) (by decide +kernel)⟩
theorem lw_p31 : lw_okq (⟨"PageTurnerModel", "isSign", "(I)Z"⟩, 45) := ⟨⟨by decide +kernel, by decide +kernel⟩, List.mem_of_getElem? (i := 820) (by decide +kernel), List.mem_of_getElem? (i := 1000) (by decide +kernel), List.mem_of_getElem? (i := 1001) (by decide +kernel)⟩
def lw_privs_2 : List (MethodName × Nat) := [(⟨"PageTurner$Score", "write", "(III)V"⟩, 7), (⟨"PageTurner$Reader", "takePitch", "()V"⟩, 10), (⟨"PageTurner$Reader", "takeBarOrPage", "()V"⟩, 10), (⟨"PageTurner$Follower", "makeSilentMoves", "()V"⟩, 7), (⟨"PageTurner$Follower", "departureFrom", "(I)I"⟩, 7), (⟨"PageTurner$Follower", "walkOn", "()Z"⟩, 7), (⟨"PageTurner$Follower", "arrive", "(II)Z"⟩, 7), (⟨"PageTurner$Follower", "takeNote", "(IILPageTurner$Moment;)V"⟩, 7), (⟨"PageTurner$Follower", "findPlace", "(ILPageTurner$Moment;)V"⟩, 7), (⟨"PageTurner$Follower", "dropAnchor", "(LPageTurner$Moment;)V"⟩, 7), (⟨"PageTurner$Follower", "leastOf", "(I)I"⟩, 7), (⟨"PageTurnerModel", "fail", "()I"⟩, 45), (⟨"PageTurnerModel", "readAll", "()V"⟩, 45), (⟨"PageTurnerModel", "next", "()V"⟩, 45), (⟨"PageTurnerModel", "byteAt", "(I)I"⟩, 45), (⟨"PageTurnerModel", "isSign", "(I)Z"⟩, 45)]
theorem lw_r2 : ∀ q ∈ lw_privs_2, lw_okq q := List.forall_mem_cons.mpr ⟨lw_p16, List.forall_mem_cons.mpr ⟨lw_p17, List.forall_mem_cons.mpr ⟨lw_p18, List.forall_mem_cons.mpr ⟨lw_p19, List.forall_mem_cons.mpr ⟨lw_p20, List.forall_mem_cons.mpr ⟨lw_p21, List.forall_mem_cons.mpr ⟨lw_p22, List.forall_mem_cons.mpr ⟨lw_p23, List.forall_mem_cons.mpr ⟨lw_p24, List.forall_mem_cons.mpr ⟨lw_p25, List.forall_mem_cons.mpr ⟨lw_p26, List.forall_mem_cons.mpr ⟨lw_p27, List.forall_mem_cons.mpr ⟨lw_p28, List.forall_mem_cons.mpr ⟨lw_p29, List.forall_mem_cons.mpr ⟨lw_p30, List.forall_mem_cons.mpr ⟨lw_p31, fun _ h => absurd h List.not_mem_nil⟩⟩⟩⟩⟩⟩⟩⟩⟩⟩⟩⟩⟩⟩⟩⟩
theorem lw_p32 : lw_okq (⟨"PageTurnerModel", "beginsMarked", "()Z"⟩, 45) := ⟨⟨by decide +kernel, by decide +kernel⟩, List.mem_of_getElem? (i := 820) (by decide +kernel), List.mem_of_getElem? (i := 1004) (by decide +kernel), List.mem_of_getElem? (i := 1005) (by decide +kernel)⟩
theorem lw_p33 : lw_okq (⟨"PageTurnerModel", "beginsEvent", "()Z"⟩, 45) := ⟨⟨by decide +kernel, by decide +kernel⟩, List.mem_of_getElem? (i := 820) (by decide +kernel), List.mem_of_getElem? (i := 1008) (by decide +kernel), List.mem_of_getElem? (i := 1009) (by decide +kernel)⟩
theorem lw_p34 : lw_okq (⟨"PageTurnerModel", "wrong", "(I)V"⟩, 45) := ⟨⟨by decide +kernel, by decide +kernel⟩, List.mem_of_getElem? (i := 820) (by decide +kernel), List.mem_of_getElem? (i := 1012) (by decide +kernel), List.mem_of_getElem? (i := 1013) (by decide +kernel)⟩
theorem lw_p35 : lw_okq (⟨"PageTurnerModel", "readMarked", "(I)V"⟩, 45) := ⟨⟨by decide +kernel, by decide +kernel⟩, List.mem_of_getElem? (i := 820) (by decide +kernel), List.mem_of_getElem? (i := 1016) (by decide +kernel), List.mem_of_getElem? (i := 1017) (by decide +kernel)⟩
theorem lw_p36 : lw_okq (⟨"PageTurnerModel", "readPitch", "(I)V"⟩, 45) := ⟨⟨by decide +kernel, by decide +kernel⟩, List.mem_of_getElem? (i := 820) (by decide +kernel), List.mem_of_getElem? (i := 1020) (by decide +kernel), List.mem_of_getElem? (i := 1021) (by decide +kernel)⟩
theorem lw_p37 : lw_okq (⟨"PageTurnerModel", "need", "(I)V"⟩, 45) := ⟨⟨by decide +kernel, by decide +kernel⟩, List.mem_of_getElem? (i := 820) (by decide +kernel), List.mem_of_getElem? (i := 1024) (by decide +kernel), List.mem_of_getElem? (i := 1025) (by decide +kernel)⟩
theorem lw_p38 : lw_okq (⟨"PageTurnerModel", "begin", "()V"⟩, 45) := ⟨⟨by decide +kernel, by decide +kernel⟩, List.mem_of_getElem? (i := 820) (by decide +kernel), List.mem_of_getElem? (i := 1028) (by decide +kernel), List.mem_of_getElem? (i := 1029) (by decide +kernel)⟩
theorem lw_p39 : lw_okq (⟨"PageTurnerModel", "bringDown", "([I)V"⟩, 45) := ⟨⟨by decide +kernel, by decide +kernel⟩, List.mem_of_getElem? (i := 820) (by decide +kernel), List.mem_of_getElem? (i := 1054) (by decide +kernel), List.mem_of_getElem? (i := 1055) (by decide +kernel)⟩
theorem lw_p40 : lw_okq (⟨"PageTurnerModel", "full", "(I)I"⟩, 45) := ⟨⟨by decide +kernel, by decide +kernel⟩, List.mem_of_getElem? (i := 820) (by decide +kernel), List.mem_of_getElem? (i := 1058) (by decide +kernel), List.mem_of_getElem? (i := 1059) (by decide +kernel)⟩
theorem lw_p41 : lw_okq (⟨"PageTurnerModel", "bring", "(II)Z"⟩, 45) := ⟨⟨by decide +kernel, by decide +kernel⟩, List.mem_of_getElem? (i := 820) (by decide +kernel), List.mem_of_getElem? (i := 1065) (by decide +kernel), List.mem_of_getElem? (i := 1066) (by decide +kernel)⟩
theorem lw_p42 : lw_okq (⟨"PageTurnerModel", "hear", "(I[I)V"⟩, 45) := ⟨⟨by decide +kernel, by decide +kernel⟩, List.mem_of_getElem? (i := 820) (by decide +kernel), List.mem_of_getElem? (i := 1069) (by decide +kernel), List.mem_of_getElem? (i := 1070) (by decide +kernel)⟩
theorem lw_p43 : lw_okq (⟨"PageTurnerModel", "come", "([III)V"⟩, 45) := ⟨⟨by decide +kernel, by decide +kernel⟩, List.mem_of_getElem? (i := 820) (by decide +kernel), List.mem_of_getElem? (i := 1073) (by decide +kernel), List.mem_of_getElem? (i := 1074) (by decide +kernel)⟩
theorem lw_p44 : lw_okq (⟨"PageTurnerModel", "findPlace", "(I)V"⟩, 45) := ⟨⟨by decide +kernel, by decide +kernel⟩, List.mem_of_getElem? (i := 820) (by decide +kernel), List.mem_of_getElem? (i := 1077) (by decide +kernel), List.mem_of_getElem? (i := 1078) (by decide +kernel)⟩
theorem lw_p45 : lw_okq (⟨"PageTurnerModel", "anchor", "()V"⟩, 45) := ⟨⟨by decide +kernel, by decide +kernel⟩, List.mem_of_getElem? (i := 820) (by decide +kernel), List.mem_of_getElem? (i := 1081) (by decide +kernel), List.mem_of_getElem? (i := 1082) (by decide +kernel)⟩
theorem lw_p46 : lw_okq (⟨"PageTurnerModel", "upper", "()I"⟩, 45) := ⟨⟨by decide +kernel, by decide +kernel⟩, List.mem_of_getElem? (i := 820) (by decide +kernel), List.mem_of_getElem? (i := 1109) (by decide +kernel), List.mem_of_getElem? (i := 1110) (by decide +kernel)⟩
theorem lw_p47 : lw_okq (⟨"PageTurnerModel", "lower", "()I"⟩, 45) := ⟨⟨by decide +kernel, by decide +kernel⟩, List.mem_of_getElem? (i := 820) (by decide +kernel), List.mem_of_getElem? (i := 1114) (by decide +kernel), List.mem_of_getElem? (i := 1115) (by decide +kernel)⟩
def lw_privs_3 : List (MethodName × Nat) := [(⟨"PageTurnerModel", "beginsMarked", "()Z"⟩, 45), (⟨"PageTurnerModel", "beginsEvent", "()Z"⟩, 45), (⟨"PageTurnerModel", "wrong", "(I)V"⟩, 45), (⟨"PageTurnerModel", "readMarked", "(I)V"⟩, 45), (⟨"PageTurnerModel", "readPitch", "(I)V"⟩, 45), (⟨"PageTurnerModel", "need", "(I)V"⟩, 45), (⟨"PageTurnerModel", "begin", "()V"⟩, 45), (⟨"PageTurnerModel", "bringDown", "([I)V"⟩, 45), (⟨"PageTurnerModel", "full", "(I)I"⟩, 45), (⟨"PageTurnerModel", "bring", "(II)Z"⟩, 45), (⟨"PageTurnerModel", "hear", "(I[I)V"⟩, 45), (⟨"PageTurnerModel", "come", "([III)V"⟩, 45), (⟨"PageTurnerModel", "findPlace", "(I)V"⟩, 45), (⟨"PageTurnerModel", "anchor", "()V"⟩, 45), (⟨"PageTurnerModel", "upper", "()I"⟩, 45), (⟨"PageTurnerModel", "lower", "()I"⟩, 45)]
theorem lw_r3 : ∀ q ∈ lw_privs_3, lw_okq q := List.forall_mem_cons.mpr ⟨lw_p32, List.forall_mem_cons.mpr ⟨lw_p33, List.forall_mem_cons.mpr ⟨lw_p34, List.forall_mem_cons.mpr ⟨lw_p35, List.forall_mem_cons.mpr ⟨lw_p36, List.forall_mem_cons.mpr ⟨lw_p37, List.forall_mem_cons.mpr ⟨lw_p38, List.forall_mem_cons.mpr ⟨lw_p39, List.forall_mem_cons.mpr ⟨lw_p40, List.forall_mem_cons.mpr ⟨lw_p41, List.forall_mem_cons.mpr ⟨lw_p42, List.forall_mem_cons.mpr ⟨lw_p43, List.forall_mem_cons.mpr ⟨lw_p44, List.forall_mem_cons.mpr ⟨lw_p45, List.forall_mem_cons.mpr ⟨lw_p46, List.forall_mem_cons.mpr ⟨lw_p47, fun _ h => absurd h List.not_mem_nil⟩⟩⟩⟩⟩⟩⟩⟩⟩⟩⟩⟩⟩⟩⟩⟩
theorem lw_p48 : lw_okq (⟨"PageTurnerModel", "timeOf", "(I)J"⟩, 45) := ⟨⟨by decide +kernel, by decide +kernel⟩, List.mem_of_getElem? (i := 820) (by decide +kernel), List.mem_of_getElem? (i := 1124) (by decide +kernel), List.mem_of_getElem? (i := 1125) (by decide +kernel)⟩
def lw_privs_4 : List (MethodName × Nat) := [(⟨"PageTurnerModel", "timeOf", "(I)J"⟩, 45)]
theorem lw_r4 : ∀ q ∈ lw_privs_4, lw_okq q := List.forall_mem_cons.mpr ⟨lw_p48, fun _ h => absurd h List.not_mem_nil⟩
def lw_privs : List (MethodName × Nat) := lw_privs_1 ++ (lw_privs_2 ++ (lw_privs_3 ++ (lw_privs_4)))
def lw_tbl : List Cond := k2_sels lw_privs ++ tables_1
theorem lw_privs_ok : ∀ q ∈ lw_privs, lw_okq q := by
  show ∀ q ∈ lw_privs_1 ++ (lw_privs_2 ++ (lw_privs_3 ++ (lw_privs_4))), lw_okq q
  exact List.forall_mem_append.mpr ⟨lw_r1, List.forall_mem_append.mpr ⟨lw_r2, List.forall_mem_append.mpr ⟨lw_r3, lw_r4⟩⟩⟩
end
section
/-! ===== BEGIN words of one list among another's, by their places ===== -/
theorem goodIn_r {big : List Cond} (ws : List Cond) (ps : List Nat) (hp : ws = ps.filterMap (fun i => big[i]?)) (h : ws.all goodWord = true) : GoodIn big ws := by
  intro w hw
  have h1 := List.all_eq_true.mp h w hw
  rw [hp] at hw
  obtain ⟨i, -, hi⟩ := List.mem_filterMap.mp hw
  have hm : w ∈ big := by first | exact List.mem_of_getElem? hi | exact List.getElem?_mem hi
  exact ⟨hm, good_of_word h1⟩
theorem goodIn_app {big a b : List Cond} (ha : GoodIn big a) (hb : GoodIn big b) : GoodIn big (a ++ b) := fun w h => (List.mem_append.mp h).elim (ha w) (hb w)
theorem goodIn_ca {big a b : List Cond} {c : Cond} (ha : GoodIn big (c :: a)) (hb : GoodIn big b) : GoodIn big (c :: (a ++ b)) := fun w h => (List.mem_cons.mp h).elim (fun e => ha w (List.mem_cons.mpr (Or.inl e))) (fun h => (List.mem_append.mp h).elim (fun h => ha w (List.mem_cons.mpr (Or.inr h))) (hb w))
theorem goodIn_sub {big ws : List Cond} (hm : ∀ w ∈ ws, w ∈ big) (h : ws.all goodWord = true) : GoodIn big ws := fun w hw => ⟨hm w hw, good_of_word (List.all_eq_true.mp h w hw)⟩
/-! ===== END ===== -/


/-! ===== BEGIN exceptions that leave a method, and their catching by the caller (launches without stack traces) ===== -/
section VXA
/-! The laws vx_back, vx_callV, vx_callS, vx_callSW, vx_throw0, vx_throwS follow proofs of the library, with one case more: JvmDerived/Free/Laws.lean (Back.of_free), Shelf42/LK1.lean (callV, callS), Shelf/KitTraced.lean (throwNew0V, throwNewS). -/
/-- where a method has thrown q: the class by its name, the cell, what was written, the world -/
def vx_T (XC : String → State → State → Prop) (st : State) (q : Addr) (t : State) (mc ms : Nat) (free : Addr → Prop) : Prop :=
  ∃ (E : String) (ce : Cell) (L : List Loc), XC E st t ∧ t.heap[q]? = some ce ∧ ce.vm = .none ∧ st.vm.findClass E = some ce.cls ∧ st.WarmedH t.vm ∧ st.sameButNew ({ t with vm := st.vm } : State) L mc ms ∧ ∀ z ∈ L, free z.base
def vx_Q (Qc : Array Value → State → Outcome → State → Prop) (XC : String → State → State → Prop) (mc ms : Nat) (free : Addr → Prop) : Array Value → State → Outcome → State → Prop := fun a st o t =>
  (Qc a st o t ∧ ∃ L, FrameEnd st o t L mc ms ∧ ∀ q ∈ L, free q.base) ∨ ∃ q, o = .threw q ∧ vx_T XC st q t mc ms free
/-- a callee that returns or throws -/
def vx_Met (l : Launch) (y : MethodName) (ws : List Cond) (rm : Room) (Pc : Array Value → State → Prop) (Qc : Array Value → State → Outcome → State → Prop) (XC : String → State → State → Prop) (mc ms : Nat) (free : Addr → Prop) : Prop :=
  MetFree l y (headSpec ws rm) Pc (fun _ _ _ _ _ => True) (vx_Q Qc XC mc ms free)
def vx_Post (XC : String → State → State → Prop) (mc ms : Nat) (free : Addr → Prop) : Pt → Array Value → Addr → Pt → Prop := fun A a q B =>
  ∃ (g : JFrame) (mk : MethodId) (t : State) (L : List Loc) (E : String) (ce : Cell), B.U.heap = t.heap ∧ B.U.vm = t.vm ∧ XC E (A.U.calling g mk a) t ∧ t.heap[q]? = some ce ∧ ce.vm = .none ∧ A.U.vm.findClass E = some ce.cls ∧ B.locs = A.locs ++ L ∧ (∀ z ∈ L, free z.base) ∧ B.cells = A.cells + mc ∧ B.slots = A.slots + ms
def vx_Back (l : Launch) (R : Room) (p : Program) (e : Env) (below : List Frame) (s : State) (sargs : Array Value) (y : MethodName) (len W9 : Nat)
    (Pre : Pt → Array Value → Prop) (Post : Pt → Array Value → Option Value → Pt → Prop) (PostX : Pt → Array Value → Addr → Pt → Prop) : Prop :=
  ∀ (m : MethodId) (meth : Method) (c : Code) (A : Pt) (g : JFrame) (ig : Instr) (mk : MethodId) (a : Array Value),
    Stand p l e R s m sargs below meth c A.U A.locs A.cells A.slots → g.method = m → g.locals.size = c.maxLocals → decode c.code g.pc = .ok (ig, len) →
    2 * g.monitorRoom + (g.stack.map fun v => v.category).sum ≤ W9 → A.U.methodNamed? y = some mk → Pre A a →
    (∃ (v : Option Value) (B : Pt), Stand p l e R s m sargs below meth c B.U B.locs B.cells B.slots ∧ Post A a v B ∧
      Steps p.tables e below (doInvoke e (A.U.setTop g) [] mk a).1 (B.U.setTop { g with pc := g.pc + len, stack := v.toList ++ g.stack })) ∨
    (∃ (q : Addr) (B : Pt), Stand p l e R s m sargs below meth c B.U B.locs B.cells B.slots ∧ PostX A a q B ∧
      Steps p.tables e below (doInvoke e (A.U.setTop g) [] mk a).1 ((B.U.setTop g).pushFrame (.throwing q)))
section Payer
variable {l : Launch} {R : Room} {p : Program} {e : Env} {below : List Frame} {s : State} {sargs : Array Value} {y : MethodName} {len W9 : Nat}
theorem vx_back {ws : List Cond} {rm : Room} {Pc : Array Value → State → Prop} {Qc : Array Value → State → Outcome → State → Prop} {XC : String → State → State → Prop} {mc ms : Nat} {free : Addr → Prop} {bytes : ByteArray} {maxL : Nat} {ret : Option FieldType}
    (hM : vx_Met l y ws rm Pc Qc XC mc ms free) (hblind : FrameBlind Pc) (hrc : rm.cells = mc) (hrs : rm.slots = ms)
    (hframes : rm.frames + 1 ≤ R.frames) (hlocals : W9 + (maxL + 11) + rm.locals ≤ R.locals)
    (hws : ∀ w ∈ ws, ∀ a' U, s.WarmedH U.vm → w.before a' U = true) (hcode : Cond.code y bytes maxL ret ∈ ws) (hinit : ∀ a' U, s.WarmedH U.vm → (Cond.initialized y.cls).before a' U = true) :
    vx_Back l R p e below s sargs y len W9 (PreOf R mc ms Pc) (PostOf Qc mc ms free) (vx_Post XC mc ms free) := by
  intro m meth c A g ig mk a X hg hsize hdg hW hn hp
  have h1 : (headSpec ws rm).pre.before a A.U = true := atoms_intro fun w hw => hws w hw _ _ X.warmed
  have h2 : (Cond.code y bytes maxL ret).before a A.U = true := hws _ hcode _ _ X.warmed
  have h3 : (Cond.initialized y.cls).before a A.U = true := hinit _ _ X.warmed
  have h4 : A.cells + (headSpec ws rm).room.cells ≤ R.cells := by rw [show (headSpec ws rm).room.cells = mc from hrc]; exact hp.1
  have h5 : A.slots + (headSpec ws rm).room.slots ≤ R.slots := by rw [show (headSpec ws rm).room.slots = ms from hrs]; exact hp.2.1
  have hPc : Pc a (A.U.calling g mk a) := hblind _ _ _ _ hp.2.2
  obtain ⟨U, Ls, c0, s0⟩ := A
  dsimp only [Pt.U, Pt.locs, Pt.cells, Pt.slots] at h1 h2 h3 h4 h5 X hn hPc ⊢
  obtain ⟨methY, cY, hmY, hcY, -, hlY, -, -, -, -⟩ := Cond.code_spec hn h2
  obtain ⟨kY, hkY, -⟩ := className_of_methodNamed hn
  have hinitY : kY.init = .initialized := Cond.initialized_spec (findClass_of_methodNamed hn) hkY h3
  have h : At U g.method c below := by rw [hg]; exact X.here
  have hlocals9 : W9 + (maxL + 11) + (headSpec ws rm).room.locals ≤ R.locals := hlocals
  have happ : (headSpec ws rm).appliesLoose y e.platform (U.calling g mk a) = true :=
    Spec.appliesLoose_calling (g := g) h hdg hn hkY hinitY
      (X.room_calling (g := g) (R' := (headSpec ws rm).room) hsize hmY hcY hframes (by rw [hlY]; omega) h4 h5) h1
  obtain ⟨mid, hmid⟩ := h.above
  have hfr : (U.setTop g).frames = (.java g :: mid) ++ below := by rw [State.frames_setTop' g h.top, hmid]; rfl
  obtain ⟨o, s₂, hsteps, -, hend, hq⟩ := Steps.callFree hM p X.admits X.cas X.clock (acts := []) hfr happ hPc trivial
  have hq' : vx_Q Qc XC mc ms free a (U.calling g mk a) o s₂ := hq
  rw [State.frames_setTop' g h.top] at hend
  obtain ⟨g₀, hg0⟩ := Option.isSome_iff_exists.mp h.top
  obtain ⟨r, hr⟩ := State.topJava?_eq_some.mp hg0
  have hr' : (({ U with heap := s₂.heap, slotsUsed := s₂.slotsUsed } : State).setVm s₂.vm).frames = .java g₀ :: r := hr
  rcases hq' with ⟨hqc, L, hfe, hL⟩ | ⟨q, rfl, E, ce, L, hx, hce, hcv, hcl, hW₂, hsm, hL⟩
  · obtain ⟨⟨v, rfl⟩, hW₂, e2, q2, q3, q4, q5, q6⟩ := id hfe
    have e3 : s₂ = ({ (U.calling g mk a).setFrames s₂.frames with heap := s₂.heap, slotsUsed := s₂.slotsUsed } : State).setVm s₂.vm := by
      have : s₂ = ({ s₂ with vm := (U.calling g mk a).vm } : State).setVm s₂.vm := rfl
      rw [e2] at this
      exact this
    obtain ⟨c₂, i₂, len₂, hc₂, hd₂, hf₂⟩ := hend
    have hW' : U.WarmedH s₂.vm := hW₂
    have hcc : c₂ = c := by
      have h1 : s₂.code? g.method = U.code? g.method := by
        rw [State.code?_eq, State.code?_eq, hW'.alike.method?]
      exact Option.some.inj (hc₂.symm.trans (h1.trans h.code))
    subst hcc
    have hlen : len₂ = len := by rw [hdg] at hd₂; cases hd₂; rfl
    subst hlen
    have hs₂ : s₂ = (({ U with heap := s₂.heap, slotsUsed := s₂.slotsUsed } : State).setVm s₂.vm).setTop { g with pc := g.pc + len₂, stack := v.toList ++ g.stack } := by
      refine e3.trans ?_
      rw [hf₂, State.calling_eq h.top, State.setFrames_setFrames, State.setTop_of_frames _ hr', hr]
      rfl
    have hsame : U.sameButNew ({ U with heap := s₂.heap, slotsUsed := s₂.slotsUsed } : State) L mc ms := by
      refine ⟨?_, q2, q3, q4, q5, q6⟩
      obtain ⟨t, ht, -⟩ := State.frames_cons hr
      show ({ U with heap := s₂.heap, slotsUsed := s₂.slotsUsed } : State) = { U.setFrames U.frames with heap := s₂.heap, slotsUsed := s₂.slotsUsed }
      rw [State.setFrames_self ht]
    subst hg
    refine Or.inl ⟨v, ⟨(({ U with heap := s₂.heap, slotsUsed := s₂.slotsUsed } : State).setVm s₂.vm), Ls ++ L, c0 + mc, s0 + ms⟩,
      ⟨X.admits, X.cas, X.clock, X.frames, X.room, X.hears, X.method, X.code, (X.here.setHeapUsed s₂.heap s₂.slotsUsed).setVm hW'.alike, X.tail, State.WarmedH.trans X.warmed hW', X.limits, X.bytes, X.same.trans (hsame.setVm s.vm)⟩,
      ⟨g, mk, s₂, L, rfl, rfl, hqc, rfl, hL, rfl, rfl⟩, ?_⟩
    show Steps p.tables e below _ ((({ U with heap := s₂.heap, slotsUsed := s₂.slotsUsed } : State).setVm s₂.vm).setTop { g with pc := g.pc + len₂, stack := v.toList ++ g.stack })
    rw [← hs₂]
    exact hsteps
  · obtain ⟨e2, q2, q3, q4, q5, q6⟩ := id hsm
    have e3 : s₂ = ({ (U.calling g mk a).setFrames s₂.frames with heap := s₂.heap, slotsUsed := s₂.slotsUsed } : State).setVm s₂.vm := by
      have : s₂ = ({ s₂ with vm := (U.calling g mk a).vm } : State).setVm s₂.vm := rfl
      rw [e2] at this
      exact this
    have hf₂ : s₂.frames = .throwing q :: .java g :: U.frames.tail := hend
    have hW' : U.WarmedH s₂.vm := hW₂
    have hs₂ : s₂ = ((({ U with heap := s₂.heap, slotsUsed := s₂.slotsUsed } : State).setVm s₂.vm).setTop g).pushFrame (.throwing q) := by
      refine e3.trans ?_
      rw [hf₂, State.calling_eq h.top, State.setFrames_setFrames, State.pushFrame, State.frames_setTop _ hr', State.setTop_of_frames _ hr', State.setFrames_setFrames, hr]
      rfl
    have hsame : U.sameButNew ({ U with heap := s₂.heap, slotsUsed := s₂.slotsUsed } : State) L mc ms := by
      refine ⟨?_, q2, q3, q4, q5, q6⟩
      obtain ⟨t, ht, -⟩ := State.frames_cons hr
      show ({ U with heap := s₂.heap, slotsUsed := s₂.slotsUsed } : State) = { U.setFrames U.frames with heap := s₂.heap, slotsUsed := s₂.slotsUsed }
      rw [State.setFrames_self ht]
    subst hg
    refine Or.inr ⟨q, ⟨(({ U with heap := s₂.heap, slotsUsed := s₂.slotsUsed } : State).setVm s₂.vm), Ls ++ L, c0 + mc, s0 + ms⟩,
      ⟨X.admits, X.cas, X.clock, X.frames, X.room, X.hears, X.method, X.code, (X.here.setHeapUsed s₂.heap s₂.slotsUsed).setVm hW'.alike, X.tail, State.WarmedH.trans X.warmed hW', X.limits, X.bytes, X.same.trans (hsame.setVm s.vm)⟩,
      ⟨g, mk, s₂, L, E, ce, rfl, rfl, hx, hce, hcv, hcl, rfl, hL, rfl, rfl⟩, ?_⟩
    show Steps p.tables e below _ (((({ U with heap := s₂.heap, slotsUsed := s₂.slotsUsed } : State).setVm s₂.vm).setTop g).pushFrame (.throwing q))
    rw [← hs₂]
    exact hsteps
end Payer
section Calls
variable {p : Program} {l : Launch} {e : Env} {R : Room} {s : State} {m : MethodId} {args : Array Value} {below : List Frame} {meth : Method} {c : Code} {T : State} {locs : List Loc} {cells slots : Nat}
theorem vx_callV (X : Stand p l e R s m args below meth c T locs cells slots) (hexec : p.tables.exec = Jvm.exec) {own C : String} {index : Nat} {y : MethodName} {bytes : ByteArray} {maxL : Nat} {ret : Option FieldType}
    (hown : s.vm.findClass own = some m.cls) (hlink : (Cond.methodLink own index y).before args s = true) (hinst : (Cond.instanceMethod y).before args s = true) (hsel : (Cond.selects C y y).before args s = true)
    (hcode : (Cond.code y bytes maxL ret).before args s = true) (hy : y.cls ≠ "java/lang/invoke/MethodHandle" ∧ y.cls ≠ "java/lang/invoke/VarHandle")
    {W9 : Nat} {Pre : Pt → Array Value → Prop} {Post : Pt → Array Value → Option Value → Pt → Prop} {PostX : Pt → Array Value → Addr → Pt → Prop} (hK : vx_Back l R p e below s args y 3 W9 Pre Post PostX)
    {b : Addr} {cellB : Cell} (hcell : T.heap[b]? = some cellB) (hobj : cellB.vm.isStatics = false) (hcls : s.vm.findClass C = some cellB.cls)
    {g : JFrame} (hg : g.method = m) (hsize : g.locals.size = c.maxLocals) {argsL rest : List Value} (hlen : ∀ sig, parseMethodDescriptor y.desc = some sig → argsL.length = sig.parameters.length)
    (hstack : g.stack = argsL.reverse ++ .ref b :: rest) (hW : 2 * g.monitorRoom + (rest.map fun v => v.category).sum ≤ W9) (hdg : decode c.code g.pc = .ok (.invokevirtual index, 3))
    (hpre : ∀ vm₁, s.WarmedH vm₁ → Pre ⟨T.setVm vm₁, locs, cells, slots⟩ (Value.ref b :: argsL).toArray) :
    (∃ (v : Option Value) (vm₁ : Vm) (B : Pt), s.WarmedH vm₁ ∧ Stand p l e R s m args below meth c B.U B.locs B.cells B.slots ∧ Post ⟨T.setVm vm₁, locs, cells, slots⟩ (Value.ref b :: argsL).toArray v B ∧
      ∀ target, Steps p.tables e below (B.U.setTop { g with pc := g.pc + 3, stack := v.toList ++ rest }) target → Steps p.tables e below (T.setTop g) target) ∨
    (∃ (q : Addr) (vm₁ : Vm) (B : Pt), s.WarmedH vm₁ ∧ Stand p l e R s m args below meth c B.U B.locs B.cells B.slots ∧ PostX ⟨T.setVm vm₁, locs, cells, slots⟩ (Value.ref b :: argsL).toArray q B ∧
      Steps p.tables e below (T.setTop g) ((B.U.setTop { g with stack := rest }).pushFrame (.throwing q))) := by
  obtain ⟨mk, methM, hnamed, hmethM, hstM, habM⟩ := Cond.instanceMethod_spec hinst
  obtain ⟨methM', cM, hmethM', -, -, -, -, -, -, hsigM⟩ := Cond.code_spec hnamed hcode
  cases hmethM.symm.trans hmethM'
  obtain ⟨c2, r2, m2, q1, q2, q3, q4, kP, hkP, hkPi⟩ := Cond.selects_spec hsel
  cases hcls.symm.trans q1
  cases (State.methodFound?_of_named hnamed hy).symm.trans q2
  cases hnamed.symm.trans q3
  have hselP : selectMethod e.platform s.vm cellB.cls mk = .method mk := by rw [Launch.admits_selectMethod X.admits]; exact q4
  obtain ⟨vm₁, X₁, hstep₁⟩ := X.invokevirtual hexec hown hlink hnamed hmethM hstM hkP hkPi hy (a := b) (cell := cellB) hcell
    (fun z h => by rw [h] at hobj; cases hobj) hselP hmethM habM hkP hkPi (g := g) hg (argsL := argsL) (rest := rest) (hlen _ hsigM) hstack hdg
  rcases hK m meth c ⟨T.setVm vm₁, locs, cells, slots⟩ { g with stack := rest } (.invokevirtual index) mk (Value.ref b :: argsL).toArray X₁ hg hsize hdg hW (X₁.named hnamed) (hpre vm₁ X₁.warmed) with ⟨v, B, X', hpost, hsteps⟩ | ⟨q, B, X', hpost, hsteps⟩
  · exact Or.inl ⟨v, vm₁, B, X₁.warmed, X', hpost, fun target h => hstep₁ _ fun acts => by rw [doInvoke_state]; exact hsteps.trans h⟩
  · exact Or.inr ⟨q, vm₁, B, X₁.warmed, X', hpost, hstep₁ _ fun acts => by rw [doInvoke_state]; exact hsteps⟩
theorem vx_callS (X : Stand p l e R s m args below meth c T locs cells slots) (hexec : p.tables.exec = Jvm.exec) {own : String} {index : Nat} {y : MethodName} {bytes : ByteArray} {maxL : Nat} {ret : Option FieldType}
    (hown : s.vm.findClass own = some m.cls) (hlink : (Cond.methodLink own index y).before args s = true) (hstat : (Cond.static y).before args s = true) (hinit : (Cond.initialized y.cls).before args s = true)
    (hcode : (Cond.code y bytes maxL ret).before args s = true) (hy : y.cls ≠ "java/lang/invoke/MethodHandle" ∧ y.cls ≠ "java/lang/invoke/VarHandle")
    {W9 : Nat} {Pre : Pt → Array Value → Prop} {Post : Pt → Array Value → Option Value → Pt → Prop} {PostX : Pt → Array Value → Addr → Pt → Prop} (hK : vx_Back l R p e below s args y 3 W9 Pre Post PostX)
    {g : JFrame} (hg : g.method = m) (hsize : g.locals.size = c.maxLocals) {argsL rest : List Value} (hlen : ∀ sig, parseMethodDescriptor y.desc = some sig → argsL.length = sig.parameters.length)
    (hstack : g.stack = argsL.reverse ++ rest) (hW : 2 * g.monitorRoom + (rest.map fun v => v.category).sum ≤ W9) (hdg : decode c.code g.pc = .ok (.invokestatic index, 3))
    (hpre : ∀ vm₁, s.WarmedH vm₁ → Pre ⟨T.setVm vm₁, locs, cells, slots⟩ argsL.toArray) :
    (∃ (v : Option Value) (vm₁ : Vm) (B : Pt), s.WarmedH vm₁ ∧ Stand p l e R s m args below meth c B.U B.locs B.cells B.slots ∧ Post ⟨T.setVm vm₁, locs, cells, slots⟩ argsL.toArray v B ∧
      ∀ target, Steps p.tables e below (B.U.setTop { g with pc := g.pc + 3, stack := v.toList ++ rest }) target → Steps p.tables e below (T.setTop g) target) ∨
    (∃ (q : Addr) (vm₁ : Vm) (B : Pt), s.WarmedH vm₁ ∧ Stand p l e R s m args below meth c B.U B.locs B.cells B.slots ∧ PostX ⟨T.setVm vm₁, locs, cells, slots⟩ argsL.toArray q B ∧
      Steps p.tables e below (T.setTop g) ((B.U.setTop { g with stack := rest }).pushFrame (.throwing q))) := by
  obtain ⟨mk, hnamed⟩ := Cond.code_named hcode
  obtain ⟨methM, cM, hmethM, -, -, -, -, -, -, hsigM⟩ := Cond.code_spec hnamed hcode
  have hstatic : methM.isStatic = true := Cond.static_spec hnamed hmethM hstat
  obtain ⟨kP, hkP, -⟩ := className_of_methodNamed hnamed
  have hinitP : kP.init = .initialized := Cond.initialized_spec (findClass_of_methodNamed hnamed) hkP hinit
  obtain ⟨vm₁, X₁, hstep₁⟩ := X.invokestatic hexec hown hlink hnamed hmethM hstatic hkP hinitP hy (g := g) hg (argsL := argsL) (rest := rest) (hlen _ hsigM) hstack hdg
  rcases hK m meth c ⟨T.setVm vm₁, locs, cells, slots⟩ { g with stack := rest } (.invokestatic index) mk argsL.toArray X₁ hg hsize hdg hW (X₁.named hnamed) (hpre vm₁ X₁.warmed) with ⟨v, B, X', hpost, hsteps⟩ | ⟨q, B, X', hpost, hsteps⟩
  · exact Or.inl ⟨v, vm₁, B, X₁.warmed, X', hpost, fun target h => hstep₁ _ fun acts => by rw [doInvoke_state]; exact hsteps.trans h⟩
  · exact Or.inr ⟨q, vm₁, B, X₁.warmed, X', hpost, hstep₁ _ fun acts => by rw [doInvoke_state]; exact hsteps⟩
end Calls
theorem vx_cls {s : State} {T : State} {vm₁ : Vm} {E : String} {k : ClassId} (hW : s.WarmedH vm₁) (h : (T.setVm vm₁).vm.findClass E = some k) : s.vm.findClass E = some k := by
  have h1 : vm₁.findClass E = some k := h
  rw [hW.alike.findClass] at h1
  exact h1
/-- the method's frame g, with q thrown over it -/
def vx_W (p : Program) (l : Launch) (e : Env) (R : Room) (s : State) (m : MethodId) (args : Array Value) (below : List Frame) (meth : Method) (c : Code) (H : Heap) (locs : List Loc) (cells slots : Nat) (Q : State → Prop) (g : JFrame) (q : Addr) : Prop :=
  ∀ T : State, T.heap = H → Stand p l e R s m args below meth c T locs cells slots → ∃ t, Steps p.tables e below ((T.setTop g).pushFrame (.throwing q)) t ∧ Q t
def vx_Run (p : Program) (l : Launch) (e : Env) (R : Room) (s : State) (m : MethodId) (args : Array Value) (below : List Frame) (meth : Method) (c : Code) (H : Heap) (locs : List Loc) (cells slots mc ms : Nat) (g : JFrame) (rest : List Value) (Qa : State → Outcome → State → Prop) (XC : String → State → State → Prop) (free : Addr → Prop) : Prop :=
  ∀ T : State, T.heap = H → Stand p l e R s m args below meth c T locs cells slots →
    (∃ (v : Option Value) (st₀ t T' : State) (L : List Loc), st₀.heap = H ∧ Stand p l e R s m args below meth c T' (locs ++ L) (cells + mc) (slots + ms) ∧ (∀ q ∈ L, free q.base) ∧ T'.heap = t.heap ∧ T'.vm = t.vm ∧ Qa st₀ (.returned v) t ∧
      Goes p e below T g T' { g with pc := g.pc + 3, stack := v.toList ++ rest }) ∨
    (∃ (q : Addr) (st₀ t T' : State) (L : List Loc) (E : String) (ce : Cell), st₀.heap = H ∧ Stand p l e R s m args below meth c T' (locs ++ L) (cells + mc) (slots + ms) ∧ (∀ z ∈ L, free z.base) ∧ T'.heap = t.heap ∧ T'.vm = t.vm ∧ XC E st₀ t ∧ t.heap[q]? = some ce ∧ ce.vm = .none ∧ s.vm.findClass E = some ce.cls ∧
      Steps p.tables e below (T.setTop g) ((T'.setTop { g with stack := rest }).pushFrame (.throwing q)))
def vx_X {S : Type} (px : S → Prop) (B : String → S → State → Prop) (A : Nat → Prop) : String → State → State → Prop := fun E st t => ∃ u : S, px u ∧ B E u t ∧ va_F A st t
section Runs
variable {p : Program} {l : Launch} {e : Env} {R : Room} {s : State} {m : MethodId} {args : Array Value} {below : List Frame} {meth : Method} {c : Code} {H : Heap} {locs : List Loc} {cells slots : Nat}
variable {y : MethodName} {bytes cc : ByteArray} {maxL nL mc ms n index : Nat} {ret : Option FieldType} {ws : List Cond} {rm : Room} {Pc : Array Value → State → Prop} {Qc : Array Value → State → Outcome → State → Prop} {XC : String → State → State → Prop} {free : Addr → Prop} {Ts : List Cond} {own C : String} {b : Addr} {As rest : List Value} {g : JFrame}
theorem vx_callBack (cb : CallB R s args own index y bytes maxL ret ws rm mc ms n) (hM : vx_Met l y ws rm Pc Qc XC mc ms free) (hbl : FrameBlind Pc) : vx_Back l R p e below s args y 3 8 (PreOf R mc ms Pc) (PostOf Qc mc ms free) (vx_Post XC mc ms free) := by
  obtain ⟨hrc, hrs, hfr, hlo, hws, hcw, -, hini, -⟩ := cb
  exact vx_back (bytes := bytes) (maxL := maxL) (ret := ret) hM hbl hrc hrs hfr hlo hws hcw (fun a' U hW => word_at hW (Or.inl (by first | rfl | simp [Cond.onTables, Cond.keeps, Cond.steady])) hini)
theorem vx_runV (S : CallFix p m c cc nL s args Ts own) (hM : vx_Met l y ws rm Pc Qc XC mc ms free) (cw : CallW R s args own C index y bytes maxL ret ws rm mc ms n) (hp : PreV s H C b Pc As)
    (hg : g.method = m) (hn : As.length = n) (hsize : g.locals.size = nL) (hstack : g.stack = As.reverse ++ .ref b :: rest) (hW : 2 * g.monitorRoom + (rest.map fun v => v.category).sum ≤ 8) (hdg : decode cc g.pc = .ok (.invokevirtual index, 3)) (hf : cells + mc ≤ R.cells ∧ slots + ms ≤ R.slots) :
    vx_Run p l e R s m args below meth c H locs cells slots mc ms g rest (Qc (Value.ref b :: As).toArray) XC free := by
  have hK : vx_Back l R p e below s args y 3 8 (PreOf R mc ms Pc) (PostOf Qc mc ms free) (vx_Post XC mc ms free) := vx_callBack cw.1 hM hp.1
  obtain ⟨⟨-, -, -, -, -, -, hcode, -, hy, hlen, hl⟩, hin, hse⟩ := cw
  obtain ⟨hx, hb, hml, ho, -⟩ := S
  obtain ⟨-, ⟨cellB, hcB, hoB, hclB⟩, hPc⟩ := hp
  intro T hT X
  rcases vx_callV X hx (C := C) (bytes := bytes) (maxL := maxL) (ret := ret) ho hl hin hse hcode hy hK (by rw [hT]; exact hcB) hoB hclB hg (hsize.trans hml.symm) (argsL := As) (rest := rest) (fun sig h => hn.trans (hlen sig h)) hstack hW (by rw [hb]; exact hdg)
    (fun vm₁ hW₁ => ⟨hf.1, hf.2, hPc (T.setVm vm₁) hT hW₁⟩) with ⟨v, vm₁, ⟨U', l2, c2, s2⟩, hW₁, X', ⟨g', mk, t, L, e1, e2, hq, h1, hL, h2, h3⟩, st⟩ | ⟨q, vm₁, ⟨U', l2, c2, s2⟩, hW₁, X', ⟨g', mk, t, L, E, ce, e1, e2, hq, hce, hcv, hcl, h1, hL, h2, h3⟩, st⟩
  · dsimp only [Pt.U, Pt.locs, Pt.cells, Pt.slots] at X' e1 e2 h1 h2 h3 st
    subst h1; subst h2; subst h3
    exact Or.inl ⟨v, (T.setVm vm₁).calling g' mk (Value.ref b :: As).toArray, t, U', L, hT, X', hL, e1, e2, hq, st⟩
  · dsimp only [Pt.U, Pt.locs, Pt.cells, Pt.slots] at X' e1 e2 h1 h2 h3 st hcl
    subst h1; subst h2; subst h3
    exact Or.inr ⟨q, (T.setVm vm₁).calling g' mk (Value.ref b :: As).toArray, t, U', L, E, ce, hT, X', hL, e1, e2, hq, hce, hcv, vx_cls hW₁ hcl, st⟩
theorem vx_runS (S : CallFix p m c cc nL s args Ts own) (hM : vx_Met l y ws rm Pc Qc XC mc ms free) (cw : CallB R s args own index y bytes maxL ret ws rm mc ms n ∧ (Cond.static y).before args s = true) (hp : PreS s H Pc As)
    (hg : g.method = m) (hn : As.length = n) (hsize : g.locals.size = nL) (hstack : g.stack = As.reverse ++ rest) (hW : 2 * g.monitorRoom + (rest.map fun v => v.category).sum ≤ 8) (hdg : decode cc g.pc = .ok (.invokestatic index, 3)) (hf : cells + mc ≤ R.cells ∧ slots + ms ≤ R.slots) :
    vx_Run p l e R s m args below meth c H locs cells slots mc ms g rest (Qc As.toArray) XC free := by
  have hK : vx_Back l R p e below s args y 3 8 (PreOf R mc ms Pc) (PostOf Qc mc ms free) (vx_Post XC mc ms free) := vx_callBack cw.1 hM hp.1
  obtain ⟨⟨-, -, -, -, -, -, hcode, hini, hy, hlen, hl⟩, hstt⟩ := cw
  obtain ⟨hx, hb, hml, ho, -⟩ := S
  intro T hT X
  rcases vx_callS X hx (bytes := bytes) (maxL := maxL) (ret := ret) ho hl hstt hini hcode hy hK hg (hsize.trans hml.symm) (argsL := As) (rest := rest) (fun sig h => hn.trans (hlen sig h)) hstack hW (by rw [hb]; exact hdg)
    (fun vm₁ hW₁ => ⟨hf.1, hf.2, hp.2 (T.setVm vm₁) hT hW₁⟩) with ⟨v, vm₁, ⟨U', l2, c2, s2⟩, hW₁, X', ⟨g', mk, t, L, e1, e2, hq, h1, hL, h2, h3⟩, st⟩ | ⟨q, vm₁, ⟨U', l2, c2, s2⟩, hW₁, X', ⟨g', mk, t, L, E, ce, e1, e2, hq, hce, hcv, hcl, h1, hL, h2, h3⟩, st⟩
  · dsimp only [Pt.U, Pt.locs, Pt.cells, Pt.slots] at X' e1 e2 h1 h2 h3 st
    subst h1; subst h2; subst h3
    exact Or.inl ⟨v, (T.setVm vm₁).calling g' mk As.toArray, t, U', L, hT, X', hL, e1, e2, hq, st⟩
  · dsimp only [Pt.U, Pt.locs, Pt.cells, Pt.slots] at X' e1 e2 h1 h2 h3 st hcl
    subst h1; subst h2; subst h3
    exact Or.inr ⟨q, (T.setVm vm₁).calling g' mk As.toArray, t, U', L, E, ce, hT, X', hL, e1, e2, hq, hce, hcv, vx_cls hW₁ hcl, st⟩
end Runs
section Rows
variable {p : Program} {l : Launch} {e : Env} {R : Room} {s : State} {m : MethodId} {args : Array Value} {below : List Frame} {meth : Method} {c : Code} {H : Heap} {locs : List Loc} {cells slots : Nat} {Q : State → Prop}
variable {mc ms : Nat} {free : Addr → Prop} {A0 A1 : Nat → Prop} {H0 : Heap} {a : Array Value} {pc : Nat} {ls : Array Slot} {st0 rest : List Value}
theorem vx_keep {st₀ t T' : State} {L : List Loc} (h0 : st₀.heap = H) (e1 : T'.heap = t.heap) (hS : va_S A0 H0 H locs) (hA : ∀ q, q < H.size → A1 q → A0 q) (hf : ∀ q, free q → A0 q) (hL : ∀ q ∈ L, free q.base) (hF : va_F A1 st₀ t) :
    H.size ≤ T'.heap.size ∧ (∀ q : Nat, q < H.size → ¬ A1 q → T'.heap[q]? = H[q]?) ∧ va_S A0 H0 T'.heap (locs ++ L) := by
  obtain ⟨hz, hk⟩ := hF
  rw [h0] at hz hk
  exact ⟨by rw [e1]; exact hz, fun q h1 h2 => by rw [e1]; exact hk q h1 h2,
    ⟨Nat.le_trans hS.1 (by rw [e1]; exact hz), fun q h1 h2 => by rw [e1, hk q (Nat.lt_of_lt_of_le h1 hS.1) (fun z => h2 (hA q (Nat.lt_of_lt_of_le h1 hS.1) z))]; exact hS.2.1 q h1 h2, fun q hq => by
      rcases List.mem_append.mp hq with h | h
      · exact hS.2.2 q h
      · exact hf _ (hL q h)⟩⟩
theorem vx_calli {S SX : Type} {post : Int32 → S → Prop} {px : SX → Prop} {B : S → State → Prop} {BX : String → SX → State → Prop} {AX : Nat → Prop} (hr : vx_Run p l e R s m args below meth c H locs cells slots mc ms (F0 m pc ls st0) rest (va_Qi post B A1 a) (vx_X px BX AX) free) (hS : va_S A0 H0 H locs) (hA : ∀ q, q < H.size → A1 q → A0 q) (hf : ∀ q, free q → A0 q) (hAX : ∀ q, q < H.size → AX q → A0 q)
    (kx : ∀ (E : String) (ce : Cell) (q9 : Addr) (u : SX) (t : State) (H1 : Heap) (locs1 : List Loc), t.heap = H1 → s.vm.Alike t.vm → px u → BX E u t → H.size ≤ H1.size → (∀ q : Nat, q < H.size → ¬ AX q → H1[q]? = H[q]?) → va_S A0 H0 H1 locs1 → H1[q9]? = some ce → ce.vm = .none → s.vm.findClass E = some ce.cls → vx_W p l e R s m args below meth c H1 locs1 (cells + mc) (slots + ms) Q (F0 m pc ls rest) q9)
    (kk : ∀ (r : Int32) (u : S) (t : State) (H1 : Heap) (locs1 : List Loc), t.heap = H1 → s.vm.Alike t.vm → post r u → B u t → H.size ≤ H1.size → (∀ q : Nat, q < H.size → ¬ A1 q → H1[q]? = H[q]?) → va_S A0 H0 H1 locs1 → W p l e R s m args below meth c H1 locs1 (cells + mc) (slots + ms) Q (F0 m (pc + 3) ls (.int r :: rest))) : W p l e R s m args below meth c H locs cells slots Q (F0 m pc ls st0) := by
  intro T hT X
  rcases hr T hT X with ⟨v, st₀, t, T', L, h0, X', hL, e1, e2, ⟨⟨r, u, hv, hp, hb⟩, hF⟩, st⟩ | ⟨q, st₀, t, T', L, E, ce, h0, X', hL, e1, e2, ⟨u, hp, hb, hF⟩, hce, hcv, hcl, st⟩
  · cases hv
    obtain ⟨k1, k2, k3⟩ := vx_keep h0 e1 hS hA hf hL hF
    obtain ⟨t2, a1, b1⟩ := kk r u t T'.heap (locs ++ L) e1.symm (by rw [← e2]; exact X'.warmed.alike) hp hb k1 k2 k3 T' rfl X'
    exact ⟨t2, st t2 a1, b1⟩
  · obtain ⟨k1, k2, k3⟩ := vx_keep h0 e1 hS hAX hf hL hF
    obtain ⟨t2, a1, b1⟩ := kx E ce q u t T'.heap (locs ++ L) e1.symm (by rw [← e2]; exact X'.warmed.alike) hp hb k1 k2 k3 (by rw [e1]; exact hce) hcv hcl T' rfl X'
    exact ⟨t2, st.trans a1, b1⟩
theorem vx_calll {S SX : Type} {post : Int64 → S → Prop} {px : SX → Prop} {B : S → State → Prop} {BX : String → SX → State → Prop} {AX : Nat → Prop} (hr : vx_Run p l e R s m args below meth c H locs cells slots mc ms (F0 m pc ls st0) rest (va_Ql post B A1 a) (vx_X px BX AX) free) (hS : va_S A0 H0 H locs) (hA : ∀ q, q < H.size → A1 q → A0 q) (hf : ∀ q, free q → A0 q) (hAX : ∀ q, q < H.size → AX q → A0 q)
    (kx : ∀ (E : String) (ce : Cell) (q9 : Addr) (u : SX) (t : State) (H1 : Heap) (locs1 : List Loc), t.heap = H1 → s.vm.Alike t.vm → px u → BX E u t → H.size ≤ H1.size → (∀ q : Nat, q < H.size → ¬ AX q → H1[q]? = H[q]?) → va_S A0 H0 H1 locs1 → H1[q9]? = some ce → ce.vm = .none → s.vm.findClass E = some ce.cls → vx_W p l e R s m args below meth c H1 locs1 (cells + mc) (slots + ms) Q (F0 m pc ls rest) q9)
    (kk : ∀ (r : Int64) (u : S) (t : State) (H1 : Heap) (locs1 : List Loc), t.heap = H1 → s.vm.Alike t.vm → post r u → B u t → H.size ≤ H1.size → (∀ q : Nat, q < H.size → ¬ A1 q → H1[q]? = H[q]?) → va_S A0 H0 H1 locs1 → W p l e R s m args below meth c H1 locs1 (cells + mc) (slots + ms) Q (F0 m (pc + 3) ls (.long r :: rest))) : W p l e R s m args below meth c H locs cells slots Q (F0 m pc ls st0) := by
  intro T hT X
  rcases hr T hT X with ⟨v, st₀, t, T', L, h0, X', hL, e1, e2, ⟨⟨r, u, hv, hp, hb⟩, hF⟩, st⟩ | ⟨q, st₀, t, T', L, E, ce, h0, X', hL, e1, e2, ⟨u, hp, hb, hF⟩, hce, hcv, hcl, st⟩
  · cases hv
    obtain ⟨k1, k2, k3⟩ := vx_keep h0 e1 hS hA hf hL hF
    obtain ⟨t2, a1, b1⟩ := kk r u t T'.heap (locs ++ L) e1.symm (by rw [← e2]; exact X'.warmed.alike) hp hb k1 k2 k3 T' rfl X'
    exact ⟨t2, st t2 a1, b1⟩
  · obtain ⟨k1, k2, k3⟩ := vx_keep h0 e1 hS hAX hf hL hF
    obtain ⟨t2, a1, b1⟩ := kx E ce q u t T'.heap (locs ++ L) e1.symm (by rw [← e2]; exact X'.warmed.alike) hp hb k1 k2 k3 (by rw [e1]; exact hce) hcv hcl T' rfl X'
    exact ⟨t2, st.trans a1, b1⟩
theorem vx_callf {S SX : Type} {post : UInt32 → S → Prop} {px : SX → Prop} {B : S → State → Prop} {BX : String → SX → State → Prop} {AX : Nat → Prop} (hr : vx_Run p l e R s m args below meth c H locs cells slots mc ms (F0 m pc ls st0) rest (va_Qf post B A1 a) (vx_X px BX AX) free) (hS : va_S A0 H0 H locs) (hA : ∀ q, q < H.size → A1 q → A0 q) (hf : ∀ q, free q → A0 q) (hAX : ∀ q, q < H.size → AX q → A0 q)
    (kx : ∀ (E : String) (ce : Cell) (q9 : Addr) (u : SX) (t : State) (H1 : Heap) (locs1 : List Loc), t.heap = H1 → s.vm.Alike t.vm → px u → BX E u t → H.size ≤ H1.size → (∀ q : Nat, q < H.size → ¬ AX q → H1[q]? = H[q]?) → va_S A0 H0 H1 locs1 → H1[q9]? = some ce → ce.vm = .none → s.vm.findClass E = some ce.cls → vx_W p l e R s m args below meth c H1 locs1 (cells + mc) (slots + ms) Q (F0 m pc ls rest) q9)
    (kk : ∀ (r : UInt32) (u : S) (t : State) (H1 : Heap) (locs1 : List Loc), t.heap = H1 → s.vm.Alike t.vm → post r u → B u t → H.size ≤ H1.size → (∀ q : Nat, q < H.size → ¬ A1 q → H1[q]? = H[q]?) → va_S A0 H0 H1 locs1 → W p l e R s m args below meth c H1 locs1 (cells + mc) (slots + ms) Q (F0 m (pc + 3) ls (.float r :: rest))) : W p l e R s m args below meth c H locs cells slots Q (F0 m pc ls st0) := by
  intro T hT X
  rcases hr T hT X with ⟨v, st₀, t, T', L, h0, X', hL, e1, e2, ⟨⟨r, u, hv, hp, hb⟩, hF⟩, st⟩ | ⟨q, st₀, t, T', L, E, ce, h0, X', hL, e1, e2, ⟨u, hp, hb, hF⟩, hce, hcv, hcl, st⟩
  · cases hv
    obtain ⟨k1, k2, k3⟩ := vx_keep h0 e1 hS hA hf hL hF
    obtain ⟨t2, a1, b1⟩ := kk r u t T'.heap (locs ++ L) e1.symm (by rw [← e2]; exact X'.warmed.alike) hp hb k1 k2 k3 T' rfl X'
    exact ⟨t2, st t2 a1, b1⟩
  · obtain ⟨k1, k2, k3⟩ := vx_keep h0 e1 hS hAX hf hL hF
    obtain ⟨t2, a1, b1⟩ := kx E ce q u t T'.heap (locs ++ L) e1.symm (by rw [← e2]; exact X'.warmed.alike) hp hb k1 k2 k3 (by rw [e1]; exact hce) hcv hcl T' rfl X'
    exact ⟨t2, st.trans a1, b1⟩
theorem vx_calld {S SX : Type} {post : UInt64 → S → Prop} {px : SX → Prop} {B : S → State → Prop} {BX : String → SX → State → Prop} {AX : Nat → Prop} (hr : vx_Run p l e R s m args below meth c H locs cells slots mc ms (F0 m pc ls st0) rest (va_Qd post B A1 a) (vx_X px BX AX) free) (hS : va_S A0 H0 H locs) (hA : ∀ q, q < H.size → A1 q → A0 q) (hf : ∀ q, free q → A0 q) (hAX : ∀ q, q < H.size → AX q → A0 q)
    (kx : ∀ (E : String) (ce : Cell) (q9 : Addr) (u : SX) (t : State) (H1 : Heap) (locs1 : List Loc), t.heap = H1 → s.vm.Alike t.vm → px u → BX E u t → H.size ≤ H1.size → (∀ q : Nat, q < H.size → ¬ AX q → H1[q]? = H[q]?) → va_S A0 H0 H1 locs1 → H1[q9]? = some ce → ce.vm = .none → s.vm.findClass E = some ce.cls → vx_W p l e R s m args below meth c H1 locs1 (cells + mc) (slots + ms) Q (F0 m pc ls rest) q9)
    (kk : ∀ (r : UInt64) (u : S) (t : State) (H1 : Heap) (locs1 : List Loc), t.heap = H1 → s.vm.Alike t.vm → post r u → B u t → H.size ≤ H1.size → (∀ q : Nat, q < H.size → ¬ A1 q → H1[q]? = H[q]?) → va_S A0 H0 H1 locs1 → W p l e R s m args below meth c H1 locs1 (cells + mc) (slots + ms) Q (F0 m (pc + 3) ls (.double r :: rest))) : W p l e R s m args below meth c H locs cells slots Q (F0 m pc ls st0) := by
  intro T hT X
  rcases hr T hT X with ⟨v, st₀, t, T', L, h0, X', hL, e1, e2, ⟨⟨r, u, hv, hp, hb⟩, hF⟩, st⟩ | ⟨q, st₀, t, T', L, E, ce, h0, X', hL, e1, e2, ⟨u, hp, hb, hF⟩, hce, hcv, hcl, st⟩
  · cases hv
    obtain ⟨k1, k2, k3⟩ := vx_keep h0 e1 hS hA hf hL hF
    obtain ⟨t2, a1, b1⟩ := kk r u t T'.heap (locs ++ L) e1.symm (by rw [← e2]; exact X'.warmed.alike) hp hb k1 k2 k3 T' rfl X'
    exact ⟨t2, st t2 a1, b1⟩
  · obtain ⟨k1, k2, k3⟩ := vx_keep h0 e1 hS hAX hf hL hF
    obtain ⟨t2, a1, b1⟩ := kx E ce q u t T'.heap (locs ++ L) e1.symm (by rw [← e2]; exact X'.warmed.alike) hp hb k1 k2 k3 (by rw [e1]; exact hce) hcv hcl T' rfl X'
    exact ⟨t2, st.trans a1, b1⟩
theorem vx_callv {S SX : Type} {post : S → Prop} {px : SX → Prop} {B : S → State → Prop} {BX : String → SX → State → Prop} {AX : Nat → Prop} (hr : vx_Run p l e R s m args below meth c H locs cells slots mc ms (F0 m pc ls st0) rest (va_Qv post B A1 a) (vx_X px BX AX) free) (hS : va_S A0 H0 H locs) (hA : ∀ q, q < H.size → A1 q → A0 q) (hf : ∀ q, free q → A0 q) (hAX : ∀ q, q < H.size → AX q → A0 q)
    (kx : ∀ (E : String) (ce : Cell) (q9 : Addr) (u : SX) (t : State) (H1 : Heap) (locs1 : List Loc), t.heap = H1 → s.vm.Alike t.vm → px u → BX E u t → H.size ≤ H1.size → (∀ q : Nat, q < H.size → ¬ AX q → H1[q]? = H[q]?) → va_S A0 H0 H1 locs1 → H1[q9]? = some ce → ce.vm = .none → s.vm.findClass E = some ce.cls → vx_W p l e R s m args below meth c H1 locs1 (cells + mc) (slots + ms) Q (F0 m pc ls rest) q9)
    (kk : ∀ (u : S) (t : State) (H1 : Heap) (locs1 : List Loc), t.heap = H1 → s.vm.Alike t.vm → post u → B u t → H.size ≤ H1.size → (∀ q : Nat, q < H.size → ¬ A1 q → H1[q]? = H[q]?) → va_S A0 H0 H1 locs1 → W p l e R s m args below meth c H1 locs1 (cells + mc) (slots + ms) Q (F0 m (pc + 3) ls (rest))) : W p l e R s m args below meth c H locs cells slots Q (F0 m pc ls st0) := by
  intro T hT X
  rcases hr T hT X with ⟨v, st₀, t, T', L, h0, X', hL, e1, e2, ⟨⟨u, hv, hp, hb⟩, hF⟩, st⟩ | ⟨q, st₀, t, T', L, E, ce, h0, X', hL, e1, e2, ⟨u, hp, hb, hF⟩, hce, hcv, hcl, st⟩
  · cases hv
    obtain ⟨k1, k2, k3⟩ := vx_keep h0 e1 hS hA hf hL hF
    obtain ⟨t2, a1, b1⟩ := kk u t T'.heap (locs ++ L) e1.symm (by rw [← e2]; exact X'.warmed.alike) hp hb k1 k2 k3 T' rfl X'
    exact ⟨t2, st t2 a1, b1⟩
  · obtain ⟨k1, k2, k3⟩ := vx_keep h0 e1 hS hAX hf hL hF
    obtain ⟨t2, a1, b1⟩ := kx E ce q u t T'.heap (locs ++ L) e1.symm (by rw [← e2]; exact X'.warmed.alike) hp hb k1 k2 k3 (by rw [e1]; exact hce) hcv hcl T' rfl X'
    exact ⟨t2, st.trans a1, b1⟩
end Rows
section Ends
variable {p : Program} {l : Launch} {e : Env} {R : Room} {s : State} {m : MethodId} {args : Array Value} {below : List Frame} {meth : Method} {c : Code} {H : Heap} {locs : List Loc} {cells slots : Nat} {Q : State → Prop}
variable {mc ms : Nat} {free : Addr → Prop} {A0 A1 : Nat → Prop} {H0 : Heap} {a : Array Value} {ls : Array Slot} {st0 rest : List Value}
variable {Qc : Array Value → State → Outcome → State → Prop} {XC : String → State → State → Prop}
/-- what a body that may throw owes at its end -/
def vx_MQ (below : List Frame) (Qc : Array Value → State → Outcome → State → Prop) (XC : String → State → State → Prop) (a : Array Value) (s : State) (mc ms : Nat) (free : Addr → Prop) : State → Prop := fun t =>
  ∃ o, t.status = .running ∧ Ended t below o ∧ vx_Q Qc XC mc ms free a s o t
theorem vx_ret {g : JFrame} {mc ms : Nat} (k : W p l e R s m args below meth c H locs cells slots (MQ below Qc args s mc ms free) g) : W p l e R s m args below meth c H locs cells slots (vx_MQ below Qc XC args s mc ms free) g := by
  intro T hT X
  obtain ⟨t, a1, o, b1, b2, b3, b4⟩ := k T hT X
  exact ⟨t, a1, o, b1, b2, Or.inl ⟨b3, b4⟩⟩
/-- not caught here: it goes on to the caller -/
theorem vx_widen {g : JFrame} {q : Addr} {k n : Nat} (h1 : cells ≤ k) (h2 : slots ≤ n) (kk : vx_W p l e R s m args below meth c H locs k n Q g q) : vx_W p l e R s m args below meth c H locs cells slots Q g q := fun T hT X => kk T hT (stand_widen X h1 h2)
theorem vx_out {pc : Nat} {E : String} {ce : Cell} {q : Addr} {mc ms : Nat} (hout : ∀ x ∈ c.exceptionTable.toList, covers x pc = false) (hlocks : meth.locks = false) (hcell : H[q]? = some ce) (hv : ce.vm = .none) (hcl : s.vm.findClass E = some ce.cls)
    (hx : ∀ t : State, t.heap = H → s.vm.Alike t.vm → XC E s t) (hf : ∀ z ∈ locs, free z.base) (hc : cells ≤ mc) (hs : slots ≤ ms) :
    vx_W p l e R s m args below meth c H locs cells slots (vx_MQ below Qc XC args s mc ms free) (F0 m pc ls rest) q := by
  intro T hT X
  obtain ⟨st1, hrun, hend, hW, hsm⟩ := X.leaveThrown q (g := F0 m pc ls rest) rfl rfl rfl hout hlocks
  have hcell9 : (T.setFrames (.throwing q :: below)).heap[q]? = some ce := by
    show T.heap[q]? = some ce
    rw [hT]; exact hcell
  exact ⟨_, st1, .threw q, hrun, hend, Or.inr ⟨q, rfl, E, ce, locs, hx _ hT hW.alike, hcell9, hv, hcl, hW, hsm.mono hc hs, hf⟩⟩
theorem vx_frame {U : State} {k n : Nat} (h : s.sameButNew ({ U with vm := s.vm } : State) locs k n) : s.heap.size ≤ U.heap.size ∧ ∀ q : Nat, q < s.heap.size → (∀ z ∈ locs, z.base ≠ q) → U.heap[q]? = s.heap[q]? := by
  obtain ⟨-, h2, -, -, -, h6⟩ := h
  refine ⟨h2, fun q hq hz => ?_⟩
  obtain ⟨c9, e1, e2, e3, e4⟩ := h6 q _ (Array.getElem?_eq_getElem hq)
  have hs : c9.slots = (s.heap[q]).slots := Array.ext_getElem? fun i => e4 i fun hm => hz _ hm rfl
  have h9 : c9 = s.heap[q] := by
    rw [hs] at e2
    exact e2
  have e5 : U.heap[q]? = some c9 := e1
  rw [e5, h9, Array.getElem?_eq_getElem hq]
/-- the words of a throw but the four that speak of the heap -/
def vx_no (w : Cond) : Bool := decide (w ≠ .isRef (.static Bundle.tN "UNASSIGNED_STACK" Bundle.steD)) && decide (w ≠ .isRef (.static Bundle.tN "SUPPRESSED_SENTINEL" Bundle.listD)) && decide (w ≠ .laysStatic Bundle.tN "UNASSIGNED_STACK" Bundle.steD) && decide (w ≠ .laysStatic Bundle.tN "SUPPRESSED_SENTINEL" Bundle.listD)
def vx_at0 (own : String) (ic : Nat) (X : String) (names : List String) : List Cond := (Bundle.ownAtoms0 own ic X names).filter vx_no
def vx_atS (own : String) (ic : Nat) (X : String) (names : List String) : List Cond := (Bundle.ownAtoms own ic X names).filter vx_no
/-- a word that the tables alone decide, or a good one -/
def vx_ot (w : Cond) : Bool := w.onTables || goodWord w
theorem vx_ot_at {args a' : Array Value} {s U : State} {w : Cond} (hW : s.WarmedH U.vm) (hvm : s.vm = U.vm) (hg : vx_ot w = true) (h : w.before args s = true) : w.before a' U = true := by
  simp only [vx_ot, Bool.or_eq_true] at hg
  rcases hg with hg | hg
  · exact va_tabs hg hvm h
  · exact word_at hW (good_of_word hg) h
/-- a list's words: the good ones out of the method's own list, the others by premises of their own -/
theorem vx_hat {args : Array Value} {s : State} {L B : List Cond} (h1 : ∀ w ∈ L.filter goodWord, w.before args s = true) (h2 : ∀ w ∈ L.filter (fun w => !goodWord w), w ∈ B) (h3 : ∀ w ∈ B, w.before args s = true) : ∀ w ∈ L, w.before args s = true := by
  intro w hw
  by_cases g : goodWord w = true
  · exact h1 w (List.mem_filter.mpr ⟨hw, g⟩)
  · refine h3 w (h2 w (List.mem_filter.mpr ⟨hw, ?_⟩))
    show (!goodWord w) = true
    cases hgw : goodWord w
    · rfl
    · exact absurd hgw g
theorem vx_c {args : Array Value} {s : State} {w : Cond} {B : List Cond} (h : w.before args s = true) (t : ∀ w ∈ B, w.before args s = true) : ∀ w' ∈ w :: B, w'.before args s = true := fun w' h' => (List.mem_cons.mp h').elim (fun e => by rw [e]; exact h) (t w')
theorem vx_n {args : Array Value} {s : State} : ∀ w ∈ ([] : List Cond), w.before args s = true := fun _ h => nomatch h
theorem vx_own {args : Array Value} {s : State} {L : List Cond} (h1 : ∀ w ∈ L.filter vx_no, w.before args s = true)
    (hU : (Cond.isRef (.static Bundle.tN "UNASSIGNED_STACK" Bundle.steD)).before args s = true) (hN : (Cond.isRef (.static Bundle.tN "SUPPRESSED_SENTINEL" Bundle.listD)).before args s = true)
    (lU : (Cond.laysStatic Bundle.tN "UNASSIGNED_STACK" Bundle.steD).before args s = true) (lN : (Cond.laysStatic Bundle.tN "SUPPRESSED_SENTINEL" Bundle.listD).before args s = true) : ∀ w ∈ L, w.before args s = true := by
  intro w hw
  by_cases e1 : w = .isRef (.static Bundle.tN "UNASSIGNED_STACK" Bundle.steD)
  · rw [e1]; exact hU
  · by_cases e2 : w = .isRef (.static Bundle.tN "SUPPRESSED_SENTINEL" Bundle.listD)
    · rw [e2]; exact hN
    · by_cases e3 : w = .laysStatic Bundle.tN "UNASSIGNED_STACK" Bundle.steD
      · rw [e3]; exact lU
      · by_cases e4 : w = .laysStatic Bundle.tN "SUPPRESSED_SENTINEL" Bundle.listD
        · rw [e4]; exact lN
        · exact h1 w (List.mem_filter.mpr ⟨hw, by unfold vx_no; rw [decide_eq_true e1, decide_eq_true e2, decide_eq_true e3, decide_eq_true e4]; rfl⟩)
/-- where a static field lies, its class's statics cell in H -/
def vx_L (C n d : String) (A : Nat → Prop) (U : State) (H : Heap) : Prop := ∃ (c : ClassId) (k : Class) (i : Nat) (f : Field) (a : Nat) (cell : Cell), U.vm.findClass C = some c ∧ U.fieldFound? C n d = some (c, k, i, f) ∧ f.isStatic = true ∧ k.statics = some a ∧ H[a]? = some cell ∧ cell.vm.isStatics = true ∧ cell.cls = c ∧ f.slot < cell.slots.size ∧ k.staticTypes[f.slot]? = some f.type ∧ ¬ A a
theorem vx_L.moved {C n d : String} {A : Nat → Prop} {u U : State} {H : Heap} (hvm : u.vm.Alike U.vm) (h : vx_L C n d A u H) : vx_L C n d A U H := by
  obtain ⟨c, k, i, f, a, cell, h1, h2, h3, h4, h5, h6, h7, h8, h9, h10⟩ := h
  obtain ⟨k', hi', he⟩ := State.fieldFound?_setVm hvm h2
  exact ⟨c, k', i, f, a, cell, by rw [hvm.findClass]; exact h1, hi', h3, by rw [he]; exact h4, h5, h6, h7, h8, by rw [he]; exact h9, h10⟩
theorem vx_L.kept {C n d : String} {A : Nat → Prop} {U : State} {H H1 : Heap} (h : vx_L C n d A U H) (hq : ∀ a : Nat, a < H.size → ¬ A a → H1[a]? = H[a]?) : vx_L C n d A U H1 := by
  obtain ⟨c, k, i, f, a, cell, h1, h2, h3, h4, h5, h6, h7, h8, h9, h10⟩ := h
  exact ⟨c, k, i, f, a, cell, h1, h2, h3, h4, by rw [hq a (Array.getElem?_eq_some_iff.mp h5).1 h10]; exact h5, h6, h7, h8, h9, h10⟩
theorem vx_L.narrow {C n d : String} {A B : Nat → Prop} {U : State} {H : Heap} (h : vx_L C n d A U H) (hAB : ∀ q, B q → A q) : vx_L C n d B U H := by
  obtain ⟨c, k, i, f, a, cell, h1, h2, h3, h4, h5, h6, h7, h8, h9, h10⟩ := h
  exact ⟨c, k, i, f, a, cell, h1, h2, h3, h4, h5, h6, h7, h8, h9, fun z => h10 (hAB _ z)⟩
theorem vx_L.word {C n d : String} {A : Nat → Prop} {s : State} {args : Array Value} (h : vx_L C n d A s s.heap) : (Cond.laysStatic C n d).before args s = true := by
  obtain ⟨c, k, i, f, a, cell, h1, h2, h3, h4, h5, h6, h7, h8, h9, -⟩ := h
  show (Cond.laysStatic C n d).holds args s none s [] = true
  exact Cond.laysStatic_of h1 h2 h3 h4 h5 h6 h7 h8 h9
/-- .. and what it holds: null or some reference -/
def vx_Zq (C n d : String) (A : Nat → Prop) (U : State) (H : Heap) : Prop := va_Zq C n d A U H ∧ vx_L C n d A U H
theorem vx_Zq.moved {C n d : String} {A : Nat → Prop} {u U : State} {H : Heap} (hvm : u.vm.Alike U.vm) (h : vx_Zq C n d A u H) : vx_Zq C n d A U H := ⟨va_Zq.moved hvm h.1, vx_L.moved hvm h.2⟩
theorem vx_Zq.kept {C n d : String} {A : Nat → Prop} {U : State} {H H1 : Heap} (h : vx_Zq C n d A U H) (hq : ∀ a : Nat, a < H.size → ¬ A a → H1[a]? = H[a]?) : vx_Zq C n d A U H1 := ⟨va_Zq.kept h.1 hq, vx_L.kept h.2 hq⟩
theorem vx_Zq.narrow {C n d : String} {A B : Nat → Prop} {U : State} {H : Heap} (h : vx_Zq C n d A U H) (hAB : ∀ q, B q → A q) : vx_Zq C n d B U H := ⟨va_Zq.narrow h.1 hAB, vx_L.narrow h.2 hAB⟩
theorem vx_Zqof {args : Array Value} {s : State} {C n d : String} {A : Nat → Prop} (hl : (Cond.laysStatic C n d).before args s = true) (hini : (Cond.initialized C).before args s = true) (h : (Cond.isRef (.static C n d)).before args s = true) (hA : ∀ a : Nat, a < s.heap.size → ¬ A a) : vx_Zq C n d A s s.heap := by
  refine ⟨va_Zqof hl hini h hA, ?_⟩
  obtain ⟨c, k, i, f, a, cell, h1, h2, h3, h4, h5, h6, h7, h8, h9⟩ := Cond.laysStatic_spec hl
  exact ⟨c, k, i, f, a, cell, h1, h2, h3, h4, h5, h6, h7, h8, h9, hA a (Array.getElem?_eq_some_iff.mp h5).1⟩
theorem vx_isRef {C n d : String} {v : Value} {A : Nat → Prop} {s : State} {args : Array Value} (h : va_Z C n d v A s s.heap) (hv : v.isRef = true) : (Cond.isRef (.static C n d)).before args s = true := by
  obtain ⟨cf, kf, fi, f, a, cell, h1, h2, h3, h4, h5, h6, h7, -⟩ := h
  have he : (Term.static C n d).eval args s none [] s = some v := by
    simp [Term.eval, State.fieldNamed?, h1, h2, h4, h5, h6, h7]
  simp only [Cond.before, Cond.holds, Cond.value, he]
  cases v <;> simp_all [Value.isRef]
theorem vx_isRefq {C n d : String} {A : Nat → Prop} {s : State} {args : Array Value} (h : va_Zq C n d A s s.heap) : (Cond.isRef (.static C n d)).before args s = true := by
  rcases h with h | ⟨t, h⟩
  · exact vx_isRef h rfl
  · exact vx_isRef h rfl
/-- the same frame, seen from here: as if the method were called anew in this heap -/
theorem vx_rebase {T : State} (X : Stand p l e R s m args below meth c T locs cells slots) {R' : Room} (hf : R'.frames ≤ R.frames) (hl : R'.locals ≤ R.locals) (hc : cells + R'.cells ≤ R.cells) (hs : slots + R'.slots ≤ R.slots) :
    Stand p l e R' ((T.setVm s.vm).setFrames (.invoking m args :: below)) m args below meth c T [] 0 0 := by
  have htop : (T.setVm s.vm).topJava?.isSome := X.here.top
  have hF : ((T.setVm s.vm).setFrames (.invoking m args :: below)).frames = .invoking m args :: below := State.frames_setFrames _ (State.cur_lt_of_top htop)
  obtain ⟨g₀, hg0⟩ := Option.isSome_iff_exists.mp htop
  obtain ⟨r, hr⟩ := State.topJava?_eq_some.mp hg0
  have hl9 : e.platform.stackLimits (T.setVm s.vm).me = e.platform.stackLimits s.me := X.limits
  have hb9 : (T.setVm s.vm).me.stackBytes = s.me.stackBytes := X.bytes
  refine ⟨X.admits, X.cas, X.clock, hF, ?_, X.hears, X.method, X.code, X.here, X.tail, X.warmed, ?_, ?_, ?_⟩
  · have h := X.room
    have hU : ((T.setVm s.vm).setFrames (.invoking m args :: below)).localsInUse = s.localsInUse := by
      rw [State.localsInUse_invoking hF (meth := meth) (c := c) X.method X.code, State.localsInUse_invoking X.frames X.method X.code]
    simp only [State.hasRoom, Bool.and_eq_true, decide_eq_true_eq] at h ⊢
    obtain ⟨⟨⟨⟨h1, h2, h3, h4, h5, h6⟩, h7⟩, h8⟩, h9⟩ := h
    rw [X.frames, List.length_cons] at h2 h3
    have q1 := X.heapSize
    have q2 := X.used
    simp only [hF, hU, List.length_cons, State.stackLimits_setFrames, State.stackBytes_setFrames, hl9, hb9]
    refine ⟨⟨⟨⟨by omega, by omega, by omega, by omega, by omega, h6⟩, ?_⟩, ?_⟩, X.book⟩
    · show T.heap.size + R'.cells ≤ e.platform.maxCells
      omega
    · show T.slotsUsed + R'.slots ≤ e.platform.maxSlots
      omega
  · rw [State.stackLimits_setFrames]; rfl
  · rw [State.stackBytes_setFrames]; rfl
  · refine ⟨?_, Nat.le_refl _, Nat.le_refl _, ?_, ?_, fun a c9 h9 => ⟨c9, h9, rfl, rfl, fun _ _ => rfl⟩⟩
    · obtain ⟨t, ht, -⟩ := State.frames_cons hr
      show T.setVm s.vm = { ((T.setVm s.vm).setFrames (.invoking m args :: below)).setFrames (T.setVm s.vm).frames with heap := T.heap, slotsUsed := T.slotsUsed }
      rw [State.setFrames_setFrames, State.setFrames_self ht]
      rfl
    · show T.slotsUsed = T.slotsUsed + ((T.heap.toList.drop T.heap.size).map (·.slots.size)).sum
      rw [List.drop_eq_nil_of_le (Nat.le_of_eq Array.length_toList)]
      rfl
    · show ((T.heap.toList.drop T.heap.size).map (·.slots.size)).sum ≤ 0
      rw [List.drop_eq_nil_of_le (Nat.le_of_eq Array.length_toList)]
      exact Nat.le_refl _
/-- 'throw new E()': new; dup; invokespecial; athrow -/
theorem vx_throw0 {cc : ByteArray} {pc : Nat} (hexec : p.tables.exec = Jvm.exec) (hb : c.code = cc) (hl : l.stackTraces = false) {own cls : String} {names : List String} {ik ic mc ms : Nat} {A : Nat → Prop}
    (hown : s.vm.findClass own = some m.cls) (hcls : Bundle.fit cls = true) (hnames : ∀ n ∈ names, Bundle.fit n = true)
    (hk : (Cond.classLink own ik cls).before args s = true) (hini : (Cond.initialized cls).before args s = true) (hat : ∀ w ∈ vx_at0 own ic cls names, w.before args s = true)
    (hgood : ∀ w ∈ Cond.classLink own ik cls :: Cond.initialized cls :: vx_at0 own ic cls names, vx_ot w = true)
    (hU : vx_Zq Bundle.tN "UNASSIGNED_STACK" Bundle.steD A s s.heap) (hN : vx_Zq Bundle.tN "SUPPRESSED_SENTINEL" Bundle.listD A s s.heap) (hS : va_S A s.heap H locs) (hsize : ls.size = c.maxLocals)
    (d0 : decode cc pc = .ok (.new ik, 3)) (d3 : decode cc (pc + 3) = .ok (.dup, 1)) (d4 : decode cc (pc + 4) = .ok (.invokespecial ic, 3)) (d7 : decode cc (pc + 7) = .ok (.athrow, 1))
    (hout : ∀ x ∈ c.exceptionTable.toList, covers x (pc + 7) = false)
    (hRframes : names.length + 3 < R.frames) (hRlocals : (rest.map fun v => v.category).sum + (13 * (names.length + 1) + 42) ≤ R.locals) (hRcells : cells + 1 ≤ R.cells) (hRslots : slots + 6 ≤ R.slots) (hlocks : meth.locks = false)
    (hx : ∀ t : State, s.vm.Alike t.vm → H.size ≤ t.heap.size → (∀ q : Nat, q < H.size → t.heap[q]? = H[q]?) → XC cls s t)
    (hf : ∀ z ∈ locs, free z.base) (hc : cells + 1 ≤ mc) (hs : slots + 6 ≤ ms) :
    W p l e R s m args below meth c H locs cells slots (vx_MQ below Qc XC args s mc ms free) (F0 m pc ls rest) := by
  intro T hT X
  have htr : e.platform.stackTraces = false := (show e.platform.stackTraces = l.stackTraces by rw [X.admits.platform]).trans hl
  have Y := vx_rebase X (R' := { frames := R.frames, locals := R.locals, cells := 1, slots := 6 }) (Nat.le_refl _) (Nat.le_refl _) hRcells hRslots
  obtain ⟨s', hA⟩ : ∃ z, z = (T.setVm s.vm).setFrames (.invoking m args :: below) := ⟨_, rfl⟩
  rw [← hA] at Y
  have hvm : s'.vm = s.vm := by rw [hA]; rfl
  have hhp : s'.heap = H := by rw [hA]; exact hT
  have hW0 : s.WarmedH s'.vm := by rw [hvm]; exact State.WarmedH.refl s
  have hat' : ∀ w ∈ vx_at0 own ic cls names, w.before args s' = true := fun w hw => vx_ot_at hW0 hvm.symm (hgood w (List.mem_cons_of_mem _ (List.mem_cons_of_mem _ hw))) (hat w hw)
  have hk' : (Cond.classLink own ik cls).before args s' = true := vx_ot_at hW0 hvm.symm (hgood _ List.mem_cons_self) hk
  have hini' : (Cond.initialized cls).before args s' = true := vx_ot_at hW0 hvm.symm (hgood _ (List.mem_cons_of_mem _ List.mem_cons_self)) hini
  have hU' : vx_Zq Bundle.tN "UNASSIGNED_STACK" Bundle.steD A s' s'.heap := by rw [hhp]; exact vx_Zq.moved hW0.alike (hU.kept hS.2.1)
  have hN' : vx_Zq Bundle.tN "SUPPRESSED_SENTINEL" Bundle.listD A s' s'.heap := by rw [hhp]; exact vx_Zq.moved hW0.alike (hN.kept hS.2.1)
  have h : ∀ w ∈ Bundle.ownAtoms0 own ic cls names, w.before args s' = true := vx_own hat' (vx_isRefq hU'.1) (vx_isRefq hN'.1) hU'.2.word hN'.2.word
  have hown' : s'.vm.findClass own = some m.cls := by rw [hvm]; exact hown
  have hins : (Cond.instantiable cls 6).before args s' = true := h _ (by simp [Bundle.ownAtoms0])
  obtain ⟨vm₁, cX, kX, hfX, hkX, -, -, X₁, st1⟩ := Y.newCold hexec (own := own) (C := cls) (index := ik) (n := 6) hown' hk' hins hini'
    (g := F0 m pc ls rest) rfl (by rw [hb]; exact d0) (Nat.le_refl _) (Nat.le_refl _)
  generalize hT1 : (T.setVm vm₁).pushCell { cls := cX, slots := kX.instanceTypes.map defaultValue, vm := .none } = T1 at X₁ st1
  have hcat : (Value.ref T.heap.size).category = 1 := rfl
  have hcellA : T1.heap[T.heap.size]? = some (freshCell cX kX) := by rw [← hT1]; exact State.heap_pushCell_size _ _
  have d3' : decode c.code (pc + 3) = .ok (.dup, 1) := by rw [hb]; exact d3
  obtain ⟨U, hsteps, hrun, hend, hW, hsame, ce, hce, hO⟩ := X₁.ctorThrow0 hexec htr (own := own) (cls := cls) (names := names) (ic := ic) hown' hcls hnames h (fun x hx => nomatch hx) hfX hkX hcellA (by rw [hhp, hT]; exact Nat.le_refl _)
    (g := { method := m, pc := pc + 4, locals := ls, stack := .ref T.heap.size :: .ref T.heap.size :: rest, locked := none }) rfl hsize rfl rfl (rest := rest) rfl
    (by rw [hb]; exact d4) (by rw [hb]; exact d7) hout hRframes (by simp only [List.map_cons, List.sum_cons, hcat]; omega) hlocks
  obtain ⟨f1, f2⟩ := vx_frame hsame
  rw [hhp] at f1 f2
  have hWs : s.WarmedH U.vm := State.WarmedH.trans hW0 hW
  have hcl : s.vm.findClass cls = some ce.cls := by
    have h9 := hO.cls
    rw [hvm] at h9
    exact h9
  have hall : s.sameButNew ({ U with vm := s.vm } : State) locs mc ms := by
    subst hA
    obtain ⟨e1, e2⟩ := hsame
    rw [State.setFrames_setFrames] at e1
    have h2 : (T.setVm s.vm).sameButNew ({ U with vm := s.vm } : State) [] (0 + 1) (0 + 6) := ⟨e1, e2⟩
    have h3 := X.same.trans h2
    rw [List.append_nil] at h3
    exact h3.mono hc hs
  refine ⟨U, ?_, .threw T.heap.size, hrun, hend, Or.inr ⟨T.heap.size, rfl, cls, ce, locs, hx U hWs.alike f1 (fun q hq => f2 q hq (fun z hz => nomatch hz)), hce, hO.vm, hcl, hWs, hall, hf⟩⟩
  refine st1 _ ?_
  show Steps p.tables e below (T1.setTop { method := m, pc := pc + 3, locals := ls, stack := .ref T.heap.size :: rest, locked := none }) _
  jvm_step X₁.here [X₁.here.top, hexec, d3', Value.category]
  exact hsteps
/-- 'throw new E("text")': new; dup; ldc; invokespecial; athrow -/
theorem vx_throwS {cc : ByteArray} {pc : Nat} (hexec : p.tables.exec = Jvm.exec) (hb : c.code = cc) (hl : l.stackTraces = false) {own cls text : String} {names : List String} {ik is ic mc ms sa : Nat} {A : Nat → Prop}
    (hown : s.vm.findClass own = some m.cls) (hcls : Bundle.fit cls = true) (hnames : ∀ n ∈ names, Bundle.fit n = true)
    (hk : (Cond.classLink own ik cls).before args s = true) (hini : (Cond.initialized cls).before args s = true) (hstr : vk_R own is text sa s) (hat : ∀ w ∈ vx_atS own ic cls names, w.before args s = true)
    (hgood : ∀ w ∈ Cond.classLink own ik cls :: Cond.initialized cls :: vx_atS own ic cls names, vx_ot w = true)
    (hU : vx_Zq Bundle.tN "UNASSIGNED_STACK" Bundle.steD A s s.heap) (hN : vx_Zq Bundle.tN "SUPPRESSED_SENTINEL" Bundle.listD A s s.heap) (hS : va_S A s.heap H locs) (hsize : ls.size = c.maxLocals)
    (d0 : decode cc pc = .ok (.new ik, 3)) (d3 : decode cc (pc + 3) = .ok (.dup, 1)) (d4 : decode cc (pc + 4) = .ok (.ldc is, 2)) (d6 : decode cc (pc + 6) = .ok (.invokespecial ic, 3)) (d9 : decode cc (pc + 9) = .ok (.athrow, 1))
    (hout : ∀ x ∈ c.exceptionTable.toList, covers x (pc + 9) = false)
    (hRframes : names.length + 3 < R.frames) (hRlocals : (rest.map fun v => v.category).sum + (13 * (names.length + 1) + 43) ≤ R.locals) (hRcells : cells + 1 ≤ R.cells) (hRslots : slots + 6 ≤ R.slots) (hlocks : meth.locks = false)
    (hx : ∀ t : State, s.vm.Alike t.vm → H.size ≤ t.heap.size → (∀ q : Nat, q < H.size → t.heap[q]? = H[q]?) → XC cls s t)
    (hf : ∀ z ∈ locs, free z.base) (hc : cells + 1 ≤ mc) (hs : slots + 6 ≤ ms) :
    W p l e R s m args below meth c H locs cells slots (vx_MQ below Qc XC args s mc ms free) (F0 m pc ls rest) := by
  intro T hT X
  have htr : e.platform.stackTraces = false := (show e.platform.stackTraces = l.stackTraces by rw [X.admits.platform]).trans hl
  have Y := vx_rebase X (R' := { frames := R.frames, locals := R.locals, cells := 1, slots := 6 }) (Nat.le_refl _) (Nat.le_refl _) hRcells hRslots
  obtain ⟨s', hA⟩ : ∃ z, z = (T.setVm s.vm).setFrames (.invoking m args :: below) := ⟨_, rfl⟩
  rw [← hA] at Y
  have hvm : s'.vm = s.vm := by rw [hA]; rfl
  have hhp : s'.heap = H := by rw [hA]; exact hT
  have hW0 : s.WarmedH s'.vm := by rw [hvm]; exact State.WarmedH.refl s
  have hat' : ∀ w ∈ vx_atS own ic cls names, w.before args s' = true := fun w hw => vx_ot_at hW0 hvm.symm (hgood w (List.mem_cons_of_mem _ (List.mem_cons_of_mem _ hw))) (hat w hw)
  have hk' : (Cond.classLink own ik cls).before args s' = true := vx_ot_at hW0 hvm.symm (hgood _ List.mem_cons_self) hk
  have hini' : (Cond.initialized cls).before args s' = true := vx_ot_at hW0 hvm.symm (hgood _ (List.mem_cons_of_mem _ List.mem_cons_self)) hini
  have hU' : vx_Zq Bundle.tN "UNASSIGNED_STACK" Bundle.steD A s' s'.heap := by rw [hhp]; exact vx_Zq.moved hW0.alike (hU.kept hS.2.1)
  have hN' : vx_Zq Bundle.tN "SUPPRESSED_SENTINEL" Bundle.listD A s' s'.heap := by rw [hhp]; exact vx_Zq.moved hW0.alike (hN.kept hS.2.1)
  have h : ∀ w ∈ Bundle.ownAtoms own ic cls names, w.before args s' = true := vx_own hat' (vx_isRefq hU'.1) (vx_isRefq hN'.1) hU'.2.word hN'.2.word
  have hown' : s'.vm.findClass own = some m.cls := by rw [hvm]; exact hown
  have hins : (Cond.instantiable cls 6).before args s' = true := h _ (by simp [Bundle.ownAtoms])
  obtain ⟨vm₁, cX, kX, hfX, hkX, -, -, X₁, st1⟩ := Y.newCold hexec (own := own) (C := cls) (index := ik) (n := 6) hown' hk' hins hini'
    (g := F0 m pc ls rest) rfl (by rw [hb]; exact d0) (Nat.le_refl _) (Nat.le_refl _)
  generalize hT1 : (T.setVm vm₁).pushCell { cls := cX, slots := kX.instanceTypes.map defaultValue, vm := .none } = T1 at X₁ st1
  have hcat : (Value.ref T.heap.size).category = 1 := rfl
  have hcellA : T1.heap[T.heap.size]? = some (freshCell cX kX) := by rw [← hT1]; exact State.heap_pushCell_size _ _
  have d3' : decode c.code (pc + 3) = .ok (.dup, 1) := by rw [hb]; exact d3
  have d4' : decode c.code (pc + 4) = .ok (.ldc is, 2) := by rw [hb]; exact d4
  have hstr' : vk_R own is text sa s' := vk_R.warm hW0 hstr
  obtain ⟨U, hsteps, hrun, hend, hW, hsame, ce, hce, hO⟩ := X₁.ctorThrowS hexec htr (own := own) (cls := cls) (names := names) (ic := ic) hown' hcls hnames h (fun x hx => nomatch hx) hfX hkX hcellA (by rw [hhp, hT]; exact Nat.le_refl _) (msg := .ref sa) rfl
    (g := { method := m, pc := pc + 6, locals := ls, stack := .ref sa :: .ref T.heap.size :: .ref T.heap.size :: rest, locked := none }) rfl hsize rfl rfl (rest := rest) rfl
    (by rw [hb]; exact d6) (by rw [hb]; exact d9) hout hRframes (by simp only [List.map_cons, List.sum_cons, hcat]; omega) hlocks
  obtain ⟨f1, f2⟩ := vx_frame hsame
  rw [hhp] at f1 f2
  have hWs : s.WarmedH U.vm := State.WarmedH.trans hW0 hW
  have hcl : s.vm.findClass cls = some ce.cls := by
    have h9 := hO.cls
    rw [hvm] at h9
    exact h9
  have hall : s.sameButNew ({ U with vm := s.vm } : State) locs mc ms := by
    subst hA
    obtain ⟨e1, e2⟩ := hsame
    rw [State.setFrames_setFrames] at e1
    have h2 : (T.setVm s.vm).sameButNew ({ U with vm := s.vm } : State) [] (0 + 1) (0 + 6) := ⟨e1, e2⟩
    have h3 := X.same.trans h2
    rw [List.append_nil] at h3
    exact h3.mono hc hs
  refine ⟨U, ?_, .threw T.heap.size, hrun, hend, Or.inr ⟨T.heap.size, rfl, cls, ce, locs, hx U hWs.alike f1 (fun q hq => f2 q hq (fun z hz => nomatch hz)), hce, hO.vm, hcl, hWs, hall, hf⟩⟩
  refine st1 _ ?_
  show Steps p.tables e below (T1.setTop { method := m, pc := pc + 3, locals := ls, stack := .ref T.heap.size :: rest, locked := none }) _
  jvm_step X₁.here [X₁.here.top, hexec, d3', Value.category]
  exact X₁.ldcString hexec (own := own) (text := text) (index := is) (a := sa) hown' hstr'.1 hstr'.2
    (g := { method := m, pc := pc + 4, locals := ls, stack := .ref T.heap.size :: .ref T.heap.size :: rest, locked := none }) rfl d4' _ hsteps
/-- 'throw new E("text")', the text by a wide index -/
theorem vx_throwSW {cc : ByteArray} {pc : Nat} (hexec : p.tables.exec = Jvm.exec) (hb : c.code = cc) (hl : l.stackTraces = false) {own cls text : String} {names : List String} {ik is ic mc ms sa : Nat} {A : Nat → Prop}
    (hown : s.vm.findClass own = some m.cls) (hcls : Bundle.fit cls = true) (hnames : ∀ n ∈ names, Bundle.fit n = true)
    (hk : (Cond.classLink own ik cls).before args s = true) (hini : (Cond.initialized cls).before args s = true) (hstr : vk_R own is text sa s) (hat : ∀ w ∈ vx_atS own ic cls names, w.before args s = true)
    (hgood : ∀ w ∈ Cond.classLink own ik cls :: Cond.initialized cls :: vx_atS own ic cls names, vx_ot w = true)
    (hU : vx_Zq Bundle.tN "UNASSIGNED_STACK" Bundle.steD A s s.heap) (hN : vx_Zq Bundle.tN "SUPPRESSED_SENTINEL" Bundle.listD A s s.heap) (hS : va_S A s.heap H locs) (hsize : ls.size = c.maxLocals)
    (d0 : decode cc pc = .ok (.new ik, 3)) (d3 : decode cc (pc + 3) = .ok (.dup, 1)) (d4 : decode cc (pc + 4) = .ok (.ldc_w is, 3)) (d7 : decode cc (pc + 7) = .ok (.invokespecial ic, 3)) (d10 : decode cc (pc + 10) = .ok (.athrow, 1))
    (hout : ∀ x ∈ c.exceptionTable.toList, covers x (pc + 10) = false)
    (hRframes : names.length + 3 < R.frames) (hRlocals : (rest.map fun v => v.category).sum + (13 * (names.length + 1) + 43) ≤ R.locals) (hRcells : cells + 1 ≤ R.cells) (hRslots : slots + 6 ≤ R.slots) (hlocks : meth.locks = false)
    (hx : ∀ t : State, s.vm.Alike t.vm → H.size ≤ t.heap.size → (∀ q : Nat, q < H.size → t.heap[q]? = H[q]?) → XC cls s t)
    (hf : ∀ z ∈ locs, free z.base) (hc : cells + 1 ≤ mc) (hs : slots + 6 ≤ ms) :
    W p l e R s m args below meth c H locs cells slots (vx_MQ below Qc XC args s mc ms free) (F0 m pc ls rest) := by
  intro T hT X
  have htr : e.platform.stackTraces = false := (show e.platform.stackTraces = l.stackTraces by rw [X.admits.platform]).trans hl
  have Y := vx_rebase X (R' := { frames := R.frames, locals := R.locals, cells := 1, slots := 6 }) (Nat.le_refl _) (Nat.le_refl _) hRcells hRslots
  obtain ⟨s', hA⟩ : ∃ z, z = (T.setVm s.vm).setFrames (.invoking m args :: below) := ⟨_, rfl⟩
  rw [← hA] at Y
  have hvm : s'.vm = s.vm := by rw [hA]; rfl
  have hhp : s'.heap = H := by rw [hA]; exact hT
  have hW0 : s.WarmedH s'.vm := by rw [hvm]; exact State.WarmedH.refl s
  have hat' : ∀ w ∈ vx_atS own ic cls names, w.before args s' = true := fun w hw => vx_ot_at hW0 hvm.symm (hgood w (List.mem_cons_of_mem _ (List.mem_cons_of_mem _ hw))) (hat w hw)
  have hk' : (Cond.classLink own ik cls).before args s' = true := vx_ot_at hW0 hvm.symm (hgood _ List.mem_cons_self) hk
  have hini' : (Cond.initialized cls).before args s' = true := vx_ot_at hW0 hvm.symm (hgood _ (List.mem_cons_of_mem _ List.mem_cons_self)) hini
  have hU' : vx_Zq Bundle.tN "UNASSIGNED_STACK" Bundle.steD A s' s'.heap := by rw [hhp]; exact vx_Zq.moved hW0.alike (hU.kept hS.2.1)
  have hN' : vx_Zq Bundle.tN "SUPPRESSED_SENTINEL" Bundle.listD A s' s'.heap := by rw [hhp]; exact vx_Zq.moved hW0.alike (hN.kept hS.2.1)
  have h : ∀ w ∈ Bundle.ownAtoms own ic cls names, w.before args s' = true := vx_own hat' (vx_isRefq hU'.1) (vx_isRefq hN'.1) hU'.2.word hN'.2.word
  have hown' : s'.vm.findClass own = some m.cls := by rw [hvm]; exact hown
  have hins : (Cond.instantiable cls 6).before args s' = true := h _ (by simp [Bundle.ownAtoms])
  obtain ⟨vm₁, cX, kX, hfX, hkX, -, -, X₁, st1⟩ := Y.newCold hexec (own := own) (C := cls) (index := ik) (n := 6) hown' hk' hins hini'
    (g := F0 m pc ls rest) rfl (by rw [hb]; exact d0) (Nat.le_refl _) (Nat.le_refl _)
  generalize hT1 : (T.setVm vm₁).pushCell { cls := cX, slots := kX.instanceTypes.map defaultValue, vm := .none } = T1 at X₁ st1
  have hcat : (Value.ref T.heap.size).category = 1 := rfl
  have hcellA : T1.heap[T.heap.size]? = some (freshCell cX kX) := by rw [← hT1]; exact State.heap_pushCell_size _ _
  have d3' : decode c.code (pc + 3) = .ok (.dup, 1) := by rw [hb]; exact d3
  have d4' : decode c.code (pc + 4) = .ok (.ldc_w is, 3) := by rw [hb]; exact d4
  have hstr' : vk_R own is text sa s' := vk_R.warm hW0 hstr
  obtain ⟨U, hsteps, hrun, hend, hW, hsame, ce, hce, hO⟩ := X₁.ctorThrowS hexec htr (own := own) (cls := cls) (names := names) (ic := ic) hown' hcls hnames h (fun x hx => nomatch hx) hfX hkX hcellA (by rw [hhp, hT]; exact Nat.le_refl _) (msg := .ref sa) rfl
    (g := { method := m, pc := pc + 7, locals := ls, stack := .ref sa :: .ref T.heap.size :: .ref T.heap.size :: rest, locked := none }) rfl hsize rfl rfl (rest := rest) rfl
    (by rw [hb]; exact d7) (by rw [hb]; exact d10) hout hRframes (by simp only [List.map_cons, List.sum_cons, hcat]; omega) hlocks
  obtain ⟨f1, f2⟩ := vx_frame hsame
  rw [hhp] at f1 f2
  have hWs : s.WarmedH U.vm := State.WarmedH.trans hW0 hW
  have hcl : s.vm.findClass cls = some ce.cls := by
    have h9 := hO.cls
    rw [hvm] at h9
    exact h9
  have hall : s.sameButNew ({ U with vm := s.vm } : State) locs mc ms := by
    subst hA
    obtain ⟨e1, e2⟩ := hsame
    rw [State.setFrames_setFrames] at e1
    have h2 : (T.setVm s.vm).sameButNew ({ U with vm := s.vm } : State) [] (0 + 1) (0 + 6) := ⟨e1, e2⟩
    have h3 := X.same.trans h2
    rw [List.append_nil] at h3
    exact h3.mono hc hs
  refine ⟨U, ?_, .threw T.heap.size, hrun, hend, Or.inr ⟨T.heap.size, rfl, cls, ce, locs, hx U hWs.alike f1 (fun q hq => f2 q hq (fun z hz => nomatch hz)), hce, hO.vm, hcl, hWs, hall, hf⟩⟩
  refine st1 _ ?_
  show Steps p.tables e below (T1.setTop { method := m, pc := pc + 3, locals := ls, stack := .ref T.heap.size :: rest, locked := none }) _
  jvm_step X₁.here [X₁.here.top, hexec, d3', Value.category]
  exact X₁.ldcStringW hexec (own := own) (text := text) (index := is) (a := sa) hown' hstr'.1 hstr'.2
    (g := { method := m, pc := pc + 4, locals := ls, stack := .ref T.heap.size :: .ref T.heap.size :: rest, locked := none }) rfl d4' _ hsteps
end Ends
section Bodies
variable {l : Launch}
theorem vx_ofW {y : MethodName} {ws ws' : List Cond} {rm : Room} {Pc : Array Value → State → Prop} {Qc : Array Value → State → Outcome → State → Prop} {XC : String → State → State → Prop} {mc ms : Nat} {free : Addr → Prop} {cc : ByteArray} {maxL : Nat} {ret : Option FieldType}
    (hy : plainName y.cls = true) (hw : ws = Cond.code y cc maxL ret :: ws')
    (body : ∀ p e s m args below meth c s₁, BodyLoose p l y (headSpec ws rm) cc maxL ret e s m args below meth c s₁ → c.maxLocals = maxL → (∀ x ∈ c.exceptionTable.toList, False) → Pc args s →
      W p l e (headSpec ws rm).room s m args below meth c s.heap [] 0 0 (vx_MQ below Qc XC args s mc ms free) (entryFrame m args maxL)) : vx_Met l y ws rm Pc Qc XC mc ms free := by
  refine MetFree.of_bodyS (code := cc) (maxLocals := maxL) (ret := ret) hy ?_ ?_
  · intro args s m h hn
    obtain ⟨meth, c, h1, h2, h3, h4, h5, h6, -, -⟩ := Cond.code_spec hn (atoms_spec (ws := ws) h _ (by rw [hw]; exact List.mem_cons_self))
    exact ⟨meth, c, h1, h2, h3, h4, h5, h6⟩
  · intro p e s m args below meth c s₁ B hml hP _
    have hh0 : s₁.heap = s.heap := by rw [B.state]; rfl
    have ht : ∀ x ∈ c.exceptionTable.toList, False := by
      obtain ⟨meth9, c9, h1, h2, -, -, -, -, h7, -⟩ := Cond.code_spec B.named (atoms_spec (ws := ws) B.pre _ (by rw [hw]; exact List.mem_cons_self))
      cases Option.some.inj (h1.symm.trans B.method)
      cases Option.some.inj (h2.symm.trans (Stand.of_body B).code)
      intro x hx
      rw [Array.isEmpty_iff.mp h7] at hx
      cases hx
    obtain ⟨t, a1, o, b1, b2, b3⟩ := body p e s m args below meth c s₁ B hml ht hP s₁ hh0 (Stand.of_body B)
    exact ⟨t, o, a1, b1, b2, b3⟩
/-- the table of a body with handlers -/
theorem vx_table {p : Program} {x y : MethodName} {S : Spec} {cc bytes : ByteArray} {maxL maxL' : Nat} {ret ret' : Option FieldType} {e : Env} {s s₁ : State} {m : MethodId} {args : Array Value} {below : List Frame} {meth : Method} {c : Code} {hh : List (Nat × Nat × Nat × Nat)}
    (B : BodyLoose p l y S cc maxL ret e s m args below meth c s₁) (h : (Cond.codeWith y bytes maxL' ret' hh).before args s = true) : c.exceptionTable.toList = tableOf hh := by
  obtain ⟨m9, meth9, c9, hn9, h1, h2, -, -, h6, -⟩ := Cond.codeWith_spec h
  cases Option.some.inj (hn9.symm.trans B.named)
  cases Option.some.inj (h1.symm.trans B.method)
  cases Option.some.inj (h2.symm.trans (Stand.of_body B).code)
  rw [← h6, table_eq]
end Bodies
end VXA
/-! ===== END ===== -/
/-! ===== BEGIN a static call of a method with an exception table ===== -/
section VXS
variable {p : Program} {l : Launch} {e : Env} {R : Room} {s : State} {m : MethodId} {args : Array Value} {below : List Frame} {meth : Method} {c : Code} {T : State} {H : Heap} {locs : List Loc} {cells slots : Nat}
abbrev vx_CSW (R : Room) (s : State) (args : Array Value) (own : String) (index : Nat) (y : MethodName) (bytes : ByteArray) (maxL : Nat) (ret : Option FieldType) (hh : List (Nat × Nat × Nat × Nat)) (ws : List Cond) (rm : Room) (mc ms n : Nat) : Prop :=
  (rm.cells = mc ∧ rm.slots = ms ∧ rm.frames + 1 ≤ R.frames ∧ 8 + (maxL + 11) + rm.locals ≤ R.locals ∧ (∀ w ∈ ws, ∀ (a' : Array Value) (U : State), s.WarmedH U.vm → w.before a' U = true) ∧ Cond.codeWith y bytes maxL ret hh ∈ ws) ∧
  (Cond.codeWith y bytes maxL ret hh).before args s = true ∧ (Cond.initialized y.cls).before args s = true ∧ (y.cls ≠ "java/lang/invoke/MethodHandle" ∧ y.cls ≠ "java/lang/invoke/VarHandle") ∧
  (∀ sig, parseMethodDescriptor y.desc = some sig → n = sig.parameters.length) ∧ (Cond.methodLink own index y).before args s = true ∧ (Cond.static y).before args s = true
theorem vx_cwSW {own : String} {index maxL mc ms : Nat} {y : MethodName} {bytes : ByteArray} {ret : Option FieldType} {hh : List (Nat × Nat × Nat × Nat)} {Ts ws ws' : List Cond} {rm : Room} (n : Nat) (ht : ∀ w ∈ Ts, w.before args s = true) (hT : GoodIn Ts (va_wsS own index y ws)) (hw : ws = Cond.codeWith y bytes maxL ret hh :: ws') (hrc : rm.cells = mc) (hrs : rm.slots = ms)
    (hd : y.cls ≠ "java/lang/invoke/MethodHandle" ∧ y.cls ≠ "java/lang/invoke/VarHandle" ∧ (parseMethodDescriptor y.desc).map (fun d => d.parameters.length) = some n) (hR : rm.frames + 1 ≤ R.frames ∧ 8 + (maxL + 11) + rm.locals ≤ R.locals) :
    vx_CSW R s args own index y bytes maxL ret hh ws rm mc ms n := by
  have ok : ∀ w ∈ va_wsS own index y ws, w.before args s = true := fun w h => ht w (hT w h).1
  have hG : GoodIn Ts ws := fun w h => hT w (by unfold va_wsS; exact List.mem_append_right _ h)
  have hc : Cond.codeWith y bytes maxL ret hh ∈ ws := by rw [hw]; exact List.mem_cons_self
  refine ⟨⟨hrc, hrs, hR.1, hR.2, pay_in ht hG, hc⟩, ht _ (hG _ hc).1, ok _ (by simp [va_wsS]), ⟨hd.1, hd.2.1⟩, fun sig h => ?_, ok _ (by simp [va_wsS]), ok _ (by simp [va_wsS])⟩
  have h2 := hd.2.2
  rw [h] at h2
  exact (Option.some.inj h2).symm
theorem vx_callSW (X : Stand p l e R s m args below meth c T locs cells slots) (hexec : p.tables.exec = Jvm.exec) {own : String} {index : Nat} {y : MethodName} {bytes : ByteArray} {maxL : Nat} {ret : Option FieldType} {hh : List (Nat × Nat × Nat × Nat)}
    (hown : s.vm.findClass own = some m.cls) (hlink : (Cond.methodLink own index y).before args s = true) (hstat : (Cond.static y).before args s = true) (hinit : (Cond.initialized y.cls).before args s = true)
    (hcode : (Cond.codeWith y bytes maxL ret hh).before args s = true) (hy : y.cls ≠ "java/lang/invoke/MethodHandle" ∧ y.cls ≠ "java/lang/invoke/VarHandle")
    {W9 : Nat} {Pre : Pt → Array Value → Prop} {Post : Pt → Array Value → Option Value → Pt → Prop} (hK : Back l R p e below s args y 3 W9 Pre Post)
    {g : JFrame} (hg : g.method = m) (hsize : g.locals.size = c.maxLocals) {argsL rest : List Value} (hlen : ∀ sig, parseMethodDescriptor y.desc = some sig → argsL.length = sig.parameters.length)
    (hstack : g.stack = argsL.reverse ++ rest) (hW : 2 * g.monitorRoom + (rest.map fun v => v.category).sum ≤ W9) (hdg : decode c.code g.pc = .ok (.invokestatic index, 3))
    (hpre : ∀ vm₁, s.WarmedH vm₁ → Pre ⟨T.setVm vm₁, locs, cells, slots⟩ argsL.toArray) :
    ∃ (v : Option Value) (vm₁ : Vm) (B : Pt), s.WarmedH vm₁ ∧ Stand p l e R s m args below meth c B.U B.locs B.cells B.slots ∧ Post ⟨T.setVm vm₁, locs, cells, slots⟩ argsL.toArray v B ∧
      ∀ target, Steps p.tables e below (B.U.setTop { g with pc := g.pc + 3, stack := v.toList ++ rest }) target → Steps p.tables e below (T.setTop g) target := by
  obtain ⟨mk, methM, cM, hnamed, hmethM, -, -, -, -, -, -, hsigM⟩ := Cond.codeWith_spec hcode
  have hstatic : methM.isStatic = true := Cond.static_spec hnamed hmethM hstat
  obtain ⟨kP, hkP, -⟩ := className_of_methodNamed hnamed
  have hinitP : kP.init = .initialized := Cond.initialized_spec (findClass_of_methodNamed hnamed) hkP hinit
  obtain ⟨vm₁, X₁, hstep₁⟩ := X.invokestatic hexec hown hlink hnamed hmethM hstatic hkP hinitP hy (g := g) hg (argsL := argsL) (rest := rest) (hlen _ hsigM) hstack hdg
  obtain ⟨v, B, X', hpost, hsteps⟩ := hK m meth c ⟨T.setVm vm₁, locs, cells, slots⟩ { g with stack := rest } (.invokestatic index) mk argsL.toArray X₁ hg hsize hdg hW (X₁.named hnamed) (hpre vm₁ X₁.warmed)
  exact ⟨v, vm₁, B, X₁.warmed, X', hpost, fun target h => hstep₁ _ fun acts => by rw [doInvoke_state]; exact hsteps.trans h⟩
theorem vx_runSW {y : MethodName} {bytes cc : ByteArray} {maxL nL mc ms n index : Nat} {ret : Option FieldType} {hh : List (Nat × Nat × Nat × Nat)} {ws : List Cond} {rm : Room} {Pc : Array Value → State → Prop} {Qc : Array Value → State → Outcome → State → Prop} {free : Addr → Prop} {Ts : List Cond} {own : String} {As rest : List Value} {g : JFrame}
    (S : CallFix p m c cc nL s args Ts own) (hM : Met l y ws rm Pc Qc mc ms free) (cw : vx_CSW R s args own index y bytes maxL ret hh ws rm mc ms n) (hp : PreS s H Pc As)
    (hg : g.method = m) (hn : As.length = n) (hsize : g.locals.size = nL) (hstack : g.stack = As.reverse ++ rest) (hW : 2 * g.monitorRoom + (rest.map fun v => v.category).sum ≤ 8) (hdg : decode cc g.pc = .ok (.invokestatic index, 3)) (hf : cells + mc ≤ R.cells ∧ slots + ms ≤ R.slots) :
    va_Run p l e R s m args below meth c H locs cells slots mc ms g rest (Qc As.toArray) (free) := by
  obtain ⟨⟨hrc, hrs, hfr, hlo, hws, hcw⟩, hcode, hini, hy, hlen, hl, hstt⟩ := cw
  have hK : Back l R p e below s args y 3 8 (PreOf R mc ms Pc) (PostOf Qc mc ms free) := va_backW (hh := hh) (bytes := bytes) (maxL := maxL) (ret := ret) hM hp.1 hrc hrs hfr hlo hws hcw (fun a' U hW => word_at hW (Or.inl (by first | rfl | simp [Cond.onTables, Cond.keeps, Cond.steady])) hini)
  obtain ⟨hx, hb, hml, ho, -⟩ := S
  intro T hT X
  obtain ⟨v, vm₁, ⟨U', l2, c2, s2⟩, hW₁, X', ⟨g', mk, t, L, e1, e2, hq, h1, hL, h2, h3⟩, st⟩ := vx_callSW X hx (hh := hh) (bytes := bytes) (maxL := maxL) (ret := ret) ho hl hstt hini hcode hy hK hg (hsize.trans hml.symm) (argsL := As) (rest := rest) (fun sig h => hn.trans (hlen sig h)) hstack hW (by rw [hb]; exact hdg)
    (fun vm₁ hW₁ => ⟨hf.1, hf.2, hp.2 (T.setVm vm₁) hT hW₁⟩)
  dsimp only [Pt.U, Pt.locs, Pt.cells, Pt.slots] at X' e1 e2 h1 h2 h3 st
  subst h1; subst h2; subst h3
  exact ⟨v, (T.setVm vm₁).calling g' mk As.toArray, t, U', L, hT, X', hL, e1, e2, hq, st⟩
/-- a thing of a world lies in the heap -/
theorem vx_lt {D : va_G} {cl : List vw_C} {ws : va_W} {H1 : Heap} (h : va_P D cl ws H1) {k : Nat} {q : Nat × va_E} (hk : ws[k]? = some q) : q.1 < H1.size := (h k q hk).lt
end VXS
/-! ===== END ===== -/
/-! ===== BEGIN methods with a table of their own: called by a name, returning or throwing ===== -/
section VXH
/-! vx_backW, vx_callVX, vx_callSX, vx_callVW, vx_runVW, vx_runVX, vx_runSX, vx_ofWH follow the same proofs as their sisters above (Free/Laws.lean, Shelf42/LK1.lean); vx_outP calls Shelf42/NT130.lean (outThrough). -/
section
variable {l : Launch} {R : Room} {p : Program} {e : Env} {below : List Frame} {s : State} {sargs : Array Value} {y : MethodName} {len W9 : Nat}
theorem vx_backW {ws : List Cond} {rm : Room} {Pc : Array Value → State → Prop} {Qc : Array Value → State → Outcome → State → Prop} {XC : String → State → State → Prop} {mc ms : Nat} {free : Addr → Prop} {bytes : ByteArray} {maxL : Nat} {ret : Option FieldType} {hh : List (Nat × Nat × Nat × Nat)}
    (hM : vx_Met l y ws rm Pc Qc XC mc ms free) (hblind : FrameBlind Pc) (hrc : rm.cells = mc) (hrs : rm.slots = ms)
    (hframes : rm.frames + 1 ≤ R.frames) (hlocals : W9 + (maxL + 11) + rm.locals ≤ R.locals)
    (hws : ∀ w ∈ ws, ∀ a' U, s.WarmedH U.vm → w.before a' U = true) (hcode : Cond.codeWith y bytes maxL ret hh ∈ ws) (hinit : ∀ a' U, s.WarmedH U.vm → (Cond.initialized y.cls).before a' U = true) :
    vx_Back l R p e below s sargs y len W9 (PreOf R mc ms Pc) (PostOf Qc mc ms free) (vx_Post XC mc ms free) := by
  intro m meth c A g ig mk a X hg hsize hdg hW hn hp
  have h1 : (headSpec ws rm).pre.before a A.U = true := atoms_intro fun w hw => hws w hw _ _ X.warmed
  have h2 : (Cond.codeWith y bytes maxL ret hh).before a A.U = true := hws _ hcode _ _ X.warmed
  have h3 : (Cond.initialized y.cls).before a A.U = true := hinit _ _ X.warmed
  have h4 : A.cells + (headSpec ws rm).room.cells ≤ R.cells := by rw [show (headSpec ws rm).room.cells = mc from hrc]; exact hp.1
  have h5 : A.slots + (headSpec ws rm).room.slots ≤ R.slots := by rw [show (headSpec ws rm).room.slots = ms from hrs]; exact hp.2.1
  have hPc : Pc a (A.U.calling g mk a) := hblind _ _ _ _ hp.2.2
  obtain ⟨U, Ls, c0, s0⟩ := A
  dsimp only [Pt.U, Pt.locs, Pt.cells, Pt.slots] at h1 h2 h3 h4 h5 X hn hPc ⊢
  obtain ⟨m9, methY, cY, hn9, hmY, hcY, -, hlY, -⟩ := Cond.codeWith_spec h2
  cases Option.some.inj (hn9.symm.trans hn)
  obtain ⟨kY, hkY, -⟩ := className_of_methodNamed hn
  have hinitY : kY.init = .initialized := Cond.initialized_spec (findClass_of_methodNamed hn) hkY h3
  have h : At U g.method c below := by rw [hg]; exact X.here
  have hlocals9 : W9 + (maxL + 11) + (headSpec ws rm).room.locals ≤ R.locals := hlocals
  have happ : (headSpec ws rm).appliesLoose y e.platform (U.calling g mk a) = true :=
    Spec.appliesLoose_calling (g := g) h hdg hn hkY hinitY
      (X.room_calling (g := g) (R' := (headSpec ws rm).room) hsize hmY hcY hframes (by rw [hlY]; omega) h4 h5) h1
  obtain ⟨mid, hmid⟩ := h.above
  have hfr : (U.setTop g).frames = (.java g :: mid) ++ below := by rw [State.frames_setTop' g h.top, hmid]; rfl
  obtain ⟨o, s₂, hsteps, -, hend, hq⟩ := Steps.callFree hM p X.admits X.cas X.clock (acts := []) hfr happ hPc trivial
  have hq' : vx_Q Qc XC mc ms free a (U.calling g mk a) o s₂ := hq
  rw [State.frames_setTop' g h.top] at hend
  obtain ⟨g₀, hg0⟩ := Option.isSome_iff_exists.mp h.top
  obtain ⟨r, hr⟩ := State.topJava?_eq_some.mp hg0
  have hr' : (({ U with heap := s₂.heap, slotsUsed := s₂.slotsUsed } : State).setVm s₂.vm).frames = .java g₀ :: r := hr
  rcases hq' with ⟨hqc, L, hfe, hL⟩ | ⟨q, rfl, E, ce, L, hx, hce, hcv, hcl, hW₂, hsm, hL⟩
  · obtain ⟨⟨v, rfl⟩, hW₂, e2, q2, q3, q4, q5, q6⟩ := id hfe
    have e3 : s₂ = ({ (U.calling g mk a).setFrames s₂.frames with heap := s₂.heap, slotsUsed := s₂.slotsUsed } : State).setVm s₂.vm := by
      have : s₂ = ({ s₂ with vm := (U.calling g mk a).vm } : State).setVm s₂.vm := rfl
      rw [e2] at this
      exact this
    obtain ⟨c₂, i₂, len₂, hc₂, hd₂, hf₂⟩ := hend
    have hW' : U.WarmedH s₂.vm := hW₂
    have hcc : c₂ = c := by
      have h1 : s₂.code? g.method = U.code? g.method := by
        rw [State.code?_eq, State.code?_eq, hW'.alike.method?]
      exact Option.some.inj (hc₂.symm.trans (h1.trans h.code))
    subst hcc
    have hlen : len₂ = len := by rw [hdg] at hd₂; cases hd₂; rfl
    subst hlen
    have hs₂ : s₂ = (({ U with heap := s₂.heap, slotsUsed := s₂.slotsUsed } : State).setVm s₂.vm).setTop { g with pc := g.pc + len₂, stack := v.toList ++ g.stack } := by
      refine e3.trans ?_
      rw [hf₂, State.calling_eq h.top, State.setFrames_setFrames, State.setTop_of_frames _ hr', hr]
      rfl
    have hsame : U.sameButNew ({ U with heap := s₂.heap, slotsUsed := s₂.slotsUsed } : State) L mc ms := by
      refine ⟨?_, q2, q3, q4, q5, q6⟩
      obtain ⟨t, ht, -⟩ := State.frames_cons hr
      show ({ U with heap := s₂.heap, slotsUsed := s₂.slotsUsed } : State) = { U.setFrames U.frames with heap := s₂.heap, slotsUsed := s₂.slotsUsed }
      rw [State.setFrames_self ht]
    subst hg
    refine Or.inl ⟨v, ⟨(({ U with heap := s₂.heap, slotsUsed := s₂.slotsUsed } : State).setVm s₂.vm), Ls ++ L, c0 + mc, s0 + ms⟩,
      ⟨X.admits, X.cas, X.clock, X.frames, X.room, X.hears, X.method, X.code, (X.here.setHeapUsed s₂.heap s₂.slotsUsed).setVm hW'.alike, X.tail, State.WarmedH.trans X.warmed hW', X.limits, X.bytes, X.same.trans (hsame.setVm s.vm)⟩,
      ⟨g, mk, s₂, L, rfl, rfl, hqc, rfl, hL, rfl, rfl⟩, ?_⟩
    show Steps p.tables e below _ ((({ U with heap := s₂.heap, slotsUsed := s₂.slotsUsed } : State).setVm s₂.vm).setTop { g with pc := g.pc + len₂, stack := v.toList ++ g.stack })
    rw [← hs₂]
    exact hsteps
  · obtain ⟨e2, q2, q3, q4, q5, q6⟩ := id hsm
    have e3 : s₂ = ({ (U.calling g mk a).setFrames s₂.frames with heap := s₂.heap, slotsUsed := s₂.slotsUsed } : State).setVm s₂.vm := by
      have : s₂ = ({ s₂ with vm := (U.calling g mk a).vm } : State).setVm s₂.vm := rfl
      rw [e2] at this
      exact this
    have hf₂ : s₂.frames = .throwing q :: .java g :: U.frames.tail := hend
    have hW' : U.WarmedH s₂.vm := hW₂
    have hs₂ : s₂ = ((({ U with heap := s₂.heap, slotsUsed := s₂.slotsUsed } : State).setVm s₂.vm).setTop g).pushFrame (.throwing q) := by
      refine e3.trans ?_
      rw [hf₂, State.calling_eq h.top, State.setFrames_setFrames, State.pushFrame, State.frames_setTop _ hr', State.setTop_of_frames _ hr', State.setFrames_setFrames, hr]
      rfl
    have hsame : U.sameButNew ({ U with heap := s₂.heap, slotsUsed := s₂.slotsUsed } : State) L mc ms := by
      refine ⟨?_, q2, q3, q4, q5, q6⟩
      obtain ⟨t, ht, -⟩ := State.frames_cons hr
      show ({ U with heap := s₂.heap, slotsUsed := s₂.slotsUsed } : State) = { U.setFrames U.frames with heap := s₂.heap, slotsUsed := s₂.slotsUsed }
      rw [State.setFrames_self ht]
    subst hg
    refine Or.inr ⟨q, ⟨(({ U with heap := s₂.heap, slotsUsed := s₂.slotsUsed } : State).setVm s₂.vm), Ls ++ L, c0 + mc, s0 + ms⟩,
      ⟨X.admits, X.cas, X.clock, X.frames, X.room, X.hears, X.method, X.code, (X.here.setHeapUsed s₂.heap s₂.slotsUsed).setVm hW'.alike, X.tail, State.WarmedH.trans X.warmed hW', X.limits, X.bytes, X.same.trans (hsame.setVm s.vm)⟩,
      ⟨g, mk, s₂, L, E, ce, rfl, rfl, hx, hce, hcv, hcl, rfl, hL, rfl, rfl⟩, ?_⟩
    show Steps p.tables e below _ (((({ U with heap := s₂.heap, slotsUsed := s₂.slotsUsed } : State).setVm s₂.vm).setTop g).pushFrame (.throwing q))
    rw [← hs₂]
    exact hsteps
end
variable {p : Program} {l : Launch} {e : Env} {R : Room} {s : State} {m : MethodId} {args : Array Value} {below : List Frame} {meth : Method} {c : Code} {T : State} {H : Heap} {locs : List Loc} {cells slots : Nat}
theorem vx_callVX (X : Stand p l e R s m args below meth c T locs cells slots) (hexec : p.tables.exec = Jvm.exec) {own C : String} {index : Nat} {y : MethodName} {bytes : ByteArray} {maxL : Nat} {ret : Option FieldType} {hh : List (Nat × Nat × Nat × Nat)}
    (hown : s.vm.findClass own = some m.cls) (hlink : (Cond.methodLink own index y).before args s = true) (hinst : (Cond.instanceMethod y).before args s = true) (hsel : (Cond.selects C y y).before args s = true)
    (hcode : (Cond.codeWith y bytes maxL ret hh).before args s = true) (hy : y.cls ≠ "java/lang/invoke/MethodHandle" ∧ y.cls ≠ "java/lang/invoke/VarHandle")
    {W9 : Nat} {Pre : Pt → Array Value → Prop} {Post : Pt → Array Value → Option Value → Pt → Prop} {PostX : Pt → Array Value → Addr → Pt → Prop} (hK : vx_Back l R p e below s args y 3 W9 Pre Post PostX)
    {b : Addr} {cellB : Cell} (hcell : T.heap[b]? = some cellB) (hobj : cellB.vm.isStatics = false) (hcls : s.vm.findClass C = some cellB.cls)
    {g : JFrame} (hg : g.method = m) (hsize : g.locals.size = c.maxLocals) {argsL rest : List Value} (hlen : ∀ sig, parseMethodDescriptor y.desc = some sig → argsL.length = sig.parameters.length)
    (hstack : g.stack = argsL.reverse ++ .ref b :: rest) (hW : 2 * g.monitorRoom + (rest.map fun v => v.category).sum ≤ W9) (hdg : decode c.code g.pc = .ok (.invokevirtual index, 3))
    (hpre : ∀ vm₁, s.WarmedH vm₁ → Pre ⟨T.setVm vm₁, locs, cells, slots⟩ (Value.ref b :: argsL).toArray) :
    (∃ (v : Option Value) (vm₁ : Vm) (B : Pt), s.WarmedH vm₁ ∧ Stand p l e R s m args below meth c B.U B.locs B.cells B.slots ∧ Post ⟨T.setVm vm₁, locs, cells, slots⟩ (Value.ref b :: argsL).toArray v B ∧
      ∀ target, Steps p.tables e below (B.U.setTop { g with pc := g.pc + 3, stack := v.toList ++ rest }) target → Steps p.tables e below (T.setTop g) target) ∨
    (∃ (q : Addr) (vm₁ : Vm) (B : Pt), s.WarmedH vm₁ ∧ Stand p l e R s m args below meth c B.U B.locs B.cells B.slots ∧ PostX ⟨T.setVm vm₁, locs, cells, slots⟩ (Value.ref b :: argsL).toArray q B ∧
      Steps p.tables e below (T.setTop g) ((B.U.setTop { g with stack := rest }).pushFrame (.throwing q))) := by
  obtain ⟨mk, methM, hnamed, hmethM, hstM, habM⟩ := Cond.instanceMethod_spec hinst
  obtain ⟨m8, methM', cM, hn8, hmethM', -, -, -, -, -, -, hsigM⟩ := Cond.codeWith_spec hcode
  cases Option.some.inj (hn8.symm.trans hnamed)
  cases hmethM.symm.trans hmethM'
  obtain ⟨c2, r2, m2, q1, q2, q3, q4, kP, hkP, hkPi⟩ := Cond.selects_spec hsel
  cases hcls.symm.trans q1
  cases (State.methodFound?_of_named hnamed hy).symm.trans q2
  cases hnamed.symm.trans q3
  have hselP : selectMethod e.platform s.vm cellB.cls mk = .method mk := by rw [Launch.admits_selectMethod X.admits]; exact q4
  obtain ⟨vm₁, X₁, hstep₁⟩ := X.invokevirtual hexec hown hlink hnamed hmethM hstM hkP hkPi hy (a := b) (cell := cellB) hcell
    (fun z h => by rw [h] at hobj; cases hobj) hselP hmethM habM hkP hkPi (g := g) hg (argsL := argsL) (rest := rest) (hlen _ hsigM) hstack hdg
  rcases hK m meth c ⟨T.setVm vm₁, locs, cells, slots⟩ { g with stack := rest } (.invokevirtual index) mk (Value.ref b :: argsL).toArray X₁ hg hsize hdg hW (X₁.named hnamed) (hpre vm₁ X₁.warmed) with ⟨v, B, X', hpost, hsteps⟩ | ⟨q, B, X', hpost, hsteps⟩
  · exact Or.inl ⟨v, vm₁, B, X₁.warmed, X', hpost, fun target h => hstep₁ _ fun acts => by rw [doInvoke_state]; exact hsteps.trans h⟩
  · exact Or.inr ⟨q, vm₁, B, X₁.warmed, X', hpost, hstep₁ _ fun acts => by rw [doInvoke_state]; exact hsteps⟩
theorem vx_callSX (X : Stand p l e R s m args below meth c T locs cells slots) (hexec : p.tables.exec = Jvm.exec) {own : String} {index : Nat} {y : MethodName} {bytes : ByteArray} {maxL : Nat} {ret : Option FieldType} {hh : List (Nat × Nat × Nat × Nat)}
    (hown : s.vm.findClass own = some m.cls) (hlink : (Cond.methodLink own index y).before args s = true) (hstat : (Cond.static y).before args s = true) (hinit : (Cond.initialized y.cls).before args s = true)
    (hcode : (Cond.codeWith y bytes maxL ret hh).before args s = true) (hy : y.cls ≠ "java/lang/invoke/MethodHandle" ∧ y.cls ≠ "java/lang/invoke/VarHandle")
    {W9 : Nat} {Pre : Pt → Array Value → Prop} {Post : Pt → Array Value → Option Value → Pt → Prop} {PostX : Pt → Array Value → Addr → Pt → Prop} (hK : vx_Back l R p e below s args y 3 W9 Pre Post PostX)
    {g : JFrame} (hg : g.method = m) (hsize : g.locals.size = c.maxLocals) {argsL rest : List Value} (hlen : ∀ sig, parseMethodDescriptor y.desc = some sig → argsL.length = sig.parameters.length)
    (hstack : g.stack = argsL.reverse ++ rest) (hW : 2 * g.monitorRoom + (rest.map fun v => v.category).sum ≤ W9) (hdg : decode c.code g.pc = .ok (.invokestatic index, 3))
    (hpre : ∀ vm₁, s.WarmedH vm₁ → Pre ⟨T.setVm vm₁, locs, cells, slots⟩ argsL.toArray) :
    (∃ (v : Option Value) (vm₁ : Vm) (B : Pt), s.WarmedH vm₁ ∧ Stand p l e R s m args below meth c B.U B.locs B.cells B.slots ∧ Post ⟨T.setVm vm₁, locs, cells, slots⟩ argsL.toArray v B ∧
      ∀ target, Steps p.tables e below (B.U.setTop { g with pc := g.pc + 3, stack := v.toList ++ rest }) target → Steps p.tables e below (T.setTop g) target) ∨
    (∃ (q : Addr) (vm₁ : Vm) (B : Pt), s.WarmedH vm₁ ∧ Stand p l e R s m args below meth c B.U B.locs B.cells B.slots ∧ PostX ⟨T.setVm vm₁, locs, cells, slots⟩ argsL.toArray q B ∧
      Steps p.tables e below (T.setTop g) ((B.U.setTop { g with stack := rest }).pushFrame (.throwing q))) := by
  obtain ⟨mk, methM, cM, hnamed, hmethM, -, -, -, -, -, -, hsigM⟩ := Cond.codeWith_spec hcode
  have hstatic : methM.isStatic = true := Cond.static_spec hnamed hmethM hstat
  obtain ⟨kP, hkP, -⟩ := className_of_methodNamed hnamed
  have hinitP : kP.init = .initialized := Cond.initialized_spec (findClass_of_methodNamed hnamed) hkP hinit
  obtain ⟨vm₁, X₁, hstep₁⟩ := X.invokestatic hexec hown hlink hnamed hmethM hstatic hkP hinitP hy (g := g) hg (argsL := argsL) (rest := rest) (hlen _ hsigM) hstack hdg
  rcases hK m meth c ⟨T.setVm vm₁, locs, cells, slots⟩ { g with stack := rest } (.invokestatic index) mk argsL.toArray X₁ hg hsize hdg hW (X₁.named hnamed) (hpre vm₁ X₁.warmed) with ⟨v, B, X', hpost, hsteps⟩ | ⟨q, B, X', hpost, hsteps⟩
  · exact Or.inl ⟨v, vm₁, B, X₁.warmed, X', hpost, fun target h => hstep₁ _ fun acts => by rw [doInvoke_state]; exact hsteps.trans h⟩
  · exact Or.inr ⟨q, vm₁, B, X₁.warmed, X', hpost, hstep₁ _ fun acts => by rw [doInvoke_state]; exact hsteps⟩
theorem vx_callVW (X : Stand p l e R s m args below meth c T locs cells slots) (hexec : p.tables.exec = Jvm.exec) {own C : String} {index : Nat} {y : MethodName} {bytes : ByteArray} {maxL : Nat} {ret : Option FieldType} {hh : List (Nat × Nat × Nat × Nat)}
    (hown : s.vm.findClass own = some m.cls) (hlink : (Cond.methodLink own index y).before args s = true) (hinst : (Cond.instanceMethod y).before args s = true) (hsel : (Cond.selects C y y).before args s = true)
    (hcode : (Cond.codeWith y bytes maxL ret hh).before args s = true) (hy : y.cls ≠ "java/lang/invoke/MethodHandle" ∧ y.cls ≠ "java/lang/invoke/VarHandle")
    {W9 : Nat} {Pre : Pt → Array Value → Prop} {Post : Pt → Array Value → Option Value → Pt → Prop} (hK : Back l R p e below s args y 3 W9 Pre Post)
    {b : Addr} {cellB : Cell} (hcell : T.heap[b]? = some cellB) (hobj : cellB.vm.isStatics = false) (hcls : s.vm.findClass C = some cellB.cls)
    {g : JFrame} (hg : g.method = m) (hsize : g.locals.size = c.maxLocals) {argsL rest : List Value} (hlen : ∀ sig, parseMethodDescriptor y.desc = some sig → argsL.length = sig.parameters.length)
    (hstack : g.stack = argsL.reverse ++ .ref b :: rest) (hW : 2 * g.monitorRoom + (rest.map fun v => v.category).sum ≤ W9) (hdg : decode c.code g.pc = .ok (.invokevirtual index, 3))
    (hpre : ∀ vm₁, s.WarmedH vm₁ → Pre ⟨T.setVm vm₁, locs, cells, slots⟩ (Value.ref b :: argsL).toArray) :
    ∃ (v : Option Value) (vm₁ : Vm) (B : Pt), s.WarmedH vm₁ ∧ Stand p l e R s m args below meth c B.U B.locs B.cells B.slots ∧ Post ⟨T.setVm vm₁, locs, cells, slots⟩ (Value.ref b :: argsL).toArray v B ∧
      ∀ target, Steps p.tables e below (B.U.setTop { g with pc := g.pc + 3, stack := v.toList ++ rest }) target → Steps p.tables e below (T.setTop g) target := by
  obtain ⟨mk, methM, hnamed, hmethM, hstM, habM⟩ := Cond.instanceMethod_spec hinst
  obtain ⟨m8, methM', cM, hn8, hmethM', -, -, -, -, -, -, hsigM⟩ := Cond.codeWith_spec hcode
  cases Option.some.inj (hn8.symm.trans hnamed)
  cases hmethM.symm.trans hmethM'
  obtain ⟨c2, r2, m2, q1, q2, q3, q4, kP, hkP, hkPi⟩ := Cond.selects_spec hsel
  cases hcls.symm.trans q1
  cases (State.methodFound?_of_named hnamed hy).symm.trans q2
  cases hnamed.symm.trans q3
  have hselP : selectMethod e.platform s.vm cellB.cls mk = .method mk := by rw [Launch.admits_selectMethod X.admits]; exact q4
  obtain ⟨vm₁, X₁, hstep₁⟩ := X.invokevirtual hexec hown hlink hnamed hmethM hstM hkP hkPi hy (a := b) (cell := cellB) hcell
    (fun z h => by rw [h] at hobj; cases hobj) hselP hmethM habM hkP hkPi (g := g) hg (argsL := argsL) (rest := rest) (hlen _ hsigM) hstack hdg
  obtain ⟨v, B, X', hpost, hsteps⟩ := hK m meth c ⟨T.setVm vm₁, locs, cells, slots⟩ { g with stack := rest } (.invokevirtual index) mk (Value.ref b :: argsL).toArray X₁ hg hsize hdg hW (X₁.named hnamed) (hpre vm₁ X₁.warmed)
  exact ⟨v, vm₁, B, X₁.warmed, X', hpost, fun target h => hstep₁ _ fun acts => by rw [doInvoke_state]; exact hsteps.trans h⟩
abbrev vx_CVW (R : Room) (s : State) (args : Array Value) (own C : String) (index : Nat) (y : MethodName) (bytes : ByteArray) (maxL : Nat) (ret : Option FieldType) (hh : List (Nat × Nat × Nat × Nat)) (ws : List Cond) (rm : Room) (mc ms n : Nat) : Prop :=
  (rm.cells = mc ∧ rm.slots = ms ∧ rm.frames + 1 ≤ R.frames ∧ 8 + (maxL + 11) + rm.locals ≤ R.locals ∧ (∀ w ∈ ws, ∀ (a' : Array Value) (U : State), s.WarmedH U.vm → w.before a' U = true) ∧ Cond.codeWith y bytes maxL ret hh ∈ ws) ∧
  (Cond.codeWith y bytes maxL ret hh).before args s = true ∧ (Cond.initialized y.cls).before args s = true ∧ (y.cls ≠ "java/lang/invoke/MethodHandle" ∧ y.cls ≠ "java/lang/invoke/VarHandle") ∧
  (∀ sig, parseMethodDescriptor y.desc = some sig → n = sig.parameters.length) ∧ (Cond.methodLink own index y).before args s = true ∧ (Cond.instanceMethod y).before args s = true ∧ (Cond.selects C y y).before args s = true
theorem vx_cwVW {own C : String} {index maxL mc ms : Nat} {y : MethodName} {bytes : ByteArray} {ret : Option FieldType} {hh : List (Nat × Nat × Nat × Nat)} {Ts ws ws' : List Cond} {rm : Room} (n : Nat) (ht : ∀ w ∈ Ts, w.before args s = true) (hT : GoodIn Ts (wsV own index C y ws)) (hw : ws = Cond.codeWith y bytes maxL ret hh :: ws') (hrc : rm.cells = mc) (hrs : rm.slots = ms)
    (hd : y.cls = C ∧ y.cls ≠ "java/lang/invoke/MethodHandle" ∧ y.cls ≠ "java/lang/invoke/VarHandle" ∧ (parseMethodDescriptor y.desc).map (fun d => d.parameters.length) = some n) (hR : rm.frames + 1 ≤ R.frames ∧ 8 + (maxL + 11) + rm.locals ≤ R.locals) :
    vx_CVW R s args own C index y bytes maxL ret hh ws rm mc ms n := by
  obtain ⟨hC, hd⟩ := hd
  subst hC
  have ok : ∀ w ∈ wsV own index y.cls y ws, w.before args s = true := fun w h => ht w (hT w h).1
  have hG : GoodIn Ts ws := fun w h => hT w (by unfold wsV; exact List.mem_append_right _ h)
  have hc : Cond.codeWith y bytes maxL ret hh ∈ ws := by rw [hw]; exact List.mem_cons_self
  refine ⟨⟨hrc, hrs, hR.1, hR.2, pay_in ht hG, hc⟩, ht _ (hG _ hc).1, ok _ (by simp [wsV]), ⟨hd.1, hd.2.1⟩, fun sig h => ?_, ok _ (by simp [wsV]), ok _ (by simp [wsV]), ok _ (by simp [wsV])⟩
  have h2 := hd.2.2
  rw [h] at h2
  exact (Option.some.inj h2).symm
theorem vx_runVW {y : MethodName} {bytes cc : ByteArray} {maxL nL mc ms n index : Nat} {ret : Option FieldType} {hh : List (Nat × Nat × Nat × Nat)} {ws : List Cond} {rm : Room} {Pc : Array Value → State → Prop} {Qc : Array Value → State → Outcome → State → Prop} {free : Addr → Prop} {Ts : List Cond} {own C : String} {b : Addr} {As rest : List Value} {g : JFrame}
    (S : CallFix p m c cc nL s args Ts own) (hM : Met l y ws rm Pc Qc mc ms free) (cw : vx_CVW R s args own C index y bytes maxL ret hh ws rm mc ms n) (hp : PreV s H C b Pc As)
    (hg : g.method = m) (hn : As.length = n) (hsize : g.locals.size = nL) (hstack : g.stack = As.reverse ++ .ref b :: rest) (hW : 2 * g.monitorRoom + (rest.map fun v => v.category).sum ≤ 8) (hdg : decode cc g.pc = .ok (.invokevirtual index, 3)) (hf : cells + mc ≤ R.cells ∧ slots + ms ≤ R.slots) :
    va_Run p l e R s m args below meth c H locs cells slots mc ms g rest (Qc (Value.ref b :: As).toArray) free := by
  obtain ⟨⟨hrc, hrs, hfr, hlo, hws, hcw⟩, hcode, hini, hy, hlen, hl, hin, hse⟩ := cw
  have hK : Back l R p e below s args y 3 8 (PreOf R mc ms Pc) (PostOf Qc mc ms free) := va_backW (hh := hh) (bytes := bytes) (maxL := maxL) (ret := ret) hM hp.1 hrc hrs hfr hlo hws hcw (fun a' U hW => word_at hW (Or.inl (by first | rfl | simp [Cond.onTables, Cond.keeps, Cond.steady])) hini)
  obtain ⟨hx, hb, hml, ho, -⟩ := S
  obtain ⟨-, ⟨cellB, hcB, hoB, hclB⟩, hPc⟩ := hp
  intro T hT X
  obtain ⟨v, vm₁, ⟨U', l2, c2, s2⟩, hW₁, X', ⟨g', mk, t, L, e1, e2, hq, h1, hL, h2, h3⟩, st⟩ := vx_callVW X hx (C := C) (hh := hh) (bytes := bytes) (maxL := maxL) (ret := ret) ho hl hin hse hcode hy hK (by rw [hT]; exact hcB) hoB hclB hg (hsize.trans hml.symm) (argsL := As) (rest := rest) (fun sig h => hn.trans (hlen sig h)) hstack hW (by rw [hb]; exact hdg)
    (fun vm₁ hW₁ => ⟨hf.1, hf.2, hPc (T.setVm vm₁) hT hW₁⟩)
  dsimp only [Pt.U, Pt.locs, Pt.cells, Pt.slots] at X' e1 e2 h1 h2 h3 st
  subst h1; subst h2; subst h3
  exact ⟨v, (T.setVm vm₁).calling g' mk (Value.ref b :: As).toArray, t, U', L, hT, X', hL, e1, e2, hq, st⟩
section
variable {y : MethodName} {bytes cc : ByteArray} {maxL nL mc ms n index : Nat} {ret : Option FieldType} {ws : List Cond} {rm : Room} {Pc : Array Value → State → Prop} {Qc : Array Value → State → Outcome → State → Prop} {XC : String → State → State → Prop} {free : Addr → Prop} {Ts : List Cond} {own C : String} {b : Addr} {As rest : List Value} {g : JFrame}
theorem vx_runVX {hh : List (Nat × Nat × Nat × Nat)} (S : CallFix p m c cc nL s args Ts own) (hM : vx_Met l y ws rm Pc Qc XC mc ms free) (cw : vx_CVW R s args own C index y bytes maxL ret hh ws rm mc ms n) (hp : PreV s H C b Pc As)
    (hg : g.method = m) (hn : As.length = n) (hsize : g.locals.size = nL) (hstack : g.stack = As.reverse ++ .ref b :: rest) (hW : 2 * g.monitorRoom + (rest.map fun v => v.category).sum ≤ 8) (hdg : decode cc g.pc = .ok (.invokevirtual index, 3)) (hf : cells + mc ≤ R.cells ∧ slots + ms ≤ R.slots) :
    vx_Run p l e R s m args below meth c H locs cells slots mc ms g rest (Qc (Value.ref b :: As).toArray) XC free := by
  obtain ⟨⟨hrc, hrs, hfr, hlo, hws, hcw⟩, hcode, hini, hy, hlen, hl, hin, hse⟩ := cw
  have hK : vx_Back l R p e below s args y 3 8 (PreOf R mc ms Pc) (PostOf Qc mc ms free) (vx_Post XC mc ms free) := vx_backW (hh := hh) (bytes := bytes) (maxL := maxL) (ret := ret) hM hp.1 hrc hrs hfr hlo hws hcw (fun a' U hW => word_at hW (Or.inl (by first | rfl | simp [Cond.onTables, Cond.keeps, Cond.steady])) hini)
  obtain ⟨hx, hb, hml, ho, -⟩ := S
  obtain ⟨-, ⟨cellB, hcB, hoB, hclB⟩, hPc⟩ := hp
  intro T hT X
  rcases vx_callVX X hx (C := C) (hh := hh) (bytes := bytes) (maxL := maxL) (ret := ret) ho hl hin hse hcode hy hK (by rw [hT]; exact hcB) hoB hclB hg (hsize.trans hml.symm) (argsL := As) (rest := rest) (fun sig h => hn.trans (hlen sig h)) hstack hW (by rw [hb]; exact hdg)
    (fun vm₁ hW₁ => ⟨hf.1, hf.2, hPc (T.setVm vm₁) hT hW₁⟩) with ⟨v, vm₁, ⟨U', l2, c2, s2⟩, hW₁, X', ⟨g', mk, t, L, e1, e2, hq, h1, hL, h2, h3⟩, st⟩ | ⟨q, vm₁, ⟨U', l2, c2, s2⟩, hW₁, X', ⟨g', mk, t, L, E, ce, e1, e2, hq, hce, hcv, hcl, h1, hL, h2, h3⟩, st⟩
  · dsimp only [Pt.U, Pt.locs, Pt.cells, Pt.slots] at X' e1 e2 h1 h2 h3 st
    subst h1; subst h2; subst h3
    exact Or.inl ⟨v, (T.setVm vm₁).calling g' mk (Value.ref b :: As).toArray, t, U', L, hT, X', hL, e1, e2, hq, st⟩
  · dsimp only [Pt.U, Pt.locs, Pt.cells, Pt.slots] at X' e1 e2 h1 h2 h3 st hcl
    subst h1; subst h2; subst h3
    exact Or.inr ⟨q, (T.setVm vm₁).calling g' mk (Value.ref b :: As).toArray, t, U', L, E, ce, hT, X', hL, e1, e2, hq, hce, hcv, vx_cls hW₁ hcl, st⟩
theorem vx_runSX {hh : List (Nat × Nat × Nat × Nat)} (S : CallFix p m c cc nL s args Ts own) (hM : vx_Met l y ws rm Pc Qc XC mc ms free) (cw : vx_CSW R s args own index y bytes maxL ret hh ws rm mc ms n) (hp : PreS s H Pc As)
    (hg : g.method = m) (hn : As.length = n) (hsize : g.locals.size = nL) (hstack : g.stack = As.reverse ++ rest) (hW : 2 * g.monitorRoom + (rest.map fun v => v.category).sum ≤ 8) (hdg : decode cc g.pc = .ok (.invokestatic index, 3)) (hf : cells + mc ≤ R.cells ∧ slots + ms ≤ R.slots) :
    vx_Run p l e R s m args below meth c H locs cells slots mc ms g rest (Qc As.toArray) XC free := by
  obtain ⟨⟨hrc, hrs, hfr, hlo, hws, hcw⟩, hcode, hini, hy, hlen, hl, hstt⟩ := cw
  have hK : vx_Back l R p e below s args y 3 8 (PreOf R mc ms Pc) (PostOf Qc mc ms free) (vx_Post XC mc ms free) := vx_backW (hh := hh) (bytes := bytes) (maxL := maxL) (ret := ret) hM hp.1 hrc hrs hfr hlo hws hcw (fun a' U hW => word_at hW (Or.inl (by first | rfl | simp [Cond.onTables, Cond.keeps, Cond.steady])) hini)
  obtain ⟨hx, hb, hml, ho, -⟩ := S
  intro T hT X
  rcases vx_callSX X hx (hh := hh) (bytes := bytes) (maxL := maxL) (ret := ret) ho hl hstt hini hcode hy hK hg (hsize.trans hml.symm) (argsL := As) (rest := rest) (fun sig h => hn.trans (hlen sig h)) hstack hW (by rw [hb]; exact hdg)
    (fun vm₁ hW₁ => ⟨hf.1, hf.2, hp.2 (T.setVm vm₁) hT hW₁⟩) with ⟨v, vm₁, ⟨U', l2, c2, s2⟩, hW₁, X', ⟨g', mk, t, L, e1, e2, hq, h1, hL, h2, h3⟩, st⟩ | ⟨q, vm₁, ⟨U', l2, c2, s2⟩, hW₁, X', ⟨g', mk, t, L, E, ce, e1, e2, hq, hce, hcv, hcl, h1, hL, h2, h3⟩, st⟩
  · dsimp only [Pt.U, Pt.locs, Pt.cells, Pt.slots] at X' e1 e2 h1 h2 h3 st
    subst h1; subst h2; subst h3
    exact Or.inl ⟨v, (T.setVm vm₁).calling g' mk As.toArray, t, U', L, hT, X', hL, e1, e2, hq, st⟩
  · dsimp only [Pt.U, Pt.locs, Pt.cells, Pt.slots] at X' e1 e2 h1 h2 h3 st hcl
    subst h1; subst h2; subst h3
    exact Or.inr ⟨q, (T.setVm vm₁).calling g' mk As.toArray, t, U', L, E, ce, hT, X', hL, e1, e2, hq, hce, hcv, vx_cls hW₁ hcl, st⟩
end
end VXH
theorem vx_ofWH {l : Launch} {y : MethodName} {ws ws' : List Cond} {rm : Room} {Pc : Array Value → State → Prop} {Qc : Array Value → State → Outcome → State → Prop} {XC : String → State → State → Prop} {mc ms : Nat} {free : Addr → Prop} {cc : ByteArray} {maxL : Nat} {ret : Option FieldType} {hh : List (Nat × Nat × Nat × Nat)}
    (hy : plainName y.cls = true) (hw : ws = Cond.codeWith y cc maxL ret hh :: ws')
    (body : ∀ p e s m args below meth c s₁, BodyLoose p l y (headSpec ws rm) cc maxL ret e s m args below meth c s₁ → c.maxLocals = maxL → Pc args s →
      W p l e (headSpec ws rm).room s m args below meth c s.heap [] 0 0 (vx_MQ below Qc XC args s mc ms free) (entryFrame m args maxL)) : vx_Met l y ws rm Pc Qc XC mc ms free := by
  refine MetFree.of_bodyS (code := cc) (maxLocals := maxL) (ret := ret) hy ?_ ?_
  · intro args s m h hn
    obtain ⟨m9, meth, c, hn9, h1, h2, h3, h4, -, h5, h6, -⟩ := Cond.codeWith_spec (atoms_spec (ws := ws) h _ (by rw [hw]; exact List.mem_cons_self))
    cases hn.symm.trans hn9
    exact ⟨meth, c, h1, h2, h3, h4, h5, h6⟩
  · intro p e s m args below meth c s₁ B hml hP _
    have hh0 : s₁.heap = s.heap := by rw [B.state]; rfl
    obtain ⟨t, a1, o, b1, b2, b3⟩ := body p e s m args below meth c s₁ B hml hP s₁ hh0 (Stand.of_body B)
    exact ⟨t, o, a1, b1, b2, b3⟩
/-! ===== END ===== -/
end
section
def RX0 : String := "PageTurner$Follower"
def TX0 : u_T := fun k => match k with
  | 0 => ("PageTurner$Follower", "score", "LPageTurner$Score;", false)
  | 1 => ("PageTurner$Follower", "prices", "[I", true)
  | 2 => ("PageTurner$Follower", "arrivals", "[I", true)
  | 3 => ("PageTurner$Follower", "departures", "[I", true)
  | 4 => ("PageTurner$Follower", "start", "LPageTurner$Moment;", true)
  | 5 => ("PageTurner$Follower", "now", "LPageTurner$Moment;", false)
  | _ => ("PageTurner$Follower", "notes", "I", false)
def tyX0 : Nat → FieldType := fun k => match k with
  | 0 => .object "PageTurner$Score"
  | 1 => .array .int
  | 2 => .array .int
  | 3 => .array .int
  | 4 => .object "PageTurner$Moment"
  | 5 => .object "PageTurner$Moment"
  | _ => .int
abbrev wsX00 : List Cond := u_ws RX0 TX0 7
theorem nmX0 : ∀ a, a < 7 → ∀ b, b < 7 → a ≠ b → (TX0 a).2.1 ≠ (TX0 b).2.1 := by decide +kernel
theorem tyX0_ok : ∀ k, k < 7 → parseFieldDescriptor (TX0 k).2.2.1 = some (tyX0 k) := by decide +kernel
abbrev cX0_init : ByteArray := prog_2_method_1_code
def yX0_init : MethodName := ⟨RX0, "<init>", "(LPageTurner$Score;)V"⟩
abbrev cX0_begin : ByteArray := prog_2_method_2_code
def yX0_begin : MethodName := ⟨RX0, "begin", "(LPageTurner$Score;)V"⟩
abbrev cX0_forget : ByteArray := prog_2_method_3_code
def yX0_forget : MethodName := ⟨RX0, "forget", "()V"⟩
abbrev cX0_takeBack : ByteArray := prog_2_method_4_code
def yX0_takeBack : MethodName := ⟨RX0, "takeBack", "()Z"⟩
abbrev cX0_hasPrice : ByteArray := prog_2_method_5_code
def yX0_hasPrice : MethodName := ⟨RX0, "hasPrice", "(I)Z"⟩
abbrev cX0_changePrice : ByteArray := prog_2_method_6_code
def yX0_changePrice : MethodName := ⟨RX0, "changePrice", "(II)I"⟩
abbrev cX0_latestTime : ByteArray := prog_2_method_7_code
def yX0_latestTime : MethodName := ⟨RX0, "latestTime", "()I"⟩
abbrev cX0_placeEvent : ByteArray := prog_2_method_8_code
def yX0_placeEvent : MethodName := ⟨RX0, "placeEvent", "()I"⟩
abbrev cX0_placeBits : ByteArray := prog_2_method_9_code
def yX0_placeBits : MethodName := ⟨RX0, "placeBits", "()I"⟩
abbrev cX0_placeCost : ByteArray := prog_2_method_10_code
def yX0_placeCost : MethodName := ⟨RX0, "placeCost", "()I"⟩
abbrev cX0_anchors : ByteArray := prog_2_method_11_code
def yX0_anchors : MethodName := ⟨RX0, "anchors", "()I"⟩
abbrev cX0_costOf : ByteArray := prog_2_method_12_code
def yX0_costOf : MethodName := ⟨RX0, "costOf", "(II)I"⟩
abbrev cX0_leadOverOtherMeasures : ByteArray := prog_2_method_13_code
def yX0_leadOverOtherMeasures : MethodName := ⟨RX0, "leadOverOtherMeasures", "()I"⟩
abbrev cX0_leastOf : ByteArray := prog_2_method_14_code
def yX0_leastOf : MethodName := ⟨RX0, "leastOf", "(I)I"⟩
abbrev cX0_hear : ByteArray := prog_2_method_15_code
def yX0_hear : MethodName := ⟨RX0, "hear", "(II)V"⟩
abbrev cX0_makeSilentMoves : ByteArray := prog_2_method_16_code
def yX0_makeSilentMoves : MethodName := ⟨RX0, "makeSilentMoves", "()V"⟩
abbrev cX0_departureFrom : ByteArray := prog_2_method_17_code
def yX0_departureFrom : MethodName := ⟨RX0, "departureFrom", "(I)I"⟩
abbrev cX0_walkOn : ByteArray := prog_2_method_18_code
def yX0_walkOn : MethodName := ⟨RX0, "walkOn", "()Z"⟩
abbrev cX0_arrive : ByteArray := prog_2_method_19_code
def yX0_arrive : MethodName := ⟨RX0, "arrive", "(II)Z"⟩
abbrev cX0_takeNote : ByteArray := prog_2_method_20_code
def yX0_takeNote : MethodName := ⟨RX0, "takeNote", "(IILPageTurner$Moment;)V"⟩
abbrev cX0_findPlace : ByteArray := prog_2_method_21_code
def yX0_findPlace : MethodName := ⟨RX0, "findPlace", "(ILPageTurner$Moment;)V"⟩
abbrev cX0_dropAnchor : ByteArray := prog_2_method_22_code
def yX0_dropAnchor : MethodName := ⟨RX0, "dropAnchor", "(LPageTurner$Moment;)V"⟩
abbrev cX0_tempoBase : ByteArray := prog_2_method_23_code
def yX0_tempoBase : MethodName := ⟨RX0, "tempoBase", "()LPageTurner$Moment;"⟩
abbrev cX0_beatOf : ByteArray := prog_2_method_24_code
def yX0_beatOf : MethodName := ⟨RX0, "beatOf", "(LPageTurner$Moment;)I"⟩
abbrev cX0_tempoUpper : ByteArray := prog_2_method_25_code
def yX0_tempoUpper : MethodName := ⟨RX0, "tempoUpper", "()I"⟩
abbrev cX0_tempoLower : ByteArray := prog_2_method_26_code
def yX0_tempoLower : MethodName := ⟨RX0, "tempoLower", "()I"⟩
abbrev cX0_timeOfBeat : ByteArray := prog_2_method_27_code
def yX0_timeOfBeat : MethodName := ⟨RX0, "timeOfBeat", "(I)J"⟩
def RX1 : String := "PageTurner$Moment"
def TX1 : u_T := fun k => match k with
  | 0 => ("PageTurner$Moment", "before", "LPageTurner$Moment;", true)
  | 1 => ("PageTurner$Moment", "next", "LPageTurner$Moment;", false)
  | 2 => ("PageTurner$Moment", "costs", "[I", false)
  | 3 => ("PageTurner$Moment", "clock", "I", false)
  | 4 => ("PageTurner$Moment", "placeEvent", "I", false)
  | 5 => ("PageTurner$Moment", "placeBits", "I", false)
  | 6 => ("PageTurner$Moment", "placeCost", "I", false)
  | 7 => ("PageTurner$Moment", "anchors", "I", false)
  | 8 => ("PageTurner$Moment", "anchor", "LPageTurner$Moment;", false)
  | _ => ("PageTurner$Moment", "anchorAhead", "LPageTurner$Moment;", false)
def tyX1 : Nat → FieldType := fun k => match k with
  | 0 => .object "PageTurner$Moment"
  | 1 => .object "PageTurner$Moment"
  | 2 => .array .int
  | 3 => .int
  | 4 => .int
  | 5 => .int
  | 6 => .int
  | 7 => .int
  | 8 => .object "PageTurner$Moment"
  | _ => .object "PageTurner$Moment"
abbrev wsX10 : List Cond := u_ws RX1 TX1 10
theorem nmX1 : ∀ a, a < 10 → ∀ b, b < 10 → a ≠ b → (TX1 a).2.1 ≠ (TX1 b).2.1 := by decide +kernel
theorem tyX1_ok : ∀ k, k < 10 → parseFieldDescriptor (TX1 k).2.2.1 = some (tyX1 k) := by decide +kernel
abbrev cX1_init : ByteArray := prog_3_method_1_code
def yX1_init : MethodName := ⟨RX1, "<init>", "(LPageTurner$Moment;)V"⟩
abbrev cX1_clear : ByteArray := prog_3_method_2_code
def yX1_clear : MethodName := ⟨RX1, "clear", "(I)V"⟩
abbrev cX1_costAt : ByteArray := prog_3_method_3_code
def yX1_costAt : MethodName := ⟨RX1, "costAt", "(I)I"⟩
abbrev cX1_offer : ByteArray := prog_3_method_4_code
def yX1_offer : MethodName := ⟨RX1, "offer", "(II)V"⟩
def RX2 : String := "PageTurner$Reader"
def TX2 : u_T := fun k => match k with
  | 0 => ("PageTurner$Reader", "tokens", "LPageTurner$Tokens;", true)
  | 1 => ("PageTurner$Reader", "draft", "LPageTurner$Score;", false)
  | 2 => ("PageTurner$Reader", "stand", "I", false)
  | 3 => ("PageTurner$Reader", "marks", "I", false)
  | 4 => ("PageTurner$Reader", "cues", "I", false)
  | 5 => ("PageTurner$Reader", "marked", "Z", false)
  | 6 => ("PageTurner$Reader", "cued", "Z", false)
  | 7 => ("PageTurner$Reader", "repeatStart", "I", false)
  | 8 => ("PageTurner$Reader", "fault", "I", false)
  | _ => ("PageTurner$Reader", "faultPlace", "I", false)
def tyX2 : Nat → FieldType := fun k => match k with
  | 0 => .object "PageTurner$Tokens"
  | 1 => .object "PageTurner$Score"
  | 2 => .int
  | 3 => .int
  | 4 => .int
  | 5 => .boolean
  | 6 => .boolean
  | 7 => .int
  | 8 => .int
  | _ => .int
abbrev wsX20 : List Cond := u_ws RX2 TX2 10
theorem nmX2 : ∀ a, a < 10 → ∀ b, b < 10 → a ≠ b → (TX2 a).2.1 ≠ (TX2 b).2.1 := by decide +kernel
theorem tyX2_ok : ∀ k, k < 10 → parseFieldDescriptor (TX2 k).2.2.1 = some (tyX2 k) := by decide +kernel
abbrev cX2_init : ByteArray := prog_4_method_1_code
def yX2_init : MethodName := ⟨RX2, "<init>", "()V"⟩
abbrev cX2_trade : ByteArray := prog_4_method_2_code
def yX2_trade : MethodName := ⟨RX2, "trade", "(LPageTurner$Score;)LPageTurner$Score;"⟩
abbrev cX2_read : ByteArray := prog_4_method_3_code
def yX2_read : MethodName := ⟨RX2, "read", "([BI)I"⟩
abbrev cX2_faultOfToken : ByteArray := prog_4_method_4_code
def yX2_faultOfToken : MethodName := ⟨RX2, "faultOfToken", "()I"⟩
abbrev cX2_standsIn : ByteArray := prog_4_method_5_code
def yX2_standsIn : MethodName := ⟨RX2, "standsIn", "(I)Z"⟩
abbrev cX2_standsAhead : ByteArray := prog_4_method_6_code
def yX2_standsAhead : MethodName := ⟨RX2, "standsAhead", "(I)I"⟩
abbrev cX2_isTooMuch : ByteArray := prog_4_method_7_code
def yX2_isTooMuch : MethodName := ⟨RX2, "isTooMuch", "()Z"⟩
abbrev cX2_takeToken : ByteArray := prog_4_method_8_code
def yX2_takeToken : MethodName := ⟨RX2, "takeToken", "()V"⟩
abbrev cX2_takeMark : ByteArray := prog_4_method_9_code
def yX2_takeMark : MethodName := ⟨RX2, "takeMark", "()V"⟩
abbrev cX2_takeCue : ByteArray := prog_4_method_10_code
def yX2_takeCue : MethodName := ⟨RX2, "takeCue", "()V"⟩
abbrev cX2_openEvent : ByteArray := prog_4_method_11_code
def yX2_openEvent : MethodName := ⟨RX2, "openEvent", "(II)V"⟩
abbrev cX2_takePitch : ByteArray := prog_4_method_12_code
def yX2_takePitch : MethodName := ⟨RX2, "takePitch", "()V"⟩
abbrev cX2_takeBarOrPage : ByteArray := prog_4_method_13_code
def yX2_takeBarOrPage : MethodName := ⟨RX2, "takeBarOrPage", "()V"⟩
def RX3 : String := "PageTurner$Score"
def TX3 : u_T := fun k => match k with
  | 0 => ("PageTurner$Score", "facts", "[I", true)
  | 1 => ("PageTurner$Score", "events", "I", false)
  | 2 => ("PageTurner$Score", "beats", "I", false)
  | 3 => ("PageTurner$Score", "cues", "I", false)
  | 4 => ("PageTurner$Score", "states", "I", false)
  | 5 => ("PageTurner$Score", "measure", "I", false)
  | _ => ("PageTurner$Score", "page", "I", false)
def tyX3 : Nat → FieldType := fun k => match k with
  | 0 => .array .int
  | 1 => .int
  | 2 => .int
  | 3 => .int
  | 4 => .int
  | 5 => .int
  | _ => .int
abbrev wsX30 : List Cond := u_ws RX3 TX3 7
theorem nmX3 : ∀ a, a < 7 → ∀ b, b < 7 → a ≠ b → (TX3 a).2.1 ≠ (TX3 b).2.1 := by decide +kernel
theorem tyX3_ok : ∀ k, k < 7 → parseFieldDescriptor (TX3 k).2.2.1 = some (tyX3 k) := by decide +kernel
abbrev cX3_init : ByteArray := prog_5_method_1_code
def yX3_init : MethodName := ⟨RX3, "<init>", "()V"⟩
abbrev cX3_clear : ByteArray := prog_5_method_2_code
def yX3_clear : MethodName := ⟨RX3, "clear", "()V"⟩
abbrev cX3_has : ByteArray := prog_5_method_3_code
def yX3_has : MethodName := ⟨RX3, "has", "(I)Z"⟩
abbrev cX3_fact : ByteArray := prog_5_method_4_code
def yX3_fact : MethodName := ⟨RX3, "fact", "(II)I"⟩
abbrev cX3_write : ByteArray := prog_5_method_5_code
def yX3_write : MethodName := ⟨RX3, "write", "(III)V"⟩
abbrev cX3_isFull : ByteArray := prog_5_method_6_code
def yX3_isFull : MethodName := ⟨RX3, "isFull", "()Z"⟩
abbrev cX3_openEvent : ByteArray := prog_5_method_7_code
def yX3_openEvent : MethodName := ⟨RX3, "openEvent", "(IZZ)V"⟩
abbrev cX3_openPitches : ByteArray := prog_5_method_8_code
def yX3_openPitches : MethodName := ⟨RX3, "openPitches", "()I"⟩
abbrev cX3_openHasPitch : ByteArray := prog_5_method_9_code
def yX3_openHasPitch : MethodName := ⟨RX3, "openHasPitch", "(I)Z"⟩
abbrev cX3_addPitch : ByteArray := prog_5_method_10_code
def yX3_addPitch : MethodName := ⟨RX3, "addPitch", "(I)V"⟩
abbrev cX3_closeEvent : ByteArray := prog_5_method_11_code
def yX3_closeEvent : MethodName := ⟨RX3, "closeEvent", "(I)V"⟩
abbrev cX3_repeatFrom : ByteArray := prog_5_method_12_code
def yX3_repeatFrom : MethodName := ⟨RX3, "repeatFrom", "(I)V"⟩
abbrev cX3_endMeasure : ByteArray := prog_5_method_13_code
def yX3_endMeasure : MethodName := ⟨RX3, "endMeasure", "()V"⟩
abbrev cX3_endPage : ByteArray := prog_5_method_14_code
def yX3_endPage : MethodName := ⟨RX3, "endPage", "()V"⟩
abbrev cX3_measuresWithEvents : ByteArray := prog_5_method_15_code
def yX3_measuresWithEvents : MethodName := ⟨RX3, "measuresWithEvents", "()I"⟩
abbrev cX3_pagesWithEvents : ByteArray := prog_5_method_16_code
def yX3_pagesWithEvents : MethodName := ⟨RX3, "pagesWithEvents", "()I"⟩
abbrev cX3_allBits : ByteArray := prog_5_method_17_code
def yX3_allBits : MethodName := ⟨RX3, "allBits", "(I)I"⟩
abbrev cX3_firstOfNextPage : ByteArray := prog_5_method_18_code
def yX3_firstOfNextPage : MethodName := ⟨RX3, "firstOfNextPage", "(I)I"⟩
abbrev cX3_cueFrom : ByteArray := prog_5_method_19_code
def yX3_cueFrom : MethodName := ⟨RX3, "cueFrom", "(I)I"⟩
abbrev cX3_rightBit : ByteArray := prog_5_method_20_code
def yX3_rightBit : MethodName := ⟨RX3, "rightBit", "(II)I"⟩
def RX4 : String := "PageTurner$Tokens"
def TX4 : u_T := fun k => match k with
  | 0 => ("PageTurner$Tokens", "text", "[B", false)
  | 1 => ("PageTurner$Tokens", "length", "I", false)
  | 2 => ("PageTurner$Tokens", "next", "I", false)
  | 3 => ("PageTurner$Tokens", "kind", "I", false)
  | 4 => ("PageTurner$Tokens", "start", "I", false)
  | _ => ("PageTurner$Tokens", "value", "I", false)
def tyX4 : Nat → FieldType := fun k => match k with
  | 0 => .array .byte
  | 1 => .int
  | 2 => .int
  | 3 => .int
  | 4 => .int
  | _ => .int
abbrev wsX40 : List Cond := u_ws RX4 TX4 6
theorem nmX4 : ∀ a, a < 6 → ∀ b, b < 6 → a ≠ b → (TX4 a).2.1 ≠ (TX4 b).2.1 := by decide +kernel
theorem tyX4_ok : ∀ k, k < 6 → parseFieldDescriptor (TX4 k).2.2.1 = some (tyX4 k) := by decide +kernel
abbrev cX4_init : ByteArray := prog_6_method_1_code
def yX4_init : MethodName := ⟨RX4, "<init>", "()V"⟩
abbrev cX4_begin : ByteArray := prog_6_method_2_code
def yX4_begin : MethodName := ⟨RX4, "begin", "([BI)V"⟩
abbrev cX4_byteAt : ByteArray := prog_6_method_3_code
def yX4_byteAt : MethodName := ⟨RX4, "byteAt", "(I)I"⟩
abbrev cX4_isDigit : ByteArray := prog_6_method_4_code
def yX4_isDigit : MethodName := ⟨RX4, "isDigit", "(I)Z"⟩
abbrev cX4_advance : ByteArray := prog_6_method_5_code
def yX4_advance : MethodName := ⟨RX4, "advance", "()V"⟩
abbrev cX4_take : ByteArray := prog_6_method_6_code
def yX4_take : MethodName := ⟨RX4, "take", "(II)V"⟩
abbrev cX4_skipBlanks : ByteArray := prog_6_method_7_code
def yX4_skipBlanks : MethodName := ⟨RX4, "skipBlanks", "()V"⟩
abbrev cX4_takePitch : ByteArray := prog_6_method_8_code
def yX4_takePitch : MethodName := ⟨RX4, "takePitch", "(I)V"⟩
abbrev cX4_takeNumber : ByteArray := prog_6_method_9_code
def yX4_takeNumber : MethodName := ⟨RX4, "takeNumber", "()V"⟩
def RX5 : String := "PageTurner"
def TX5 : u_T := fun k => match k with
  | 0 => ("PageTurner", "tape", "[B", true)
  | 1 => ("PageTurner", "tapeLength", "I", false)
  | 2 => ("PageTurner", "reader", "LPageTurner$Reader;", true)
  | 3 => ("PageTurner", "score", "LPageTurner$Score;", false)
  | 4 => ("PageTurner", "follower", "LPageTurner$Follower;", true)
  | _ => ("PageTurner", "turnLead", "I", false)
def tyX5 : Nat → FieldType := fun k => match k with
  | 0 => .array .byte
  | 1 => .int
  | 2 => .object "PageTurner$Reader"
  | 3 => .object "PageTurner$Score"
  | 4 => .object "PageTurner$Follower"
  | _ => .int
abbrev wsX50 : List Cond := u_ws RX5 TX5 6
theorem nmX5 : ∀ a, a < 6 → ∀ b, b < 6 → a ≠ b → (TX5 a).2.1 ≠ (TX5 b).2.1 := by decide +kernel
theorem tyX5_ok : ∀ k, k < 6 → parseFieldDescriptor (TX5 k).2.2.1 = some (tyX5 k) := by decide +kernel
abbrev cX5_init : ByteArray := prog_1_method_1_code
def yX5_init : MethodName := ⟨RX5, "<init>", "()V"⟩
abbrev cX5_feed : ByteArray := prog_1_method_2_code
def yX5_feed : MethodName := ⟨RX5, "feed", "(IIIII)I"⟩
abbrev cX5_putBytes : ByteArray := prog_1_method_3_code
def yX5_putBytes : MethodName := ⟨RX5, "putBytes", "(I)V"⟩
abbrev cX5_music : ByteArray := prog_1_method_4_code
def yX5_music : MethodName := ⟨RX5, "music", "(I)I"⟩
abbrev cX5_fault : ByteArray := prog_1_method_5_code
def yX5_fault : MethodName := ⟨RX5, "fault", "(I)I"⟩
abbrev cX5_count : ByteArray := prog_1_method_6_code
def yX5_count : MethodName := ⟨RX5, "count", "(I)I"⟩
abbrev cX5_event : ByteArray := prog_1_method_7_code
def yX5_event : MethodName := ⟨RX5, "event", "(II)I"⟩
abbrev cX5_price : ByteArray := prog_1_method_8_code
def yX5_price : MethodName := ⟨RX5, "price", "(II)I"⟩
abbrev cX5_heard : ByteArray := prog_1_method_9_code
def yX5_heard : MethodName := ⟨RX5, "heard", "(II)I"⟩
abbrev cX5_back : ByteArray := prog_1_method_10_code
def yX5_back : MethodName := ⟨RX5, "back", "()I"⟩
abbrev cX5_again : ByteArray := prog_1_method_11_code
def yX5_again : MethodName := ⟨RX5, "again", "()I"⟩
abbrev cX5_place : ByteArray := prog_1_method_12_code
def yX5_place : MethodName := ⟨RX5, "place", "(I)I"⟩
abbrev cX5_cost : ByteArray := prog_1_method_13_code
def yX5_cost : MethodName := ⟨RX5, "cost", "(II)I"⟩
abbrev cX5_sure : ByteArray := prog_1_method_14_code
def yX5_sure : MethodName := ⟨RX5, "sure", "()I"⟩
abbrev cX5_tempo : ByteArray := prog_1_method_15_code
def yX5_tempo : MethodName := ⟨RX5, "tempo", "(Z)I"⟩
abbrev cX5_commonDivisor : ByteArray := prog_1_method_16_code
def yX5_commonDivisor : MethodName := ⟨RX5, "commonDivisor", "(II)I"⟩
abbrev cX5_time : ByteArray := prog_1_method_17_code
def yX5_time : MethodName := ⟨RX5, "time", "(I)J"⟩
abbrev cX5_turnsAt : ByteArray := prog_1_method_18_code
def yX5_turnsAt : MethodName := ⟨RX5, "turnsAt", "()J"⟩
abbrev cX5_cue : ByteArray := prog_1_method_19_code
def yX5_cue : MethodName := ⟨RX5, "cue", "()J"⟩
abbrev cX5_lead : ByteArray := prog_1_method_20_code
def yX5_lead : MethodName := ⟨RX5, "lead", "(I)I"⟩
def RX6 : String := "PageTurnerModel"
def TX6 : u_T := fun k => match k with
  | 0 => ("PageTurnerModel", "code", "I", false)
  | 1 => ("PageTurnerModel", "tape", "[I", true)
  | 2 => ("PageTurnerModel", "taped", "I", false)
  | 3 => ("PageTurnerModel", "fault", "I", false)
  | 4 => ("PageTurnerModel", "faultPlace", "I", false)
  | 5 => ("PageTurnerModel", "events", "I", false)
  | 6 => ("PageTurnerModel", "measures", "I", false)
  | 7 => ("PageTurnerModel", "pages", "I", false)
  | 8 => ("PageTurnerModel", "beats", "I", false)
  | 9 => ("PageTurnerModel", "cues", "I", false)
  | 10 => ("PageTurnerModel", "kind", "[I", true)
  | 11 => ("PageTurnerModel", "many", "[I", true)
  | 12 => ("PageTurnerModel", "pitch", "[I", true)
  | 13 => ("PageTurnerModel", "beat", "[I", true)
  | 14 => ("PageTurnerModel", "size", "[I", true)
  | 15 => ("PageTurnerModel", "measure", "[I", true)
  | 16 => ("PageTurnerModel", "page", "[I", true)
  | 17 => ("PageTurnerModel", "leads", "[I", true)
  | 18 => ("PageTurnerModel", "isMarked", "[Z", true)
  | 19 => ("PageTurnerModel", "isCue", "[Z", true)
  | 20 => ("PageTurnerModel", "old", "[I", true)
  | 21 => ("PageTurnerModel", "oldSize", "I", false)
  | 22 => ("PageTurnerModel", "at", "I", false)
  | 23 => ("PageTurnerModel", "length", "I", false)
  | 24 => ("PageTurnerModel", "token", "I", false)
  | 25 => ("PageTurnerModel", "sign", "I", false)
  | 26 => ("PageTurnerModel", "number", "I", false)
  | 27 => ("PageTurnerModel", "begins", "I", false)
  | 28 => ("PageTurnerModel", "ends", "I", false)
  | 29 => ("PageTurnerModel", "bad", "I", false)
  | 30 => ("PageTurnerModel", "badPlace", "I", false)
  | 31 => ("PageTurnerModel", "marks", "I", false)
  | 32 => ("PageTurnerModel", "firstOfMeasure", "I", false)
  | 33 => ("PageTurnerModel", "repeatFrom", "I", false)
  | 34 => ("PageTurnerModel", "notes", "I", false)
  | 35 => ("PageTurnerModel", "time", "[I", true)
  | 36 => ("PageTurnerModel", "placeEvent", "[I", true)
  | 37 => ("PageTurnerModel", "placeBits", "[I", true)
  | 38 => ("PageTurnerModel", "costs", "[[I", true)
  | 39 => ("PageTurnerModel", "open", "[I", true)
  | 40 => ("PageTurnerModel", "price", "[I", true)
  | 41 => ("PageTurnerModel", "anchorEvent", "[I", true)
  | 42 => ("PageTurnerModel", "anchorTime", "[I", true)
  | 43 => ("PageTurnerModel", "anchors", "I", false)
  | _ => ("PageTurnerModel", "lead", "I", false)
def tyX6 : Nat → FieldType := fun k => match k with
  | 0 => .int
  | 1 => .array .int
  | 2 => .int
  | 3 => .int
  | 4 => .int
  | 5 => .int
  | 6 => .int
  | 7 => .int
  | 8 => .int
  | 9 => .int
  | 10 => .array .int
  | 11 => .array .int
  | 12 => .array .int
  | 13 => .array .int
  | 14 => .array .int
  | 15 => .array .int
  | 16 => .array .int
  | 17 => .array .int
  | 18 => .array .boolean
  | 19 => .array .boolean
  | 20 => .array .int
  | 21 => .int
  | 22 => .int
  | 23 => .int
  | 24 => .int
  | 25 => .int
  | 26 => .int
  | 27 => .int
  | 28 => .int
  | 29 => .int
  | 30 => .int
  | 31 => .int
  | 32 => .int
  | 33 => .int
  | 34 => .int
  | 35 => .array .int
  | 36 => .array .int
  | 37 => .array .int
  | 38 => .array (.array .int)
  | 39 => .array .int
  | 40 => .array .int
  | 41 => .array .int
  | 42 => .array .int
  | 43 => .int
  | _ => .int
abbrev wsX60 : List Cond := u_ws RX6 TX6 45
theorem nmX6 : ∀ a, a < 45 → ∀ b, b < 45 → a ≠ b → (TX6 a).2.1 ≠ (TX6 b).2.1 := by decide +kernel
theorem tyX6_ok : ∀ k, k < 45 → parseFieldDescriptor (TX6 k).2.2.1 = some (tyX6 k) := by decide +kernel
abbrev cX6_init : ByteArray := prog_8_method_1_code
def yX6_init : MethodName := ⟨RX6, "<init>", "()V"⟩
abbrev cX6_thrown : ByteArray := prog_8_method_2_code
def yX6_thrown : MethodName := ⟨RX6, "thrown", "()I"⟩
abbrev cX6_fail : ByteArray := prog_8_method_3_code
def yX6_fail : MethodName := ⟨RX6, "fail", "()I"⟩
abbrev cX6_feed : ByteArray := prog_8_method_4_code
def yX6_feed : MethodName := ⟨RX6, "feed", "(IIIII)I"⟩
abbrev cX6_byteAt : ByteArray := prog_8_method_5_code
def yX6_byteAt : MethodName := ⟨RX6, "byteAt", "(I)I"⟩
abbrev cX6_isDigit : ByteArray := prog_8_method_6_code
def yX6_isDigit : MethodName := ⟨RX6, "isDigit", "(I)Z"⟩
abbrev cX6_baseOf : ByteArray := prog_8_method_7_code
def yX6_baseOf : MethodName := ⟨RX6, "baseOf", "(I)I"⟩
abbrev cX6_next : ByteArray := prog_8_method_8_code
def yX6_next : MethodName := ⟨RX6, "next", "()V"⟩
abbrev cX6_wrong : ByteArray := prog_8_method_9_code
def yX6_wrong : MethodName := ⟨RX6, "wrong", "(I)V"⟩
abbrev cX6_isSign : ByteArray := prog_8_method_10_code
def yX6_isSign : MethodName := ⟨RX6, "isSign", "(I)Z"⟩
abbrev cX6_need : ByteArray := prog_8_method_11_code
def yX6_need : MethodName := ⟨RX6, "need", "(I)V"⟩
abbrev cX6_beginsEvent : ByteArray := prog_8_method_12_code
def yX6_beginsEvent : MethodName := ⟨RX6, "beginsEvent", "()Z"⟩
abbrev cX6_beginsMarked : ByteArray := prog_8_method_13_code
def yX6_beginsMarked : MethodName := ⟨RX6, "beginsMarked", "()Z"⟩
abbrev cX6_readAll : ByteArray := prog_8_method_14_code
def yX6_readAll : MethodName := ⟨RX6, "readAll", "()V"⟩
abbrev cX6_readMarked : ByteArray := prog_8_method_15_code
def yX6_readMarked : MethodName := ⟨RX6, "readMarked", "(I)V"⟩
abbrev cX6_readPitch : ByteArray := prog_8_method_16_code
def yX6_readPitch : MethodName := ⟨RX6, "readPitch", "(I)V"⟩
abbrev cX6_music : ByteArray := prog_8_method_17_code
def yX6_music : MethodName := ⟨RX6, "music", "(I)I"⟩
abbrev cX6_begin : ByteArray := prog_8_method_18_code
def yX6_begin : MethodName := ⟨RX6, "begin", "()V"⟩
abbrev cX6_fault : ByteArray := prog_8_method_19_code
def yX6_fault : MethodName := ⟨RX6, "fault", "(I)I"⟩
abbrev cX6_count : ByteArray := prog_8_method_20_code
def yX6_count : MethodName := ⟨RX6, "count", "(I)I"⟩
abbrev cX6_event : ByteArray := prog_8_method_21_code
def yX6_event : MethodName := ⟨RX6, "event", "(II)I"⟩
abbrev cX6_price : ByteArray := prog_8_method_22_code
def yX6_price : MethodName := ⟨RX6, "price", "(II)I"⟩
abbrev cX6_full : ByteArray := prog_8_method_23_code
def yX6_full : MethodName := ⟨RX6, "full", "(I)I"⟩
abbrev cX6_ones : ByteArray := prog_8_method_24_code
def yX6_ones : MethodName := ⟨RX6, "ones", "(I)I"⟩
abbrev cX6_bring : ByteArray := prog_8_method_25_code
def yX6_bring : MethodName := ⟨RX6, "bring", "(II)Z"⟩
abbrev cX6_bringDown : ByteArray := prog_8_method_26_code
def yX6_bringDown : MethodName := ⟨RX6, "bringDown", "([I)V"⟩
abbrev cX6_come : ByteArray := prog_8_method_27_code
def yX6_come : MethodName := ⟨RX6, "come", "([III)V"⟩
abbrev cX6_hear : ByteArray := prog_8_method_28_code
def yX6_hear : MethodName := ⟨RX6, "hear", "(I[I)V"⟩
abbrev cX6_findPlace : ByteArray := prog_8_method_29_code
def yX6_findPlace : MethodName := ⟨RX6, "findPlace", "(I)V"⟩
abbrev cX6_anchor : ByteArray := prog_8_method_30_code
def yX6_anchor : MethodName := ⟨RX6, "anchor", "()V"⟩
abbrev cX6_heard : ByteArray := prog_8_method_31_code
def yX6_heard : MethodName := ⟨RX6, "heard", "(II)I"⟩
abbrev cX6_back : ByteArray := prog_8_method_32_code
def yX6_back : MethodName := ⟨RX6, "back", "()I"⟩
abbrev cX6_again : ByteArray := prog_8_method_33_code
def yX6_again : MethodName := ⟨RX6, "again", "()I"⟩
abbrev cX6_place : ByteArray := prog_8_method_34_code
def yX6_place : MethodName := ⟨RX6, "place", "(I)I"⟩
abbrev cX6_cost : ByteArray := prog_8_method_35_code
def yX6_cost : MethodName := ⟨RX6, "cost", "(II)I"⟩
abbrev cX6_sure : ByteArray := prog_8_method_36_code
def yX6_sure : MethodName := ⟨RX6, "sure", "()I"⟩
abbrev cX6_upper : ByteArray := prog_8_method_37_code
def yX6_upper : MethodName := ⟨RX6, "upper", "()I"⟩
abbrev cX6_lower : ByteArray := prog_8_method_38_code
def yX6_lower : MethodName := ⟨RX6, "lower", "()I"⟩
abbrev cX6_tempo : ByteArray := prog_8_method_39_code
def yX6_tempo : MethodName := ⟨RX6, "tempo", "(Z)I"⟩
abbrev cX6_timeOf : ByteArray := prog_8_method_40_code
def yX6_timeOf : MethodName := ⟨RX6, "timeOf", "(I)J"⟩
abbrev cX6_time : ByteArray := prog_8_method_41_code
def yX6_time : MethodName := ⟨RX6, "time", "(I)J"⟩
abbrev cX6_turnsAt : ByteArray := prog_8_method_42_code
def yX6_turnsAt : MethodName := ⟨RX6, "turnsAt", "()J"⟩
abbrev cX6_cue : ByteArray := prog_8_method_43_code
def yX6_cue : MethodName := ⟨RX6, "cue", "()J"⟩
abbrev cX6_lead : ByteArray := prog_8_method_44_code
def yX6_lead : MethodName := ⟨RX6, "lead", "(I)I"⟩
def RJ11 : String := "java/lang/Character"
def TJ11 : u_T := fun k => match k with
  | _ => ("", "", "", false)
def tyJ11 : Nat → FieldType := fun k => match k with
  | _ => .int
abbrev wsJ110 : List Cond := u_ws RJ11 TJ11 0
theorem nmJ11 : ∀ a, a < 0 → ∀ b, b < 0 → a ≠ b → (TJ11 a).2.1 ≠ (TJ11 b).2.1 := by decide +kernel
theorem tyJ11_ok : ∀ k, k < 0 → parseFieldDescriptor (TJ11 k).2.2.1 = some (tyJ11 k) := by decide +kernel
abbrev cJ11_isValidCodePoint_9a6ad : ByteArray := prog_9_method_11_code
def yJ11_isValidCodePoint_9a6ad : MethodName := ⟨RJ11, "isValidCodePoint", "(I)Z"⟩
abbrev cJ11_highSurrogate_5068e : ByteArray := prog_9_method_28_code
def yJ11_highSurrogate_5068e : MethodName := ⟨RJ11, "highSurrogate", "(I)C"⟩
abbrev cJ11_lowSurrogate_5068e : ByteArray := prog_9_method_29_code
def yJ11_lowSurrogate_5068e : MethodName := ⟨RJ11, "lowSurrogate", "(I)C"⟩
def RJ6 : String := "java/lang/Integer"
def TJ6 : u_T := fun k => match k with
  | _ => ("", "", "", false)
def tyJ6 : Nat → FieldType := fun k => match k with
  | _ => .int
abbrev wsJ60 : List Cond := u_ws RJ6 TJ6 0
theorem nmJ6 : ∀ a, a < 0 → ∀ b, b < 0 → a ≠ b → (TJ6 a).2.1 ≠ (TJ6 b).2.1 := by decide +kernel
theorem tyJ6_ok : ∀ k, k < 0 → parseFieldDescriptor (TJ6 k).2.2.1 = some (tyJ6 k) := by decide +kernel
abbrev cJ6_bitCount_0f7a4 : ByteArray := prog_12_method_49_code
def yJ6_bitCount_0f7a4 : MethodName := ⟨RJ6, "bitCount", "(I)I"⟩
def RJ9 : String := "java/lang/Math"
def TJ9 : u_T := fun k => match k with
  | _ => ("", "", "", false)
def tyJ9 : Nat → FieldType := fun k => match k with
  | _ => .int
abbrev wsJ90 : List Cond := u_ws RJ9 TJ9 0
theorem nmJ9 : ∀ a, a < 0 → ∀ b, b < 0 → a ≠ b → (TJ9 a).2.1 ≠ (TJ9 b).2.1 := by decide +kernel
theorem tyJ9_ok : ∀ k, k < 0 → parseFieldDescriptor (TJ9 k).2.2.1 = some (tyJ9 k) := by decide +kernel
abbrev cJ9_floorDiv_f86c9 : ByteArray := prog_13_method_49_code
def yJ9_floorDiv_f86c9 : MethodName := ⟨RJ9, "floorDiv", "(JJ)J"⟩
abbrev cJ9_abs_0f7a4 : ByteArray := prog_13_method_59_code
def yJ9_abs_0f7a4 : MethodName := ⟨RJ9, "abs", "(I)I"⟩
abbrev cJ9_max_7cf53 : ByteArray := prog_13_method_65_code
def yJ9_max_7cf53 : MethodName := ⟨RJ9, "max", "(II)I"⟩
abbrev cJ9_min_7cf53 : ByteArray := prog_13_method_69_code
def yJ9_min_7cf53 : MethodName := ⟨RJ9, "min", "(II)I"⟩
def RJ0 : String := "java/lang/String"
def TJ0 : u_T := fun k => match k with
  | _ => ("", "", "", false)
def tyJ0 : Nat → FieldType := fun k => match k with
  | _ => .int
abbrev wsJ00 : List Cond := u_ws RJ0 TJ0 0
theorem nmJ0 : ∀ a, a < 0 → ∀ b, b < 0 → a ≠ b → (TJ0 a).2.1 ≠ (TJ0 b).2.1 := by decide +kernel
theorem tyJ0_ok : ∀ k, k < 0 → parseFieldDescriptor (TJ0 k).2.2.1 = some (tyJ0 k) := by decide +kernel
abbrev cJ0_length_8abf5 : ByteArray := prog_15_method_54_code
def yJ0_length_8abf5 : MethodName := ⟨RJ0, "length", "()I"⟩
abbrev cJ0_indexOf_0f7a4 : ByteArray := prog_15_method_79_code
def yJ0_indexOf_0f7a4 : MethodName := ⟨RJ0, "indexOf", "(I)I"⟩
abbrev cJ0_indexOf_7cf53 : ByteArray := prog_15_method_80_code
def yJ0_indexOf_7cf53 : MethodName := ⟨RJ0, "indexOf", "(II)I"⟩
abbrev cJ0_coder_7d493 : ByteArray := prog_15_method_152_code
def yJ0_coder_7d493 : MethodName := ⟨RJ0, "coder", "()B"⟩
abbrev cJ0_isLatin1_aae02 : ByteArray := prog_15_method_154_code
def yJ0_isLatin1_aae02 : MethodName := ⟨RJ0, "isLatin1", "()Z"⟩
abbrev cJ0_checkBoundsBeginEnd_23922 : ByteArray := prog_15_method_158_code
def yJ0_checkBoundsBeginEnd_23922 : MethodName := ⟨RJ0, "checkBoundsBeginEnd", "(III)V"⟩
def RJ1 : String := "java/lang/StringLatin1"
def TJ1 : u_T := fun k => match k with
  | _ => ("", "", "", false)
def tyJ1 : Nat → FieldType := fun k => match k with
  | _ => .int
abbrev wsJ10 : List Cond := u_ws RJ1 TJ1 0
theorem nmJ1 : ∀ a, a < 0 → ∀ b, b < 0 → a ≠ b → (TJ1 a).2.1 ≠ (TJ1 b).2.1 := by decide +kernel
theorem tyJ1_ok : ∀ k, k < 0 → parseFieldDescriptor (TJ1 k).2.2.1 = some (tyJ1 k) := by decide +kernel
abbrev cJ1_canEncode_9a6ad : ByteArray := prog_16_method_4_code
def yJ1_canEncode_9a6ad : MethodName := ⟨RJ1, "canEncode", "(I)Z"⟩
abbrev cJ1_indexOf_4cfef : ByteArray := prog_16_method_22_code
def yJ1_indexOf_4cfef : MethodName := ⟨RJ1, "indexOf", "([BIII)I"⟩
abbrev cJ1_indexOfChar_4cfef : ByteArray := prog_16_method_23_code
def yJ1_indexOfChar_4cfef : MethodName := ⟨RJ1, "indexOfChar", "([BIII)I"⟩
def RJ2 : String := "java/lang/StringUTF16"
def TJ2 : u_T := fun k => match k with
  | _ => ("", "", "", false)
def tyJ2 : Nat → FieldType := fun k => match k with
  | _ => .int
abbrev wsJ20 : List Cond := u_ws RJ2 TJ2 0
theorem nmJ2 : ∀ a, a < 0 → ∀ b, b < 0 → a ≠ b → (TJ2 a).2.1 ≠ (TJ2 b).2.1 := by decide +kernel
theorem tyJ2_ok : ∀ k, k < 0 → parseFieldDescriptor (TJ2 k).2.2.1 = some (tyJ2 k) := by decide +kernel
abbrev cJ2_getChar_3b067 : ByteArray := prog_17_method_5_code
def yJ2_getChar_3b067 : MethodName := ⟨RJ2, "getChar", "([BI)C"⟩
abbrev cJ2_length_9d52b : ByteArray := prog_17_method_6_code
def yJ2_length_9d52b : MethodName := ⟨RJ2, "length", "([B)I"⟩
abbrev cJ2_indexOf_4cfef : ByteArray := prog_17_method_40_code
def yJ2_indexOf_4cfef : MethodName := ⟨RJ2, "indexOf", "([BIII)I"⟩
abbrev cJ2_indexOfChar_4cfef : ByteArray := prog_17_method_47_code
def yJ2_indexOfChar_4cfef : MethodName := ⟨RJ2, "indexOfChar", "([BIII)I"⟩
abbrev cJ2_indexOfCharUnsafe_4cfef : ByteArray := prog_17_method_48_code
def yJ2_indexOfCharUnsafe_4cfef : MethodName := ⟨RJ2, "indexOfCharUnsafe", "([BIII)I"⟩
abbrev cJ2_indexOfSupplementary_4cfef : ByteArray := prog_17_method_49_code
def yJ2_indexOfSupplementary_4cfef : MethodName := ⟨RJ2, "indexOfSupplementary", "([BIII)I"⟩
abbrev cJ2_checkBoundsBeginEnd_d044e : ByteArray := prog_17_method_93_code
def yJ2_checkBoundsBeginEnd_d044e : MethodName := ⟨RJ2, "checkBoundsBeginEnd", "(II[B)V"⟩
def RJ3 : String := "jdk/internal/util/Preconditions"
def TJ3 : u_T := fun k => match k with
  | _ => ("", "", "", false)
def tyJ3 : Nat → FieldType := fun k => match k with
  | _ => .int
abbrev wsJ30 : List Cond := u_ws RJ3 TJ3 0
theorem nmJ3 : ∀ a, a < 0 → ∀ b, b < 0 → a ≠ b → (TJ3 a).2.1 ≠ (TJ3 b).2.1 := by decide +kernel
theorem tyJ3_ok : ∀ k, k < 0 → parseFieldDescriptor (TJ3 k).2.2.1 = some (tyJ3 k) := by decide +kernel
abbrev cJ3_checkFromToIndex_8c36e : ByteArray := prog_20_method_12_code
def yJ3_checkFromToIndex_8c36e : MethodName := ⟨RJ3, "checkFromToIndex", "(IIILjava/util/function/BiFunction;)I"⟩
def RL : String := "PageTurnerLaw"
abbrev cL_music : ByteArray := method_3_code
def yL_music : MethodName := ⟨RL, "music", "(LPageTurner;I[J)I"⟩
abbrev cL_fault : ByteArray := method_4_code
def yL_fault : MethodName := ⟨RL, "fault", "(LPageTurner;I[J)I"⟩
abbrev cL_count : ByteArray := method_5_code
def yL_count : MethodName := ⟨RL, "count", "(LPageTurner;I[J)I"⟩
abbrev cL_event : ByteArray := method_6_code
def yL_event : MethodName := ⟨RL, "event", "(LPageTurner;II[J)I"⟩
abbrev cL_price : ByteArray := method_7_code
def yL_price : MethodName := ⟨RL, "price", "(LPageTurner;II[J)I"⟩
abbrev cL_heard : ByteArray := method_8_code
def yL_heard : MethodName := ⟨RL, "heard", "(LPageTurner;II[J)I"⟩
abbrev cL_place : ByteArray := method_9_code
def yL_place : MethodName := ⟨RL, "place", "(LPageTurner;I[J)I"⟩
abbrev cL_cost : ByteArray := method_10_code
def yL_cost : MethodName := ⟨RL, "cost", "(LPageTurner;II[J)I"⟩
abbrev cL_sure : ByteArray := method_11_code
def yL_sure : MethodName := ⟨RL, "sure", "(LPageTurner;[J)I"⟩
abbrev cL_time : ByteArray := method_12_code
def yL_time : MethodName := ⟨RL, "time", "(LPageTurner;I[J)I"⟩
abbrev cL_lead : ByteArray := method_13_code
def yL_lead : MethodName := ⟨RL, "lead", "(LPageTurner;I[J)I"⟩
abbrev cL_law : ByteArray := code
def yL_law : MethodName := ⟨RL, "law", "([I)Z"⟩
def wsX1_init : List Cond := .code yX1_init cX1_init 2 none :: ([.methodLink RX1 1 objectInit, .instanceMethod objectInit, .code objectInit ⟨#[0xb1]⟩ 1 none, .arrayClass .int, .fieldLink RX1 7 "PageTurner$Moment" "costs" "[I", .fieldLink RX1 13 "PageTurner$Moment" "before" "LPageTurner$Moment;"] ++ wsX10)
def wsX0_init : List Cond := .code yX0_init cX0_init 2 none :: ([.methodLink RX0 3 objectInit, .instanceMethod objectInit, .code objectInit ⟨#[0xb1]⟩ 1 none, .arrayClass .int, .fieldLink RX0 9 "PageTurner$Follower" "prices" "[I", .fieldLink RX0 15 "PageTurner$Follower" "arrivals" "[I", .fieldLink RX0 18 "PageTurner$Follower" "departures" "[I", .classLink RX0 21 RX1, .instantiable RX1 10, .initialized RX1, .fieldLink RX0 26 "PageTurner$Follower" "start" "LPageTurner$Moment;", .fieldLink RX0 30 "PageTurner$Follower" "now" "LPageTurner$Moment;", .fieldLink RX0 33 "PageTurner$Follower" "score" "LPageTurner$Score;", .methodLink RX0 23 yX1_init, .instanceMethod yX1_init, .code yX1_init cX1_init 2 none, .methodLink RX1 1 objectInit, .fieldLink RX1 7 "PageTurner$Moment" "costs" "[I", .fieldLink RX1 13 "PageTurner$Moment" "before" "LPageTurner$Moment;"] ++ wsX00 ++ wsX10)
def wsX1_clear : List Cond := .code yX1_clear cX1_clear 3 none :: ([.fieldLink RX1 7 "PageTurner$Moment" "costs" "[I", .arrayClass .int, .constant RX1 17 (1000000), .fieldLink RX1 18 "PageTurner$Moment" "placeEvent" "I", .fieldLink RX1 22 "PageTurner$Moment" "placeBits" "I", .fieldLink RX1 25 "PageTurner$Moment" "placeCost" "I", .fieldLink RX1 28 "PageTurner$Moment" "anchors" "I", .fieldLink RX1 31 "PageTurner$Moment" "anchor" "LPageTurner$Moment;", .fieldLink RX1 34 "PageTurner$Moment" "anchorAhead" "LPageTurner$Moment;"] ++ wsX10)
def wsX1_offer : List Cond := .code yX1_offer cX1_offer 3 none :: ([.fieldLink RX1 7 "PageTurner$Moment" "costs" "[I"] ++ wsX10)
def wsX0_forget : List Cond := .code yX0_forget cX0_forget 1 none :: ([.fieldLink RX0 26 "PageTurner$Follower" "start" "LPageTurner$Moment;", .fieldLink RX0 30 "PageTurner$Follower" "now" "LPageTurner$Moment;", .fieldLink RX0 57 "PageTurner$Follower" "notes" "I"] ++ wsX00)
def wsX0_begin_r1 : List Cond := [Cond.fieldLink RX0 33 "PageTurner$Follower" "score" "LPageTurner$Score;", Cond.fieldLink RX0 26 "PageTurner$Follower" "start" "LPageTurner$Moment;", Cond.fieldLink RX0 37 "PageTurner$Score" "states" "I", Cond.fieldLink RX0 51 "PageTurner$Moment" "placeCost" "I", Cond.methodLink RX0 43 yX1_clear, Cond.instanceMethod yX1_clear, Cond.selects RX1 yX1_clear yX1_clear, Cond.initialized RX1, Cond.code yX1_clear cX1_clear 3 none, Cond.fieldLink RX1 7 "PageTurner$Moment" "costs" "[I", Cond.arrayClass .int, Cond.constant RX1 17 (1000000), Cond.fieldLink RX1 18 "PageTurner$Moment" "placeEvent" "I", Cond.fieldLink RX1 22 "PageTurner$Moment" "placeBits" "I", Cond.fieldLink RX1 25 "PageTurner$Moment" "placeCost" "I", Cond.fieldLink RX1 28 "PageTurner$Moment" "anchors" "I", Cond.fieldLink RX1 31 "PageTurner$Moment" "anchor" "LPageTurner$Moment;", Cond.fieldLink RX1 34 "PageTurner$Moment" "anchorAhead" "LPageTurner$Moment;", Cond.methodLink RX0 47 yX1_offer, Cond.instanceMethod yX1_offer, Cond.selects RX1 yX1_offer yX1_offer, Cond.code yX1_offer cX1_offer 3 none, Cond.methodLink RX0 54 yX0_forget, Cond.instanceMethod yX0_forget]
def wsX0_begin_r2 : List Cond := [Cond.selects RX0 yX0_forget yX0_forget, Cond.initialized RX0, Cond.code yX0_forget cX0_forget 1 none, Cond.fieldLink RX0 30 "PageTurner$Follower" "now" "LPageTurner$Moment;", Cond.fieldLink RX0 57 "PageTurner$Follower" "notes" "I"]
def wsX0_begin : List Cond := .code yX0_begin cX0_begin 2 none :: ((wsX0_begin_r1 ++ wsX0_begin_r2) ++ wsX00 ++ wsX30 ++ wsX10)
def wsX0_takeBack : List Cond := .code yX0_takeBack cX0_takeBack 2 (some .boolean) :: ([.fieldLink RX0 30 "PageTurner$Follower" "now" "LPageTurner$Moment;", .fieldLink RX0 60 "PageTurner$Moment" "before" "LPageTurner$Moment;", .fieldLink RX0 57 "PageTurner$Follower" "notes" "I"] ++ wsX00 ++ wsX10)
def wsX0_hasPrice : List Cond := .code yX0_hasPrice cX0_hasPrice 2 (some .boolean) :: ([.fieldLink RX0 9 "PageTurner$Follower" "prices" "[I"] ++ wsX00)
def wsX0_changePrice : List Cond := .code yX0_changePrice cX0_changePrice 4 (some .int) :: ([.fieldLink RX0 9 "PageTurner$Follower" "prices" "[I", .methodLink RX0 63 yX0_hasPrice, .instanceMethod yX0_hasPrice, .selects RX0 yX0_hasPrice yX0_hasPrice, .initialized RX0, .code yX0_hasPrice cX0_hasPrice 2 (some .boolean)] ++ wsX00)
def wsX0_latestTime : List Cond := .code yX0_latestTime cX0_latestTime 1 (some .int) :: ([.fieldLink RX0 57 "PageTurner$Follower" "notes" "I", .fieldLink RX0 30 "PageTurner$Follower" "now" "LPageTurner$Moment;", .fieldLink RX0 67 "PageTurner$Moment" "clock" "I"] ++ wsX00 ++ wsX10)
def wsX0_placeEvent : List Cond := .code yX0_placeEvent cX0_placeEvent 1 (some .int) :: ([.fieldLink RX0 30 "PageTurner$Follower" "now" "LPageTurner$Moment;", .fieldLink RX0 70 "PageTurner$Moment" "placeEvent" "I"] ++ wsX00 ++ wsX10)
def wsX0_placeBits : List Cond := .code yX0_placeBits cX0_placeBits 1 (some .int) :: ([.fieldLink RX0 30 "PageTurner$Follower" "now" "LPageTurner$Moment;", .fieldLink RX0 73 "PageTurner$Moment" "placeBits" "I"] ++ wsX00 ++ wsX10)
def wsX0_placeCost : List Cond := .code yX0_placeCost cX0_placeCost 1 (some .int) :: ([.fieldLink RX0 30 "PageTurner$Follower" "now" "LPageTurner$Moment;", .fieldLink RX0 51 "PageTurner$Moment" "placeCost" "I"] ++ wsX00 ++ wsX10)
def wsX0_anchors : List Cond := .code yX0_anchors cX0_anchors 1 (some .int) :: ([.fieldLink RX0 30 "PageTurner$Follower" "now" "LPageTurner$Moment;", .fieldLink RX0 76 "PageTurner$Moment" "anchors" "I"] ++ wsX00 ++ wsX10)
def wsX3_fact : List Cond := .code yX3_fact cX3_fact 3 (some .int) :: ([.fieldLink RX3 11 "PageTurner$Score" "facts" "[I"] ++ wsX30)
def wsX1_costAt : List Cond := .code yX1_costAt cX1_costAt 2 (some .int) :: ([.fieldLink RX1 7 "PageTurner$Moment" "costs" "[I", .constant RX1 17 (1000000)] ++ wsX10)
def wsX0_costOf : List Cond := .code yX0_costOf cX0_costOf 4 (some .int) :: ([.fieldLink RX0 30 "PageTurner$Follower" "now" "LPageTurner$Moment;", .fieldLink RX0 33 "PageTurner$Follower" "score" "LPageTurner$Score;", .constant RX0 87 (1000000), .methodLink RX0 79 yX3_fact, .instanceMethod yX3_fact, .selects RX3 yX3_fact yX3_fact, .initialized RX3, .code yX3_fact cX3_fact 3 (some .int), .fieldLink RX3 11 "PageTurner$Score" "facts" "[I", .methodLink RX0 83 yX1_costAt, .instanceMethod yX1_costAt, .selects RX1 yX1_costAt yX1_costAt, .initialized RX1, .code yX1_costAt cX1_costAt 2 (some .int), .fieldLink RX1 7 "PageTurner$Moment" "costs" "[I", .constant RX1 17 (1000000)] ++ wsX00 ++ wsX30 ++ wsX10)
def wsX3_allBits : List Cond := .code yX3_allBits cX3_allBits 3 (some .int) :: ([.methodLink RX3 38 yX3_fact, .instanceMethod yX3_fact, .selects RX3 yX3_fact yX3_fact, .initialized RX3, .code yX3_fact cX3_fact 3 (some .int), .fieldLink RX3 11 "PageTurner$Score" "facts" "[I"] ++ wsX30)
def wsX0_leastOf_r1 : List Cond := [Cond.fieldLink RX0 33 "PageTurner$Follower" "score" "LPageTurner$Score;", Cond.constant RX0 87 (1000000), Cond.fieldLink RX0 30 "PageTurner$Follower" "now" "LPageTurner$Moment;", Cond.methodLink RX0 94 Lib.Math.min.name, Cond.static Lib.Math.min.name, Cond.initialized "java/lang/Math", Cond.code Lib.Math.min.name Lib.Math.min.code 2 (some .int), Cond.methodLink RX0 79 yX3_fact, Cond.instanceMethod yX3_fact, Cond.selects RX3 yX3_fact yX3_fact, Cond.initialized RX3, Cond.code yX3_fact cX3_fact 3 (some .int), Cond.fieldLink RX3 11 "PageTurner$Score" "facts" "[I", Cond.methodLink RX0 99 yX3_allBits, Cond.instanceMethod yX3_allBits, Cond.selects RX3 yX3_allBits yX3_allBits, Cond.code yX3_allBits cX3_allBits 3 (some .int), Cond.methodLink RX3 38 yX3_fact, Cond.methodLink RX0 83 yX1_costAt, Cond.instanceMethod yX1_costAt, Cond.selects RX1 yX1_costAt yX1_costAt, Cond.initialized RX1, Cond.code yX1_costAt cX1_costAt 2 (some .int), Cond.fieldLink RX1 7 "PageTurner$Moment" "costs" "[I"]
def wsX0_leastOf_r2 : List Cond := [Cond.constant RX1 17 (1000000)]
def wsX0_leastOf : List Cond := .code yX0_leastOf cX0_leastOf 6 (some .int) :: ((wsX0_leastOf_r1 ++ wsX0_leastOf_r2) ++ wsX00 ++ wsX30 ++ wsX10)
def wsX0_leadOverOtherMeasures_r1 : List Cond := [Cond.fieldLink RX0 33 "PageTurner$Follower" "score" "LPageTurner$Score;", Cond.fieldLink RX0 30 "PageTurner$Follower" "now" "LPageTurner$Moment;", Cond.fieldLink RX0 70 "PageTurner$Moment" "placeEvent" "I", Cond.constant RX0 87 (1000000), Cond.fieldLink RX0 88 "PageTurner$Score" "events" "I", Cond.methodLink RX0 94 Lib.Math.min.name, Cond.static Lib.Math.min.name, Cond.initialized "java/lang/Math", Cond.code Lib.Math.min.name Lib.Math.min.code 2 (some .int), Cond.fieldLink RX0 51 "PageTurner$Moment" "placeCost" "I", Cond.methodLink RX0 79 yX3_fact, Cond.instanceMethod yX3_fact, Cond.selects RX3 yX3_fact yX3_fact, Cond.initialized RX3, Cond.code yX3_fact cX3_fact 3 (some .int), Cond.fieldLink RX3 11 "PageTurner$Score" "facts" "[I", Cond.methodLink RX0 91 yX0_leastOf, Cond.instanceMethod yX0_leastOf, Cond.selects RX0 yX0_leastOf yX0_leastOf, Cond.initialized RX0, Cond.code yX0_leastOf cX0_leastOf 6 (some .int), Cond.methodLink RX0 99 yX3_allBits, Cond.instanceMethod yX3_allBits, Cond.selects RX3 yX3_allBits yX3_allBits]
def wsX0_leadOverOtherMeasures_r2 : List Cond := [Cond.code yX3_allBits cX3_allBits 3 (some .int), Cond.methodLink RX3 38 yX3_fact, Cond.methodLink RX0 83 yX1_costAt, Cond.instanceMethod yX1_costAt, Cond.selects RX1 yX1_costAt yX1_costAt, Cond.initialized RX1, Cond.code yX1_costAt cX1_costAt 2 (some .int), Cond.fieldLink RX1 7 "PageTurner$Moment" "costs" "[I", Cond.constant RX1 17 (1000000)]
def wsX0_leadOverOtherMeasures : List Cond := .code yX0_leadOverOtherMeasures cX0_leadOverOtherMeasures 4 (some .int) :: ((wsX0_leadOverOtherMeasures_r1 ++ wsX0_leadOverOtherMeasures_r2) ++ wsX00 ++ wsX10 ++ wsX30)
def wsJ6_bitCount_0f7a4 : List Cond := .code yJ6_bitCount_0f7a4 cJ6_bitCount_0f7a4 1 (some .int) :: ([.constant RJ6 265 (1431655765), .constant RJ6 266 (858993459), .constant RJ6 267 (252645135)])
def wsX0_departureFrom_r1 : List Cond := [Cond.fieldLink RX0 33 "PageTurner$Follower" "score" "LPageTurner$Score;", Cond.constant RX0 87 (1000000), Cond.fieldLink RX0 30 "PageTurner$Follower" "now" "LPageTurner$Moment;", Cond.fieldLink RX0 9 "PageTurner$Follower" "prices" "[I", Cond.methodLink RX0 94 Lib.Math.min.name, Cond.static Lib.Math.min.name, Cond.initialized "java/lang/Math", Cond.code Lib.Math.min.name Lib.Math.min.code 2 (some .int), Cond.methodLink RX0 79 yX3_fact, Cond.instanceMethod yX3_fact, Cond.selects RX3 yX3_fact yX3_fact, Cond.initialized RX3, Cond.code yX3_fact cX3_fact 3 (some .int), Cond.fieldLink RX3 11 "PageTurner$Score" "facts" "[I", Cond.methodLink RX0 99 yX3_allBits, Cond.instanceMethod yX3_allBits, Cond.selects RX3 yX3_allBits yX3_allBits, Cond.code yX3_allBits cX3_allBits 3 (some .int), Cond.methodLink RX3 38 yX3_fact, Cond.methodLink RX0 126 yJ6_bitCount_0f7a4, Cond.static yJ6_bitCount_0f7a4, Cond.initialized RJ6, Cond.code yJ6_bitCount_0f7a4 cJ6_bitCount_0f7a4 1 (some .int), Cond.constant RJ6 265 (1431655765)]
def wsX0_departureFrom_r2 : List Cond := [Cond.constant RJ6 266 (858993459), Cond.constant RJ6 267 (252645135), Cond.methodLink RX0 83 yX1_costAt, Cond.instanceMethod yX1_costAt, Cond.selects RX1 yX1_costAt yX1_costAt, Cond.initialized RX1, Cond.code yX1_costAt cX1_costAt 2 (some .int), Cond.fieldLink RX1 7 "PageTurner$Moment" "costs" "[I", Cond.constant RX1 17 (1000000)]
def wsX0_departureFrom : List Cond := .code yX0_departureFrom cX0_departureFrom 7 (some .int) :: ((wsX0_departureFrom_r1 ++ wsX0_departureFrom_r2) ++ wsX00 ++ wsX30 ++ wsX10)
def wsX3_has : List Cond := .code yX3_has cX3_has 2 (some .boolean) :: ([.fieldLink RX3 15 "PageTurner$Score" "events" "I"] ++ wsX30)
def wsX0_arrive : List Cond := .code yX0_arrive cX0_arrive 3 (some .boolean) :: ([.fieldLink RX0 15 "PageTurner$Follower" "arrivals" "[I", .fieldLink RX0 33 "PageTurner$Follower" "score" "LPageTurner$Score;", .methodLink RX0 135 yX3_has, .instanceMethod yX3_has, .selects RX3 yX3_has yX3_has, .initialized RX3, .code yX3_has cX3_has 2 (some .boolean), .fieldLink RX3 15 "PageTurner$Score" "events" "I"] ++ wsX00 ++ wsX30)
def wsX0_walkOn_r1 : List Cond := [Cond.fieldLink RX0 33 "PageTurner$Follower" "score" "LPageTurner$Score;", Cond.fieldLink RX0 88 "PageTurner$Score" "events" "I", Cond.fieldLink RX0 15 "PageTurner$Follower" "arrivals" "[I", Cond.fieldLink RX0 18 "PageTurner$Follower" "departures" "[I", Cond.fieldLink RX0 9 "PageTurner$Follower" "prices" "[I", Cond.methodLink RX0 94 Lib.Math.min.name, Cond.static Lib.Math.min.name, Cond.initialized "java/lang/Math", Cond.code Lib.Math.min.name Lib.Math.min.code 2 (some .int), Cond.methodLink RX0 79 yX3_fact, Cond.instanceMethod yX3_fact, Cond.selects RX3 yX3_fact yX3_fact, Cond.initialized RX3, Cond.code yX3_fact cX3_fact 3 (some .int), Cond.fieldLink RX3 11 "PageTurner$Score" "facts" "[I", Cond.methodLink RX0 131 yX0_arrive, Cond.instanceMethod yX0_arrive, Cond.selects RX0 yX0_arrive yX0_arrive, Cond.initialized RX0, Cond.code yX0_arrive cX0_arrive 3 (some .boolean), Cond.methodLink RX0 135 yX3_has, Cond.instanceMethod yX3_has, Cond.selects RX3 yX3_has yX3_has, Cond.code yX3_has cX3_has 2 (some .boolean)]
def wsX0_walkOn_r2 : List Cond := [Cond.fieldLink RX3 15 "PageTurner$Score" "events" "I"]
def wsX0_walkOn : List Cond := .code yX0_walkOn cX0_walkOn 5 (some .boolean) :: ((wsX0_walkOn_r1 ++ wsX0_walkOn_r2) ++ wsX00 ++ wsX30)
def wsX0_makeSilentMoves_r1 : List Cond := [Cond.fieldLink RX0 30 "PageTurner$Follower" "now" "LPageTurner$Moment;", Cond.fieldLink RX0 51 "PageTurner$Moment" "placeCost" "I", Cond.fieldLink RX0 9 "PageTurner$Follower" "prices" "[I", Cond.fieldLink RX0 33 "PageTurner$Follower" "score" "LPageTurner$Score;", Cond.fieldLink RX0 88 "PageTurner$Score" "events" "I", Cond.fieldLink RX0 15 "PageTurner$Follower" "arrivals" "[I", Cond.methodLink RX0 94 Lib.Math.min.name, Cond.static Lib.Math.min.name, Cond.initialized "java/lang/Math", Cond.code Lib.Math.min.name Lib.Math.min.code 2 (some .int), Cond.fieldLink RX0 18 "PageTurner$Follower" "departures" "[I", Cond.methodLink RX0 79 yX3_fact, Cond.instanceMethod yX3_fact, Cond.selects RX3 yX3_fact yX3_fact, Cond.initialized RX3, Cond.code yX3_fact cX3_fact 3 (some .int), Cond.fieldLink RX3 11 "PageTurner$Score" "facts" "[I", Cond.methodLink RX0 83 yX1_costAt, Cond.instanceMethod yX1_costAt, Cond.selects RX1 yX1_costAt yX1_costAt, Cond.initialized RX1, Cond.code yX1_costAt cX1_costAt 2 (some .int), Cond.fieldLink RX1 7 "PageTurner$Moment" "costs" "[I", Cond.constant RX1 17 (1000000)]
def wsX0_makeSilentMoves_r2 : List Cond := [Cond.methodLink RX0 119 yX0_departureFrom, Cond.instanceMethod yX0_departureFrom, Cond.selects RX0 yX0_departureFrom yX0_departureFrom, Cond.initialized RX0, Cond.code yX0_departureFrom cX0_departureFrom 7 (some .int), Cond.constant RX0 87 (1000000), Cond.methodLink RX0 99 yX3_allBits, Cond.instanceMethod yX3_allBits, Cond.selects RX3 yX3_allBits yX3_allBits, Cond.code yX3_allBits cX3_allBits 3 (some .int), Cond.methodLink RX3 38 yX3_fact, Cond.methodLink RX0 126 yJ6_bitCount_0f7a4, Cond.static yJ6_bitCount_0f7a4, Cond.initialized RJ6, Cond.code yJ6_bitCount_0f7a4 cJ6_bitCount_0f7a4 1 (some .int), Cond.constant RJ6 265 (1431655765), Cond.constant RJ6 266 (858993459), Cond.constant RJ6 267 (252645135), Cond.methodLink RX0 122 yX0_walkOn, Cond.instanceMethod yX0_walkOn, Cond.selects RX0 yX0_walkOn yX0_walkOn, Cond.code yX0_walkOn cX0_walkOn 5 (some .boolean), Cond.methodLink RX0 131 yX0_arrive, Cond.instanceMethod yX0_arrive]
def wsX0_makeSilentMoves_r3 : List Cond := [Cond.selects RX0 yX0_arrive yX0_arrive, Cond.code yX0_arrive cX0_arrive 3 (some .boolean), Cond.methodLink RX0 135 yX3_has, Cond.instanceMethod yX3_has, Cond.selects RX3 yX3_has yX3_has, Cond.code yX3_has cX3_has 2 (some .boolean), Cond.fieldLink RX3 15 "PageTurner$Score" "events" "I"]
def wsX0_makeSilentMoves : List Cond := .code yX0_makeSilentMoves cX0_makeSilentMoves 5 none :: ((wsX0_makeSilentMoves_r1 ++ (wsX0_makeSilentMoves_r2 ++ wsX0_makeSilentMoves_r3)) ++ wsX00 ++ wsX10 ++ wsX30)
def wsX3_rightBit : List Cond := .code yX3_rightBit cX3_rightBit 6 (some .int) :: ([.methodLink RX3 54 Lib.Math.abs.name, .static Lib.Math.abs.name, .initialized "java/lang/Math", .code Lib.Math.abs.name Lib.Math.abs.code 1 (some .int), .methodLink RX3 38 yX3_fact, .instanceMethod yX3_fact, .selects RX3 yX3_fact yX3_fact, .initialized RX3, .code yX3_fact cX3_fact 3 (some .int), .fieldLink RX3 11 "PageTurner$Score" "facts" "[I"] ++ wsX30)
def wsX0_takeNote_r1 : List Cond := [Cond.fieldLink RX0 15 "PageTurner$Follower" "arrivals" "[I", Cond.fieldLink RX0 33 "PageTurner$Follower" "score" "LPageTurner$Score;", Cond.fieldLink RX0 30 "PageTurner$Follower" "now" "LPageTurner$Moment;", Cond.fieldLink RX0 9 "PageTurner$Follower" "prices" "[I", Cond.methodLink RX0 79 yX3_fact, Cond.instanceMethod yX3_fact, Cond.selects RX3 yX3_fact yX3_fact, Cond.initialized RX3, Cond.code yX3_fact cX3_fact 3 (some .int), Cond.fieldLink RX3 11 "PageTurner$Score" "facts" "[I", Cond.methodLink RX0 99 yX3_allBits, Cond.instanceMethod yX3_allBits, Cond.selects RX3 yX3_allBits yX3_allBits, Cond.code yX3_allBits cX3_allBits 3 (some .int), Cond.methodLink RX3 38 yX3_fact, Cond.methodLink RX0 138 yX3_rightBit, Cond.instanceMethod yX3_rightBit, Cond.selects RX3 yX3_rightBit yX3_rightBit, Cond.code yX3_rightBit cX3_rightBit 6 (some .int), Cond.methodLink RX3 54 Lib.Math.abs.name, Cond.static Lib.Math.abs.name, Cond.initialized "java/lang/Math", Cond.code Lib.Math.abs.name Lib.Math.abs.code 1 (some .int), Cond.methodLink RX0 83 yX1_costAt]
def wsX0_takeNote_r2 : List Cond := [Cond.instanceMethod yX1_costAt, Cond.selects RX1 yX1_costAt yX1_costAt, Cond.initialized RX1, Cond.code yX1_costAt cX1_costAt 2 (some .int), Cond.fieldLink RX1 7 "PageTurner$Moment" "costs" "[I", Cond.constant RX1 17 (1000000), Cond.methodLink RX0 47 yX1_offer, Cond.instanceMethod yX1_offer, Cond.selects RX1 yX1_offer yX1_offer, Cond.code yX1_offer cX1_offer 3 none]
def wsX0_takeNote : List Cond := .code yX0_takeNote cX0_takeNote 11 none :: ((wsX0_takeNote_r1 ++ wsX0_takeNote_r2) ++ wsX00 ++ wsX30 ++ wsX10)
def wsX0_findPlace : List Cond := .code yX0_findPlace cX0_findPlace 7 none :: ([.fieldLink RX0 33 "PageTurner$Follower" "score" "LPageTurner$Score;", .fieldLink RX0 51 "PageTurner$Moment" "placeCost" "I", .fieldLink RX0 70 "PageTurner$Moment" "placeEvent" "I", .fieldLink RX0 73 "PageTurner$Moment" "placeBits" "I", .methodLink RX0 79 yX3_fact, .instanceMethod yX3_fact, .selects RX3 yX3_fact yX3_fact, .initialized RX3, .code yX3_fact cX3_fact 3 (some .int), .fieldLink RX3 11 "PageTurner$Score" "facts" "[I", .methodLink RX0 99 yX3_allBits, .instanceMethod yX3_allBits, .selects RX3 yX3_allBits yX3_allBits, .code yX3_allBits cX3_allBits 3 (some .int), .methodLink RX3 38 yX3_fact, .methodLink RX0 83 yX1_costAt, .instanceMethod yX1_costAt, .selects RX1 yX1_costAt yX1_costAt, .initialized RX1, .code yX1_costAt cX1_costAt 2 (some .int), .fieldLink RX1 7 "PageTurner$Moment" "costs" "[I", .constant RX1 17 (1000000)] ++ wsX00 ++ wsX10 ++ wsX30)
def wsX0_dropAnchor : List Cond := .code yX0_dropAnchor cX0_dropAnchor 3 none :: ([.fieldLink RX0 30 "PageTurner$Follower" "now" "LPageTurner$Moment;", .fieldLink RX0 141 "PageTurner$Moment" "anchor" "LPageTurner$Moment;", .fieldLink RX0 70 "PageTurner$Moment" "placeEvent" "I", .fieldLink RX0 76 "PageTurner$Moment" "anchors" "I", .fieldLink RX0 144 "PageTurner$Moment" "anchorAhead" "LPageTurner$Moment;"] ++ wsX00 ++ wsX10)
def wsX0_hear_r1 : List Cond := [Cond.fieldLink RX0 30 "PageTurner$Follower" "now" "LPageTurner$Moment;", Cond.fieldLink RX0 102 "PageTurner$Moment" "next" "LPageTurner$Moment;", Cond.classLink RX0 21 RX1, Cond.instantiable RX1 10, Cond.initialized RX1, Cond.fieldLink RX0 33 "PageTurner$Follower" "score" "LPageTurner$Score;", Cond.fieldLink RX0 37 "PageTurner$Score" "states" "I", Cond.fieldLink RX0 67 "PageTurner$Moment" "clock" "I", Cond.fieldLink RX0 88 "PageTurner$Score" "events" "I", Cond.fieldLink RX0 57 "PageTurner$Follower" "notes" "I", Cond.methodLink RX0 23 yX1_init, Cond.instanceMethod yX1_init, Cond.code yX1_init cX1_init 2 none, Cond.methodLink RX1 1 objectInit, Cond.instanceMethod objectInit, Cond.code objectInit ⟨#[0xb1]⟩ 1 none, Cond.arrayClass .int, Cond.fieldLink RX1 7 "PageTurner$Moment" "costs" "[I", Cond.fieldLink RX1 13 "PageTurner$Moment" "before" "LPageTurner$Moment;", Cond.methodLink RX0 43 yX1_clear, Cond.instanceMethod yX1_clear, Cond.selects RX1 yX1_clear yX1_clear, Cond.code yX1_clear cX1_clear 3 none, Cond.constant RX1 17 (1000000)]
def wsX0_hear_r2 : List Cond := [Cond.fieldLink RX1 18 "PageTurner$Moment" "placeEvent" "I", Cond.fieldLink RX1 22 "PageTurner$Moment" "placeBits" "I", Cond.fieldLink RX1 25 "PageTurner$Moment" "placeCost" "I", Cond.fieldLink RX1 28 "PageTurner$Moment" "anchors" "I", Cond.fieldLink RX1 31 "PageTurner$Moment" "anchor" "LPageTurner$Moment;", Cond.fieldLink RX1 34 "PageTurner$Moment" "anchorAhead" "LPageTurner$Moment;", Cond.methodLink RX0 105 yX0_makeSilentMoves, Cond.instanceMethod yX0_makeSilentMoves, Cond.selects RX0 yX0_makeSilentMoves yX0_makeSilentMoves, Cond.initialized RX0, Cond.code yX0_makeSilentMoves cX0_makeSilentMoves 5 none, Cond.fieldLink RX0 51 "PageTurner$Moment" "placeCost" "I", Cond.fieldLink RX0 9 "PageTurner$Follower" "prices" "[I", Cond.fieldLink RX0 15 "PageTurner$Follower" "arrivals" "[I", Cond.methodLink RX0 94 Lib.Math.min.name, Cond.static Lib.Math.min.name, Cond.initialized "java/lang/Math", Cond.code Lib.Math.min.name Lib.Math.min.code 2 (some .int), Cond.fieldLink RX0 18 "PageTurner$Follower" "departures" "[I", Cond.methodLink RX0 79 yX3_fact, Cond.instanceMethod yX3_fact, Cond.selects RX3 yX3_fact yX3_fact, Cond.initialized RX3, Cond.code yX3_fact cX3_fact 3 (some .int)]
def wsX0_hear_r3 : List Cond := [Cond.fieldLink RX3 11 "PageTurner$Score" "facts" "[I", Cond.methodLink RX0 83 yX1_costAt, Cond.instanceMethod yX1_costAt, Cond.selects RX1 yX1_costAt yX1_costAt, Cond.code yX1_costAt cX1_costAt 2 (some .int), Cond.methodLink RX0 119 yX0_departureFrom, Cond.instanceMethod yX0_departureFrom, Cond.selects RX0 yX0_departureFrom yX0_departureFrom, Cond.code yX0_departureFrom cX0_departureFrom 7 (some .int), Cond.constant RX0 87 (1000000), Cond.methodLink RX0 99 yX3_allBits, Cond.instanceMethod yX3_allBits, Cond.selects RX3 yX3_allBits yX3_allBits, Cond.code yX3_allBits cX3_allBits 3 (some .int), Cond.methodLink RX3 38 yX3_fact, Cond.methodLink RX0 126 yJ6_bitCount_0f7a4, Cond.static yJ6_bitCount_0f7a4, Cond.initialized RJ6, Cond.code yJ6_bitCount_0f7a4 cJ6_bitCount_0f7a4 1 (some .int), Cond.constant RJ6 265 (1431655765), Cond.constant RJ6 266 (858993459), Cond.constant RJ6 267 (252645135), Cond.methodLink RX0 122 yX0_walkOn, Cond.instanceMethod yX0_walkOn]
def wsX0_hear_r4 : List Cond := [Cond.selects RX0 yX0_walkOn yX0_walkOn, Cond.code yX0_walkOn cX0_walkOn 5 (some .boolean), Cond.methodLink RX0 131 yX0_arrive, Cond.instanceMethod yX0_arrive, Cond.selects RX0 yX0_arrive yX0_arrive, Cond.code yX0_arrive cX0_arrive 3 (some .boolean), Cond.methodLink RX0 135 yX3_has, Cond.instanceMethod yX3_has, Cond.selects RX3 yX3_has yX3_has, Cond.code yX3_has cX3_has 2 (some .boolean), Cond.fieldLink RX3 15 "PageTurner$Score" "events" "I", Cond.methodLink RX0 108 yX0_takeNote, Cond.instanceMethod yX0_takeNote, Cond.selects RX0 yX0_takeNote yX0_takeNote, Cond.code yX0_takeNote cX0_takeNote 11 none, Cond.methodLink RX0 138 yX3_rightBit, Cond.instanceMethod yX3_rightBit, Cond.selects RX3 yX3_rightBit yX3_rightBit, Cond.code yX3_rightBit cX3_rightBit 6 (some .int), Cond.methodLink RX3 54 Lib.Math.abs.name, Cond.static Lib.Math.abs.name, Cond.code Lib.Math.abs.name Lib.Math.abs.code 1 (some .int), Cond.methodLink RX0 47 yX1_offer, Cond.instanceMethod yX1_offer]
def wsX0_hear_r5 : List Cond := [Cond.selects RX1 yX1_offer yX1_offer, Cond.code yX1_offer cX1_offer 3 none, Cond.methodLink RX0 112 yX0_findPlace, Cond.instanceMethod yX0_findPlace, Cond.selects RX0 yX0_findPlace yX0_findPlace, Cond.code yX0_findPlace cX0_findPlace 7 none, Cond.fieldLink RX0 70 "PageTurner$Moment" "placeEvent" "I", Cond.fieldLink RX0 73 "PageTurner$Moment" "placeBits" "I", Cond.methodLink RX0 116 yX0_dropAnchor, Cond.instanceMethod yX0_dropAnchor, Cond.selects RX0 yX0_dropAnchor yX0_dropAnchor, Cond.code yX0_dropAnchor cX0_dropAnchor 3 none, Cond.fieldLink RX0 141 "PageTurner$Moment" "anchor" "LPageTurner$Moment;", Cond.fieldLink RX0 76 "PageTurner$Moment" "anchors" "I", Cond.fieldLink RX0 144 "PageTurner$Moment" "anchorAhead" "LPageTurner$Moment;"]
def wsX0_hear : List Cond := .code yX0_hear cX0_hear 5 none :: ((wsX0_hear_r1 ++ (wsX0_hear_r2 ++ (wsX0_hear_r3 ++ (wsX0_hear_r4 ++ wsX0_hear_r5)))) ++ wsX00 ++ wsX10 ++ wsX30)
def wsX0_tempoBase : List Cond := .code yX0_tempoBase cX0_tempoBase 4 (some (.object "PageTurner$Moment")) :: ([.fieldLink RX0 30 "PageTurner$Follower" "now" "LPageTurner$Moment;", .fieldLink RX0 141 "PageTurner$Moment" "anchor" "LPageTurner$Moment;", .fieldLink RX0 144 "PageTurner$Moment" "anchorAhead" "LPageTurner$Moment;"] ++ wsX00 ++ wsX10)
def wsX0_beatOf : List Cond := .code yX0_beatOf cX0_beatOf 2 (some .int) :: ([.fieldLink RX0 33 "PageTurner$Follower" "score" "LPageTurner$Score;", .fieldLink RX0 70 "PageTurner$Moment" "placeEvent" "I", .methodLink RX0 79 yX3_fact, .instanceMethod yX3_fact, .selects RX3 yX3_fact yX3_fact, .initialized RX3, .code yX3_fact cX3_fact 3 (some .int), .fieldLink RX3 11 "PageTurner$Score" "facts" "[I"] ++ wsX00 ++ wsX10 ++ wsX30)
def wsX0_tempoUpper : List Cond := .code yX0_tempoUpper cX0_tempoUpper 3 (some .int) :: ([.fieldLink RX0 30 "PageTurner$Follower" "now" "LPageTurner$Moment;", .fieldLink RX0 141 "PageTurner$Moment" "anchor" "LPageTurner$Moment;", .fieldLink RX0 67 "PageTurner$Moment" "clock" "I", .methodLink RX0 147 yX0_tempoBase, .instanceMethod yX0_tempoBase, .selects RX0 yX0_tempoBase yX0_tempoBase, .initialized RX0, .code yX0_tempoBase cX0_tempoBase 4 (some (.object "PageTurner$Moment")), .fieldLink RX0 144 "PageTurner$Moment" "anchorAhead" "LPageTurner$Moment;"] ++ wsX00 ++ wsX10)
def wsX0_tempoLower : List Cond := .code yX0_tempoLower cX0_tempoLower 3 (some .int) :: ([.fieldLink RX0 30 "PageTurner$Follower" "now" "LPageTurner$Moment;", .fieldLink RX0 141 "PageTurner$Moment" "anchor" "LPageTurner$Moment;", .methodLink RX0 147 yX0_tempoBase, .instanceMethod yX0_tempoBase, .selects RX0 yX0_tempoBase yX0_tempoBase, .initialized RX0, .code yX0_tempoBase cX0_tempoBase 4 (some (.object "PageTurner$Moment")), .fieldLink RX0 144 "PageTurner$Moment" "anchorAhead" "LPageTurner$Moment;", .methodLink RX0 151 yX0_beatOf, .instanceMethod yX0_beatOf, .selects RX0 yX0_beatOf yX0_beatOf, .code yX0_beatOf cX0_beatOf 2 (some .int), .fieldLink RX0 33 "PageTurner$Follower" "score" "LPageTurner$Score;", .fieldLink RX0 70 "PageTurner$Moment" "placeEvent" "I", .methodLink RX0 79 yX3_fact, .instanceMethod yX3_fact, .selects RX3 yX3_fact yX3_fact, .initialized RX3, .code yX3_fact cX3_fact 3 (some .int), .fieldLink RX3 11 "PageTurner$Score" "facts" "[I"] ++ wsX00 ++ wsX10 ++ wsX30)
def wsJ9_floorDiv_f86c9 : List Cond := .code yJ9_floorDiv_f86c9 cJ9_floorDiv_f86c9 6 (some .long) :: ([])
def wsX0_timeOfBeat_r1 : List Cond := [Cond.fieldLink RX0 30 "PageTurner$Follower" "now" "LPageTurner$Moment;", Cond.fieldLink RX0 141 "PageTurner$Moment" "anchor" "LPageTurner$Moment;", Cond.constantLong RX0 155 (-1), Cond.fieldLink RX0 67 "PageTurner$Moment" "clock" "I", Cond.methodLink RX0 157 yX0_tempoLower, Cond.instanceMethod yX0_tempoLower, Cond.selects RX0 yX0_tempoLower yX0_tempoLower, Cond.initialized RX0, Cond.code yX0_tempoLower cX0_tempoLower 3 (some .int), Cond.methodLink RX0 147 yX0_tempoBase, Cond.instanceMethod yX0_tempoBase, Cond.selects RX0 yX0_tempoBase yX0_tempoBase, Cond.code yX0_tempoBase cX0_tempoBase 4 (some (.object "PageTurner$Moment")), Cond.fieldLink RX0 144 "PageTurner$Moment" "anchorAhead" "LPageTurner$Moment;", Cond.methodLink RX0 151 yX0_beatOf, Cond.instanceMethod yX0_beatOf, Cond.selects RX0 yX0_beatOf yX0_beatOf, Cond.code yX0_beatOf cX0_beatOf 2 (some .int), Cond.fieldLink RX0 33 "PageTurner$Follower" "score" "LPageTurner$Score;", Cond.fieldLink RX0 70 "PageTurner$Moment" "placeEvent" "I", Cond.methodLink RX0 79 yX3_fact, Cond.instanceMethod yX3_fact, Cond.selects RX3 yX3_fact yX3_fact, Cond.initialized RX3]
def wsX0_timeOfBeat_r2 : List Cond := [Cond.code yX3_fact cX3_fact 3 (some .int), Cond.fieldLink RX3 11 "PageTurner$Score" "facts" "[I", Cond.methodLink RX0 161 yX0_tempoUpper, Cond.instanceMethod yX0_tempoUpper, Cond.selects RX0 yX0_tempoUpper yX0_tempoUpper, Cond.code yX0_tempoUpper cX0_tempoUpper 3 (some .int), Cond.methodLink RX0 164 yJ9_floorDiv_f86c9, Cond.static yJ9_floorDiv_f86c9, Cond.initialized RJ9, Cond.code yJ9_floorDiv_f86c9 cJ9_floorDiv_f86c9 6 (some .long)]
def wsX0_timeOfBeat : List Cond := .code yX0_timeOfBeat cX0_timeOfBeat 7 (some .long) :: ((wsX0_timeOfBeat_r1 ++ wsX0_timeOfBeat_r2) ++ wsX00 ++ wsX10 ++ wsX30)
def wsX4_init : List Cond := .code yX4_init cX4_init 1 none :: ([.methodLink RX4 3 objectInit, .instanceMethod objectInit, .code objectInit ⟨#[0xb1]⟩ 1 none, .arrayClass .byte, .fieldLink RX4 9 "PageTurner$Tokens" "text" "[B"] ++ wsX40)
def wsX3_init : List Cond := .code yX3_init cX3_init 1 none :: ([.methodLink RX3 5 objectInit, .instanceMethod objectInit, .code objectInit ⟨#[0xb1]⟩ 1 none, .arrayClass .int, .fieldLink RX3 11 "PageTurner$Score" "facts" "[I"] ++ wsX30)
def wsX2_init : List Cond := .code yX2_init cX2_init 1 none :: ([.methodLink RX2 5 objectInit, .instanceMethod objectInit, .code objectInit ⟨#[0xb1]⟩ 1 none, .classLink RX2 11 RX4, .instantiable RX4 6, .initialized RX4, .fieldLink RX2 14 "PageTurner$Reader" "tokens" "LPageTurner$Tokens;", .classLink RX2 18 RX3, .instantiable RX3 7, .initialized RX3, .fieldLink RX2 21 "PageTurner$Reader" "draft" "LPageTurner$Score;", .fieldLink RX2 25 "PageTurner$Reader" "fault" "I", .fieldLink RX2 29 "PageTurner$Reader" "faultPlace" "I", .instanceMethod yX4_init, .code yX4_init cX4_init 1 none, .methodLink RX4 3 objectInit, .arrayClass .byte, .fieldLink RX4 9 "PageTurner$Tokens" "text" "[B", .instanceMethod yX3_init, .code yX3_init cX3_init 1 none, .methodLink RX3 5 objectInit, .arrayClass .int, .fieldLink RX3 11 "PageTurner$Score" "facts" "[I"] ++ wsX40 ++ wsX20 ++ wsX30)
def wsX2_trade : List Cond := .code yX2_trade cX2_trade 3 (some (.object "PageTurner$Score")) :: ([.fieldLink RX2 21 "PageTurner$Reader" "draft" "LPageTurner$Score;"] ++ wsX20)
def wsX3_clear : List Cond := .code yX3_clear cX3_clear 1 none :: ([.fieldLink RX3 15 "PageTurner$Score" "events" "I", .fieldLink RX3 19 "PageTurner$Score" "beats" "I", .fieldLink RX3 22 "PageTurner$Score" "cues" "I", .fieldLink RX3 25 "PageTurner$Score" "states" "I", .fieldLink RX3 28 "PageTurner$Score" "measure" "I", .fieldLink RX3 31 "PageTurner$Score" "page" "I"] ++ wsX30)
def wsX4_byteAt : List Cond := .code yX4_byteAt cX4_byteAt 2 (some .int) :: ([.fieldLink RX4 21 "PageTurner$Tokens" "length" "I", .fieldLink RX4 9 "PageTurner$Tokens" "text" "[B"] ++ wsX40)
def wsX4_skipBlanks : List Cond := .code yX4_skipBlanks cX4_skipBlanks 1 none :: ([.fieldLink RX4 25 "PageTurner$Tokens" "next" "I", .fieldLink RX4 21 "PageTurner$Tokens" "length" "I", .methodLink RX4 40 yX4_byteAt, .instanceMethod yX4_byteAt, .selects RX4 yX4_byteAt yX4_byteAt, .initialized RX4, .code yX4_byteAt cX4_byteAt 2 (some .int), .fieldLink RX4 9 "PageTurner$Tokens" "text" "[B"] ++ wsX40)
def wsX4_take : List Cond := .code yX4_take cX4_take 3 none :: ([.fieldLink RX4 44 "PageTurner$Tokens" "kind" "I", .fieldLink RX4 34 "PageTurner$Tokens" "start" "I", .fieldLink RX4 25 "PageTurner$Tokens" "next" "I"] ++ wsX40)
def wsX4_takePitch : List Cond := .code yX4_takePitch cX4_takePitch 5 none :: ([.fieldLink RX4 34 "PageTurner$Tokens" "start" "I", .fieldLink RX4 69 "PageTurner$Tokens" "STEPS" "[I", .fieldLink RX4 37 "PageTurner$Tokens" "value" "I", .methodLink RX4 40 yX4_byteAt, .instanceMethod yX4_byteAt, .selects RX4 yX4_byteAt yX4_byteAt, .initialized RX4, .code yX4_byteAt cX4_byteAt 2 (some .int), .fieldLink RX4 21 "PageTurner$Tokens" "length" "I", .fieldLink RX4 9 "PageTurner$Tokens" "text" "[B", .methodLink RX4 58 yX4_take, .instanceMethod yX4_take, .selects RX4 yX4_take yX4_take, .code yX4_take cX4_take 3 none, .fieldLink RX4 44 "PageTurner$Tokens" "kind" "I", .fieldLink RX4 25 "PageTurner$Tokens" "next" "I"] ++ wsX40)
def wsX4_isDigit : List Cond := .code yX4_isDigit cX4_isDigit 1 (some .boolean) :: ([])
def wsX4_takeNumber : List Cond := .code yX4_takeNumber cX4_takeNumber 2 none :: ([.fieldLink RX4 34 "PageTurner$Tokens" "start" "I", .fieldLink RX4 21 "PageTurner$Tokens" "length" "I", .fieldLink RX4 37 "PageTurner$Tokens" "value" "I", .methodLink RX4 40 yX4_byteAt, .instanceMethod yX4_byteAt, .selects RX4 yX4_byteAt yX4_byteAt, .initialized RX4, .code yX4_byteAt cX4_byteAt 2 (some .int), .fieldLink RX4 9 "PageTurner$Tokens" "text" "[B", .methodLink RX4 51 yX4_isDigit, .static yX4_isDigit, .code yX4_isDigit cX4_isDigit 1 (some .boolean), .methodLink RX4 58 yX4_take, .instanceMethod yX4_take, .selects RX4 yX4_take yX4_take, .code yX4_take cX4_take 3 none, .fieldLink RX4 44 "PageTurner$Tokens" "kind" "I", .fieldLink RX4 25 "PageTurner$Tokens" "next" "I"] ++ wsX40)
def wsJ0_isLatin1_aae02 : List Cond := .code yJ0_isLatin1_aae02 cJ0_isLatin1_aae02 1 (some .boolean) :: ([.fieldLink RJ0 38 "java/lang/String" "COMPACT_STRINGS" "Z", .fieldLink RJ0 15 "java/lang/String" "coder" "B"])
def wsJ0_coder_7d493 : List Cond := .code yJ0_coder_7d493 cJ0_coder_7d493 1 (some .byte) :: ([.fieldLink RJ0 38 "java/lang/String" "COMPACT_STRINGS" "Z", .fieldLink RJ0 15 "java/lang/String" "coder" "B"])
def wsJ0_length_8abf5 : List Cond := .code yJ0_length_8abf5 cJ0_length_8abf5 1 (some .int) :: ([.fieldLink RJ0 9 "java/lang/String" "value" "[B", .methodLink RJ0 335 yJ0_coder_7d493, .instanceMethod yJ0_coder_7d493, .selects RJ0 yJ0_coder_7d493 yJ0_coder_7d493, .initialized RJ0, .code yJ0_coder_7d493 cJ0_coder_7d493 1 (some .byte), .fieldLink RJ0 38 "java/lang/String" "COMPACT_STRINGS" "Z", .fieldLink RJ0 15 "java/lang/String" "coder" "B"])
def wsJ1_canEncode_9a6ad : List Cond := .code yJ1_canEncode_9a6ad cJ1_canEncode_9a6ad 1 (some .boolean) :: ([])
def wsJ1_indexOfChar_4cfef : List Cond := .code yJ1_indexOfChar_4cfef cJ1_indexOfChar_4cfef 6 (some .int) :: ([])
def wsJ1_indexOf_4cfef : List Cond := .code yJ1_indexOf_4cfef cJ1_indexOf_4cfef 4 (some .int) :: ([.methodLink RJ1 92 Lib.Math.max.name, .static Lib.Math.max.name, .initialized "java/lang/Math", .code Lib.Math.max.name Lib.Math.max.code 2 (some .int), .methodLink RJ1 38 Lib.Math.min.name, .static Lib.Math.min.name, .code Lib.Math.min.name Lib.Math.min.code 2 (some .int), .methodLink RJ1 88 yJ1_canEncode_9a6ad, .static yJ1_canEncode_9a6ad, .initialized RJ1, .code yJ1_canEncode_9a6ad cJ1_canEncode_9a6ad 1 (some .boolean), .methodLink RJ1 95 yJ1_indexOfChar_4cfef, .static yJ1_indexOfChar_4cfef, .code yJ1_indexOfChar_4cfef cJ1_indexOfChar_4cfef 6 (some .int)])
def wsJ2_length_9d52b : List Cond := .code yJ2_length_9d52b cJ2_length_9d52b 1 (some .int) :: ([])
def wsJ3_checkFromToIndex_8c36e : List Cond := .code yJ3_checkFromToIndex_8c36e cJ3_checkFromToIndex_8c36e 4 (some .int) :: ([])
def wsJ0_checkBoundsBeginEnd_23922 : List Cond := .code yJ0_checkBoundsBeginEnd_23922 cJ0_checkBoundsBeginEnd_23922 3 none :: ([.fieldLink RJ0 1053 "jdk/internal/util/Preconditions" "SIOOBE_FORMATTER" "Ljava/util/function/BiFunction;", .methodLink RJ0 1062 yJ3_checkFromToIndex_8c36e, .static yJ3_checkFromToIndex_8c36e, .initialized RJ3, .code yJ3_checkFromToIndex_8c36e cJ3_checkFromToIndex_8c36e 4 (some .int)])
def wsJ2_checkBoundsBeginEnd_d044e : List Cond := .code yJ2_checkBoundsBeginEnd_d044e cJ2_checkBoundsBeginEnd_d044e 3 none :: ([.methodLink RJ2 48 yJ2_length_9d52b, .static yJ2_length_9d52b, .initialized RJ2, .code yJ2_length_9d52b cJ2_length_9d52b 1 (some .int), .methodLink RJ2 241 yJ0_checkBoundsBeginEnd_23922, .static yJ0_checkBoundsBeginEnd_23922, .initialized RJ0, .code yJ0_checkBoundsBeginEnd_23922 cJ0_checkBoundsBeginEnd_23922 3 none, .fieldLink RJ0 1053 "jdk/internal/util/Preconditions" "SIOOBE_FORMATTER" "Ljava/util/function/BiFunction;", .methodLink RJ0 1062 yJ3_checkFromToIndex_8c36e, .static yJ3_checkFromToIndex_8c36e, .initialized RJ3, .code yJ3_checkFromToIndex_8c36e cJ3_checkFromToIndex_8c36e 4 (some .int)])
def wsJ2_getChar_3b067 : List Cond := .code yJ2_getChar_3b067 cJ2_getChar_3b067 2 (some .char) :: ([.fieldLink RJ2 44 "java/lang/StringUTF16" "$assertionsDisabled" "Z", .fieldLink RJ2 59 "java/lang/StringUTF16" "HI_BYTE_SHIFT" "I", .fieldLink RJ2 63 "java/lang/StringUTF16" "LO_BYTE_SHIFT" "I", .methodLink RJ2 48 yJ2_length_9d52b, .static yJ2_length_9d52b, .initialized RJ2, .code yJ2_length_9d52b cJ2_length_9d52b 1 (some .int)])
def wsJ2_indexOfCharUnsafe_4cfef : List Cond := .code yJ2_indexOfCharUnsafe_4cfef cJ2_indexOfCharUnsafe_4cfef 5 (some .int) :: ([.methodLink RJ2 71 yJ2_getChar_3b067, .static yJ2_getChar_3b067, .initialized RJ2, .code yJ2_getChar_3b067 cJ2_getChar_3b067 2 (some .char), .fieldLink RJ2 44 "java/lang/StringUTF16" "$assertionsDisabled" "Z", .fieldLink RJ2 59 "java/lang/StringUTF16" "HI_BYTE_SHIFT" "I", .fieldLink RJ2 63 "java/lang/StringUTF16" "LO_BYTE_SHIFT" "I", .methodLink RJ2 48 yJ2_length_9d52b, .static yJ2_length_9d52b, .code yJ2_length_9d52b cJ2_length_9d52b 1 (some .int)])
def wsJ2_indexOfChar_4cfef_r1 : List Cond := [Cond.methodLink RJ2 96 yJ2_checkBoundsBeginEnd_d044e, Cond.static yJ2_checkBoundsBeginEnd_d044e, Cond.initialized RJ2, Cond.code yJ2_checkBoundsBeginEnd_d044e cJ2_checkBoundsBeginEnd_d044e 3 none, Cond.methodLink RJ2 48 yJ2_length_9d52b, Cond.static yJ2_length_9d52b, Cond.code yJ2_length_9d52b cJ2_length_9d52b 1 (some .int), Cond.methodLink RJ2 241 yJ0_checkBoundsBeginEnd_23922, Cond.static yJ0_checkBoundsBeginEnd_23922, Cond.initialized RJ0, Cond.code yJ0_checkBoundsBeginEnd_23922 cJ0_checkBoundsBeginEnd_23922 3 none, Cond.fieldLink RJ0 1053 "jdk/internal/util/Preconditions" "SIOOBE_FORMATTER" "Ljava/util/function/BiFunction;", Cond.methodLink RJ0 1062 yJ3_checkFromToIndex_8c36e, Cond.static yJ3_checkFromToIndex_8c36e, Cond.initialized RJ3, Cond.code yJ3_checkFromToIndex_8c36e cJ3_checkFromToIndex_8c36e 4 (some .int), Cond.methodLink RJ2 244 yJ2_indexOfCharUnsafe_4cfef, Cond.static yJ2_indexOfCharUnsafe_4cfef, Cond.code yJ2_indexOfCharUnsafe_4cfef cJ2_indexOfCharUnsafe_4cfef 5 (some .int), Cond.methodLink RJ2 71 yJ2_getChar_3b067, Cond.static yJ2_getChar_3b067, Cond.code yJ2_getChar_3b067 cJ2_getChar_3b067 2 (some .char), Cond.fieldLink RJ2 44 "java/lang/StringUTF16" "$assertionsDisabled" "Z", Cond.fieldLink RJ2 59 "java/lang/StringUTF16" "HI_BYTE_SHIFT" "I"]
def wsJ2_indexOfChar_4cfef_r2 : List Cond := [Cond.fieldLink RJ2 63 "java/lang/StringUTF16" "LO_BYTE_SHIFT" "I"]
def wsJ2_indexOfChar_4cfef : List Cond := .code yJ2_indexOfChar_4cfef cJ2_indexOfChar_4cfef 4 (some .int) :: ((wsJ2_indexOfChar_4cfef_r1 ++ wsJ2_indexOfChar_4cfef_r2))
def wsJ11_isValidCodePoint_9a6ad : List Cond := .code yJ11_isValidCodePoint_9a6ad cJ11_isValidCodePoint_9a6ad 2 (some .boolean) :: ([])
def wsJ11_highSurrogate_5068e : List Cond := .code yJ11_highSurrogate_5068e cJ11_highSurrogate_5068e 1 (some .char) :: ([.constant RJ11 110 (55232)])
def wsJ11_lowSurrogate_5068e : List Cond := .code yJ11_lowSurrogate_5068e cJ11_lowSurrogate_5068e 1 (some .char) :: ([.constant RJ11 76 (56320)])
def wsJ2_indexOfSupplementary_4cfef_r1 : List Cond := [Cond.methodLink RJ2 164 yJ11_isValidCodePoint_9a6ad, Cond.static yJ11_isValidCodePoint_9a6ad, Cond.initialized RJ11, Cond.code yJ11_isValidCodePoint_9a6ad cJ11_isValidCodePoint_9a6ad 2 (some .boolean), Cond.methodLink RJ2 157 yJ11_highSurrogate_5068e, Cond.static yJ11_highSurrogate_5068e, Cond.code yJ11_highSurrogate_5068e cJ11_highSurrogate_5068e 1 (some .char), Cond.constant RJ11 110 (55232), Cond.methodLink RJ2 161 yJ11_lowSurrogate_5068e, Cond.static yJ11_lowSurrogate_5068e, Cond.code yJ11_lowSurrogate_5068e cJ11_lowSurrogate_5068e 1 (some .char), Cond.constant RJ11 76 (56320), Cond.methodLink RJ2 96 yJ2_checkBoundsBeginEnd_d044e, Cond.static yJ2_checkBoundsBeginEnd_d044e, Cond.initialized RJ2, Cond.code yJ2_checkBoundsBeginEnd_d044e cJ2_checkBoundsBeginEnd_d044e 3 none, Cond.methodLink RJ2 48 yJ2_length_9d52b, Cond.static yJ2_length_9d52b, Cond.code yJ2_length_9d52b cJ2_length_9d52b 1 (some .int), Cond.methodLink RJ2 241 yJ0_checkBoundsBeginEnd_23922, Cond.static yJ0_checkBoundsBeginEnd_23922, Cond.initialized RJ0, Cond.code yJ0_checkBoundsBeginEnd_23922 cJ0_checkBoundsBeginEnd_23922 3 none, Cond.fieldLink RJ0 1053 "jdk/internal/util/Preconditions" "SIOOBE_FORMATTER" "Ljava/util/function/BiFunction;"]
def wsJ2_indexOfSupplementary_4cfef_r2 : List Cond := [Cond.methodLink RJ0 1062 yJ3_checkFromToIndex_8c36e, Cond.static yJ3_checkFromToIndex_8c36e, Cond.initialized RJ3, Cond.code yJ3_checkFromToIndex_8c36e cJ3_checkFromToIndex_8c36e 4 (some .int), Cond.methodLink RJ2 71 yJ2_getChar_3b067, Cond.static yJ2_getChar_3b067, Cond.code yJ2_getChar_3b067 cJ2_getChar_3b067 2 (some .char), Cond.fieldLink RJ2 44 "java/lang/StringUTF16" "$assertionsDisabled" "Z", Cond.fieldLink RJ2 59 "java/lang/StringUTF16" "HI_BYTE_SHIFT" "I", Cond.fieldLink RJ2 63 "java/lang/StringUTF16" "LO_BYTE_SHIFT" "I"]
def wsJ2_indexOfSupplementary_4cfef : List Cond := .code yJ2_indexOfSupplementary_4cfef cJ2_indexOfSupplementary_4cfef 7 (some .int) :: ((wsJ2_indexOfSupplementary_4cfef_r1 ++ wsJ2_indexOfSupplementary_4cfef_r2))
def wsJ2_indexOf_4cfef_r1 : List Cond := [Cond.methodLink RJ2 224 Lib.Math.max.name, Cond.static Lib.Math.max.name, Cond.initialized "java/lang/Math", Cond.code Lib.Math.max.name Lib.Math.max.code 2 (some .int), Cond.methodLink RJ2 183 Lib.Math.min.name, Cond.static Lib.Math.min.name, Cond.code Lib.Math.min.name Lib.Math.min.code 2 (some .int), Cond.constant RJ2 227 (65536), Cond.methodLink RJ2 228 yJ2_indexOfChar_4cfef, Cond.static yJ2_indexOfChar_4cfef, Cond.initialized RJ2, Cond.code yJ2_indexOfChar_4cfef cJ2_indexOfChar_4cfef 4 (some .int), Cond.methodLink RJ2 96 yJ2_checkBoundsBeginEnd_d044e, Cond.static yJ2_checkBoundsBeginEnd_d044e, Cond.code yJ2_checkBoundsBeginEnd_d044e cJ2_checkBoundsBeginEnd_d044e 3 none, Cond.methodLink RJ2 48 yJ2_length_9d52b, Cond.static yJ2_length_9d52b, Cond.code yJ2_length_9d52b cJ2_length_9d52b 1 (some .int), Cond.methodLink RJ2 241 yJ0_checkBoundsBeginEnd_23922, Cond.static yJ0_checkBoundsBeginEnd_23922, Cond.initialized RJ0, Cond.code yJ0_checkBoundsBeginEnd_23922 cJ0_checkBoundsBeginEnd_23922 3 none, Cond.fieldLink RJ0 1053 "jdk/internal/util/Preconditions" "SIOOBE_FORMATTER" "Ljava/util/function/BiFunction;", Cond.methodLink RJ0 1062 yJ3_checkFromToIndex_8c36e]
def wsJ2_indexOf_4cfef_r2 : List Cond := [Cond.static yJ3_checkFromToIndex_8c36e, Cond.initialized RJ3, Cond.code yJ3_checkFromToIndex_8c36e cJ3_checkFromToIndex_8c36e 4 (some .int), Cond.methodLink RJ2 244 yJ2_indexOfCharUnsafe_4cfef, Cond.static yJ2_indexOfCharUnsafe_4cfef, Cond.code yJ2_indexOfCharUnsafe_4cfef cJ2_indexOfCharUnsafe_4cfef 5 (some .int), Cond.methodLink RJ2 71 yJ2_getChar_3b067, Cond.static yJ2_getChar_3b067, Cond.code yJ2_getChar_3b067 cJ2_getChar_3b067 2 (some .char), Cond.fieldLink RJ2 44 "java/lang/StringUTF16" "$assertionsDisabled" "Z", Cond.fieldLink RJ2 59 "java/lang/StringUTF16" "HI_BYTE_SHIFT" "I", Cond.fieldLink RJ2 63 "java/lang/StringUTF16" "LO_BYTE_SHIFT" "I", Cond.methodLink RJ2 232 yJ2_indexOfSupplementary_4cfef, Cond.static yJ2_indexOfSupplementary_4cfef, Cond.code yJ2_indexOfSupplementary_4cfef cJ2_indexOfSupplementary_4cfef 7 (some .int), Cond.methodLink RJ2 164 yJ11_isValidCodePoint_9a6ad, Cond.static yJ11_isValidCodePoint_9a6ad, Cond.initialized RJ11, Cond.code yJ11_isValidCodePoint_9a6ad cJ11_isValidCodePoint_9a6ad 2 (some .boolean), Cond.methodLink RJ2 157 yJ11_highSurrogate_5068e, Cond.static yJ11_highSurrogate_5068e, Cond.code yJ11_highSurrogate_5068e cJ11_highSurrogate_5068e 1 (some .char), Cond.constant RJ11 110 (55232), Cond.methodLink RJ2 161 yJ11_lowSurrogate_5068e]
def wsJ2_indexOf_4cfef_r3 : List Cond := [Cond.static yJ11_lowSurrogate_5068e, Cond.code yJ11_lowSurrogate_5068e cJ11_lowSurrogate_5068e 1 (some .char), Cond.constant RJ11 76 (56320)]
def wsJ2_indexOf_4cfef : List Cond := .code yJ2_indexOf_4cfef cJ2_indexOf_4cfef 4 (some .int) :: ((wsJ2_indexOf_4cfef_r1 ++ (wsJ2_indexOf_4cfef_r2 ++ wsJ2_indexOf_4cfef_r3)))
def wsJ0_indexOf_7cf53_r1 : List Cond := [Cond.fieldLink RJ0 9 "java/lang/String" "value" "[B", Cond.methodLink RJ0 492 yJ0_isLatin1_aae02, Cond.instanceMethod yJ0_isLatin1_aae02, Cond.selects RJ0 yJ0_isLatin1_aae02 yJ0_isLatin1_aae02, Cond.initialized RJ0, Cond.code yJ0_isLatin1_aae02 cJ0_isLatin1_aae02 1 (some .boolean), Cond.fieldLink RJ0 38 "java/lang/String" "COMPACT_STRINGS" "Z", Cond.fieldLink RJ0 15 "java/lang/String" "coder" "B", Cond.methodLink RJ0 505 yJ0_length_8abf5, Cond.instanceMethod yJ0_length_8abf5, Cond.selects RJ0 yJ0_length_8abf5 yJ0_length_8abf5, Cond.code yJ0_length_8abf5 cJ0_length_8abf5 1 (some .int), Cond.methodLink RJ0 335 yJ0_coder_7d493, Cond.instanceMethod yJ0_coder_7d493, Cond.selects RJ0 yJ0_coder_7d493 yJ0_coder_7d493, Cond.code yJ0_coder_7d493 cJ0_coder_7d493 1 (some .byte), Cond.methodLink RJ0 637 yJ1_indexOf_4cfef, Cond.static yJ1_indexOf_4cfef, Cond.initialized RJ1, Cond.code yJ1_indexOf_4cfef cJ1_indexOf_4cfef 4 (some .int), Cond.methodLink RJ1 92 Lib.Math.max.name, Cond.static Lib.Math.max.name, Cond.initialized "java/lang/Math", Cond.code Lib.Math.max.name Lib.Math.max.code 2 (some .int)]
def wsJ0_indexOf_7cf53_r2 : List Cond := [Cond.methodLink RJ1 38 Lib.Math.min.name, Cond.static Lib.Math.min.name, Cond.code Lib.Math.min.name Lib.Math.min.code 2 (some .int), Cond.methodLink RJ1 88 yJ1_canEncode_9a6ad, Cond.static yJ1_canEncode_9a6ad, Cond.code yJ1_canEncode_9a6ad cJ1_canEncode_9a6ad 1 (some .boolean), Cond.methodLink RJ1 95 yJ1_indexOfChar_4cfef, Cond.static yJ1_indexOfChar_4cfef, Cond.code yJ1_indexOfChar_4cfef cJ1_indexOfChar_4cfef 6 (some .int), Cond.methodLink RJ0 640 yJ2_indexOf_4cfef, Cond.static yJ2_indexOf_4cfef, Cond.initialized RJ2, Cond.code yJ2_indexOf_4cfef cJ2_indexOf_4cfef 4 (some .int), Cond.methodLink RJ2 224 Lib.Math.max.name, Cond.methodLink RJ2 183 Lib.Math.min.name, Cond.constant RJ2 227 (65536), Cond.methodLink RJ2 228 yJ2_indexOfChar_4cfef, Cond.static yJ2_indexOfChar_4cfef, Cond.code yJ2_indexOfChar_4cfef cJ2_indexOfChar_4cfef 4 (some .int), Cond.methodLink RJ2 96 yJ2_checkBoundsBeginEnd_d044e, Cond.static yJ2_checkBoundsBeginEnd_d044e, Cond.code yJ2_checkBoundsBeginEnd_d044e cJ2_checkBoundsBeginEnd_d044e 3 none, Cond.methodLink RJ2 48 yJ2_length_9d52b, Cond.static yJ2_length_9d52b]
def wsJ0_indexOf_7cf53_r3 : List Cond := [Cond.code yJ2_length_9d52b cJ2_length_9d52b 1 (some .int), Cond.methodLink RJ2 241 yJ0_checkBoundsBeginEnd_23922, Cond.static yJ0_checkBoundsBeginEnd_23922, Cond.code yJ0_checkBoundsBeginEnd_23922 cJ0_checkBoundsBeginEnd_23922 3 none, Cond.fieldLink RJ0 1053 "jdk/internal/util/Preconditions" "SIOOBE_FORMATTER" "Ljava/util/function/BiFunction;", Cond.methodLink RJ0 1062 yJ3_checkFromToIndex_8c36e, Cond.static yJ3_checkFromToIndex_8c36e, Cond.initialized RJ3, Cond.code yJ3_checkFromToIndex_8c36e cJ3_checkFromToIndex_8c36e 4 (some .int), Cond.methodLink RJ2 244 yJ2_indexOfCharUnsafe_4cfef, Cond.static yJ2_indexOfCharUnsafe_4cfef, Cond.code yJ2_indexOfCharUnsafe_4cfef cJ2_indexOfCharUnsafe_4cfef 5 (some .int), Cond.methodLink RJ2 71 yJ2_getChar_3b067, Cond.static yJ2_getChar_3b067, Cond.code yJ2_getChar_3b067 cJ2_getChar_3b067 2 (some .char), Cond.fieldLink RJ2 44 "java/lang/StringUTF16" "$assertionsDisabled" "Z", Cond.fieldLink RJ2 59 "java/lang/StringUTF16" "HI_BYTE_SHIFT" "I", Cond.fieldLink RJ2 63 "java/lang/StringUTF16" "LO_BYTE_SHIFT" "I", Cond.methodLink RJ2 232 yJ2_indexOfSupplementary_4cfef, Cond.static yJ2_indexOfSupplementary_4cfef, Cond.code yJ2_indexOfSupplementary_4cfef cJ2_indexOfSupplementary_4cfef 7 (some .int), Cond.methodLink RJ2 164 yJ11_isValidCodePoint_9a6ad, Cond.static yJ11_isValidCodePoint_9a6ad, Cond.initialized RJ11]
def wsJ0_indexOf_7cf53_r4 : List Cond := [Cond.code yJ11_isValidCodePoint_9a6ad cJ11_isValidCodePoint_9a6ad 2 (some .boolean), Cond.methodLink RJ2 157 yJ11_highSurrogate_5068e, Cond.static yJ11_highSurrogate_5068e, Cond.code yJ11_highSurrogate_5068e cJ11_highSurrogate_5068e 1 (some .char), Cond.constant RJ11 110 (55232), Cond.methodLink RJ2 161 yJ11_lowSurrogate_5068e, Cond.static yJ11_lowSurrogate_5068e, Cond.code yJ11_lowSurrogate_5068e cJ11_lowSurrogate_5068e 1 (some .char), Cond.constant RJ11 76 (56320)]
def wsJ0_indexOf_7cf53 : List Cond := .code yJ0_indexOf_7cf53 cJ0_indexOf_7cf53 3 (some .int) :: ((wsJ0_indexOf_7cf53_r1 ++ (wsJ0_indexOf_7cf53_r2 ++ (wsJ0_indexOf_7cf53_r3 ++ wsJ0_indexOf_7cf53_r4))))
def wsJ0_indexOf_0f7a4_r1 : List Cond := [Cond.methodLink RJ0 633 yJ0_indexOf_7cf53, Cond.instanceMethod yJ0_indexOf_7cf53, Cond.selects RJ0 yJ0_indexOf_7cf53 yJ0_indexOf_7cf53, Cond.initialized RJ0, Cond.code yJ0_indexOf_7cf53 cJ0_indexOf_7cf53 3 (some .int), Cond.fieldLink RJ0 9 "java/lang/String" "value" "[B", Cond.methodLink RJ0 492 yJ0_isLatin1_aae02, Cond.instanceMethod yJ0_isLatin1_aae02, Cond.selects RJ0 yJ0_isLatin1_aae02 yJ0_isLatin1_aae02, Cond.code yJ0_isLatin1_aae02 cJ0_isLatin1_aae02 1 (some .boolean), Cond.fieldLink RJ0 38 "java/lang/String" "COMPACT_STRINGS" "Z", Cond.fieldLink RJ0 15 "java/lang/String" "coder" "B", Cond.methodLink RJ0 505 yJ0_length_8abf5, Cond.instanceMethod yJ0_length_8abf5, Cond.selects RJ0 yJ0_length_8abf5 yJ0_length_8abf5, Cond.code yJ0_length_8abf5 cJ0_length_8abf5 1 (some .int), Cond.methodLink RJ0 335 yJ0_coder_7d493, Cond.instanceMethod yJ0_coder_7d493, Cond.selects RJ0 yJ0_coder_7d493 yJ0_coder_7d493, Cond.code yJ0_coder_7d493 cJ0_coder_7d493 1 (some .byte), Cond.methodLink RJ0 637 yJ1_indexOf_4cfef, Cond.static yJ1_indexOf_4cfef, Cond.initialized RJ1, Cond.code yJ1_indexOf_4cfef cJ1_indexOf_4cfef 4 (some .int)]
def wsJ0_indexOf_0f7a4_r2 : List Cond := [Cond.methodLink RJ1 92 Lib.Math.max.name, Cond.static Lib.Math.max.name, Cond.initialized "java/lang/Math", Cond.code Lib.Math.max.name Lib.Math.max.code 2 (some .int), Cond.methodLink RJ1 38 Lib.Math.min.name, Cond.static Lib.Math.min.name, Cond.code Lib.Math.min.name Lib.Math.min.code 2 (some .int), Cond.methodLink RJ1 88 yJ1_canEncode_9a6ad, Cond.static yJ1_canEncode_9a6ad, Cond.code yJ1_canEncode_9a6ad cJ1_canEncode_9a6ad 1 (some .boolean), Cond.methodLink RJ1 95 yJ1_indexOfChar_4cfef, Cond.static yJ1_indexOfChar_4cfef, Cond.code yJ1_indexOfChar_4cfef cJ1_indexOfChar_4cfef 6 (some .int), Cond.methodLink RJ0 640 yJ2_indexOf_4cfef, Cond.static yJ2_indexOf_4cfef, Cond.initialized RJ2, Cond.code yJ2_indexOf_4cfef cJ2_indexOf_4cfef 4 (some .int), Cond.methodLink RJ2 224 Lib.Math.max.name, Cond.methodLink RJ2 183 Lib.Math.min.name, Cond.constant RJ2 227 (65536), Cond.methodLink RJ2 228 yJ2_indexOfChar_4cfef, Cond.static yJ2_indexOfChar_4cfef, Cond.code yJ2_indexOfChar_4cfef cJ2_indexOfChar_4cfef 4 (some .int), Cond.methodLink RJ2 96 yJ2_checkBoundsBeginEnd_d044e]
def wsJ0_indexOf_0f7a4_r3 : List Cond := [Cond.static yJ2_checkBoundsBeginEnd_d044e, Cond.code yJ2_checkBoundsBeginEnd_d044e cJ2_checkBoundsBeginEnd_d044e 3 none, Cond.methodLink RJ2 48 yJ2_length_9d52b, Cond.static yJ2_length_9d52b, Cond.code yJ2_length_9d52b cJ2_length_9d52b 1 (some .int), Cond.methodLink RJ2 241 yJ0_checkBoundsBeginEnd_23922, Cond.static yJ0_checkBoundsBeginEnd_23922, Cond.code yJ0_checkBoundsBeginEnd_23922 cJ0_checkBoundsBeginEnd_23922 3 none, Cond.fieldLink RJ0 1053 "jdk/internal/util/Preconditions" "SIOOBE_FORMATTER" "Ljava/util/function/BiFunction;", Cond.methodLink RJ0 1062 yJ3_checkFromToIndex_8c36e, Cond.static yJ3_checkFromToIndex_8c36e, Cond.initialized RJ3, Cond.code yJ3_checkFromToIndex_8c36e cJ3_checkFromToIndex_8c36e 4 (some .int), Cond.methodLink RJ2 244 yJ2_indexOfCharUnsafe_4cfef, Cond.static yJ2_indexOfCharUnsafe_4cfef, Cond.code yJ2_indexOfCharUnsafe_4cfef cJ2_indexOfCharUnsafe_4cfef 5 (some .int), Cond.methodLink RJ2 71 yJ2_getChar_3b067, Cond.static yJ2_getChar_3b067, Cond.code yJ2_getChar_3b067 cJ2_getChar_3b067 2 (some .char), Cond.fieldLink RJ2 44 "java/lang/StringUTF16" "$assertionsDisabled" "Z", Cond.fieldLink RJ2 59 "java/lang/StringUTF16" "HI_BYTE_SHIFT" "I", Cond.fieldLink RJ2 63 "java/lang/StringUTF16" "LO_BYTE_SHIFT" "I", Cond.methodLink RJ2 232 yJ2_indexOfSupplementary_4cfef, Cond.static yJ2_indexOfSupplementary_4cfef]
def wsJ0_indexOf_0f7a4_r4 : List Cond := [Cond.code yJ2_indexOfSupplementary_4cfef cJ2_indexOfSupplementary_4cfef 7 (some .int), Cond.methodLink RJ2 164 yJ11_isValidCodePoint_9a6ad, Cond.static yJ11_isValidCodePoint_9a6ad, Cond.initialized RJ11, Cond.code yJ11_isValidCodePoint_9a6ad cJ11_isValidCodePoint_9a6ad 2 (some .boolean), Cond.methodLink RJ2 157 yJ11_highSurrogate_5068e, Cond.static yJ11_highSurrogate_5068e, Cond.code yJ11_highSurrogate_5068e cJ11_highSurrogate_5068e 1 (some .char), Cond.constant RJ11 110 (55232), Cond.methodLink RJ2 161 yJ11_lowSurrogate_5068e, Cond.static yJ11_lowSurrogate_5068e, Cond.code yJ11_lowSurrogate_5068e cJ11_lowSurrogate_5068e 1 (some .char), Cond.constant RJ11 76 (56320)]
def wsJ0_indexOf_0f7a4 : List Cond := .code yJ0_indexOf_0f7a4 cJ0_indexOf_0f7a4 2 (some .int) :: ((wsJ0_indexOf_0f7a4_r1 ++ (wsJ0_indexOf_0f7a4_r2 ++ (wsJ0_indexOf_0f7a4_r3 ++ wsJ0_indexOf_0f7a4_r4))))
def wsX4_advance_r1 : List Cond := [Cond.fieldLink RX4 25 "PageTurner$Tokens" "next" "I", Cond.fieldLink RX4 34 "PageTurner$Tokens" "start" "I", Cond.fieldLink RX4 37 "PageTurner$Tokens" "value" "I", Cond.fieldLink RX4 44 "PageTurner$Tokens" "kind" "I", Cond.methodLink RX4 31 yX4_skipBlanks, Cond.instanceMethod yX4_skipBlanks, Cond.selects RX4 yX4_skipBlanks yX4_skipBlanks, Cond.initialized RX4, Cond.code yX4_skipBlanks cX4_skipBlanks 1 none, Cond.fieldLink RX4 21 "PageTurner$Tokens" "length" "I", Cond.methodLink RX4 40 yX4_byteAt, Cond.instanceMethod yX4_byteAt, Cond.selects RX4 yX4_byteAt yX4_byteAt, Cond.code yX4_byteAt cX4_byteAt 2 (some .int), Cond.fieldLink RX4 9 "PageTurner$Tokens" "text" "[B", Cond.methodLink RX4 47 yX4_takePitch, Cond.instanceMethod yX4_takePitch, Cond.selects RX4 yX4_takePitch yX4_takePitch, Cond.code yX4_takePitch cX4_takePitch 5 none, Cond.fieldLink RX4 69 "PageTurner$Tokens" "STEPS" "[I", Cond.methodLink RX4 58 yX4_take, Cond.instanceMethod yX4_take, Cond.selects RX4 yX4_take yX4_take, Cond.code yX4_take cX4_take 3 none]
def wsX4_advance_r2 : List Cond := [Cond.methodLink RX4 51 yX4_isDigit, Cond.static yX4_isDigit, Cond.code yX4_isDigit cX4_isDigit 1 (some .boolean), Cond.methodLink RX4 55 yX4_takeNumber, Cond.instanceMethod yX4_takeNumber, Cond.selects RX4 yX4_takeNumber yX4_takeNumber, Cond.code yX4_takeNumber cX4_takeNumber 2 none, Cond.methodLink RX4 64 yJ0_indexOf_0f7a4, Cond.instanceMethod yJ0_indexOf_0f7a4, Cond.selects RJ0 yJ0_indexOf_0f7a4 yJ0_indexOf_0f7a4, Cond.initialized RJ0, Cond.code yJ0_indexOf_0f7a4 cJ0_indexOf_0f7a4 2 (some .int), Cond.methodLink RJ0 633 yJ0_indexOf_7cf53, Cond.instanceMethod yJ0_indexOf_7cf53, Cond.selects RJ0 yJ0_indexOf_7cf53 yJ0_indexOf_7cf53, Cond.code yJ0_indexOf_7cf53 cJ0_indexOf_7cf53 3 (some .int), Cond.fieldLink RJ0 9 "java/lang/String" "value" "[B", Cond.methodLink RJ0 492 yJ0_isLatin1_aae02, Cond.instanceMethod yJ0_isLatin1_aae02, Cond.selects RJ0 yJ0_isLatin1_aae02 yJ0_isLatin1_aae02, Cond.code yJ0_isLatin1_aae02 cJ0_isLatin1_aae02 1 (some .boolean), Cond.fieldLink RJ0 38 "java/lang/String" "COMPACT_STRINGS" "Z", Cond.fieldLink RJ0 15 "java/lang/String" "coder" "B", Cond.methodLink RJ0 505 yJ0_length_8abf5]
def wsX4_advance_r3 : List Cond := [Cond.instanceMethod yJ0_length_8abf5, Cond.selects RJ0 yJ0_length_8abf5 yJ0_length_8abf5, Cond.code yJ0_length_8abf5 cJ0_length_8abf5 1 (some .int), Cond.methodLink RJ0 335 yJ0_coder_7d493, Cond.instanceMethod yJ0_coder_7d493, Cond.selects RJ0 yJ0_coder_7d493 yJ0_coder_7d493, Cond.code yJ0_coder_7d493 cJ0_coder_7d493 1 (some .byte), Cond.methodLink RJ0 637 yJ1_indexOf_4cfef, Cond.static yJ1_indexOf_4cfef, Cond.initialized RJ1, Cond.code yJ1_indexOf_4cfef cJ1_indexOf_4cfef 4 (some .int), Cond.methodLink RJ1 92 Lib.Math.max.name, Cond.static Lib.Math.max.name, Cond.initialized "java/lang/Math", Cond.code Lib.Math.max.name Lib.Math.max.code 2 (some .int), Cond.methodLink RJ1 38 Lib.Math.min.name, Cond.static Lib.Math.min.name, Cond.code Lib.Math.min.name Lib.Math.min.code 2 (some .int), Cond.methodLink RJ1 88 yJ1_canEncode_9a6ad, Cond.static yJ1_canEncode_9a6ad, Cond.code yJ1_canEncode_9a6ad cJ1_canEncode_9a6ad 1 (some .boolean), Cond.methodLink RJ1 95 yJ1_indexOfChar_4cfef, Cond.static yJ1_indexOfChar_4cfef, Cond.code yJ1_indexOfChar_4cfef cJ1_indexOfChar_4cfef 6 (some .int)]
def wsX4_advance_r4 : List Cond := [Cond.methodLink RJ0 640 yJ2_indexOf_4cfef, Cond.static yJ2_indexOf_4cfef, Cond.initialized RJ2, Cond.code yJ2_indexOf_4cfef cJ2_indexOf_4cfef 4 (some .int), Cond.methodLink RJ2 224 Lib.Math.max.name, Cond.methodLink RJ2 183 Lib.Math.min.name, Cond.constant RJ2 227 (65536), Cond.methodLink RJ2 228 yJ2_indexOfChar_4cfef, Cond.static yJ2_indexOfChar_4cfef, Cond.code yJ2_indexOfChar_4cfef cJ2_indexOfChar_4cfef 4 (some .int), Cond.methodLink RJ2 96 yJ2_checkBoundsBeginEnd_d044e, Cond.static yJ2_checkBoundsBeginEnd_d044e, Cond.code yJ2_checkBoundsBeginEnd_d044e cJ2_checkBoundsBeginEnd_d044e 3 none, Cond.methodLink RJ2 48 yJ2_length_9d52b, Cond.static yJ2_length_9d52b, Cond.code yJ2_length_9d52b cJ2_length_9d52b 1 (some .int), Cond.methodLink RJ2 241 yJ0_checkBoundsBeginEnd_23922, Cond.static yJ0_checkBoundsBeginEnd_23922, Cond.code yJ0_checkBoundsBeginEnd_23922 cJ0_checkBoundsBeginEnd_23922 3 none, Cond.fieldLink RJ0 1053 "jdk/internal/util/Preconditions" "SIOOBE_FORMATTER" "Ljava/util/function/BiFunction;", Cond.methodLink RJ0 1062 yJ3_checkFromToIndex_8c36e, Cond.static yJ3_checkFromToIndex_8c36e, Cond.initialized RJ3, Cond.code yJ3_checkFromToIndex_8c36e cJ3_checkFromToIndex_8c36e 4 (some .int)]
def wsX4_advance_r5 : List Cond := [Cond.methodLink RJ2 244 yJ2_indexOfCharUnsafe_4cfef, Cond.static yJ2_indexOfCharUnsafe_4cfef, Cond.code yJ2_indexOfCharUnsafe_4cfef cJ2_indexOfCharUnsafe_4cfef 5 (some .int), Cond.methodLink RJ2 71 yJ2_getChar_3b067, Cond.static yJ2_getChar_3b067, Cond.code yJ2_getChar_3b067 cJ2_getChar_3b067 2 (some .char), Cond.fieldLink RJ2 44 "java/lang/StringUTF16" "$assertionsDisabled" "Z", Cond.fieldLink RJ2 59 "java/lang/StringUTF16" "HI_BYTE_SHIFT" "I", Cond.fieldLink RJ2 63 "java/lang/StringUTF16" "LO_BYTE_SHIFT" "I", Cond.methodLink RJ2 232 yJ2_indexOfSupplementary_4cfef, Cond.static yJ2_indexOfSupplementary_4cfef, Cond.code yJ2_indexOfSupplementary_4cfef cJ2_indexOfSupplementary_4cfef 7 (some .int), Cond.methodLink RJ2 164 yJ11_isValidCodePoint_9a6ad, Cond.static yJ11_isValidCodePoint_9a6ad, Cond.initialized RJ11, Cond.code yJ11_isValidCodePoint_9a6ad cJ11_isValidCodePoint_9a6ad 2 (some .boolean), Cond.methodLink RJ2 157 yJ11_highSurrogate_5068e, Cond.static yJ11_highSurrogate_5068e, Cond.code yJ11_highSurrogate_5068e cJ11_highSurrogate_5068e 1 (some .char), Cond.constant RJ11 110 (55232), Cond.methodLink RJ2 161 yJ11_lowSurrogate_5068e, Cond.static yJ11_lowSurrogate_5068e, Cond.code yJ11_lowSurrogate_5068e cJ11_lowSurrogate_5068e 1 (some .char), Cond.constant RJ11 76 (56320)]
def wsX4_advance : List Cond := .code yX4_advance cX4_advance 2 none :: ((wsX4_advance_r1 ++ (wsX4_advance_r2 ++ (wsX4_advance_r3 ++ (wsX4_advance_r4 ++ wsX4_advance_r5)))) ++ wsX40)
def wsX4_begin_r1 : List Cond := [Cond.fieldLink RX4 9 "PageTurner$Tokens" "text" "[B", Cond.methodLink RX4 15 Lib.Math.min.name, Cond.static Lib.Math.min.name, Cond.initialized "java/lang/Math", Cond.code Lib.Math.min.name Lib.Math.min.code 2 (some .int), Cond.fieldLink RX4 21 "PageTurner$Tokens" "length" "I", Cond.fieldLink RX4 25 "PageTurner$Tokens" "next" "I", Cond.methodLink RX4 28 yX4_advance, Cond.instanceMethod yX4_advance, Cond.selects RX4 yX4_advance yX4_advance, Cond.initialized RX4, Cond.code yX4_advance cX4_advance 2 none, Cond.fieldLink RX4 34 "PageTurner$Tokens" "start" "I", Cond.fieldLink RX4 37 "PageTurner$Tokens" "value" "I", Cond.fieldLink RX4 44 "PageTurner$Tokens" "kind" "I", Cond.methodLink RX4 31 yX4_skipBlanks, Cond.instanceMethod yX4_skipBlanks, Cond.selects RX4 yX4_skipBlanks yX4_skipBlanks, Cond.code yX4_skipBlanks cX4_skipBlanks 1 none, Cond.methodLink RX4 40 yX4_byteAt, Cond.instanceMethod yX4_byteAt, Cond.selects RX4 yX4_byteAt yX4_byteAt, Cond.code yX4_byteAt cX4_byteAt 2 (some .int), Cond.methodLink RX4 47 yX4_takePitch]
def wsX4_begin_r2 : List Cond := [Cond.instanceMethod yX4_takePitch, Cond.selects RX4 yX4_takePitch yX4_takePitch, Cond.code yX4_takePitch cX4_takePitch 5 none, Cond.fieldLink RX4 69 "PageTurner$Tokens" "STEPS" "[I", Cond.methodLink RX4 58 yX4_take, Cond.instanceMethod yX4_take, Cond.selects RX4 yX4_take yX4_take, Cond.code yX4_take cX4_take 3 none, Cond.methodLink RX4 51 yX4_isDigit, Cond.static yX4_isDigit, Cond.code yX4_isDigit cX4_isDigit 1 (some .boolean), Cond.methodLink RX4 55 yX4_takeNumber, Cond.instanceMethod yX4_takeNumber, Cond.selects RX4 yX4_takeNumber yX4_takeNumber, Cond.code yX4_takeNumber cX4_takeNumber 2 none, Cond.methodLink RX4 64 yJ0_indexOf_0f7a4, Cond.instanceMethod yJ0_indexOf_0f7a4, Cond.selects RJ0 yJ0_indexOf_0f7a4 yJ0_indexOf_0f7a4, Cond.initialized RJ0, Cond.code yJ0_indexOf_0f7a4 cJ0_indexOf_0f7a4 2 (some .int), Cond.methodLink RJ0 633 yJ0_indexOf_7cf53, Cond.instanceMethod yJ0_indexOf_7cf53, Cond.selects RJ0 yJ0_indexOf_7cf53 yJ0_indexOf_7cf53, Cond.code yJ0_indexOf_7cf53 cJ0_indexOf_7cf53 3 (some .int)]
def wsX4_begin_r3 : List Cond := [Cond.fieldLink RJ0 9 "java/lang/String" "value" "[B", Cond.methodLink RJ0 492 yJ0_isLatin1_aae02, Cond.instanceMethod yJ0_isLatin1_aae02, Cond.selects RJ0 yJ0_isLatin1_aae02 yJ0_isLatin1_aae02, Cond.code yJ0_isLatin1_aae02 cJ0_isLatin1_aae02 1 (some .boolean), Cond.fieldLink RJ0 38 "java/lang/String" "COMPACT_STRINGS" "Z", Cond.fieldLink RJ0 15 "java/lang/String" "coder" "B", Cond.methodLink RJ0 505 yJ0_length_8abf5, Cond.instanceMethod yJ0_length_8abf5, Cond.selects RJ0 yJ0_length_8abf5 yJ0_length_8abf5, Cond.code yJ0_length_8abf5 cJ0_length_8abf5 1 (some .int), Cond.methodLink RJ0 335 yJ0_coder_7d493, Cond.instanceMethod yJ0_coder_7d493, Cond.selects RJ0 yJ0_coder_7d493 yJ0_coder_7d493, Cond.code yJ0_coder_7d493 cJ0_coder_7d493 1 (some .byte), Cond.methodLink RJ0 637 yJ1_indexOf_4cfef, Cond.static yJ1_indexOf_4cfef, Cond.initialized RJ1, Cond.code yJ1_indexOf_4cfef cJ1_indexOf_4cfef 4 (some .int), Cond.methodLink RJ1 92 Lib.Math.max.name, Cond.static Lib.Math.max.name, Cond.code Lib.Math.max.name Lib.Math.max.code 2 (some .int), Cond.methodLink RJ1 38 Lib.Math.min.name, Cond.methodLink RJ1 88 yJ1_canEncode_9a6ad]
def wsX4_begin_r4 : List Cond := [Cond.static yJ1_canEncode_9a6ad, Cond.code yJ1_canEncode_9a6ad cJ1_canEncode_9a6ad 1 (some .boolean), Cond.methodLink RJ1 95 yJ1_indexOfChar_4cfef, Cond.static yJ1_indexOfChar_4cfef, Cond.code yJ1_indexOfChar_4cfef cJ1_indexOfChar_4cfef 6 (some .int), Cond.methodLink RJ0 640 yJ2_indexOf_4cfef, Cond.static yJ2_indexOf_4cfef, Cond.initialized RJ2, Cond.code yJ2_indexOf_4cfef cJ2_indexOf_4cfef 4 (some .int), Cond.methodLink RJ2 224 Lib.Math.max.name, Cond.methodLink RJ2 183 Lib.Math.min.name, Cond.constant RJ2 227 (65536), Cond.methodLink RJ2 228 yJ2_indexOfChar_4cfef, Cond.static yJ2_indexOfChar_4cfef, Cond.code yJ2_indexOfChar_4cfef cJ2_indexOfChar_4cfef 4 (some .int), Cond.methodLink RJ2 96 yJ2_checkBoundsBeginEnd_d044e, Cond.static yJ2_checkBoundsBeginEnd_d044e, Cond.code yJ2_checkBoundsBeginEnd_d044e cJ2_checkBoundsBeginEnd_d044e 3 none, Cond.methodLink RJ2 48 yJ2_length_9d52b, Cond.static yJ2_length_9d52b, Cond.code yJ2_length_9d52b cJ2_length_9d52b 1 (some .int), Cond.methodLink RJ2 241 yJ0_checkBoundsBeginEnd_23922, Cond.static yJ0_checkBoundsBeginEnd_23922, Cond.code yJ0_checkBoundsBeginEnd_23922 cJ0_checkBoundsBeginEnd_23922 3 none]
def wsX4_begin_r5 : List Cond := [Cond.fieldLink RJ0 1053 "jdk/internal/util/Preconditions" "SIOOBE_FORMATTER" "Ljava/util/function/BiFunction;", Cond.methodLink RJ0 1062 yJ3_checkFromToIndex_8c36e, Cond.static yJ3_checkFromToIndex_8c36e, Cond.initialized RJ3, Cond.code yJ3_checkFromToIndex_8c36e cJ3_checkFromToIndex_8c36e 4 (some .int), Cond.methodLink RJ2 244 yJ2_indexOfCharUnsafe_4cfef, Cond.static yJ2_indexOfCharUnsafe_4cfef, Cond.code yJ2_indexOfCharUnsafe_4cfef cJ2_indexOfCharUnsafe_4cfef 5 (some .int), Cond.methodLink RJ2 71 yJ2_getChar_3b067, Cond.static yJ2_getChar_3b067, Cond.code yJ2_getChar_3b067 cJ2_getChar_3b067 2 (some .char), Cond.fieldLink RJ2 44 "java/lang/StringUTF16" "$assertionsDisabled" "Z", Cond.fieldLink RJ2 59 "java/lang/StringUTF16" "HI_BYTE_SHIFT" "I", Cond.fieldLink RJ2 63 "java/lang/StringUTF16" "LO_BYTE_SHIFT" "I", Cond.methodLink RJ2 232 yJ2_indexOfSupplementary_4cfef, Cond.static yJ2_indexOfSupplementary_4cfef, Cond.code yJ2_indexOfSupplementary_4cfef cJ2_indexOfSupplementary_4cfef 7 (some .int), Cond.methodLink RJ2 164 yJ11_isValidCodePoint_9a6ad, Cond.static yJ11_isValidCodePoint_9a6ad, Cond.initialized RJ11, Cond.code yJ11_isValidCodePoint_9a6ad cJ11_isValidCodePoint_9a6ad 2 (some .boolean), Cond.methodLink RJ2 157 yJ11_highSurrogate_5068e, Cond.static yJ11_highSurrogate_5068e, Cond.code yJ11_highSurrogate_5068e cJ11_highSurrogate_5068e 1 (some .char)]
def wsX4_begin_r6 : List Cond := [Cond.constant RJ11 110 (55232), Cond.methodLink RJ2 161 yJ11_lowSurrogate_5068e, Cond.static yJ11_lowSurrogate_5068e, Cond.code yJ11_lowSurrogate_5068e cJ11_lowSurrogate_5068e 1 (some .char), Cond.constant RJ11 76 (56320)]
def wsX4_begin : List Cond := .code yX4_begin cX4_begin 3 none :: ((wsX4_begin_r1 ++ (wsX4_begin_r2 ++ (wsX4_begin_r3 ++ (wsX4_begin_r4 ++ (wsX4_begin_r5 ++ wsX4_begin_r6))))) ++ wsX40)
def wsX2_standsAhead : List Cond := .code yX2_standsAhead cX2_standsAhead 1 (some .int) :: ([])
def wsX2_standsIn : List Cond := .code yX2_standsIn cX2_standsIn 2 (some .boolean) :: ([.fieldLink RX2 32 "PageTurner$Reader" "stand" "I"] ++ wsX20)
def wsX3_isFull : List Cond := .code yX3_isFull cX3_isFull 1 (some .boolean) :: ([.fieldLink RX3 15 "PageTurner$Score" "events" "I"] ++ wsX30)
def wsX3_openPitches : List Cond := .code yX3_openPitches cX3_openPitches 1 (some .int) :: ([.fieldLink RX3 15 "PageTurner$Score" "events" "I", .methodLink RX3 38 yX3_fact, .instanceMethod yX3_fact, .selects RX3 yX3_fact yX3_fact, .initialized RX3, .code yX3_fact cX3_fact 3 (some .int), .fieldLink RX3 11 "PageTurner$Score" "facts" "[I"] ++ wsX30)
def wsX2_isTooMuch_r1 : List Cond := [Cond.fieldLink RX2 14 "PageTurner$Reader" "tokens" "LPageTurner$Tokens;", Cond.fieldLink RX2 62 "PageTurner$Tokens" "kind" "I", Cond.fieldLink RX2 35 "PageTurner$Reader" "marks" "I", Cond.fieldLink RX2 38 "PageTurner$Reader" "cues" "I", Cond.fieldLink RX2 21 "PageTurner$Reader" "draft" "LPageTurner$Score;", Cond.fieldLink RX2 86 "PageTurner$Tokens" "value" "I", Cond.methodLink RX2 92 yX3_isFull, Cond.instanceMethod yX3_isFull, Cond.selects RX3 yX3_isFull yX3_isFull, Cond.initialized RX3, Cond.code yX3_isFull cX3_isFull 1 (some .boolean), Cond.fieldLink RX3 15 "PageTurner$Score" "events" "I", Cond.methodLink RX2 78 yX2_standsIn, Cond.instanceMethod yX2_standsIn, Cond.selects RX2 yX2_standsIn yX2_standsIn, Cond.initialized RX2, Cond.code yX2_standsIn cX2_standsIn 2 (some .boolean), Cond.fieldLink RX2 32 "PageTurner$Reader" "stand" "I", Cond.methodLink RX2 95 yX3_openPitches, Cond.instanceMethod yX3_openPitches, Cond.selects RX3 yX3_openPitches yX3_openPitches, Cond.code yX3_openPitches cX3_openPitches 1 (some .int), Cond.methodLink RX3 38 yX3_fact, Cond.instanceMethod yX3_fact]
def wsX2_isTooMuch_r2 : List Cond := [Cond.selects RX3 yX3_fact yX3_fact, Cond.code yX3_fact cX3_fact 3 (some .int), Cond.fieldLink RX3 11 "PageTurner$Score" "facts" "[I"]
def wsX2_isTooMuch : List Cond := .code yX2_isTooMuch cX2_isTooMuch 1 (some .boolean) :: ((wsX2_isTooMuch_r1 ++ wsX2_isTooMuch_r2) ++ wsX20 ++ wsX40 ++ wsX30)
def wsX3_openHasPitch : List Cond := .code yX3_openHasPitch cX3_openHasPitch 4 (some .boolean) :: ([.fieldLink RX3 15 "PageTurner$Score" "events" "I", .methodLink RX3 42 yX3_openPitches, .instanceMethod yX3_openPitches, .selects RX3 yX3_openPitches yX3_openPitches, .initialized RX3, .code yX3_openPitches cX3_openPitches 1 (some .int), .methodLink RX3 38 yX3_fact, .instanceMethod yX3_fact, .selects RX3 yX3_fact yX3_fact, .code yX3_fact cX3_fact 3 (some .int), .fieldLink RX3 11 "PageTurner$Score" "facts" "[I"] ++ wsX30)
def wsX2_faultOfToken_r1 : List Cond := [Cond.fieldLink RX2 14 "PageTurner$Reader" "tokens" "LPageTurner$Tokens;", Cond.fieldLink RX2 62 "PageTurner$Tokens" "kind" "I", Cond.fieldLink RX2 21 "PageTurner$Reader" "draft" "LPageTurner$Score;", Cond.fieldLink RX2 86 "PageTurner$Tokens" "value" "I", Cond.methodLink RX2 74 yX2_standsAhead, Cond.static yX2_standsAhead, Cond.initialized RX2, Cond.code yX2_standsAhead cX2_standsAhead 1 (some .int), Cond.methodLink RX2 78 yX2_standsIn, Cond.instanceMethod yX2_standsIn, Cond.selects RX2 yX2_standsIn yX2_standsIn, Cond.code yX2_standsIn cX2_standsIn 2 (some .boolean), Cond.fieldLink RX2 32 "PageTurner$Reader" "stand" "I", Cond.methodLink RX2 82 yX2_isTooMuch, Cond.instanceMethod yX2_isTooMuch, Cond.selects RX2 yX2_isTooMuch yX2_isTooMuch, Cond.code yX2_isTooMuch cX2_isTooMuch 1 (some .boolean), Cond.fieldLink RX2 35 "PageTurner$Reader" "marks" "I", Cond.fieldLink RX2 38 "PageTurner$Reader" "cues" "I", Cond.methodLink RX2 92 yX3_isFull, Cond.instanceMethod yX3_isFull, Cond.selects RX3 yX3_isFull yX3_isFull, Cond.initialized RX3, Cond.code yX3_isFull cX3_isFull 1 (some .boolean)]
def wsX2_faultOfToken_r2 : List Cond := [Cond.fieldLink RX3 15 "PageTurner$Score" "events" "I", Cond.methodLink RX2 95 yX3_openPitches, Cond.instanceMethod yX3_openPitches, Cond.selects RX3 yX3_openPitches yX3_openPitches, Cond.code yX3_openPitches cX3_openPitches 1 (some .int), Cond.methodLink RX3 38 yX3_fact, Cond.instanceMethod yX3_fact, Cond.selects RX3 yX3_fact yX3_fact, Cond.code yX3_fact cX3_fact 3 (some .int), Cond.fieldLink RX3 11 "PageTurner$Score" "facts" "[I", Cond.methodLink RX2 89 yX3_openHasPitch, Cond.instanceMethod yX3_openHasPitch, Cond.selects RX3 yX3_openHasPitch yX3_openHasPitch, Cond.code yX3_openHasPitch cX3_openHasPitch 4 (some .boolean), Cond.methodLink RX3 42 yX3_openPitches]
def wsX2_faultOfToken : List Cond := .code yX2_faultOfToken cX2_faultOfToken 2 (some .int) :: ((wsX2_faultOfToken_r1 ++ wsX2_faultOfToken_r2) ++ wsX20 ++ wsX40 ++ wsX30)
def wsX2_takeMark : List Cond := .code yX2_takeMark cX2_takeMark 1 none :: ([.fieldLink RX2 41 "PageTurner$Reader" "marked" "Z", .fieldLink RX2 35 "PageTurner$Reader" "marks" "I", .fieldLink RX2 32 "PageTurner$Reader" "stand" "I"] ++ wsX20)
def wsX2_takeCue : List Cond := .code yX2_takeCue cX2_takeCue 1 none :: ([.fieldLink RX2 45 "PageTurner$Reader" "cued" "Z", .fieldLink RX2 38 "PageTurner$Reader" "cues" "I", .fieldLink RX2 32 "PageTurner$Reader" "stand" "I"] ++ wsX20)
def wsX3_write : List Cond := .code yX3_write cX3_write 4 none :: ([.fieldLink RX3 11 "PageTurner$Score" "facts" "[I"] ++ wsX30)
def wsX3_openEvent : List Cond := .code yX3_openEvent cX3_openEvent 4 none :: ([.fieldLink RX3 15 "PageTurner$Score" "events" "I", .fieldLink RX3 19 "PageTurner$Score" "beats" "I", .fieldLink RX3 28 "PageTurner$Score" "measure" "I", .fieldLink RX3 31 "PageTurner$Score" "page" "I", .fieldLink RX3 25 "PageTurner$Score" "states" "I", .methodLink RX3 34 yX3_write, .instanceMethod yX3_write, .selects RX3 yX3_write yX3_write, .initialized RX3, .code yX3_write cX3_write 4 none, .fieldLink RX3 11 "PageTurner$Score" "facts" "[I"] ++ wsX30)
def wsX2_openEvent : List Cond := .code yX2_openEvent cX2_openEvent 3 none :: ([.fieldLink RX2 21 "PageTurner$Reader" "draft" "LPageTurner$Score;", .fieldLink RX2 41 "PageTurner$Reader" "marked" "Z", .fieldLink RX2 45 "PageTurner$Reader" "cued" "Z", .fieldLink RX2 32 "PageTurner$Reader" "stand" "I", .methodLink RX2 118 yX3_openEvent, .instanceMethod yX3_openEvent, .selects RX3 yX3_openEvent yX3_openEvent, .initialized RX3, .code yX3_openEvent cX3_openEvent 4 none, .fieldLink RX3 15 "PageTurner$Score" "events" "I", .fieldLink RX3 19 "PageTurner$Score" "beats" "I", .fieldLink RX3 28 "PageTurner$Score" "measure" "I", .fieldLink RX3 31 "PageTurner$Score" "page" "I", .fieldLink RX3 25 "PageTurner$Score" "states" "I", .methodLink RX3 34 yX3_write, .instanceMethod yX3_write, .selects RX3 yX3_write yX3_write, .code yX3_write cX3_write 4 none, .fieldLink RX3 11 "PageTurner$Score" "facts" "[I"] ++ wsX20 ++ wsX30)
def wsX3_addPitch : List Cond := .code yX3_addPitch cX3_addPitch 3 none :: ([.fieldLink RX3 15 "PageTurner$Score" "events" "I", .methodLink RX3 42 yX3_openPitches, .instanceMethod yX3_openPitches, .selects RX3 yX3_openPitches yX3_openPitches, .initialized RX3, .code yX3_openPitches cX3_openPitches 1 (some .int), .methodLink RX3 38 yX3_fact, .instanceMethod yX3_fact, .selects RX3 yX3_fact yX3_fact, .code yX3_fact cX3_fact 3 (some .int), .fieldLink RX3 11 "PageTurner$Score" "facts" "[I", .methodLink RX3 34 yX3_write, .instanceMethod yX3_write, .selects RX3 yX3_write yX3_write, .code yX3_write cX3_write 4 none] ++ wsX30)
def wsX2_takePitch_r1 : List Cond := [Cond.fieldLink RX2 21 "PageTurner$Reader" "draft" "LPageTurner$Score;", Cond.fieldLink RX2 14 "PageTurner$Reader" "tokens" "LPageTurner$Tokens;", Cond.fieldLink RX2 86 "PageTurner$Tokens" "value" "I", Cond.fieldLink RX2 32 "PageTurner$Reader" "stand" "I", Cond.methodLink RX2 78 yX2_standsIn, Cond.instanceMethod yX2_standsIn, Cond.selects RX2 yX2_standsIn yX2_standsIn, Cond.initialized RX2, Cond.code yX2_standsIn cX2_standsIn 2 (some .boolean), Cond.methodLink RX2 104 yX2_openEvent, Cond.instanceMethod yX2_openEvent, Cond.selects RX2 yX2_openEvent yX2_openEvent, Cond.code yX2_openEvent cX2_openEvent 3 none, Cond.fieldLink RX2 41 "PageTurner$Reader" "marked" "Z", Cond.fieldLink RX2 45 "PageTurner$Reader" "cued" "Z", Cond.methodLink RX2 118 yX3_openEvent, Cond.instanceMethod yX3_openEvent, Cond.selects RX3 yX3_openEvent yX3_openEvent, Cond.initialized RX3, Cond.code yX3_openEvent cX3_openEvent 4 none, Cond.fieldLink RX3 15 "PageTurner$Score" "events" "I", Cond.fieldLink RX3 19 "PageTurner$Score" "beats" "I", Cond.fieldLink RX3 28 "PageTurner$Score" "measure" "I", Cond.fieldLink RX3 31 "PageTurner$Score" "page" "I"]
def wsX2_takePitch_r2 : List Cond := [Cond.fieldLink RX3 25 "PageTurner$Score" "states" "I", Cond.methodLink RX3 34 yX3_write, Cond.instanceMethod yX3_write, Cond.selects RX3 yX3_write yX3_write, Cond.code yX3_write cX3_write 4 none, Cond.fieldLink RX3 11 "PageTurner$Score" "facts" "[I", Cond.methodLink RX2 121 yX3_addPitch, Cond.instanceMethod yX3_addPitch, Cond.selects RX3 yX3_addPitch yX3_addPitch, Cond.code yX3_addPitch cX3_addPitch 3 none, Cond.methodLink RX3 42 yX3_openPitches, Cond.instanceMethod yX3_openPitches, Cond.selects RX3 yX3_openPitches yX3_openPitches, Cond.code yX3_openPitches cX3_openPitches 1 (some .int), Cond.methodLink RX3 38 yX3_fact, Cond.instanceMethod yX3_fact, Cond.selects RX3 yX3_fact yX3_fact, Cond.code yX3_fact cX3_fact 3 (some .int)]
def wsX2_takePitch : List Cond := .code yX2_takePitch cX2_takePitch 2 none :: ((wsX2_takePitch_r1 ++ wsX2_takePitch_r2) ++ wsX20 ++ wsX40 ++ wsX30)
def wsX3_closeEvent : List Cond := .code yX3_closeEvent cX3_closeEvent 2 none :: ([.fieldLink RX3 15 "PageTurner$Score" "events" "I", .fieldLink RX3 19 "PageTurner$Score" "beats" "I", .fieldLink RX3 22 "PageTurner$Score" "cues" "I", .fieldLink RX3 25 "PageTurner$Score" "states" "I", .methodLink RX3 46 yX3_isFull, .instanceMethod yX3_isFull, .selects RX3 yX3_isFull yX3_isFull, .initialized RX3, .code yX3_isFull cX3_isFull 1 (some .boolean), .methodLink RX3 34 yX3_write, .instanceMethod yX3_write, .selects RX3 yX3_write yX3_write, .code yX3_write cX3_write 4 none, .fieldLink RX3 11 "PageTurner$Score" "facts" "[I", .methodLink RX3 38 yX3_fact, .instanceMethod yX3_fact, .selects RX3 yX3_fact yX3_fact, .code yX3_fact cX3_fact 3 (some .int), .methodLink RX3 50 yX3_allBits, .instanceMethod yX3_allBits, .selects RX3 yX3_allBits yX3_allBits, .code yX3_allBits cX3_allBits 3 (some .int)] ++ wsX30)
def wsX3_repeatFrom : List Cond := .code yX3_repeatFrom cX3_repeatFrom 2 none :: ([.fieldLink RX3 15 "PageTurner$Score" "events" "I", .methodLink RX3 34 yX3_write, .instanceMethod yX3_write, .selects RX3 yX3_write yX3_write, .initialized RX3, .code yX3_write cX3_write 4 none, .fieldLink RX3 11 "PageTurner$Score" "facts" "[I"] ++ wsX30)
def wsX3_endMeasure : List Cond := .code yX3_endMeasure cX3_endMeasure 1 none :: ([.fieldLink RX3 28 "PageTurner$Score" "measure" "I"] ++ wsX30)
def wsX3_endPage : List Cond := .code yX3_endPage cX3_endPage 1 none :: ([.fieldLink RX3 31 "PageTurner$Score" "page" "I"] ++ wsX30)
def wsX2_takeBarOrPage_r1 : List Cond := [Cond.fieldLink RX2 14 "PageTurner$Reader" "tokens" "LPageTurner$Tokens;", Cond.fieldLink RX2 62 "PageTurner$Tokens" "kind" "I", Cond.fieldLink RX2 21 "PageTurner$Reader" "draft" "LPageTurner$Score;", Cond.fieldLink RX2 124 "PageTurner$Score" "events" "I", Cond.fieldLink RX2 48 "PageTurner$Reader" "repeatStart" "I", Cond.fieldLink RX2 32 "PageTurner$Reader" "stand" "I", Cond.methodLink RX2 127 yX3_repeatFrom, Cond.instanceMethod yX3_repeatFrom, Cond.selects RX3 yX3_repeatFrom yX3_repeatFrom, Cond.initialized RX3, Cond.code yX3_repeatFrom cX3_repeatFrom 2 none, Cond.fieldLink RX3 15 "PageTurner$Score" "events" "I", Cond.methodLink RX3 34 yX3_write, Cond.instanceMethod yX3_write, Cond.selects RX3 yX3_write yX3_write, Cond.code yX3_write cX3_write 4 none, Cond.fieldLink RX3 11 "PageTurner$Score" "facts" "[I", Cond.methodLink RX2 130 yX3_endMeasure, Cond.instanceMethod yX3_endMeasure, Cond.selects RX3 yX3_endMeasure yX3_endMeasure, Cond.code yX3_endMeasure cX3_endMeasure 1 none, Cond.fieldLink RX3 28 "PageTurner$Score" "measure" "I", Cond.methodLink RX2 133 yX3_endPage, Cond.instanceMethod yX3_endPage]
def wsX2_takeBarOrPage_r2 : List Cond := [Cond.selects RX3 yX3_endPage yX3_endPage, Cond.code yX3_endPage cX3_endPage 1 none, Cond.fieldLink RX3 31 "PageTurner$Score" "page" "I"]
def wsX2_takeBarOrPage : List Cond := .code yX2_takeBarOrPage cX2_takeBarOrPage 1 none :: ((wsX2_takeBarOrPage_r1 ++ wsX2_takeBarOrPage_r2) ++ wsX20 ++ wsX40 ++ wsX30)
def wsX2_takeToken_r1 : List Cond := [Cond.fieldLink RX2 14 "PageTurner$Reader" "tokens" "LPageTurner$Tokens;", Cond.fieldLink RX2 62 "PageTurner$Tokens" "kind" "I", Cond.fieldLink RX2 32 "PageTurner$Reader" "stand" "I", Cond.fieldLink RX2 21 "PageTurner$Reader" "draft" "LPageTurner$Score;", Cond.fieldLink RX2 86 "PageTurner$Tokens" "value" "I", Cond.methodLink RX2 98 yX2_takeMark, Cond.instanceMethod yX2_takeMark, Cond.selects RX2 yX2_takeMark yX2_takeMark, Cond.initialized RX2, Cond.code yX2_takeMark cX2_takeMark 1 none, Cond.fieldLink RX2 41 "PageTurner$Reader" "marked" "Z", Cond.fieldLink RX2 35 "PageTurner$Reader" "marks" "I", Cond.methodLink RX2 101 yX2_takeCue, Cond.instanceMethod yX2_takeCue, Cond.selects RX2 yX2_takeCue yX2_takeCue, Cond.code yX2_takeCue cX2_takeCue 1 none, Cond.fieldLink RX2 45 "PageTurner$Reader" "cued" "Z", Cond.fieldLink RX2 38 "PageTurner$Reader" "cues" "I", Cond.methodLink RX2 104 yX2_openEvent, Cond.instanceMethod yX2_openEvent, Cond.selects RX2 yX2_openEvent yX2_openEvent, Cond.code yX2_openEvent cX2_openEvent 3 none, Cond.methodLink RX2 118 yX3_openEvent, Cond.instanceMethod yX3_openEvent]
def wsX2_takeToken_r2 : List Cond := [Cond.selects RX3 yX3_openEvent yX3_openEvent, Cond.initialized RX3, Cond.code yX3_openEvent cX3_openEvent 4 none, Cond.fieldLink RX3 15 "PageTurner$Score" "events" "I", Cond.fieldLink RX3 19 "PageTurner$Score" "beats" "I", Cond.fieldLink RX3 28 "PageTurner$Score" "measure" "I", Cond.fieldLink RX3 31 "PageTurner$Score" "page" "I", Cond.fieldLink RX3 25 "PageTurner$Score" "states" "I", Cond.methodLink RX3 34 yX3_write, Cond.instanceMethod yX3_write, Cond.selects RX3 yX3_write yX3_write, Cond.code yX3_write cX3_write 4 none, Cond.fieldLink RX3 11 "PageTurner$Score" "facts" "[I", Cond.methodLink RX2 108 yX2_takePitch, Cond.instanceMethod yX2_takePitch, Cond.selects RX2 yX2_takePitch yX2_takePitch, Cond.code yX2_takePitch cX2_takePitch 2 none, Cond.methodLink RX2 78 yX2_standsIn, Cond.instanceMethod yX2_standsIn, Cond.selects RX2 yX2_standsIn yX2_standsIn, Cond.code yX2_standsIn cX2_standsIn 2 (some .boolean), Cond.methodLink RX2 121 yX3_addPitch, Cond.instanceMethod yX3_addPitch, Cond.selects RX3 yX3_addPitch yX3_addPitch]
def wsX2_takeToken_r3 : List Cond := [Cond.code yX3_addPitch cX3_addPitch 3 none, Cond.methodLink RX3 42 yX3_openPitches, Cond.instanceMethod yX3_openPitches, Cond.selects RX3 yX3_openPitches yX3_openPitches, Cond.code yX3_openPitches cX3_openPitches 1 (some .int), Cond.methodLink RX3 38 yX3_fact, Cond.instanceMethod yX3_fact, Cond.selects RX3 yX3_fact yX3_fact, Cond.code yX3_fact cX3_fact 3 (some .int), Cond.methodLink RX2 111 yX3_closeEvent, Cond.instanceMethod yX3_closeEvent, Cond.selects RX3 yX3_closeEvent yX3_closeEvent, Cond.code yX3_closeEvent cX3_closeEvent 2 none, Cond.fieldLink RX3 22 "PageTurner$Score" "cues" "I", Cond.methodLink RX3 46 yX3_isFull, Cond.instanceMethod yX3_isFull, Cond.selects RX3 yX3_isFull yX3_isFull, Cond.code yX3_isFull cX3_isFull 1 (some .boolean), Cond.methodLink RX3 50 yX3_allBits, Cond.instanceMethod yX3_allBits, Cond.selects RX3 yX3_allBits yX3_allBits, Cond.code yX3_allBits cX3_allBits 3 (some .int), Cond.methodLink RX2 115 yX2_takeBarOrPage, Cond.instanceMethod yX2_takeBarOrPage]
def wsX2_takeToken_r4 : List Cond := [Cond.selects RX2 yX2_takeBarOrPage yX2_takeBarOrPage, Cond.code yX2_takeBarOrPage cX2_takeBarOrPage 1 none, Cond.fieldLink RX2 124 "PageTurner$Score" "events" "I", Cond.fieldLink RX2 48 "PageTurner$Reader" "repeatStart" "I", Cond.methodLink RX2 127 yX3_repeatFrom, Cond.instanceMethod yX3_repeatFrom, Cond.selects RX3 yX3_repeatFrom yX3_repeatFrom, Cond.code yX3_repeatFrom cX3_repeatFrom 2 none, Cond.methodLink RX2 130 yX3_endMeasure, Cond.instanceMethod yX3_endMeasure, Cond.selects RX3 yX3_endMeasure yX3_endMeasure, Cond.code yX3_endMeasure cX3_endMeasure 1 none, Cond.methodLink RX2 133 yX3_endPage, Cond.instanceMethod yX3_endPage, Cond.selects RX3 yX3_endPage yX3_endPage, Cond.code yX3_endPage cX3_endPage 1 none]
def wsX2_takeToken : List Cond := .code yX2_takeToken cX2_takeToken 1 none :: ((wsX2_takeToken_r1 ++ (wsX2_takeToken_r2 ++ (wsX2_takeToken_r3 ++ wsX2_takeToken_r4))) ++ wsX20 ++ wsX40 ++ wsX30)
def wsX2_read_r1 : List Cond := [Cond.fieldLink RX2 32 "PageTurner$Reader" "stand" "I", Cond.fieldLink RX2 35 "PageTurner$Reader" "marks" "I", Cond.fieldLink RX2 38 "PageTurner$Reader" "cues" "I", Cond.fieldLink RX2 41 "PageTurner$Reader" "marked" "Z", Cond.fieldLink RX2 45 "PageTurner$Reader" "cued" "Z", Cond.fieldLink RX2 48 "PageTurner$Reader" "repeatStart" "I", Cond.fieldLink RX2 21 "PageTurner$Reader" "draft" "LPageTurner$Score;", Cond.fieldLink RX2 14 "PageTurner$Reader" "tokens" "LPageTurner$Tokens;", Cond.fieldLink RX2 25 "PageTurner$Reader" "fault" "I", Cond.fieldLink RX2 62 "PageTurner$Tokens" "kind" "I", Cond.fieldLink RX2 71 "PageTurner$Tokens" "start" "I", Cond.fieldLink RX2 29 "PageTurner$Reader" "faultPlace" "I", Cond.methodLink RX2 51 yX3_clear, Cond.instanceMethod yX3_clear, Cond.selects RX3 yX3_clear yX3_clear, Cond.initialized RX3, Cond.code yX3_clear cX3_clear 1 none, Cond.fieldLink RX3 15 "PageTurner$Score" "events" "I", Cond.fieldLink RX3 19 "PageTurner$Score" "beats" "I", Cond.fieldLink RX3 22 "PageTurner$Score" "cues" "I", Cond.fieldLink RX3 25 "PageTurner$Score" "states" "I", Cond.fieldLink RX3 28 "PageTurner$Score" "measure" "I", Cond.fieldLink RX3 31 "PageTurner$Score" "page" "I", Cond.methodLink RX2 54 yX4_begin]
def wsX2_read_r2 : List Cond := [Cond.instanceMethod yX4_begin, Cond.selects RX4 yX4_begin yX4_begin, Cond.initialized RX4, Cond.code yX4_begin cX4_begin 3 none, Cond.fieldLink RX4 9 "PageTurner$Tokens" "text" "[B", Cond.methodLink RX4 15 Lib.Math.min.name, Cond.static Lib.Math.min.name, Cond.initialized "java/lang/Math", Cond.code Lib.Math.min.name Lib.Math.min.code 2 (some .int), Cond.fieldLink RX4 21 "PageTurner$Tokens" "length" "I", Cond.fieldLink RX4 25 "PageTurner$Tokens" "next" "I", Cond.methodLink RX4 28 yX4_advance, Cond.instanceMethod yX4_advance, Cond.selects RX4 yX4_advance yX4_advance, Cond.code yX4_advance cX4_advance 2 none, Cond.fieldLink RX4 34 "PageTurner$Tokens" "start" "I", Cond.fieldLink RX4 37 "PageTurner$Tokens" "value" "I", Cond.fieldLink RX4 44 "PageTurner$Tokens" "kind" "I", Cond.methodLink RX4 31 yX4_skipBlanks, Cond.instanceMethod yX4_skipBlanks, Cond.selects RX4 yX4_skipBlanks yX4_skipBlanks, Cond.code yX4_skipBlanks cX4_skipBlanks 1 none, Cond.methodLink RX4 40 yX4_byteAt, Cond.instanceMethod yX4_byteAt]
def wsX2_read_r3 : List Cond := [Cond.selects RX4 yX4_byteAt yX4_byteAt, Cond.code yX4_byteAt cX4_byteAt 2 (some .int), Cond.methodLink RX4 47 yX4_takePitch, Cond.instanceMethod yX4_takePitch, Cond.selects RX4 yX4_takePitch yX4_takePitch, Cond.code yX4_takePitch cX4_takePitch 5 none, Cond.fieldLink RX4 69 "PageTurner$Tokens" "STEPS" "[I", Cond.methodLink RX4 58 yX4_take, Cond.instanceMethod yX4_take, Cond.selects RX4 yX4_take yX4_take, Cond.code yX4_take cX4_take 3 none, Cond.methodLink RX4 51 yX4_isDigit, Cond.static yX4_isDigit, Cond.code yX4_isDigit cX4_isDigit 1 (some .boolean), Cond.methodLink RX4 55 yX4_takeNumber, Cond.instanceMethod yX4_takeNumber, Cond.selects RX4 yX4_takeNumber yX4_takeNumber, Cond.code yX4_takeNumber cX4_takeNumber 2 none, Cond.methodLink RX4 64 yJ0_indexOf_0f7a4, Cond.instanceMethod yJ0_indexOf_0f7a4, Cond.selects RJ0 yJ0_indexOf_0f7a4 yJ0_indexOf_0f7a4, Cond.initialized RJ0, Cond.code yJ0_indexOf_0f7a4 cJ0_indexOf_0f7a4 2 (some .int), Cond.methodLink RJ0 633 yJ0_indexOf_7cf53]
def wsX2_read_r4 : List Cond := [Cond.instanceMethod yJ0_indexOf_7cf53, Cond.selects RJ0 yJ0_indexOf_7cf53 yJ0_indexOf_7cf53, Cond.code yJ0_indexOf_7cf53 cJ0_indexOf_7cf53 3 (some .int), Cond.fieldLink RJ0 9 "java/lang/String" "value" "[B", Cond.methodLink RJ0 492 yJ0_isLatin1_aae02, Cond.instanceMethod yJ0_isLatin1_aae02, Cond.selects RJ0 yJ0_isLatin1_aae02 yJ0_isLatin1_aae02, Cond.code yJ0_isLatin1_aae02 cJ0_isLatin1_aae02 1 (some .boolean), Cond.fieldLink RJ0 38 "java/lang/String" "COMPACT_STRINGS" "Z", Cond.fieldLink RJ0 15 "java/lang/String" "coder" "B", Cond.methodLink RJ0 505 yJ0_length_8abf5, Cond.instanceMethod yJ0_length_8abf5, Cond.selects RJ0 yJ0_length_8abf5 yJ0_length_8abf5, Cond.code yJ0_length_8abf5 cJ0_length_8abf5 1 (some .int), Cond.methodLink RJ0 335 yJ0_coder_7d493, Cond.instanceMethod yJ0_coder_7d493, Cond.selects RJ0 yJ0_coder_7d493 yJ0_coder_7d493, Cond.code yJ0_coder_7d493 cJ0_coder_7d493 1 (some .byte), Cond.methodLink RJ0 637 yJ1_indexOf_4cfef, Cond.static yJ1_indexOf_4cfef, Cond.initialized RJ1, Cond.code yJ1_indexOf_4cfef cJ1_indexOf_4cfef 4 (some .int), Cond.methodLink RJ1 92 Lib.Math.max.name, Cond.static Lib.Math.max.name]
def wsX2_read_r5 : List Cond := [Cond.code Lib.Math.max.name Lib.Math.max.code 2 (some .int), Cond.methodLink RJ1 38 Lib.Math.min.name, Cond.methodLink RJ1 88 yJ1_canEncode_9a6ad, Cond.static yJ1_canEncode_9a6ad, Cond.code yJ1_canEncode_9a6ad cJ1_canEncode_9a6ad 1 (some .boolean), Cond.methodLink RJ1 95 yJ1_indexOfChar_4cfef, Cond.static yJ1_indexOfChar_4cfef, Cond.code yJ1_indexOfChar_4cfef cJ1_indexOfChar_4cfef 6 (some .int), Cond.methodLink RJ0 640 yJ2_indexOf_4cfef, Cond.static yJ2_indexOf_4cfef, Cond.initialized RJ2, Cond.code yJ2_indexOf_4cfef cJ2_indexOf_4cfef 4 (some .int), Cond.methodLink RJ2 224 Lib.Math.max.name, Cond.methodLink RJ2 183 Lib.Math.min.name, Cond.constant RJ2 227 (65536), Cond.methodLink RJ2 228 yJ2_indexOfChar_4cfef, Cond.static yJ2_indexOfChar_4cfef, Cond.code yJ2_indexOfChar_4cfef cJ2_indexOfChar_4cfef 4 (some .int), Cond.methodLink RJ2 96 yJ2_checkBoundsBeginEnd_d044e, Cond.static yJ2_checkBoundsBeginEnd_d044e, Cond.code yJ2_checkBoundsBeginEnd_d044e cJ2_checkBoundsBeginEnd_d044e 3 none, Cond.methodLink RJ2 48 yJ2_length_9d52b, Cond.static yJ2_length_9d52b, Cond.code yJ2_length_9d52b cJ2_length_9d52b 1 (some .int)]
def wsX2_read_r6 : List Cond := [Cond.methodLink RJ2 241 yJ0_checkBoundsBeginEnd_23922, Cond.static yJ0_checkBoundsBeginEnd_23922, Cond.code yJ0_checkBoundsBeginEnd_23922 cJ0_checkBoundsBeginEnd_23922 3 none, Cond.fieldLink RJ0 1053 "jdk/internal/util/Preconditions" "SIOOBE_FORMATTER" "Ljava/util/function/BiFunction;", Cond.methodLink RJ0 1062 yJ3_checkFromToIndex_8c36e, Cond.static yJ3_checkFromToIndex_8c36e, Cond.initialized RJ3, Cond.code yJ3_checkFromToIndex_8c36e cJ3_checkFromToIndex_8c36e 4 (some .int), Cond.methodLink RJ2 244 yJ2_indexOfCharUnsafe_4cfef, Cond.static yJ2_indexOfCharUnsafe_4cfef, Cond.code yJ2_indexOfCharUnsafe_4cfef cJ2_indexOfCharUnsafe_4cfef 5 (some .int), Cond.methodLink RJ2 71 yJ2_getChar_3b067, Cond.static yJ2_getChar_3b067, Cond.code yJ2_getChar_3b067 cJ2_getChar_3b067 2 (some .char), Cond.fieldLink RJ2 44 "java/lang/StringUTF16" "$assertionsDisabled" "Z", Cond.fieldLink RJ2 59 "java/lang/StringUTF16" "HI_BYTE_SHIFT" "I", Cond.fieldLink RJ2 63 "java/lang/StringUTF16" "LO_BYTE_SHIFT" "I", Cond.methodLink RJ2 232 yJ2_indexOfSupplementary_4cfef, Cond.static yJ2_indexOfSupplementary_4cfef, Cond.code yJ2_indexOfSupplementary_4cfef cJ2_indexOfSupplementary_4cfef 7 (some .int), Cond.methodLink RJ2 164 yJ11_isValidCodePoint_9a6ad, Cond.static yJ11_isValidCodePoint_9a6ad, Cond.initialized RJ11, Cond.code yJ11_isValidCodePoint_9a6ad cJ11_isValidCodePoint_9a6ad 2 (some .boolean)]
def wsX2_read_r7 : List Cond := [Cond.methodLink RJ2 157 yJ11_highSurrogate_5068e, Cond.static yJ11_highSurrogate_5068e, Cond.code yJ11_highSurrogate_5068e cJ11_highSurrogate_5068e 1 (some .char), Cond.constant RJ11 110 (55232), Cond.methodLink RJ2 161 yJ11_lowSurrogate_5068e, Cond.static yJ11_lowSurrogate_5068e, Cond.code yJ11_lowSurrogate_5068e cJ11_lowSurrogate_5068e 1 (some .char), Cond.constant RJ11 76 (56320), Cond.methodLink RX2 58 yX2_faultOfToken, Cond.instanceMethod yX2_faultOfToken, Cond.selects RX2 yX2_faultOfToken yX2_faultOfToken, Cond.initialized RX2, Cond.code yX2_faultOfToken cX2_faultOfToken 2 (some .int), Cond.fieldLink RX2 86 "PageTurner$Tokens" "value" "I", Cond.methodLink RX2 74 yX2_standsAhead, Cond.static yX2_standsAhead, Cond.code yX2_standsAhead cX2_standsAhead 1 (some .int), Cond.methodLink RX2 78 yX2_standsIn, Cond.instanceMethod yX2_standsIn, Cond.selects RX2 yX2_standsIn yX2_standsIn, Cond.code yX2_standsIn cX2_standsIn 2 (some .boolean), Cond.methodLink RX2 82 yX2_isTooMuch, Cond.instanceMethod yX2_isTooMuch, Cond.selects RX2 yX2_isTooMuch yX2_isTooMuch]
def wsX2_read_r8 : List Cond := [Cond.code yX2_isTooMuch cX2_isTooMuch 1 (some .boolean), Cond.methodLink RX2 92 yX3_isFull, Cond.instanceMethod yX3_isFull, Cond.selects RX3 yX3_isFull yX3_isFull, Cond.code yX3_isFull cX3_isFull 1 (some .boolean), Cond.methodLink RX2 95 yX3_openPitches, Cond.instanceMethod yX3_openPitches, Cond.selects RX3 yX3_openPitches yX3_openPitches, Cond.code yX3_openPitches cX3_openPitches 1 (some .int), Cond.methodLink RX3 38 yX3_fact, Cond.instanceMethod yX3_fact, Cond.selects RX3 yX3_fact yX3_fact, Cond.code yX3_fact cX3_fact 3 (some .int), Cond.fieldLink RX3 11 "PageTurner$Score" "facts" "[I", Cond.methodLink RX2 89 yX3_openHasPitch, Cond.instanceMethod yX3_openHasPitch, Cond.selects RX3 yX3_openHasPitch yX3_openHasPitch, Cond.code yX3_openHasPitch cX3_openHasPitch 4 (some .boolean), Cond.methodLink RX3 42 yX3_openPitches, Cond.methodLink RX2 65 yX2_takeToken, Cond.instanceMethod yX2_takeToken, Cond.selects RX2 yX2_takeToken yX2_takeToken, Cond.code yX2_takeToken cX2_takeToken 1 none, Cond.methodLink RX2 98 yX2_takeMark]
def wsX2_read_r9 : List Cond := [Cond.instanceMethod yX2_takeMark, Cond.selects RX2 yX2_takeMark yX2_takeMark, Cond.code yX2_takeMark cX2_takeMark 1 none, Cond.methodLink RX2 101 yX2_takeCue, Cond.instanceMethod yX2_takeCue, Cond.selects RX2 yX2_takeCue yX2_takeCue, Cond.code yX2_takeCue cX2_takeCue 1 none, Cond.methodLink RX2 104 yX2_openEvent, Cond.instanceMethod yX2_openEvent, Cond.selects RX2 yX2_openEvent yX2_openEvent, Cond.code yX2_openEvent cX2_openEvent 3 none, Cond.methodLink RX2 118 yX3_openEvent, Cond.instanceMethod yX3_openEvent, Cond.selects RX3 yX3_openEvent yX3_openEvent, Cond.code yX3_openEvent cX3_openEvent 4 none, Cond.methodLink RX3 34 yX3_write, Cond.instanceMethod yX3_write, Cond.selects RX3 yX3_write yX3_write, Cond.code yX3_write cX3_write 4 none, Cond.methodLink RX2 108 yX2_takePitch, Cond.instanceMethod yX2_takePitch, Cond.selects RX2 yX2_takePitch yX2_takePitch, Cond.code yX2_takePitch cX2_takePitch 2 none, Cond.methodLink RX2 121 yX3_addPitch]
def wsX2_read_r10 : List Cond := [Cond.instanceMethod yX3_addPitch, Cond.selects RX3 yX3_addPitch yX3_addPitch, Cond.code yX3_addPitch cX3_addPitch 3 none, Cond.methodLink RX2 111 yX3_closeEvent, Cond.instanceMethod yX3_closeEvent, Cond.selects RX3 yX3_closeEvent yX3_closeEvent, Cond.code yX3_closeEvent cX3_closeEvent 2 none, Cond.methodLink RX3 46 yX3_isFull, Cond.methodLink RX3 50 yX3_allBits, Cond.instanceMethod yX3_allBits, Cond.selects RX3 yX3_allBits yX3_allBits, Cond.code yX3_allBits cX3_allBits 3 (some .int), Cond.methodLink RX2 115 yX2_takeBarOrPage, Cond.instanceMethod yX2_takeBarOrPage, Cond.selects RX2 yX2_takeBarOrPage yX2_takeBarOrPage, Cond.code yX2_takeBarOrPage cX2_takeBarOrPage 1 none, Cond.fieldLink RX2 124 "PageTurner$Score" "events" "I", Cond.methodLink RX2 127 yX3_repeatFrom, Cond.instanceMethod yX3_repeatFrom, Cond.selects RX3 yX3_repeatFrom yX3_repeatFrom, Cond.code yX3_repeatFrom cX3_repeatFrom 2 none, Cond.methodLink RX2 130 yX3_endMeasure, Cond.instanceMethod yX3_endMeasure, Cond.selects RX3 yX3_endMeasure yX3_endMeasure]
def wsX2_read_r11 : List Cond := [Cond.code yX3_endMeasure cX3_endMeasure 1 none, Cond.methodLink RX2 133 yX3_endPage, Cond.instanceMethod yX3_endPage, Cond.selects RX3 yX3_endPage yX3_endPage, Cond.code yX3_endPage cX3_endPage 1 none, Cond.methodLink RX2 68 yX4_advance]
def wsX2_read : List Cond := .code yX2_read cX2_read 4 (some .int) :: ((wsX2_read_r1 ++ (wsX2_read_r2 ++ (wsX2_read_r3 ++ (wsX2_read_r4 ++ (wsX2_read_r5 ++ (wsX2_read_r6 ++ (wsX2_read_r7 ++ (wsX2_read_r8 ++ (wsX2_read_r9 ++ (wsX2_read_r10 ++ wsX2_read_r11)))))))))) ++ wsX20 ++ wsX40 ++ wsX30)
def wsX3_measuresWithEvents : List Cond := .code yX3_measuresWithEvents cX3_measuresWithEvents 1 (some .int) :: ([.fieldLink RX3 15 "PageTurner$Score" "events" "I", .methodLink RX3 38 yX3_fact, .instanceMethod yX3_fact, .selects RX3 yX3_fact yX3_fact, .initialized RX3, .code yX3_fact cX3_fact 3 (some .int), .fieldLink RX3 11 "PageTurner$Score" "facts" "[I"] ++ wsX30)
def wsX3_pagesWithEvents : List Cond := .code yX3_pagesWithEvents cX3_pagesWithEvents 1 (some .int) :: ([.fieldLink RX3 15 "PageTurner$Score" "events" "I", .methodLink RX3 38 yX3_fact, .instanceMethod yX3_fact, .selects RX3 yX3_fact yX3_fact, .initialized RX3, .code yX3_fact cX3_fact 3 (some .int), .fieldLink RX3 11 "PageTurner$Score" "facts" "[I"] ++ wsX30)
def wsX3_firstOfNextPage : List Cond := .code yX3_firstOfNextPage cX3_firstOfNextPage 4 (some .int) :: ([.fieldLink RX3 15 "PageTurner$Score" "events" "I", .methodLink RX3 38 yX3_fact, .instanceMethod yX3_fact, .selects RX3 yX3_fact yX3_fact, .initialized RX3, .code yX3_fact cX3_fact 3 (some .int), .fieldLink RX3 11 "PageTurner$Score" "facts" "[I"] ++ wsX30)
def wsX3_cueFrom : List Cond := .code yX3_cueFrom cX3_cueFrom 3 (some .int) :: ([.fieldLink RX3 15 "PageTurner$Score" "events" "I", .methodLink RX3 38 yX3_fact, .instanceMethod yX3_fact, .selects RX3 yX3_fact yX3_fact, .initialized RX3, .code yX3_fact cX3_fact 3 (some .int), .fieldLink RX3 11 "PageTurner$Score" "facts" "[I"] ++ wsX30)
def wsX5_init_r1 : List Cond := [Cond.methodLink RX5 1 objectInit, Cond.instanceMethod objectInit, Cond.code objectInit ⟨#[0xb1]⟩ 1 none, Cond.arrayClass .byte, Cond.fieldLink RX5 9 "PageTurner" "tape" "[B", Cond.fieldLink RX5 13 "PageTurner" "tapeLength" "I", Cond.classLink RX5 17 RX2, Cond.instantiable RX2 10, Cond.initialized RX2, Cond.fieldLink RX5 20 "PageTurner" "reader" "LPageTurner$Reader;", Cond.classLink RX5 24 RX3, Cond.instantiable RX3 7, Cond.initialized RX3, Cond.fieldLink RX5 27 "PageTurner" "score" "LPageTurner$Score;", Cond.classLink RX5 31 RX0, Cond.instantiable RX0 7, Cond.initialized RX0, Cond.fieldLink RX5 36 "PageTurner" "follower" "LPageTurner$Follower;", Cond.fieldLink RX5 40 "PageTurner" "turnLead" "I", Cond.instanceMethod yX2_init, Cond.code yX2_init cX2_init 1 none, Cond.methodLink RX2 5 objectInit, Cond.classLink RX2 11 RX4, Cond.instantiable RX4 6]
def wsX5_init_r2 : List Cond := [Cond.initialized RX4, Cond.fieldLink RX2 14 "PageTurner$Reader" "tokens" "LPageTurner$Tokens;", Cond.classLink RX2 18 RX3, Cond.fieldLink RX2 21 "PageTurner$Reader" "draft" "LPageTurner$Score;", Cond.fieldLink RX2 25 "PageTurner$Reader" "fault" "I", Cond.fieldLink RX2 29 "PageTurner$Reader" "faultPlace" "I", Cond.instanceMethod yX4_init, Cond.code yX4_init cX4_init 1 none, Cond.methodLink RX4 3 objectInit, Cond.fieldLink RX4 9 "PageTurner$Tokens" "text" "[B", Cond.instanceMethod yX3_init, Cond.code yX3_init cX3_init 1 none, Cond.methodLink RX3 5 objectInit, Cond.arrayClass .int, Cond.fieldLink RX3 11 "PageTurner$Score" "facts" "[I", Cond.methodLink RX5 33 yX0_init, Cond.instanceMethod yX0_init, Cond.code yX0_init cX0_init 2 none, Cond.methodLink RX0 3 objectInit, Cond.fieldLink RX0 9 "PageTurner$Follower" "prices" "[I", Cond.fieldLink RX0 15 "PageTurner$Follower" "arrivals" "[I", Cond.fieldLink RX0 18 "PageTurner$Follower" "departures" "[I", Cond.classLink RX0 21 RX1, Cond.instantiable RX1 10]
def wsX5_init_r3 : List Cond := [Cond.initialized RX1, Cond.fieldLink RX0 26 "PageTurner$Follower" "start" "LPageTurner$Moment;", Cond.fieldLink RX0 30 "PageTurner$Follower" "now" "LPageTurner$Moment;", Cond.fieldLink RX0 33 "PageTurner$Follower" "score" "LPageTurner$Score;", Cond.methodLink RX0 23 yX1_init, Cond.instanceMethod yX1_init, Cond.code yX1_init cX1_init 2 none, Cond.methodLink RX1 1 objectInit, Cond.fieldLink RX1 7 "PageTurner$Moment" "costs" "[I", Cond.fieldLink RX1 13 "PageTurner$Moment" "before" "LPageTurner$Moment;"]
def wsX5_init : List Cond := .code yX5_init cX5_init 1 none :: ((wsX5_init_r1 ++ (wsX5_init_r2 ++ wsX5_init_r3)) ++ wsX50 ++ wsX20 ++ wsX30 ++ wsX00 ++ wsX40 ++ wsX10)
def wsX5_putBytes : List Cond := .code yX5_putBytes cX5_putBytes 3 none :: ([.fieldLink RX5 13 "PageTurner" "tapeLength" "I", .fieldLink RX5 9 "PageTurner" "tape" "[B"] ++ wsX50)
def wsX5_feed : List Cond := .code yX5_feed cX5_feed 6 (some .int) :: ([.fieldLink RX5 13 "PageTurner" "tapeLength" "I", .methodLink RX5 43 yX5_putBytes, .instanceMethod yX5_putBytes, .selects RX5 yX5_putBytes yX5_putBytes, .initialized RX5, .code yX5_putBytes cX5_putBytes 3 none, .fieldLink RX5 9 "PageTurner" "tape" "[B"] ++ wsX50)
def wsX5_music_r1 : List Cond := [Cond.classLink RX5 47 "java/lang/IllegalArgumentException", Cond.initialized "java/lang/IllegalArgumentException", Cond.fieldLink RX5 13 "PageTurner" "tapeLength" "I", Cond.fieldLink RX5 20 "PageTurner" "reader" "LPageTurner$Reader;", Cond.fieldLink RX5 9 "PageTurner" "tape" "[B", Cond.fieldLink RX5 27 "PageTurner" "score" "LPageTurner$Score;", Cond.fieldLink RX5 36 "PageTurner" "follower" "LPageTurner$Follower;", Cond.methodLink RX5 54 yX2_read, Cond.instanceMethod yX2_read, Cond.selects RX2 yX2_read yX2_read, Cond.initialized RX2, Cond.code yX2_read cX2_read 4 (some .int), Cond.fieldLink RX2 32 "PageTurner$Reader" "stand" "I", Cond.fieldLink RX2 35 "PageTurner$Reader" "marks" "I", Cond.fieldLink RX2 38 "PageTurner$Reader" "cues" "I", Cond.fieldLink RX2 41 "PageTurner$Reader" "marked" "Z", Cond.fieldLink RX2 45 "PageTurner$Reader" "cued" "Z", Cond.fieldLink RX2 48 "PageTurner$Reader" "repeatStart" "I", Cond.fieldLink RX2 21 "PageTurner$Reader" "draft" "LPageTurner$Score;", Cond.fieldLink RX2 14 "PageTurner$Reader" "tokens" "LPageTurner$Tokens;", Cond.fieldLink RX2 25 "PageTurner$Reader" "fault" "I", Cond.fieldLink RX2 62 "PageTurner$Tokens" "kind" "I", Cond.fieldLink RX2 71 "PageTurner$Tokens" "start" "I", Cond.fieldLink RX2 29 "PageTurner$Reader" "faultPlace" "I"]
def wsX5_music_r2 : List Cond := [Cond.methodLink RX2 51 yX3_clear, Cond.instanceMethod yX3_clear, Cond.selects RX3 yX3_clear yX3_clear, Cond.initialized RX3, Cond.code yX3_clear cX3_clear 1 none, Cond.fieldLink RX3 15 "PageTurner$Score" "events" "I", Cond.fieldLink RX3 19 "PageTurner$Score" "beats" "I", Cond.fieldLink RX3 22 "PageTurner$Score" "cues" "I", Cond.fieldLink RX3 25 "PageTurner$Score" "states" "I", Cond.fieldLink RX3 28 "PageTurner$Score" "measure" "I", Cond.fieldLink RX3 31 "PageTurner$Score" "page" "I", Cond.methodLink RX2 54 yX4_begin, Cond.instanceMethod yX4_begin, Cond.selects RX4 yX4_begin yX4_begin, Cond.initialized RX4, Cond.code yX4_begin cX4_begin 3 none, Cond.fieldLink RX4 9 "PageTurner$Tokens" "text" "[B", Cond.methodLink RX4 15 Lib.Math.min.name, Cond.static Lib.Math.min.name, Cond.initialized "java/lang/Math", Cond.code Lib.Math.min.name Lib.Math.min.code 2 (some .int), Cond.fieldLink RX4 21 "PageTurner$Tokens" "length" "I", Cond.fieldLink RX4 25 "PageTurner$Tokens" "next" "I", Cond.methodLink RX4 28 yX4_advance]
def wsX5_music_r3 : List Cond := [Cond.instanceMethod yX4_advance, Cond.selects RX4 yX4_advance yX4_advance, Cond.code yX4_advance cX4_advance 2 none, Cond.fieldLink RX4 34 "PageTurner$Tokens" "start" "I", Cond.fieldLink RX4 37 "PageTurner$Tokens" "value" "I", Cond.fieldLink RX4 44 "PageTurner$Tokens" "kind" "I", Cond.methodLink RX4 31 yX4_skipBlanks, Cond.instanceMethod yX4_skipBlanks, Cond.selects RX4 yX4_skipBlanks yX4_skipBlanks, Cond.code yX4_skipBlanks cX4_skipBlanks 1 none, Cond.methodLink RX4 40 yX4_byteAt, Cond.instanceMethod yX4_byteAt, Cond.selects RX4 yX4_byteAt yX4_byteAt, Cond.code yX4_byteAt cX4_byteAt 2 (some .int), Cond.methodLink RX4 47 yX4_takePitch, Cond.instanceMethod yX4_takePitch, Cond.selects RX4 yX4_takePitch yX4_takePitch, Cond.code yX4_takePitch cX4_takePitch 5 none, Cond.fieldLink RX4 69 "PageTurner$Tokens" "STEPS" "[I", Cond.methodLink RX4 58 yX4_take, Cond.instanceMethod yX4_take, Cond.selects RX4 yX4_take yX4_take, Cond.code yX4_take cX4_take 3 none, Cond.methodLink RX4 51 yX4_isDigit]
def wsX5_music_r4 : List Cond := [Cond.static yX4_isDigit, Cond.code yX4_isDigit cX4_isDigit 1 (some .boolean), Cond.methodLink RX4 55 yX4_takeNumber, Cond.instanceMethod yX4_takeNumber, Cond.selects RX4 yX4_takeNumber yX4_takeNumber, Cond.code yX4_takeNumber cX4_takeNumber 2 none, Cond.methodLink RX4 64 yJ0_indexOf_0f7a4, Cond.instanceMethod yJ0_indexOf_0f7a4, Cond.selects RJ0 yJ0_indexOf_0f7a4 yJ0_indexOf_0f7a4, Cond.initialized RJ0, Cond.code yJ0_indexOf_0f7a4 cJ0_indexOf_0f7a4 2 (some .int), Cond.methodLink RJ0 633 yJ0_indexOf_7cf53, Cond.instanceMethod yJ0_indexOf_7cf53, Cond.selects RJ0 yJ0_indexOf_7cf53 yJ0_indexOf_7cf53, Cond.code yJ0_indexOf_7cf53 cJ0_indexOf_7cf53 3 (some .int), Cond.fieldLink RJ0 9 "java/lang/String" "value" "[B", Cond.methodLink RJ0 492 yJ0_isLatin1_aae02, Cond.instanceMethod yJ0_isLatin1_aae02, Cond.selects RJ0 yJ0_isLatin1_aae02 yJ0_isLatin1_aae02, Cond.code yJ0_isLatin1_aae02 cJ0_isLatin1_aae02 1 (some .boolean), Cond.fieldLink RJ0 38 "java/lang/String" "COMPACT_STRINGS" "Z", Cond.fieldLink RJ0 15 "java/lang/String" "coder" "B", Cond.methodLink RJ0 505 yJ0_length_8abf5, Cond.instanceMethod yJ0_length_8abf5]
def wsX5_music_r5 : List Cond := [Cond.selects RJ0 yJ0_length_8abf5 yJ0_length_8abf5, Cond.code yJ0_length_8abf5 cJ0_length_8abf5 1 (some .int), Cond.methodLink RJ0 335 yJ0_coder_7d493, Cond.instanceMethod yJ0_coder_7d493, Cond.selects RJ0 yJ0_coder_7d493 yJ0_coder_7d493, Cond.code yJ0_coder_7d493 cJ0_coder_7d493 1 (some .byte), Cond.methodLink RJ0 637 yJ1_indexOf_4cfef, Cond.static yJ1_indexOf_4cfef, Cond.initialized RJ1, Cond.code yJ1_indexOf_4cfef cJ1_indexOf_4cfef 4 (some .int), Cond.methodLink RJ1 92 Lib.Math.max.name, Cond.static Lib.Math.max.name, Cond.code Lib.Math.max.name Lib.Math.max.code 2 (some .int), Cond.methodLink RJ1 38 Lib.Math.min.name, Cond.methodLink RJ1 88 yJ1_canEncode_9a6ad, Cond.static yJ1_canEncode_9a6ad, Cond.code yJ1_canEncode_9a6ad cJ1_canEncode_9a6ad 1 (some .boolean), Cond.methodLink RJ1 95 yJ1_indexOfChar_4cfef, Cond.static yJ1_indexOfChar_4cfef, Cond.code yJ1_indexOfChar_4cfef cJ1_indexOfChar_4cfef 6 (some .int), Cond.methodLink RJ0 640 yJ2_indexOf_4cfef, Cond.static yJ2_indexOf_4cfef, Cond.initialized RJ2, Cond.code yJ2_indexOf_4cfef cJ2_indexOf_4cfef 4 (some .int)]
def wsX5_music_r6 : List Cond := [Cond.methodLink RJ2 224 Lib.Math.max.name, Cond.methodLink RJ2 183 Lib.Math.min.name, Cond.constant RJ2 227 (65536), Cond.methodLink RJ2 228 yJ2_indexOfChar_4cfef, Cond.static yJ2_indexOfChar_4cfef, Cond.code yJ2_indexOfChar_4cfef cJ2_indexOfChar_4cfef 4 (some .int), Cond.methodLink RJ2 96 yJ2_checkBoundsBeginEnd_d044e, Cond.static yJ2_checkBoundsBeginEnd_d044e, Cond.code yJ2_checkBoundsBeginEnd_d044e cJ2_checkBoundsBeginEnd_d044e 3 none, Cond.methodLink RJ2 48 yJ2_length_9d52b, Cond.static yJ2_length_9d52b, Cond.code yJ2_length_9d52b cJ2_length_9d52b 1 (some .int), Cond.methodLink RJ2 241 yJ0_checkBoundsBeginEnd_23922, Cond.static yJ0_checkBoundsBeginEnd_23922, Cond.code yJ0_checkBoundsBeginEnd_23922 cJ0_checkBoundsBeginEnd_23922 3 none, Cond.fieldLink RJ0 1053 "jdk/internal/util/Preconditions" "SIOOBE_FORMATTER" "Ljava/util/function/BiFunction;", Cond.methodLink RJ0 1062 yJ3_checkFromToIndex_8c36e, Cond.static yJ3_checkFromToIndex_8c36e, Cond.initialized RJ3, Cond.code yJ3_checkFromToIndex_8c36e cJ3_checkFromToIndex_8c36e 4 (some .int), Cond.methodLink RJ2 244 yJ2_indexOfCharUnsafe_4cfef, Cond.static yJ2_indexOfCharUnsafe_4cfef, Cond.code yJ2_indexOfCharUnsafe_4cfef cJ2_indexOfCharUnsafe_4cfef 5 (some .int), Cond.methodLink RJ2 71 yJ2_getChar_3b067]
def wsX5_music_r7 : List Cond := [Cond.static yJ2_getChar_3b067, Cond.code yJ2_getChar_3b067 cJ2_getChar_3b067 2 (some .char), Cond.fieldLink RJ2 44 "java/lang/StringUTF16" "$assertionsDisabled" "Z", Cond.fieldLink RJ2 59 "java/lang/StringUTF16" "HI_BYTE_SHIFT" "I", Cond.fieldLink RJ2 63 "java/lang/StringUTF16" "LO_BYTE_SHIFT" "I", Cond.methodLink RJ2 232 yJ2_indexOfSupplementary_4cfef, Cond.static yJ2_indexOfSupplementary_4cfef, Cond.code yJ2_indexOfSupplementary_4cfef cJ2_indexOfSupplementary_4cfef 7 (some .int), Cond.methodLink RJ2 164 yJ11_isValidCodePoint_9a6ad, Cond.static yJ11_isValidCodePoint_9a6ad, Cond.initialized RJ11, Cond.code yJ11_isValidCodePoint_9a6ad cJ11_isValidCodePoint_9a6ad 2 (some .boolean), Cond.methodLink RJ2 157 yJ11_highSurrogate_5068e, Cond.static yJ11_highSurrogate_5068e, Cond.code yJ11_highSurrogate_5068e cJ11_highSurrogate_5068e 1 (some .char), Cond.constant RJ11 110 (55232), Cond.methodLink RJ2 161 yJ11_lowSurrogate_5068e, Cond.static yJ11_lowSurrogate_5068e, Cond.code yJ11_lowSurrogate_5068e cJ11_lowSurrogate_5068e 1 (some .char), Cond.constant RJ11 76 (56320), Cond.methodLink RX2 58 yX2_faultOfToken, Cond.instanceMethod yX2_faultOfToken, Cond.selects RX2 yX2_faultOfToken yX2_faultOfToken, Cond.code yX2_faultOfToken cX2_faultOfToken 2 (some .int)]
def wsX5_music_r8 : List Cond := [Cond.fieldLink RX2 86 "PageTurner$Tokens" "value" "I", Cond.methodLink RX2 74 yX2_standsAhead, Cond.static yX2_standsAhead, Cond.code yX2_standsAhead cX2_standsAhead 1 (some .int), Cond.methodLink RX2 78 yX2_standsIn, Cond.instanceMethod yX2_standsIn, Cond.selects RX2 yX2_standsIn yX2_standsIn, Cond.code yX2_standsIn cX2_standsIn 2 (some .boolean), Cond.methodLink RX2 82 yX2_isTooMuch, Cond.instanceMethod yX2_isTooMuch, Cond.selects RX2 yX2_isTooMuch yX2_isTooMuch, Cond.code yX2_isTooMuch cX2_isTooMuch 1 (some .boolean), Cond.methodLink RX2 92 yX3_isFull, Cond.instanceMethod yX3_isFull, Cond.selects RX3 yX3_isFull yX3_isFull, Cond.code yX3_isFull cX3_isFull 1 (some .boolean), Cond.methodLink RX2 95 yX3_openPitches, Cond.instanceMethod yX3_openPitches, Cond.selects RX3 yX3_openPitches yX3_openPitches, Cond.code yX3_openPitches cX3_openPitches 1 (some .int), Cond.methodLink RX3 38 yX3_fact, Cond.instanceMethod yX3_fact, Cond.selects RX3 yX3_fact yX3_fact, Cond.code yX3_fact cX3_fact 3 (some .int)]
def wsX5_music_r9 : List Cond := [Cond.fieldLink RX3 11 "PageTurner$Score" "facts" "[I", Cond.methodLink RX2 89 yX3_openHasPitch, Cond.instanceMethod yX3_openHasPitch, Cond.selects RX3 yX3_openHasPitch yX3_openHasPitch, Cond.code yX3_openHasPitch cX3_openHasPitch 4 (some .boolean), Cond.methodLink RX3 42 yX3_openPitches, Cond.methodLink RX2 65 yX2_takeToken, Cond.instanceMethod yX2_takeToken, Cond.selects RX2 yX2_takeToken yX2_takeToken, Cond.code yX2_takeToken cX2_takeToken 1 none, Cond.methodLink RX2 98 yX2_takeMark, Cond.instanceMethod yX2_takeMark, Cond.selects RX2 yX2_takeMark yX2_takeMark, Cond.code yX2_takeMark cX2_takeMark 1 none, Cond.methodLink RX2 101 yX2_takeCue, Cond.instanceMethod yX2_takeCue, Cond.selects RX2 yX2_takeCue yX2_takeCue, Cond.code yX2_takeCue cX2_takeCue 1 none, Cond.methodLink RX2 104 yX2_openEvent, Cond.instanceMethod yX2_openEvent, Cond.selects RX2 yX2_openEvent yX2_openEvent, Cond.code yX2_openEvent cX2_openEvent 3 none, Cond.methodLink RX2 118 yX3_openEvent, Cond.instanceMethod yX3_openEvent]
def wsX5_music_r10 : List Cond := [Cond.selects RX3 yX3_openEvent yX3_openEvent, Cond.code yX3_openEvent cX3_openEvent 4 none, Cond.methodLink RX3 34 yX3_write, Cond.instanceMethod yX3_write, Cond.selects RX3 yX3_write yX3_write, Cond.code yX3_write cX3_write 4 none, Cond.methodLink RX2 108 yX2_takePitch, Cond.instanceMethod yX2_takePitch, Cond.selects RX2 yX2_takePitch yX2_takePitch, Cond.code yX2_takePitch cX2_takePitch 2 none, Cond.methodLink RX2 121 yX3_addPitch, Cond.instanceMethod yX3_addPitch, Cond.selects RX3 yX3_addPitch yX3_addPitch, Cond.code yX3_addPitch cX3_addPitch 3 none, Cond.methodLink RX2 111 yX3_closeEvent, Cond.instanceMethod yX3_closeEvent, Cond.selects RX3 yX3_closeEvent yX3_closeEvent, Cond.code yX3_closeEvent cX3_closeEvent 2 none, Cond.methodLink RX3 46 yX3_isFull, Cond.methodLink RX3 50 yX3_allBits, Cond.instanceMethod yX3_allBits, Cond.selects RX3 yX3_allBits yX3_allBits, Cond.code yX3_allBits cX3_allBits 3 (some .int), Cond.methodLink RX2 115 yX2_takeBarOrPage]
def wsX5_music_r11 : List Cond := [Cond.instanceMethod yX2_takeBarOrPage, Cond.selects RX2 yX2_takeBarOrPage yX2_takeBarOrPage, Cond.code yX2_takeBarOrPage cX2_takeBarOrPage 1 none, Cond.fieldLink RX2 124 "PageTurner$Score" "events" "I", Cond.methodLink RX2 127 yX3_repeatFrom, Cond.instanceMethod yX3_repeatFrom, Cond.selects RX3 yX3_repeatFrom yX3_repeatFrom, Cond.code yX3_repeatFrom cX3_repeatFrom 2 none, Cond.methodLink RX2 130 yX3_endMeasure, Cond.instanceMethod yX3_endMeasure, Cond.selects RX3 yX3_endMeasure yX3_endMeasure, Cond.code yX3_endMeasure cX3_endMeasure 1 none, Cond.methodLink RX2 133 yX3_endPage, Cond.instanceMethod yX3_endPage, Cond.selects RX3 yX3_endPage yX3_endPage, Cond.code yX3_endPage cX3_endPage 1 none, Cond.methodLink RX2 68 yX4_advance, Cond.methodLink RX5 58 yX2_trade, Cond.instanceMethod yX2_trade, Cond.selects RX2 yX2_trade yX2_trade, Cond.code yX2_trade cX2_trade 3 (some (.object "PageTurner$Score")), Cond.methodLink RX5 62 yX0_begin, Cond.instanceMethod yX0_begin, Cond.selects RX0 yX0_begin yX0_begin]
def wsX5_music_r12 : List Cond := [Cond.initialized RX0, Cond.code yX0_begin cX0_begin 2 none, Cond.fieldLink RX0 33 "PageTurner$Follower" "score" "LPageTurner$Score;", Cond.fieldLink RX0 26 "PageTurner$Follower" "start" "LPageTurner$Moment;", Cond.fieldLink RX0 37 "PageTurner$Score" "states" "I", Cond.fieldLink RX0 51 "PageTurner$Moment" "placeCost" "I", Cond.methodLink RX0 43 yX1_clear, Cond.instanceMethod yX1_clear, Cond.selects RX1 yX1_clear yX1_clear, Cond.initialized RX1, Cond.code yX1_clear cX1_clear 3 none, Cond.fieldLink RX1 7 "PageTurner$Moment" "costs" "[I", Cond.arrayClass .int, Cond.constant RX1 17 (1000000), Cond.fieldLink RX1 18 "PageTurner$Moment" "placeEvent" "I", Cond.fieldLink RX1 22 "PageTurner$Moment" "placeBits" "I", Cond.fieldLink RX1 25 "PageTurner$Moment" "placeCost" "I", Cond.fieldLink RX1 28 "PageTurner$Moment" "anchors" "I", Cond.fieldLink RX1 31 "PageTurner$Moment" "anchor" "LPageTurner$Moment;", Cond.fieldLink RX1 34 "PageTurner$Moment" "anchorAhead" "LPageTurner$Moment;", Cond.methodLink RX0 47 yX1_offer, Cond.instanceMethod yX1_offer, Cond.selects RX1 yX1_offer yX1_offer, Cond.code yX1_offer cX1_offer 3 none]
def wsX5_music_r13 : List Cond := [Cond.methodLink RX0 54 yX0_forget, Cond.instanceMethod yX0_forget, Cond.selects RX0 yX0_forget yX0_forget, Cond.code yX0_forget cX0_forget 1 none, Cond.fieldLink RX0 30 "PageTurner$Follower" "now" "LPageTurner$Moment;", Cond.fieldLink RX0 57 "PageTurner$Follower" "notes" "I"]
def wsX5_music : List Cond := .code yX5_music cX5_music 3 (some .int) :: ((wsX5_music_r1 ++ (wsX5_music_r2 ++ (wsX5_music_r3 ++ (wsX5_music_r4 ++ (wsX5_music_r5 ++ (wsX5_music_r6 ++ (wsX5_music_r7 ++ (wsX5_music_r8 ++ (wsX5_music_r9 ++ (wsX5_music_r10 ++ (wsX5_music_r11 ++ (wsX5_music_r12 ++ wsX5_music_r13)))))))))))) ++ wsX50 ++ wsX20 ++ wsX40 ++ wsX30 ++ wsX00 ++ wsX10 ++ (vx_atS RX5 51 "java/lang/IllegalArgumentException" ["java/lang/RuntimeException", "java/lang/Exception"]).filter goodWord)
def wsX5_fault : List Cond := .code yX5_fault cX5_fault 2 (some .int) :: ([.classLink RX5 71 "java/util/NoSuchElementException", .initialized "java/util/NoSuchElementException", .fieldLink RX5 20 "PageTurner" "reader" "LPageTurner$Reader;", .fieldLink RX5 65 "PageTurner$Reader" "fault" "I", .fieldLink RX5 68 "PageTurner$Reader" "faultPlace" "I"] ++ wsX50 ++ wsX20 ++ (vx_atS RX5 75 "java/util/NoSuchElementException" ["java/lang/RuntimeException", "java/lang/Exception"]).filter goodWord)
def wsX5_count_r1 : List Cond := [Cond.classLink RX5 71 "java/util/NoSuchElementException", Cond.initialized "java/util/NoSuchElementException", Cond.fieldLink RX5 27 "PageTurner" "score" "LPageTurner$Score;", Cond.fieldLink RX5 76 "PageTurner$Score" "events" "I", Cond.fieldLink RX5 86 "PageTurner$Score" "beats" "I", Cond.fieldLink RX5 36 "PageTurner" "follower" "LPageTurner$Follower;", Cond.fieldLink RX5 89 "PageTurner$Follower" "notes" "I", Cond.fieldLink RX5 13 "PageTurner" "tapeLength" "I", Cond.fieldLink RX5 95 "PageTurner$Score" "cues" "I", Cond.methodLink RX5 79 yX3_measuresWithEvents, Cond.instanceMethod yX3_measuresWithEvents, Cond.selects RX3 yX3_measuresWithEvents yX3_measuresWithEvents, Cond.initialized RX3, Cond.code yX3_measuresWithEvents cX3_measuresWithEvents 1 (some .int), Cond.fieldLink RX3 15 "PageTurner$Score" "events" "I", Cond.methodLink RX3 38 yX3_fact, Cond.instanceMethod yX3_fact, Cond.selects RX3 yX3_fact yX3_fact, Cond.code yX3_fact cX3_fact 3 (some .int), Cond.fieldLink RX3 11 "PageTurner$Score" "facts" "[I", Cond.methodLink RX5 83 yX3_pagesWithEvents, Cond.instanceMethod yX3_pagesWithEvents, Cond.selects RX3 yX3_pagesWithEvents yX3_pagesWithEvents, Cond.code yX3_pagesWithEvents cX3_pagesWithEvents 1 (some .int)]
def wsX5_count_r2 : List Cond := [Cond.methodLink RX5 92 yX0_anchors, Cond.instanceMethod yX0_anchors, Cond.selects RX0 yX0_anchors yX0_anchors, Cond.initialized RX0, Cond.code yX0_anchors cX0_anchors 1 (some .int), Cond.fieldLink RX0 30 "PageTurner$Follower" "now" "LPageTurner$Moment;", Cond.fieldLink RX0 76 "PageTurner$Moment" "anchors" "I"]
def wsX5_count : List Cond := .code yX5_count cX5_count 2 (some .int) :: ((wsX5_count_r1 ++ wsX5_count_r2) ++ wsX50 ++ wsX30 ++ wsX00 ++ wsX10 ++ (vx_atS RX5 75 "java/util/NoSuchElementException" ["java/lang/RuntimeException", "java/lang/Exception"]).filter goodWord)
def wsX5_event : List Cond := .code yX5_event cX5_event 3 (some .int) :: ([.classLink RX5 71 "java/util/NoSuchElementException", .initialized "java/util/NoSuchElementException", .fieldLink RX5 27 "PageTurner" "score" "LPageTurner$Score;", .methodLink RX5 100 yX3_has, .instanceMethod yX3_has, .selects RX3 yX3_has yX3_has, .initialized RX3, .code yX3_has cX3_has 2 (some .boolean), .fieldLink RX3 15 "PageTurner$Score" "events" "I", .methodLink RX5 106 yX3_fact, .instanceMethod yX3_fact, .selects RX3 yX3_fact yX3_fact, .code yX3_fact cX3_fact 3 (some .int), .fieldLink RX3 11 "PageTurner$Score" "facts" "[I"] ++ wsX50 ++ wsX30 ++ (vx_atS RX5 75 "java/util/NoSuchElementException" ["java/lang/RuntimeException", "java/lang/Exception"]).filter goodWord)
def wsX5_price : List Cond := .code yX5_price cX5_price 3 (some .int) :: ([.classLink RX5 47 "java/lang/IllegalArgumentException", .initialized "java/lang/IllegalArgumentException", .fieldLink RX5 36 "PageTurner" "follower" "LPageTurner$Follower;", .methodLink RX5 112 yX0_hasPrice, .instanceMethod yX0_hasPrice, .selects RX0 yX0_hasPrice yX0_hasPrice, .initialized RX0, .code yX0_hasPrice cX0_hasPrice 2 (some .boolean), .fieldLink RX0 9 "PageTurner$Follower" "prices" "[I", .methodLink RX5 117 yX0_changePrice, .instanceMethod yX0_changePrice, .selects RX0 yX0_changePrice yX0_changePrice, .code yX0_changePrice cX0_changePrice 4 (some .int), .methodLink RX0 63 yX0_hasPrice] ++ wsX50 ++ wsX00 ++ (vx_atS RX5 51 "java/lang/IllegalArgumentException" ["java/lang/RuntimeException", "java/lang/Exception"]).filter goodWord)
def wsX5_heard_r1 : List Cond := [Cond.classLink RX5 47 "java/lang/IllegalArgumentException", Cond.initialized "java/lang/IllegalArgumentException", Cond.constant RX5 120 (100000000), Cond.fieldLink RX5 27 "PageTurner" "score" "LPageTurner$Score;", Cond.fieldLink RX5 76 "PageTurner$Score" "events" "I", Cond.fieldLink RX5 36 "PageTurner" "follower" "LPageTurner$Follower;", Cond.fieldLink RX5 89 "PageTurner$Follower" "notes" "I", Cond.methodLink RX5 123 yX0_latestTime, Cond.instanceMethod yX0_latestTime, Cond.selects RX0 yX0_latestTime yX0_latestTime, Cond.initialized RX0, Cond.code yX0_latestTime cX0_latestTime 1 (some .int), Cond.fieldLink RX0 57 "PageTurner$Follower" "notes" "I", Cond.fieldLink RX0 30 "PageTurner$Follower" "now" "LPageTurner$Moment;", Cond.fieldLink RX0 67 "PageTurner$Moment" "clock" "I", Cond.methodLink RX5 126 yX0_hear, Cond.instanceMethod yX0_hear, Cond.selects RX0 yX0_hear yX0_hear, Cond.code yX0_hear cX0_hear 5 none, Cond.fieldLink RX0 102 "PageTurner$Moment" "next" "LPageTurner$Moment;", Cond.classLink RX0 21 RX1, Cond.instantiable RX1 10, Cond.initialized RX1, Cond.fieldLink RX0 33 "PageTurner$Follower" "score" "LPageTurner$Score;"]
def wsX5_heard_r2 : List Cond := [Cond.fieldLink RX0 37 "PageTurner$Score" "states" "I", Cond.fieldLink RX0 88 "PageTurner$Score" "events" "I", Cond.methodLink RX0 23 yX1_init, Cond.instanceMethod yX1_init, Cond.code yX1_init cX1_init 2 none, Cond.methodLink RX1 1 objectInit, Cond.instanceMethod objectInit, Cond.code objectInit ⟨#[0xb1]⟩ 1 none, Cond.arrayClass .int, Cond.fieldLink RX1 7 "PageTurner$Moment" "costs" "[I", Cond.fieldLink RX1 13 "PageTurner$Moment" "before" "LPageTurner$Moment;", Cond.methodLink RX0 43 yX1_clear, Cond.instanceMethod yX1_clear, Cond.selects RX1 yX1_clear yX1_clear, Cond.code yX1_clear cX1_clear 3 none, Cond.constant RX1 17 (1000000), Cond.fieldLink RX1 18 "PageTurner$Moment" "placeEvent" "I", Cond.fieldLink RX1 22 "PageTurner$Moment" "placeBits" "I", Cond.fieldLink RX1 25 "PageTurner$Moment" "placeCost" "I", Cond.fieldLink RX1 28 "PageTurner$Moment" "anchors" "I", Cond.fieldLink RX1 31 "PageTurner$Moment" "anchor" "LPageTurner$Moment;", Cond.fieldLink RX1 34 "PageTurner$Moment" "anchorAhead" "LPageTurner$Moment;", Cond.methodLink RX0 105 yX0_makeSilentMoves, Cond.instanceMethod yX0_makeSilentMoves]
def wsX5_heard_r3 : List Cond := [Cond.selects RX0 yX0_makeSilentMoves yX0_makeSilentMoves, Cond.code yX0_makeSilentMoves cX0_makeSilentMoves 5 none, Cond.fieldLink RX0 51 "PageTurner$Moment" "placeCost" "I", Cond.fieldLink RX0 9 "PageTurner$Follower" "prices" "[I", Cond.fieldLink RX0 15 "PageTurner$Follower" "arrivals" "[I", Cond.methodLink RX0 94 Lib.Math.min.name, Cond.static Lib.Math.min.name, Cond.initialized "java/lang/Math", Cond.code Lib.Math.min.name Lib.Math.min.code 2 (some .int), Cond.fieldLink RX0 18 "PageTurner$Follower" "departures" "[I", Cond.methodLink RX0 79 yX3_fact, Cond.instanceMethod yX3_fact, Cond.selects RX3 yX3_fact yX3_fact, Cond.initialized RX3, Cond.code yX3_fact cX3_fact 3 (some .int), Cond.fieldLink RX3 11 "PageTurner$Score" "facts" "[I", Cond.methodLink RX0 83 yX1_costAt, Cond.instanceMethod yX1_costAt, Cond.selects RX1 yX1_costAt yX1_costAt, Cond.code yX1_costAt cX1_costAt 2 (some .int), Cond.methodLink RX0 119 yX0_departureFrom, Cond.instanceMethod yX0_departureFrom, Cond.selects RX0 yX0_departureFrom yX0_departureFrom, Cond.code yX0_departureFrom cX0_departureFrom 7 (some .int)]
def wsX5_heard_r4 : List Cond := [Cond.constant RX0 87 (1000000), Cond.methodLink RX0 99 yX3_allBits, Cond.instanceMethod yX3_allBits, Cond.selects RX3 yX3_allBits yX3_allBits, Cond.code yX3_allBits cX3_allBits 3 (some .int), Cond.methodLink RX3 38 yX3_fact, Cond.methodLink RX0 126 yJ6_bitCount_0f7a4, Cond.static yJ6_bitCount_0f7a4, Cond.initialized RJ6, Cond.code yJ6_bitCount_0f7a4 cJ6_bitCount_0f7a4 1 (some .int), Cond.constant RJ6 265 (1431655765), Cond.constant RJ6 266 (858993459), Cond.constant RJ6 267 (252645135), Cond.methodLink RX0 122 yX0_walkOn, Cond.instanceMethod yX0_walkOn, Cond.selects RX0 yX0_walkOn yX0_walkOn, Cond.code yX0_walkOn cX0_walkOn 5 (some .boolean), Cond.methodLink RX0 131 yX0_arrive, Cond.instanceMethod yX0_arrive, Cond.selects RX0 yX0_arrive yX0_arrive, Cond.code yX0_arrive cX0_arrive 3 (some .boolean), Cond.methodLink RX0 135 yX3_has, Cond.instanceMethod yX3_has, Cond.selects RX3 yX3_has yX3_has]
def wsX5_heard_r5 : List Cond := [Cond.code yX3_has cX3_has 2 (some .boolean), Cond.fieldLink RX3 15 "PageTurner$Score" "events" "I", Cond.methodLink RX0 108 yX0_takeNote, Cond.instanceMethod yX0_takeNote, Cond.selects RX0 yX0_takeNote yX0_takeNote, Cond.code yX0_takeNote cX0_takeNote 11 none, Cond.methodLink RX0 138 yX3_rightBit, Cond.instanceMethod yX3_rightBit, Cond.selects RX3 yX3_rightBit yX3_rightBit, Cond.code yX3_rightBit cX3_rightBit 6 (some .int), Cond.methodLink RX3 54 Lib.Math.abs.name, Cond.static Lib.Math.abs.name, Cond.code Lib.Math.abs.name Lib.Math.abs.code 1 (some .int), Cond.methodLink RX0 47 yX1_offer, Cond.instanceMethod yX1_offer, Cond.selects RX1 yX1_offer yX1_offer, Cond.code yX1_offer cX1_offer 3 none, Cond.methodLink RX0 112 yX0_findPlace, Cond.instanceMethod yX0_findPlace, Cond.selects RX0 yX0_findPlace yX0_findPlace, Cond.code yX0_findPlace cX0_findPlace 7 none, Cond.fieldLink RX0 70 "PageTurner$Moment" "placeEvent" "I", Cond.fieldLink RX0 73 "PageTurner$Moment" "placeBits" "I", Cond.methodLink RX0 116 yX0_dropAnchor]
def wsX5_heard_r6 : List Cond := [Cond.instanceMethod yX0_dropAnchor, Cond.selects RX0 yX0_dropAnchor yX0_dropAnchor, Cond.code yX0_dropAnchor cX0_dropAnchor 3 none, Cond.fieldLink RX0 141 "PageTurner$Moment" "anchor" "LPageTurner$Moment;", Cond.fieldLink RX0 76 "PageTurner$Moment" "anchors" "I", Cond.fieldLink RX0 144 "PageTurner$Moment" "anchorAhead" "LPageTurner$Moment;", Cond.methodLink RX5 130 yX0_placeEvent, Cond.instanceMethod yX0_placeEvent, Cond.selects RX0 yX0_placeEvent yX0_placeEvent, Cond.code yX0_placeEvent cX0_placeEvent 1 (some .int)]
def wsX5_heard : List Cond := .code yX5_heard cX5_heard 3 (some .int) :: ((wsX5_heard_r1 ++ (wsX5_heard_r2 ++ (wsX5_heard_r3 ++ (wsX5_heard_r4 ++ (wsX5_heard_r5 ++ wsX5_heard_r6))))) ++ wsX50 ++ wsX30 ++ wsX00 ++ wsX10 ++ (vx_atS RX5 51 "java/lang/IllegalArgumentException" ["java/lang/RuntimeException", "java/lang/Exception"]).filter goodWord)
def wsX5_back : List Cond := .code yX5_back cX5_back 1 (some .int) :: ([.fieldLink RX5 36 "PageTurner" "follower" "LPageTurner$Follower;", .fieldLink RX5 89 "PageTurner$Follower" "notes" "I", .methodLink RX5 133 yX0_takeBack, .instanceMethod yX0_takeBack, .selects RX0 yX0_takeBack yX0_takeBack, .initialized RX0, .code yX0_takeBack cX0_takeBack 2 (some .boolean), .fieldLink RX0 30 "PageTurner$Follower" "now" "LPageTurner$Moment;", .fieldLink RX0 60 "PageTurner$Moment" "before" "LPageTurner$Moment;", .fieldLink RX0 57 "PageTurner$Follower" "notes" "I"] ++ wsX50 ++ wsX00 ++ wsX10)
def wsX5_again : List Cond := .code yX5_again cX5_again 2 (some .int) :: ([.fieldLink RX5 36 "PageTurner" "follower" "LPageTurner$Follower;", .fieldLink RX5 89 "PageTurner$Follower" "notes" "I", .methodLink RX5 137 yX0_forget, .instanceMethod yX0_forget, .selects RX0 yX0_forget yX0_forget, .initialized RX0, .code yX0_forget cX0_forget 1 none, .fieldLink RX0 26 "PageTurner$Follower" "start" "LPageTurner$Moment;", .fieldLink RX0 30 "PageTurner$Follower" "now" "LPageTurner$Moment;", .fieldLink RX0 57 "PageTurner$Follower" "notes" "I"] ++ wsX50 ++ wsX00)
def wsX5_place_r1 : List Cond := [Cond.classLink RX5 71 "java/util/NoSuchElementException", Cond.initialized "java/util/NoSuchElementException", Cond.fieldLink RX5 27 "PageTurner" "score" "LPageTurner$Score;", Cond.fieldLink RX5 76 "PageTurner$Score" "events" "I", Cond.fieldLink RX5 36 "PageTurner" "follower" "LPageTurner$Follower;", Cond.methodLink RX5 130 yX0_placeEvent, Cond.instanceMethod yX0_placeEvent, Cond.selects RX0 yX0_placeEvent yX0_placeEvent, Cond.initialized RX0, Cond.code yX0_placeEvent cX0_placeEvent 1 (some .int), Cond.fieldLink RX0 30 "PageTurner$Follower" "now" "LPageTurner$Moment;", Cond.fieldLink RX0 70 "PageTurner$Moment" "placeEvent" "I", Cond.methodLink RX5 142 yX0_placeBits, Cond.instanceMethod yX0_placeBits, Cond.selects RX0 yX0_placeBits yX0_placeBits, Cond.code yX0_placeBits cX0_placeBits 1 (some .int), Cond.fieldLink RX0 73 "PageTurner$Moment" "placeBits" "I", Cond.methodLink RX5 145 yX0_placeCost, Cond.instanceMethod yX0_placeCost, Cond.selects RX0 yX0_placeCost yX0_placeCost, Cond.code yX0_placeCost cX0_placeCost 1 (some .int), Cond.fieldLink RX0 51 "PageTurner$Moment" "placeCost" "I", Cond.methodLink RX5 106 yX3_fact, Cond.instanceMethod yX3_fact]
def wsX5_place_r2 : List Cond := [Cond.selects RX3 yX3_fact yX3_fact, Cond.initialized RX3, Cond.code yX3_fact cX3_fact 3 (some .int), Cond.fieldLink RX3 11 "PageTurner$Score" "facts" "[I"]
def wsX5_place : List Cond := .code yX5_place cX5_place 2 (some .int) :: ((wsX5_place_r1 ++ wsX5_place_r2) ++ wsX50 ++ wsX30 ++ wsX00 ++ wsX10 ++ (vx_atS RX5 75 "java/util/NoSuchElementException" ["java/lang/RuntimeException", "java/lang/Exception"]).filter goodWord)
def wsX5_cost_r1 : List Cond := [Cond.classLink RX5 71 "java/util/NoSuchElementException", Cond.initialized "java/util/NoSuchElementException", Cond.fieldLink RX5 27 "PageTurner" "score" "LPageTurner$Score;", Cond.fieldLink RX5 36 "PageTurner" "follower" "LPageTurner$Follower;", Cond.methodLink RX5 100 yX3_has, Cond.instanceMethod yX3_has, Cond.selects RX3 yX3_has yX3_has, Cond.initialized RX3, Cond.code yX3_has cX3_has 2 (some .boolean), Cond.fieldLink RX3 15 "PageTurner$Score" "events" "I", Cond.methodLink RX5 150 yX3_allBits, Cond.instanceMethod yX3_allBits, Cond.selects RX3 yX3_allBits yX3_allBits, Cond.code yX3_allBits cX3_allBits 3 (some .int), Cond.methodLink RX3 38 yX3_fact, Cond.instanceMethod yX3_fact, Cond.selects RX3 yX3_fact yX3_fact, Cond.code yX3_fact cX3_fact 3 (some .int), Cond.fieldLink RX3 11 "PageTurner$Score" "facts" "[I", Cond.methodLink RX5 156 yX0_costOf, Cond.instanceMethod yX0_costOf, Cond.selects RX0 yX0_costOf yX0_costOf, Cond.initialized RX0, Cond.code yX0_costOf cX0_costOf 4 (some .int)]
def wsX5_cost_r2 : List Cond := [Cond.fieldLink RX0 30 "PageTurner$Follower" "now" "LPageTurner$Moment;", Cond.fieldLink RX0 33 "PageTurner$Follower" "score" "LPageTurner$Score;", Cond.constant RX0 87 (1000000), Cond.methodLink RX0 79 yX3_fact, Cond.methodLink RX0 83 yX1_costAt, Cond.instanceMethod yX1_costAt, Cond.selects RX1 yX1_costAt yX1_costAt, Cond.initialized RX1, Cond.code yX1_costAt cX1_costAt 2 (some .int), Cond.fieldLink RX1 7 "PageTurner$Moment" "costs" "[I", Cond.constant RX1 17 (1000000)]
def wsX5_cost : List Cond := .code yX5_cost cX5_cost 3 (some .int) :: ((wsX5_cost_r1 ++ wsX5_cost_r2) ++ wsX50 ++ wsX30 ++ wsX00 ++ wsX10 ++ (vx_atS RX5 75 "java/util/NoSuchElementException" ["java/lang/RuntimeException", "java/lang/Exception"]).filter goodWord)
def wsX5_sure_r1 : List Cond := [Cond.classLink RX5 71 "java/util/NoSuchElementException", Cond.initialized "java/util/NoSuchElementException", Cond.fieldLink RX5 27 "PageTurner" "score" "LPageTurner$Score;", Cond.fieldLink RX5 76 "PageTurner$Score" "events" "I", Cond.fieldLink RX5 36 "PageTurner" "follower" "LPageTurner$Follower;", Cond.methodLink RX5 159 yX0_leadOverOtherMeasures, Cond.instanceMethod yX0_leadOverOtherMeasures, Cond.selects RX0 yX0_leadOverOtherMeasures yX0_leadOverOtherMeasures, Cond.initialized RX0, Cond.code yX0_leadOverOtherMeasures cX0_leadOverOtherMeasures 4 (some .int), Cond.fieldLink RX0 33 "PageTurner$Follower" "score" "LPageTurner$Score;", Cond.fieldLink RX0 30 "PageTurner$Follower" "now" "LPageTurner$Moment;", Cond.fieldLink RX0 70 "PageTurner$Moment" "placeEvent" "I", Cond.constant RX0 87 (1000000), Cond.fieldLink RX0 88 "PageTurner$Score" "events" "I", Cond.methodLink RX0 94 Lib.Math.min.name, Cond.static Lib.Math.min.name, Cond.initialized "java/lang/Math", Cond.code Lib.Math.min.name Lib.Math.min.code 2 (some .int), Cond.fieldLink RX0 51 "PageTurner$Moment" "placeCost" "I", Cond.methodLink RX0 79 yX3_fact, Cond.instanceMethod yX3_fact, Cond.selects RX3 yX3_fact yX3_fact, Cond.initialized RX3]
def wsX5_sure_r2 : List Cond := [Cond.code yX3_fact cX3_fact 3 (some .int), Cond.fieldLink RX3 11 "PageTurner$Score" "facts" "[I", Cond.methodLink RX0 91 yX0_leastOf, Cond.instanceMethod yX0_leastOf, Cond.selects RX0 yX0_leastOf yX0_leastOf, Cond.code yX0_leastOf cX0_leastOf 6 (some .int), Cond.methodLink RX0 99 yX3_allBits, Cond.instanceMethod yX3_allBits, Cond.selects RX3 yX3_allBits yX3_allBits, Cond.code yX3_allBits cX3_allBits 3 (some .int), Cond.methodLink RX3 38 yX3_fact, Cond.methodLink RX0 83 yX1_costAt, Cond.instanceMethod yX1_costAt, Cond.selects RX1 yX1_costAt yX1_costAt, Cond.initialized RX1, Cond.code yX1_costAt cX1_costAt 2 (some .int), Cond.fieldLink RX1 7 "PageTurner$Moment" "costs" "[I", Cond.constant RX1 17 (1000000)]
def wsX5_sure : List Cond := .code yX5_sure cX5_sure 1 (some .int) :: ((wsX5_sure_r1 ++ wsX5_sure_r2) ++ wsX50 ++ wsX30 ++ wsX00 ++ wsX10 ++ (vx_atS RX5 75 "java/util/NoSuchElementException" ["java/lang/RuntimeException", "java/lang/Exception"]).filter goodWord)
def wsX5_commonDivisor : List Cond := .code yX5_commonDivisor cX5_commonDivisor 6 (some .int) :: ([])
def wsX5_tempo_r1 : List Cond := [Cond.fieldLink RX5 36 "PageTurner" "follower" "LPageTurner$Follower;", Cond.methodLink RX5 162 yX0_tempoUpper, Cond.instanceMethod yX0_tempoUpper, Cond.selects RX0 yX0_tempoUpper yX0_tempoUpper, Cond.initialized RX0, Cond.code yX0_tempoUpper cX0_tempoUpper 3 (some .int), Cond.fieldLink RX0 30 "PageTurner$Follower" "now" "LPageTurner$Moment;", Cond.fieldLink RX0 141 "PageTurner$Moment" "anchor" "LPageTurner$Moment;", Cond.fieldLink RX0 67 "PageTurner$Moment" "clock" "I", Cond.methodLink RX0 147 yX0_tempoBase, Cond.instanceMethod yX0_tempoBase, Cond.selects RX0 yX0_tempoBase yX0_tempoBase, Cond.code yX0_tempoBase cX0_tempoBase 4 (some (.object "PageTurner$Moment")), Cond.fieldLink RX0 144 "PageTurner$Moment" "anchorAhead" "LPageTurner$Moment;", Cond.methodLink RX5 165 yX0_tempoLower, Cond.instanceMethod yX0_tempoLower, Cond.selects RX0 yX0_tempoLower yX0_tempoLower, Cond.code yX0_tempoLower cX0_tempoLower 3 (some .int), Cond.methodLink RX0 151 yX0_beatOf, Cond.instanceMethod yX0_beatOf, Cond.selects RX0 yX0_beatOf yX0_beatOf, Cond.code yX0_beatOf cX0_beatOf 2 (some .int), Cond.fieldLink RX0 33 "PageTurner$Follower" "score" "LPageTurner$Score;", Cond.fieldLink RX0 70 "PageTurner$Moment" "placeEvent" "I"]
def wsX5_tempo_r2 : List Cond := [Cond.methodLink RX0 79 yX3_fact, Cond.instanceMethod yX3_fact, Cond.selects RX3 yX3_fact yX3_fact, Cond.initialized RX3, Cond.code yX3_fact cX3_fact 3 (some .int), Cond.fieldLink RX3 11 "PageTurner$Score" "facts" "[I", Cond.methodLink RX5 168 yX5_commonDivisor, Cond.static yX5_commonDivisor, Cond.initialized RX5, Cond.code yX5_commonDivisor cX5_commonDivisor 6 (some .int)]
def wsX5_tempo : List Cond := .code yX5_tempo cX5_tempo 6 (some .int) :: ((wsX5_tempo_r1 ++ wsX5_tempo_r2) ++ wsX50 ++ wsX00 ++ wsX10 ++ wsX30)
def wsX5_time_r1 : List Cond := [Cond.classLink RX5 47 "java/lang/IllegalArgumentException", Cond.initialized "java/lang/IllegalArgumentException", Cond.constant RX5 171 (100000), Cond.fieldLink RX5 36 "PageTurner" "follower" "LPageTurner$Follower;", Cond.methodLink RX5 174 yX0_timeOfBeat, Cond.instanceMethod yX0_timeOfBeat, Cond.selects RX0 yX0_timeOfBeat yX0_timeOfBeat, Cond.initialized RX0, Cond.code yX0_timeOfBeat cX0_timeOfBeat 7 (some .long), Cond.fieldLink RX0 30 "PageTurner$Follower" "now" "LPageTurner$Moment;", Cond.fieldLink RX0 141 "PageTurner$Moment" "anchor" "LPageTurner$Moment;", Cond.constantLong RX0 155 (-1), Cond.fieldLink RX0 67 "PageTurner$Moment" "clock" "I", Cond.methodLink RX0 157 yX0_tempoLower, Cond.instanceMethod yX0_tempoLower, Cond.selects RX0 yX0_tempoLower yX0_tempoLower, Cond.code yX0_tempoLower cX0_tempoLower 3 (some .int), Cond.methodLink RX0 147 yX0_tempoBase, Cond.instanceMethod yX0_tempoBase, Cond.selects RX0 yX0_tempoBase yX0_tempoBase, Cond.code yX0_tempoBase cX0_tempoBase 4 (some (.object "PageTurner$Moment")), Cond.fieldLink RX0 144 "PageTurner$Moment" "anchorAhead" "LPageTurner$Moment;", Cond.methodLink RX0 151 yX0_beatOf, Cond.instanceMethod yX0_beatOf]
def wsX5_time_r2 : List Cond := [Cond.selects RX0 yX0_beatOf yX0_beatOf, Cond.code yX0_beatOf cX0_beatOf 2 (some .int), Cond.fieldLink RX0 33 "PageTurner$Follower" "score" "LPageTurner$Score;", Cond.fieldLink RX0 70 "PageTurner$Moment" "placeEvent" "I", Cond.methodLink RX0 79 yX3_fact, Cond.instanceMethod yX3_fact, Cond.selects RX3 yX3_fact yX3_fact, Cond.initialized RX3, Cond.code yX3_fact cX3_fact 3 (some .int), Cond.fieldLink RX3 11 "PageTurner$Score" "facts" "[I", Cond.methodLink RX0 161 yX0_tempoUpper, Cond.instanceMethod yX0_tempoUpper, Cond.selects RX0 yX0_tempoUpper yX0_tempoUpper, Cond.code yX0_tempoUpper cX0_tempoUpper 3 (some .int), Cond.methodLink RX0 164 yJ9_floorDiv_f86c9, Cond.static yJ9_floorDiv_f86c9, Cond.initialized RJ9, Cond.code yJ9_floorDiv_f86c9 cJ9_floorDiv_f86c9 6 (some .long)]
def wsX5_time : List Cond := .code yX5_time cX5_time 2 (some .long) :: ((wsX5_time_r1 ++ wsX5_time_r2) ++ wsX50 ++ wsX00 ++ wsX10 ++ wsX30 ++ (vx_atS RX5 51 "java/lang/IllegalArgumentException" ["java/lang/RuntimeException", "java/lang/Exception"]).filter goodWord)
def wsX5_turnsAt_r1 : List Cond := [Cond.fieldLink RX5 27 "PageTurner" "score" "LPageTurner$Score;", Cond.fieldLink RX5 36 "PageTurner" "follower" "LPageTurner$Follower;", Cond.constantLong RX5 181 (-1), Cond.fieldLink RX5 40 "PageTurner" "turnLead" "I", Cond.methodLink RX5 130 yX0_placeEvent, Cond.instanceMethod yX0_placeEvent, Cond.selects RX0 yX0_placeEvent yX0_placeEvent, Cond.initialized RX0, Cond.code yX0_placeEvent cX0_placeEvent 1 (some .int), Cond.fieldLink RX0 30 "PageTurner$Follower" "now" "LPageTurner$Moment;", Cond.fieldLink RX0 70 "PageTurner$Moment" "placeEvent" "I", Cond.methodLink RX5 178 yX3_firstOfNextPage, Cond.instanceMethod yX3_firstOfNextPage, Cond.selects RX3 yX3_firstOfNextPage yX3_firstOfNextPage, Cond.initialized RX3, Cond.code yX3_firstOfNextPage cX3_firstOfNextPage 4 (some .int), Cond.fieldLink RX3 15 "PageTurner$Score" "events" "I", Cond.methodLink RX3 38 yX3_fact, Cond.instanceMethod yX3_fact, Cond.selects RX3 yX3_fact yX3_fact, Cond.code yX3_fact cX3_fact 3 (some .int), Cond.fieldLink RX3 11 "PageTurner$Score" "facts" "[I", Cond.methodLink RX5 92 yX0_anchors, Cond.instanceMethod yX0_anchors]
def wsX5_turnsAt_r2 : List Cond := [Cond.selects RX0 yX0_anchors yX0_anchors, Cond.code yX0_anchors cX0_anchors 1 (some .int), Cond.fieldLink RX0 76 "PageTurner$Moment" "anchors" "I", Cond.methodLink RX5 106 yX3_fact, Cond.methodLink RX5 174 yX0_timeOfBeat, Cond.instanceMethod yX0_timeOfBeat, Cond.selects RX0 yX0_timeOfBeat yX0_timeOfBeat, Cond.code yX0_timeOfBeat cX0_timeOfBeat 7 (some .long), Cond.fieldLink RX0 141 "PageTurner$Moment" "anchor" "LPageTurner$Moment;", Cond.constantLong RX0 155 (-1), Cond.fieldLink RX0 67 "PageTurner$Moment" "clock" "I", Cond.methodLink RX0 157 yX0_tempoLower, Cond.instanceMethod yX0_tempoLower, Cond.selects RX0 yX0_tempoLower yX0_tempoLower, Cond.code yX0_tempoLower cX0_tempoLower 3 (some .int), Cond.methodLink RX0 147 yX0_tempoBase, Cond.instanceMethod yX0_tempoBase, Cond.selects RX0 yX0_tempoBase yX0_tempoBase, Cond.code yX0_tempoBase cX0_tempoBase 4 (some (.object "PageTurner$Moment")), Cond.fieldLink RX0 144 "PageTurner$Moment" "anchorAhead" "LPageTurner$Moment;", Cond.methodLink RX0 151 yX0_beatOf, Cond.instanceMethod yX0_beatOf, Cond.selects RX0 yX0_beatOf yX0_beatOf, Cond.code yX0_beatOf cX0_beatOf 2 (some .int)]
def wsX5_turnsAt_r3 : List Cond := [Cond.fieldLink RX0 33 "PageTurner$Follower" "score" "LPageTurner$Score;", Cond.methodLink RX0 79 yX3_fact, Cond.methodLink RX0 161 yX0_tempoUpper, Cond.instanceMethod yX0_tempoUpper, Cond.selects RX0 yX0_tempoUpper yX0_tempoUpper, Cond.code yX0_tempoUpper cX0_tempoUpper 3 (some .int), Cond.methodLink RX0 164 yJ9_floorDiv_f86c9, Cond.static yJ9_floorDiv_f86c9, Cond.initialized RJ9, Cond.code yJ9_floorDiv_f86c9 cJ9_floorDiv_f86c9 6 (some .long)]
def wsX5_turnsAt : List Cond := .code yX5_turnsAt cX5_turnsAt 2 (some .long) :: ((wsX5_turnsAt_r1 ++ (wsX5_turnsAt_r2 ++ wsX5_turnsAt_r3)) ++ wsX50 ++ wsX00 ++ wsX10 ++ wsX30)
def wsX5_cue_r1 : List Cond := [Cond.fieldLink RX5 27 "PageTurner" "score" "LPageTurner$Score;", Cond.fieldLink RX5 36 "PageTurner" "follower" "LPageTurner$Follower;", Cond.constantLong RX5 181 (-1), Cond.methodLink RX5 130 yX0_placeEvent, Cond.instanceMethod yX0_placeEvent, Cond.selects RX0 yX0_placeEvent yX0_placeEvent, Cond.initialized RX0, Cond.code yX0_placeEvent cX0_placeEvent 1 (some .int), Cond.fieldLink RX0 30 "PageTurner$Follower" "now" "LPageTurner$Moment;", Cond.fieldLink RX0 70 "PageTurner$Moment" "placeEvent" "I", Cond.methodLink RX5 183 yX3_cueFrom, Cond.instanceMethod yX3_cueFrom, Cond.selects RX3 yX3_cueFrom yX3_cueFrom, Cond.initialized RX3, Cond.code yX3_cueFrom cX3_cueFrom 3 (some .int), Cond.fieldLink RX3 15 "PageTurner$Score" "events" "I", Cond.methodLink RX3 38 yX3_fact, Cond.instanceMethod yX3_fact, Cond.selects RX3 yX3_fact yX3_fact, Cond.code yX3_fact cX3_fact 3 (some .int), Cond.fieldLink RX3 11 "PageTurner$Score" "facts" "[I", Cond.methodLink RX5 106 yX3_fact, Cond.methodLink RX5 174 yX0_timeOfBeat, Cond.instanceMethod yX0_timeOfBeat]
def wsX5_cue_r2 : List Cond := [Cond.selects RX0 yX0_timeOfBeat yX0_timeOfBeat, Cond.code yX0_timeOfBeat cX0_timeOfBeat 7 (some .long), Cond.fieldLink RX0 141 "PageTurner$Moment" "anchor" "LPageTurner$Moment;", Cond.constantLong RX0 155 (-1), Cond.fieldLink RX0 67 "PageTurner$Moment" "clock" "I", Cond.methodLink RX0 157 yX0_tempoLower, Cond.instanceMethod yX0_tempoLower, Cond.selects RX0 yX0_tempoLower yX0_tempoLower, Cond.code yX0_tempoLower cX0_tempoLower 3 (some .int), Cond.methodLink RX0 147 yX0_tempoBase, Cond.instanceMethod yX0_tempoBase, Cond.selects RX0 yX0_tempoBase yX0_tempoBase, Cond.code yX0_tempoBase cX0_tempoBase 4 (some (.object "PageTurner$Moment")), Cond.fieldLink RX0 144 "PageTurner$Moment" "anchorAhead" "LPageTurner$Moment;", Cond.methodLink RX0 151 yX0_beatOf, Cond.instanceMethod yX0_beatOf, Cond.selects RX0 yX0_beatOf yX0_beatOf, Cond.code yX0_beatOf cX0_beatOf 2 (some .int), Cond.fieldLink RX0 33 "PageTurner$Follower" "score" "LPageTurner$Score;", Cond.methodLink RX0 79 yX3_fact, Cond.methodLink RX0 161 yX0_tempoUpper, Cond.instanceMethod yX0_tempoUpper, Cond.selects RX0 yX0_tempoUpper yX0_tempoUpper, Cond.code yX0_tempoUpper cX0_tempoUpper 3 (some .int)]
def wsX5_cue_r3 : List Cond := [Cond.methodLink RX0 164 yJ9_floorDiv_f86c9, Cond.static yJ9_floorDiv_f86c9, Cond.initialized RJ9, Cond.code yJ9_floorDiv_f86c9 cJ9_floorDiv_f86c9 6 (some .long)]
def wsX5_cue : List Cond := .code yX5_cue cX5_cue 2 (some .long) :: ((wsX5_cue_r1 ++ (wsX5_cue_r2 ++ wsX5_cue_r3)) ++ wsX50 ++ wsX00 ++ wsX10 ++ wsX30)
def wsX5_lead : List Cond := .code yX5_lead cX5_lead 3 (some .int) :: ([.classLink RX5 47 "java/lang/IllegalArgumentException", .initialized "java/lang/IllegalArgumentException", .constant RX5 186 (60000), .fieldLink RX5 40 "PageTurner" "turnLead" "I"] ++ wsX50 ++ (vx_atS RX5 51 "java/lang/IllegalArgumentException" ["java/lang/RuntimeException", "java/lang/Exception"]).filter goodWord)
def wsX6_init_r1 : List Cond := [Cond.methodLink RX6 1 objectInit, Cond.instanceMethod objectInit, Cond.code objectInit ⟨#[0xb1]⟩ 1 none, Cond.arrayClass .int, Cond.fieldLink RX6 9 "PageTurnerModel" "tape" "[I", Cond.fieldLink RX6 13 "PageTurnerModel" "faultPlace" "I", Cond.fieldLink RX6 17 "PageTurnerModel" "kind" "[I", Cond.fieldLink RX6 20 "PageTurnerModel" "many" "[I", Cond.fieldLink RX6 23 "PageTurnerModel" "pitch" "[I", Cond.fieldLink RX6 26 "PageTurnerModel" "beat" "[I", Cond.fieldLink RX6 29 "PageTurnerModel" "size" "[I", Cond.fieldLink RX6 32 "PageTurnerModel" "measure" "[I", Cond.fieldLink RX6 35 "PageTurnerModel" "page" "[I", Cond.fieldLink RX6 38 "PageTurnerModel" "leads" "[I", Cond.arrayClass .boolean, Cond.fieldLink RX6 41 "PageTurnerModel" "isMarked" "[Z", Cond.fieldLink RX6 45 "PageTurnerModel" "isCue" "[Z", Cond.fieldLink RX6 48 "PageTurnerModel" "old" "[I", Cond.fieldLink RX6 51 "PageTurnerModel" "time" "[I", Cond.fieldLink RX6 54 "PageTurnerModel" "placeEvent" "[I", Cond.fieldLink RX6 57 "PageTurnerModel" "placeBits" "[I", Cond.classLink RX6 60 "[[I", Cond.fieldLink RX6 62 "PageTurnerModel" "costs" "[[I", Cond.fieldLink RX6 65 "PageTurnerModel" "open" "[I"]
def wsX6_init_r2 : List Cond := [Cond.fieldLink RX6 68 "PageTurnerModel" "price" "[I", Cond.fieldLink RX6 71 "PageTurnerModel" "anchorEvent" "[I", Cond.fieldLink RX6 74 "PageTurnerModel" "anchorTime" "[I", Cond.fieldLink RX6 77 "PageTurnerModel" "lead" "I"]
def wsX6_init : List Cond := .code yX6_init cX6_init 1 none :: ((wsX6_init_r1 ++ wsX6_init_r2) ++ wsX60)
def wsX6_thrown : List Cond := .code yX6_thrown cX6_thrown 1 (some .int) :: ([.fieldLink RX6 80 "PageTurnerModel" "code" "I"] ++ wsX60)
def wsX6_fail : List Cond := .code yX6_fail cX6_fail 1 (some .int) :: ([.fieldLink RX6 80 "PageTurnerModel" "code" "I"] ++ wsX60)
def wsX6_feed : List Cond := .code yX6_feed cX6_feed 8 (some .int) :: ([.fieldLink RX6 80 "PageTurnerModel" "code" "I", .fieldLink RX6 83 "PageTurnerModel" "taped" "I", .fieldLink RX6 9 "PageTurnerModel" "tape" "[I"] ++ wsX60)
def wsX6_byteAt : List Cond := .code yX6_byteAt cX6_byteAt 2 (some .int) :: ([.fieldLink RX6 86 "PageTurnerModel" "length" "I", .fieldLink RX6 9 "PageTurnerModel" "tape" "[I"] ++ wsX60)
def wsX6_isDigit : List Cond := .code yX6_isDigit cX6_isDigit 1 (some .boolean) :: ([])
def wsX6_baseOf : List Cond := .code yX6_baseOf cX6_baseOf 1 (some .int) :: ([])
def wsX6_next : List Cond := .code yX6_next cX6_next 5 none :: ([.fieldLink RX6 89 "PageTurnerModel" "at" "I", .fieldLink RX6 96 "PageTurnerModel" "begins" "I", .fieldLink RX6 99 "PageTurnerModel" "sign" "I", .fieldLink RX6 102 "PageTurnerModel" "token" "I", .fieldLink RX6 109 "PageTurnerModel" "number" "I", .methodLink RX6 112 Lib.Math.min.name, .static Lib.Math.min.name, .initialized "java/lang/Math", .code Lib.Math.min.name Lib.Math.min.code 2 (some .int), .fieldLink RX6 121 "PageTurnerModel" "ends" "I", .methodLink RX6 92 yX6_byteAt, .instanceMethod yX6_byteAt, .selects RX6 yX6_byteAt yX6_byteAt, .initialized RX6, .code yX6_byteAt cX6_byteAt 2 (some .int), .fieldLink RX6 86 "PageTurnerModel" "length" "I", .fieldLink RX6 9 "PageTurnerModel" "tape" "[I", .methodLink RX6 105 yX6_isDigit, .static yX6_isDigit, .code yX6_isDigit cX6_isDigit 1 (some .boolean), .methodLink RX6 118 yX6_baseOf, .static yX6_baseOf, .code yX6_baseOf cX6_baseOf 1 (some .int)] ++ wsX60)
def wsX6_wrong : List Cond := .code yX6_wrong cX6_wrong 2 none :: ([.fieldLink RX6 124 "PageTurnerModel" "bad" "I", .fieldLink RX6 96 "PageTurnerModel" "begins" "I", .fieldLink RX6 127 "PageTurnerModel" "badPlace" "I"] ++ wsX60)
def wsX6_isSign : List Cond := .code yX6_isSign cX6_isSign 2 (some .boolean) :: ([.fieldLink RX6 102 "PageTurnerModel" "token" "I", .fieldLink RX6 99 "PageTurnerModel" "sign" "I"] ++ wsX60)
def wsX6_need_r1 : List Cond := [Cond.fieldLink RX6 124 "PageTurnerModel" "bad" "I", Cond.methodLink RX6 130 yX6_isSign, Cond.instanceMethod yX6_isSign, Cond.selects RX6 yX6_isSign yX6_isSign, Cond.initialized RX6, Cond.code yX6_isSign cX6_isSign 2 (some .boolean), Cond.fieldLink RX6 102 "PageTurnerModel" "token" "I", Cond.fieldLink RX6 99 "PageTurnerModel" "sign" "I", Cond.methodLink RX6 133 yX6_next, Cond.instanceMethod yX6_next, Cond.selects RX6 yX6_next yX6_next, Cond.code yX6_next cX6_next 5 none, Cond.fieldLink RX6 89 "PageTurnerModel" "at" "I", Cond.fieldLink RX6 96 "PageTurnerModel" "begins" "I", Cond.fieldLink RX6 109 "PageTurnerModel" "number" "I", Cond.methodLink RX6 112 Lib.Math.min.name, Cond.static Lib.Math.min.name, Cond.initialized "java/lang/Math", Cond.code Lib.Math.min.name Lib.Math.min.code 2 (some .int), Cond.fieldLink RX6 121 "PageTurnerModel" "ends" "I", Cond.methodLink RX6 92 yX6_byteAt, Cond.instanceMethod yX6_byteAt, Cond.selects RX6 yX6_byteAt yX6_byteAt, Cond.code yX6_byteAt cX6_byteAt 2 (some .int)]
def wsX6_need_r2 : List Cond := [Cond.fieldLink RX6 86 "PageTurnerModel" "length" "I", Cond.fieldLink RX6 9 "PageTurnerModel" "tape" "[I", Cond.methodLink RX6 105 yX6_isDigit, Cond.static yX6_isDigit, Cond.code yX6_isDigit cX6_isDigit 1 (some .boolean), Cond.methodLink RX6 118 yX6_baseOf, Cond.static yX6_baseOf, Cond.code yX6_baseOf cX6_baseOf 1 (some .int), Cond.methodLink RX6 136 yX6_wrong, Cond.instanceMethod yX6_wrong, Cond.selects RX6 yX6_wrong yX6_wrong, Cond.code yX6_wrong cX6_wrong 2 none, Cond.fieldLink RX6 127 "PageTurnerModel" "badPlace" "I"]
def wsX6_need : List Cond := .code yX6_need cX6_need 2 none :: ((wsX6_need_r1 ++ wsX6_need_r2) ++ wsX60)
def wsX6_beginsEvent : List Cond := .code yX6_beginsEvent cX6_beginsEvent 1 (some .boolean) :: ([.fieldLink RX6 102 "PageTurnerModel" "token" "I", .methodLink RX6 130 yX6_isSign, .instanceMethod yX6_isSign, .selects RX6 yX6_isSign yX6_isSign, .initialized RX6, .code yX6_isSign cX6_isSign 2 (some .boolean), .fieldLink RX6 99 "PageTurnerModel" "sign" "I"] ++ wsX60)
def wsX6_beginsMarked : List Cond := .code yX6_beginsMarked cX6_beginsMarked 1 (some .boolean) :: ([.methodLink RX6 140 yX6_beginsEvent, .instanceMethod yX6_beginsEvent, .selects RX6 yX6_beginsEvent yX6_beginsEvent, .initialized RX6, .code yX6_beginsEvent cX6_beginsEvent 1 (some .boolean), .fieldLink RX6 102 "PageTurnerModel" "token" "I", .methodLink RX6 130 yX6_isSign, .instanceMethod yX6_isSign, .selects RX6 yX6_isSign yX6_isSign, .code yX6_isSign cX6_isSign 2 (some .boolean), .fieldLink RX6 99 "PageTurnerModel" "sign" "I"] ++ wsX60)
def wsX6_readPitch_r1 : List Cond := [Cond.fieldLink RX6 20 "PageTurnerModel" "many" "[I", Cond.fieldLink RX6 23 "PageTurnerModel" "pitch" "[I", Cond.fieldLink RX6 109 "PageTurnerModel" "number" "I", Cond.fieldLink RX6 124 "PageTurnerModel" "bad" "I", Cond.methodLink RX6 136 yX6_wrong, Cond.instanceMethod yX6_wrong, Cond.selects RX6 yX6_wrong yX6_wrong, Cond.initialized RX6, Cond.code yX6_wrong cX6_wrong 2 none, Cond.fieldLink RX6 96 "PageTurnerModel" "begins" "I", Cond.fieldLink RX6 127 "PageTurnerModel" "badPlace" "I", Cond.methodLink RX6 133 yX6_next, Cond.instanceMethod yX6_next, Cond.selects RX6 yX6_next yX6_next, Cond.code yX6_next cX6_next 5 none, Cond.fieldLink RX6 89 "PageTurnerModel" "at" "I", Cond.fieldLink RX6 99 "PageTurnerModel" "sign" "I", Cond.fieldLink RX6 102 "PageTurnerModel" "token" "I", Cond.methodLink RX6 112 Lib.Math.min.name, Cond.static Lib.Math.min.name, Cond.initialized "java/lang/Math", Cond.code Lib.Math.min.name Lib.Math.min.code 2 (some .int), Cond.fieldLink RX6 121 "PageTurnerModel" "ends" "I", Cond.methodLink RX6 92 yX6_byteAt]
def wsX6_readPitch_r2 : List Cond := [Cond.instanceMethod yX6_byteAt, Cond.selects RX6 yX6_byteAt yX6_byteAt, Cond.code yX6_byteAt cX6_byteAt 2 (some .int), Cond.fieldLink RX6 86 "PageTurnerModel" "length" "I", Cond.fieldLink RX6 9 "PageTurnerModel" "tape" "[I", Cond.methodLink RX6 105 yX6_isDigit, Cond.static yX6_isDigit, Cond.code yX6_isDigit cX6_isDigit 1 (some .boolean), Cond.methodLink RX6 118 yX6_baseOf, Cond.static yX6_baseOf, Cond.code yX6_baseOf cX6_baseOf 1 (some .int)]
def wsX6_readPitch : List Cond := .code yX6_readPitch cX6_readPitch 3 none :: ((wsX6_readPitch_r1 ++ wsX6_readPitch_r2) ++ wsX60)
def wsX6_readMarked_r1 : List Cond := [Cond.fieldLink RX6 159 "PageTurnerModel" "marks" "I", Cond.fieldLink RX6 124 "PageTurnerModel" "bad" "I", Cond.fieldLink RX6 156 "PageTurnerModel" "cues" "I", Cond.fieldLink RX6 144 "PageTurnerModel" "events" "I", Cond.fieldLink RX6 20 "PageTurnerModel" "many" "[I", Cond.fieldLink RX6 38 "PageTurnerModel" "leads" "[I", Cond.fieldLink RX6 41 "PageTurnerModel" "isMarked" "[Z", Cond.fieldLink RX6 45 "PageTurnerModel" "isCue" "[Z", Cond.fieldLink RX6 32 "PageTurnerModel" "measure" "[I", Cond.fieldLink RX6 147 "PageTurnerModel" "measures" "I", Cond.fieldLink RX6 35 "PageTurnerModel" "page" "[I", Cond.fieldLink RX6 26 "PageTurnerModel" "beat" "[I", Cond.fieldLink RX6 153 "PageTurnerModel" "beats" "I", Cond.fieldLink RX6 17 "PageTurnerModel" "kind" "[I", Cond.fieldLink RX6 102 "PageTurnerModel" "token" "I", Cond.fieldLink RX6 121 "PageTurnerModel" "ends" "I", Cond.fieldLink RX6 96 "PageTurnerModel" "begins" "I", Cond.fieldLink RX6 109 "PageTurnerModel" "number" "I", Cond.fieldLink RX6 29 "PageTurnerModel" "size" "[I", Cond.methodLink RX6 130 yX6_isSign, Cond.instanceMethod yX6_isSign, Cond.selects RX6 yX6_isSign yX6_isSign, Cond.initialized RX6, Cond.code yX6_isSign cX6_isSign 2 (some .boolean)]
def wsX6_readMarked_r2 : List Cond := [Cond.fieldLink RX6 99 "PageTurnerModel" "sign" "I", Cond.methodLink RX6 136 yX6_wrong, Cond.instanceMethod yX6_wrong, Cond.selects RX6 yX6_wrong yX6_wrong, Cond.code yX6_wrong cX6_wrong 2 none, Cond.fieldLink RX6 127 "PageTurnerModel" "badPlace" "I", Cond.methodLink RX6 133 yX6_next, Cond.instanceMethod yX6_next, Cond.selects RX6 yX6_next yX6_next, Cond.code yX6_next cX6_next 5 none, Cond.fieldLink RX6 89 "PageTurnerModel" "at" "I", Cond.methodLink RX6 112 Lib.Math.min.name, Cond.static Lib.Math.min.name, Cond.initialized "java/lang/Math", Cond.code Lib.Math.min.name Lib.Math.min.code 2 (some .int), Cond.methodLink RX6 92 yX6_byteAt, Cond.instanceMethod yX6_byteAt, Cond.selects RX6 yX6_byteAt yX6_byteAt, Cond.code yX6_byteAt cX6_byteAt 2 (some .int), Cond.fieldLink RX6 86 "PageTurnerModel" "length" "I", Cond.fieldLink RX6 9 "PageTurnerModel" "tape" "[I", Cond.methodLink RX6 105 yX6_isDigit, Cond.static yX6_isDigit, Cond.code yX6_isDigit cX6_isDigit 1 (some .boolean)]
def wsX6_readMarked_r3 : List Cond := [Cond.methodLink RX6 118 yX6_baseOf, Cond.static yX6_baseOf, Cond.code yX6_baseOf cX6_baseOf 1 (some .int), Cond.methodLink RX6 140 yX6_beginsEvent, Cond.instanceMethod yX6_beginsEvent, Cond.selects RX6 yX6_beginsEvent yX6_beginsEvent, Cond.code yX6_beginsEvent cX6_beginsEvent 1 (some .boolean), Cond.methodLink RX6 174 yX6_readPitch, Cond.instanceMethod yX6_readPitch, Cond.selects RX6 yX6_readPitch yX6_readPitch, Cond.code yX6_readPitch cX6_readPitch 3 none, Cond.fieldLink RX6 23 "PageTurnerModel" "pitch" "[I", Cond.methodLink RX6 177 yX6_need, Cond.instanceMethod yX6_need, Cond.selects RX6 yX6_need yX6_need, Cond.code yX6_need cX6_need 2 none]
def wsX6_readMarked : List Cond := .code yX6_readMarked cX6_readMarked 5 none :: ((wsX6_readMarked_r1 ++ (wsX6_readMarked_r2 ++ wsX6_readMarked_r3)) ++ wsX60)
def wsX6_readAll_r1 : List Cond := [Cond.fieldLink RX6 144 "PageTurnerModel" "events" "I", Cond.fieldLink RX6 147 "PageTurnerModel" "measures" "I", Cond.fieldLink RX6 150 "PageTurnerModel" "pages" "I", Cond.fieldLink RX6 153 "PageTurnerModel" "beats" "I", Cond.fieldLink RX6 156 "PageTurnerModel" "cues" "I", Cond.fieldLink RX6 159 "PageTurnerModel" "marks" "I", Cond.fieldLink RX6 162 "PageTurnerModel" "repeatFrom" "I", Cond.fieldLink RX6 124 "PageTurnerModel" "bad" "I", Cond.fieldLink RX6 89 "PageTurnerModel" "at" "I", Cond.fieldLink RX6 102 "PageTurnerModel" "token" "I", Cond.fieldLink RX6 165 "PageTurnerModel" "firstOfMeasure" "I", Cond.fieldLink RX6 38 "PageTurnerModel" "leads" "[I", Cond.methodLink RX6 133 yX6_next, Cond.instanceMethod yX6_next, Cond.selects RX6 yX6_next yX6_next, Cond.initialized RX6, Cond.code yX6_next cX6_next 5 none, Cond.fieldLink RX6 96 "PageTurnerModel" "begins" "I", Cond.fieldLink RX6 99 "PageTurnerModel" "sign" "I", Cond.fieldLink RX6 109 "PageTurnerModel" "number" "I", Cond.methodLink RX6 112 Lib.Math.min.name, Cond.static Lib.Math.min.name, Cond.initialized "java/lang/Math", Cond.code Lib.Math.min.name Lib.Math.min.code 2 (some .int)]
def wsX6_readAll_r2 : List Cond := [Cond.fieldLink RX6 121 "PageTurnerModel" "ends" "I", Cond.methodLink RX6 92 yX6_byteAt, Cond.instanceMethod yX6_byteAt, Cond.selects RX6 yX6_byteAt yX6_byteAt, Cond.code yX6_byteAt cX6_byteAt 2 (some .int), Cond.fieldLink RX6 86 "PageTurnerModel" "length" "I", Cond.fieldLink RX6 9 "PageTurnerModel" "tape" "[I", Cond.methodLink RX6 105 yX6_isDigit, Cond.static yX6_isDigit, Cond.code yX6_isDigit cX6_isDigit 1 (some .boolean), Cond.methodLink RX6 118 yX6_baseOf, Cond.static yX6_baseOf, Cond.code yX6_baseOf cX6_baseOf 1 (some .int), Cond.methodLink RX6 130 yX6_isSign, Cond.instanceMethod yX6_isSign, Cond.selects RX6 yX6_isSign yX6_isSign, Cond.code yX6_isSign cX6_isSign 2 (some .boolean), Cond.methodLink RX6 168 yX6_beginsMarked, Cond.instanceMethod yX6_beginsMarked, Cond.selects RX6 yX6_beginsMarked yX6_beginsMarked, Cond.code yX6_beginsMarked cX6_beginsMarked 1 (some .boolean), Cond.methodLink RX6 140 yX6_beginsEvent, Cond.instanceMethod yX6_beginsEvent, Cond.selects RX6 yX6_beginsEvent yX6_beginsEvent]
def wsX6_readAll_r3 : List Cond := [Cond.code yX6_beginsEvent cX6_beginsEvent 1 (some .boolean), Cond.methodLink RX6 136 yX6_wrong, Cond.instanceMethod yX6_wrong, Cond.selects RX6 yX6_wrong yX6_wrong, Cond.code yX6_wrong cX6_wrong 2 none, Cond.fieldLink RX6 127 "PageTurnerModel" "badPlace" "I", Cond.methodLink RX6 171 yX6_readMarked, Cond.instanceMethod yX6_readMarked, Cond.selects RX6 yX6_readMarked yX6_readMarked, Cond.code yX6_readMarked cX6_readMarked 5 none, Cond.fieldLink RX6 20 "PageTurnerModel" "many" "[I", Cond.fieldLink RX6 41 "PageTurnerModel" "isMarked" "[Z", Cond.fieldLink RX6 45 "PageTurnerModel" "isCue" "[Z", Cond.fieldLink RX6 32 "PageTurnerModel" "measure" "[I", Cond.fieldLink RX6 35 "PageTurnerModel" "page" "[I", Cond.fieldLink RX6 26 "PageTurnerModel" "beat" "[I", Cond.fieldLink RX6 17 "PageTurnerModel" "kind" "[I", Cond.fieldLink RX6 29 "PageTurnerModel" "size" "[I", Cond.methodLink RX6 174 yX6_readPitch, Cond.instanceMethod yX6_readPitch, Cond.selects RX6 yX6_readPitch yX6_readPitch, Cond.code yX6_readPitch cX6_readPitch 3 none, Cond.fieldLink RX6 23 "PageTurnerModel" "pitch" "[I", Cond.methodLink RX6 177 yX6_need]
def wsX6_readAll_r4 : List Cond := [Cond.instanceMethod yX6_need, Cond.selects RX6 yX6_need yX6_need, Cond.code yX6_need cX6_need 2 none]
def wsX6_readAll : List Cond := .code yX6_readAll cX6_readAll 2 none :: ((wsX6_readAll_r1 ++ (wsX6_readAll_r2 ++ (wsX6_readAll_r3 ++ wsX6_readAll_r4))) ++ wsX60)
def wsX6_begin : List Cond := .code yX6_begin cX6_begin 2 none :: ([.fieldLink RX6 196 "PageTurnerModel" "notes" "I", .fieldLink RX6 199 "PageTurnerModel" "anchors" "I", .fieldLink RX6 62 "PageTurnerModel" "costs" "[[I", .constant RX6 202 (268435456), .fieldLink RX6 54 "PageTurnerModel" "placeEvent" "[I", .fieldLink RX6 57 "PageTurnerModel" "placeBits" "[I"] ++ wsX60)
def wsX6_music_r1 : List Cond := [Cond.fieldLink RX6 80 "PageTurnerModel" "code" "I", Cond.fieldLink RX6 83 "PageTurnerModel" "taped" "I", Cond.fieldLink RX6 86 "PageTurnerModel" "length" "I", Cond.fieldLink RX6 124 "PageTurnerModel" "bad" "I", Cond.fieldLink RX6 187 "PageTurnerModel" "fault" "I", Cond.fieldLink RX6 127 "PageTurnerModel" "badPlace" "I", Cond.fieldLink RX6 13 "PageTurnerModel" "faultPlace" "I", Cond.fieldLink RX6 48 "PageTurnerModel" "old" "[I", Cond.fieldLink RX6 9 "PageTurnerModel" "tape" "[I", Cond.fieldLink RX6 190 "PageTurnerModel" "oldSize" "I", Cond.methodLink RX6 180 yX6_fail, Cond.instanceMethod yX6_fail, Cond.selects RX6 yX6_fail yX6_fail, Cond.initialized RX6, Cond.code yX6_fail cX6_fail 1 (some .int), Cond.methodLink RX6 184 yX6_readAll, Cond.instanceMethod yX6_readAll, Cond.selects RX6 yX6_readAll yX6_readAll, Cond.code yX6_readAll cX6_readAll 2 none, Cond.fieldLink RX6 144 "PageTurnerModel" "events" "I", Cond.fieldLink RX6 147 "PageTurnerModel" "measures" "I", Cond.fieldLink RX6 150 "PageTurnerModel" "pages" "I", Cond.fieldLink RX6 153 "PageTurnerModel" "beats" "I", Cond.fieldLink RX6 156 "PageTurnerModel" "cues" "I"]
def wsX6_music_r2 : List Cond := [Cond.fieldLink RX6 159 "PageTurnerModel" "marks" "I", Cond.fieldLink RX6 162 "PageTurnerModel" "repeatFrom" "I", Cond.fieldLink RX6 89 "PageTurnerModel" "at" "I", Cond.fieldLink RX6 102 "PageTurnerModel" "token" "I", Cond.fieldLink RX6 165 "PageTurnerModel" "firstOfMeasure" "I", Cond.fieldLink RX6 38 "PageTurnerModel" "leads" "[I", Cond.methodLink RX6 133 yX6_next, Cond.instanceMethod yX6_next, Cond.selects RX6 yX6_next yX6_next, Cond.code yX6_next cX6_next 5 none, Cond.fieldLink RX6 96 "PageTurnerModel" "begins" "I", Cond.fieldLink RX6 99 "PageTurnerModel" "sign" "I", Cond.fieldLink RX6 109 "PageTurnerModel" "number" "I", Cond.methodLink RX6 112 Lib.Math.min.name, Cond.static Lib.Math.min.name, Cond.initialized "java/lang/Math", Cond.code Lib.Math.min.name Lib.Math.min.code 2 (some .int), Cond.fieldLink RX6 121 "PageTurnerModel" "ends" "I", Cond.methodLink RX6 92 yX6_byteAt, Cond.instanceMethod yX6_byteAt, Cond.selects RX6 yX6_byteAt yX6_byteAt, Cond.code yX6_byteAt cX6_byteAt 2 (some .int), Cond.methodLink RX6 105 yX6_isDigit, Cond.static yX6_isDigit]
def wsX6_music_r3 : List Cond := [Cond.code yX6_isDigit cX6_isDigit 1 (some .boolean), Cond.methodLink RX6 118 yX6_baseOf, Cond.static yX6_baseOf, Cond.code yX6_baseOf cX6_baseOf 1 (some .int), Cond.methodLink RX6 130 yX6_isSign, Cond.instanceMethod yX6_isSign, Cond.selects RX6 yX6_isSign yX6_isSign, Cond.code yX6_isSign cX6_isSign 2 (some .boolean), Cond.methodLink RX6 168 yX6_beginsMarked, Cond.instanceMethod yX6_beginsMarked, Cond.selects RX6 yX6_beginsMarked yX6_beginsMarked, Cond.code yX6_beginsMarked cX6_beginsMarked 1 (some .boolean), Cond.methodLink RX6 140 yX6_beginsEvent, Cond.instanceMethod yX6_beginsEvent, Cond.selects RX6 yX6_beginsEvent yX6_beginsEvent, Cond.code yX6_beginsEvent cX6_beginsEvent 1 (some .boolean), Cond.methodLink RX6 136 yX6_wrong, Cond.instanceMethod yX6_wrong, Cond.selects RX6 yX6_wrong yX6_wrong, Cond.code yX6_wrong cX6_wrong 2 none, Cond.methodLink RX6 171 yX6_readMarked, Cond.instanceMethod yX6_readMarked, Cond.selects RX6 yX6_readMarked yX6_readMarked, Cond.code yX6_readMarked cX6_readMarked 5 none]
def wsX6_music_r4 : List Cond := [Cond.fieldLink RX6 20 "PageTurnerModel" "many" "[I", Cond.fieldLink RX6 41 "PageTurnerModel" "isMarked" "[Z", Cond.fieldLink RX6 45 "PageTurnerModel" "isCue" "[Z", Cond.fieldLink RX6 32 "PageTurnerModel" "measure" "[I", Cond.fieldLink RX6 35 "PageTurnerModel" "page" "[I", Cond.fieldLink RX6 26 "PageTurnerModel" "beat" "[I", Cond.fieldLink RX6 17 "PageTurnerModel" "kind" "[I", Cond.fieldLink RX6 29 "PageTurnerModel" "size" "[I", Cond.methodLink RX6 174 yX6_readPitch, Cond.instanceMethod yX6_readPitch, Cond.selects RX6 yX6_readPitch yX6_readPitch, Cond.code yX6_readPitch cX6_readPitch 3 none, Cond.fieldLink RX6 23 "PageTurnerModel" "pitch" "[I", Cond.methodLink RX6 177 yX6_need, Cond.instanceMethod yX6_need, Cond.selects RX6 yX6_need yX6_need, Cond.code yX6_need cX6_need 2 none, Cond.methodLink RX6 193 yX6_begin, Cond.instanceMethod yX6_begin, Cond.selects RX6 yX6_begin yX6_begin, Cond.code yX6_begin cX6_begin 2 none, Cond.fieldLink RX6 196 "PageTurnerModel" "notes" "I", Cond.fieldLink RX6 199 "PageTurnerModel" "anchors" "I", Cond.fieldLink RX6 62 "PageTurnerModel" "costs" "[[I"]
def wsX6_music_r5 : List Cond := [Cond.constant RX6 202 (268435456), Cond.fieldLink RX6 54 "PageTurnerModel" "placeEvent" "[I", Cond.fieldLink RX6 57 "PageTurnerModel" "placeBits" "[I"]
def wsX6_music : List Cond := .code yX6_music cX6_music 3 (some .int) :: ((wsX6_music_r1 ++ (wsX6_music_r2 ++ (wsX6_music_r3 ++ (wsX6_music_r4 ++ wsX6_music_r5)))) ++ wsX60)
def wsX6_fault : List Cond := .code yX6_fault cX6_fault 2 (some .int) :: ([.fieldLink RX6 80 "PageTurnerModel" "code" "I", .fieldLink RX6 187 "PageTurnerModel" "fault" "I", .fieldLink RX6 13 "PageTurnerModel" "faultPlace" "I", .methodLink RX6 180 yX6_fail, .instanceMethod yX6_fail, .selects RX6 yX6_fail yX6_fail, .initialized RX6, .code yX6_fail cX6_fail 1 (some .int)] ++ wsX60)
def wsX6_count : List Cond := .code yX6_count cX6_count 2 (some .int) :: ([.fieldLink RX6 80 "PageTurnerModel" "code" "I", .fieldLink RX6 144 "PageTurnerModel" "events" "I", .fieldLink RX6 147 "PageTurnerModel" "measures" "I", .fieldLink RX6 150 "PageTurnerModel" "pages" "I", .fieldLink RX6 153 "PageTurnerModel" "beats" "I", .fieldLink RX6 196 "PageTurnerModel" "notes" "I", .fieldLink RX6 199 "PageTurnerModel" "anchors" "I", .fieldLink RX6 83 "PageTurnerModel" "taped" "I", .fieldLink RX6 156 "PageTurnerModel" "cues" "I", .methodLink RX6 180 yX6_fail, .instanceMethod yX6_fail, .selects RX6 yX6_fail yX6_fail, .initialized RX6, .code yX6_fail cX6_fail 1 (some .int)] ++ wsX60)
def wsX6_event : List Cond := .code yX6_event cX6_event 3 (some .int) :: ([.fieldLink RX6 80 "PageTurnerModel" "code" "I", .fieldLink RX6 144 "PageTurnerModel" "events" "I", .fieldLink RX6 20 "PageTurnerModel" "many" "[I", .fieldLink RX6 17 "PageTurnerModel" "kind" "[I", .fieldLink RX6 26 "PageTurnerModel" "beat" "[I", .fieldLink RX6 29 "PageTurnerModel" "size" "[I", .fieldLink RX6 32 "PageTurnerModel" "measure" "[I", .fieldLink RX6 35 "PageTurnerModel" "page" "[I", .fieldLink RX6 41 "PageTurnerModel" "isMarked" "[Z", .fieldLink RX6 45 "PageTurnerModel" "isCue" "[Z", .fieldLink RX6 38 "PageTurnerModel" "leads" "[I", .fieldLink RX6 23 "PageTurnerModel" "pitch" "[I", .methodLink RX6 180 yX6_fail, .instanceMethod yX6_fail, .selects RX6 yX6_fail yX6_fail, .initialized RX6, .code yX6_fail cX6_fail 1 (some .int)] ++ wsX60)
def wsX6_price : List Cond := .code yX6_price cX6_price 4 (some .int) :: ([.fieldLink RX6 80 "PageTurnerModel" "code" "I", .fieldLink RX6 68 "PageTurnerModel" "price" "[I", .methodLink RX6 180 yX6_fail, .instanceMethod yX6_fail, .selects RX6 yX6_fail yX6_fail, .initialized RX6, .code yX6_fail cX6_fail 1 (some .int)] ++ wsX60)
def wsX6_full : List Cond := .code yX6_full cX6_full 2 (some .int) :: ([.fieldLink RX6 20 "PageTurnerModel" "many" "[I"] ++ wsX60)
def wsX6_ones : List Cond := .code yX6_ones cX6_ones 3 (some .int) :: ([])
def wsX6_bring : List Cond := .code yX6_bring cX6_bring 3 (some .boolean) :: ([.fieldLink RX6 65 "PageTurnerModel" "open" "[I"] ++ wsX60)
def wsX6_bringDown : List Cond := .code yX6_bringDown cX6_bringDown 8 none :: ([.fieldLink RX6 65 "PageTurnerModel" "open" "[I", .constant RX6 202 (268435456), .fieldLink RX6 144 "PageTurnerModel" "events" "I", .methodLink RX6 112 Lib.Math.min.name, .static Lib.Math.min.name, .initialized "java/lang/Math", .code Lib.Math.min.name Lib.Math.min.code 2 (some .int), .fieldLink RX6 68 "PageTurnerModel" "price" "[I", .fieldLink RX6 38 "PageTurnerModel" "leads" "[I", .fieldLink RX6 41 "PageTurnerModel" "isMarked" "[Z", .methodLink RX6 203 yX6_full, .instanceMethod yX6_full, .selects RX6 yX6_full yX6_full, .initialized RX6, .code yX6_full cX6_full 2 (some .int), .fieldLink RX6 20 "PageTurnerModel" "many" "[I", .methodLink RX6 206 yX6_ones, .static yX6_ones, .code yX6_ones cX6_ones 3 (some .int), .methodLink RX6 209 yX6_bring, .instanceMethod yX6_bring, .selects RX6 yX6_bring yX6_bring, .code yX6_bring cX6_bring 3 (some .boolean)] ++ wsX60)
def wsX6_come : List Cond := .code yX6_come cX6_come 4 none :: ([.methodLink RX6 112 Lib.Math.min.name, .static Lib.Math.min.name, .initialized "java/lang/Math", .code Lib.Math.min.name Lib.Math.min.code 2 (some .int)])
def wsX6_hear : List Cond := .code yX6_hear cX6_hear 9 none :: ([.constant RX6 202 (268435456), .fieldLink RX6 144 "PageTurnerModel" "events" "I", .fieldLink RX6 65 "PageTurnerModel" "open" "[I", .fieldLink RX6 68 "PageTurnerModel" "price" "[I", .fieldLink RX6 17 "PageTurnerModel" "kind" "[I", .fieldLink RX6 23 "PageTurnerModel" "pitch" "[I", .fieldLink RX6 20 "PageTurnerModel" "many" "[I", .methodLink RX6 203 yX6_full, .instanceMethod yX6_full, .selects RX6 yX6_full yX6_full, .initialized RX6, .code yX6_full cX6_full 2 (some .int), .methodLink RX6 213 yX6_come, .instanceMethod yX6_come, .selects RX6 yX6_come yX6_come, .code yX6_come cX6_come 4 none, .methodLink RX6 112 Lib.Math.min.name, .static Lib.Math.min.name, .initialized "java/lang/Math", .code Lib.Math.min.name Lib.Math.min.code 2 (some .int)] ++ wsX60)
def wsX6_findPlace : List Cond := .code yX6_findPlace cX6_findPlace 5 none :: ([.constant RX6 202 (268435456), .fieldLink RX6 144 "PageTurnerModel" "events" "I", .fieldLink RX6 62 "PageTurnerModel" "costs" "[[I", .fieldLink RX6 54 "PageTurnerModel" "placeEvent" "[I", .fieldLink RX6 57 "PageTurnerModel" "placeBits" "[I", .methodLink RX6 203 yX6_full, .instanceMethod yX6_full, .selects RX6 yX6_full yX6_full, .initialized RX6, .code yX6_full cX6_full 2 (some .int), .fieldLink RX6 20 "PageTurnerModel" "many" "[I"] ++ wsX60)
def wsX6_anchor : List Cond := .code yX6_anchor cX6_anchor 3 none :: ([.fieldLink RX6 199 "PageTurnerModel" "anchors" "I", .fieldLink RX6 196 "PageTurnerModel" "notes" "I", .fieldLink RX6 54 "PageTurnerModel" "placeEvent" "[I", .fieldLink RX6 71 "PageTurnerModel" "anchorEvent" "[I", .fieldLink RX6 74 "PageTurnerModel" "anchorTime" "[I", .fieldLink RX6 51 "PageTurnerModel" "time" "[I"] ++ wsX60)
def wsX6_heard_r1 : List Cond := [Cond.fieldLink RX6 80 "PageTurnerModel" "code" "I", Cond.constant RX6 217 (100000000), Cond.fieldLink RX6 144 "PageTurnerModel" "events" "I", Cond.fieldLink RX6 196 "PageTurnerModel" "notes" "I", Cond.fieldLink RX6 51 "PageTurnerModel" "time" "[I", Cond.fieldLink RX6 62 "PageTurnerModel" "costs" "[[I", Cond.fieldLink RX6 54 "PageTurnerModel" "placeEvent" "[I", Cond.methodLink RX6 180 yX6_fail, Cond.instanceMethod yX6_fail, Cond.selects RX6 yX6_fail yX6_fail, Cond.initialized RX6, Cond.code yX6_fail cX6_fail 1 (some .int), Cond.methodLink RX6 218 yX6_bringDown, Cond.instanceMethod yX6_bringDown, Cond.selects RX6 yX6_bringDown yX6_bringDown, Cond.code yX6_bringDown cX6_bringDown 8 none, Cond.fieldLink RX6 65 "PageTurnerModel" "open" "[I", Cond.constant RX6 202 (268435456), Cond.methodLink RX6 112 Lib.Math.min.name, Cond.static Lib.Math.min.name, Cond.initialized "java/lang/Math", Cond.code Lib.Math.min.name Lib.Math.min.code 2 (some .int), Cond.fieldLink RX6 68 "PageTurnerModel" "price" "[I", Cond.fieldLink RX6 38 "PageTurnerModel" "leads" "[I"]
def wsX6_heard_r2 : List Cond := [Cond.fieldLink RX6 41 "PageTurnerModel" "isMarked" "[Z", Cond.methodLink RX6 203 yX6_full, Cond.instanceMethod yX6_full, Cond.selects RX6 yX6_full yX6_full, Cond.code yX6_full cX6_full 2 (some .int), Cond.fieldLink RX6 20 "PageTurnerModel" "many" "[I", Cond.methodLink RX6 206 yX6_ones, Cond.static yX6_ones, Cond.code yX6_ones cX6_ones 3 (some .int), Cond.methodLink RX6 209 yX6_bring, Cond.instanceMethod yX6_bring, Cond.selects RX6 yX6_bring yX6_bring, Cond.code yX6_bring cX6_bring 3 (some .boolean), Cond.methodLink RX6 222 yX6_hear, Cond.instanceMethod yX6_hear, Cond.selects RX6 yX6_hear yX6_hear, Cond.code yX6_hear cX6_hear 9 none, Cond.fieldLink RX6 17 "PageTurnerModel" "kind" "[I", Cond.fieldLink RX6 23 "PageTurnerModel" "pitch" "[I", Cond.methodLink RX6 213 yX6_come, Cond.instanceMethod yX6_come, Cond.selects RX6 yX6_come yX6_come, Cond.code yX6_come cX6_come 4 none, Cond.methodLink RX6 226 yX6_findPlace]
def wsX6_heard_r3 : List Cond := [Cond.instanceMethod yX6_findPlace, Cond.selects RX6 yX6_findPlace yX6_findPlace, Cond.code yX6_findPlace cX6_findPlace 5 none, Cond.fieldLink RX6 57 "PageTurnerModel" "placeBits" "[I", Cond.methodLink RX6 229 yX6_anchor, Cond.instanceMethod yX6_anchor, Cond.selects RX6 yX6_anchor yX6_anchor, Cond.code yX6_anchor cX6_anchor 3 none, Cond.fieldLink RX6 199 "PageTurnerModel" "anchors" "I", Cond.fieldLink RX6 71 "PageTurnerModel" "anchorEvent" "[I", Cond.fieldLink RX6 74 "PageTurnerModel" "anchorTime" "[I"]
def wsX6_heard : List Cond := .code yX6_heard cX6_heard 3 (some .int) :: ((wsX6_heard_r1 ++ (wsX6_heard_r2 ++ wsX6_heard_r3)) ++ wsX60)
def wsX6_back : List Cond := .code yX6_back cX6_back 1 (some .int) :: ([.fieldLink RX6 80 "PageTurnerModel" "code" "I", .fieldLink RX6 196 "PageTurnerModel" "notes" "I", .methodLink RX6 229 yX6_anchor, .instanceMethod yX6_anchor, .selects RX6 yX6_anchor yX6_anchor, .initialized RX6, .code yX6_anchor cX6_anchor 3 none, .fieldLink RX6 199 "PageTurnerModel" "anchors" "I", .fieldLink RX6 54 "PageTurnerModel" "placeEvent" "[I", .fieldLink RX6 71 "PageTurnerModel" "anchorEvent" "[I", .fieldLink RX6 74 "PageTurnerModel" "anchorTime" "[I", .fieldLink RX6 51 "PageTurnerModel" "time" "[I"] ++ wsX60)
def wsX6_again : List Cond := .code yX6_again cX6_again 2 (some .int) :: ([.fieldLink RX6 80 "PageTurnerModel" "code" "I", .fieldLink RX6 196 "PageTurnerModel" "notes" "I", .methodLink RX6 193 yX6_begin, .instanceMethod yX6_begin, .selects RX6 yX6_begin yX6_begin, .initialized RX6, .code yX6_begin cX6_begin 2 none, .fieldLink RX6 199 "PageTurnerModel" "anchors" "I", .fieldLink RX6 62 "PageTurnerModel" "costs" "[[I", .constant RX6 202 (268435456), .fieldLink RX6 54 "PageTurnerModel" "placeEvent" "[I", .fieldLink RX6 57 "PageTurnerModel" "placeBits" "[I"] ++ wsX60)
def wsX6_place : List Cond := .code yX6_place cX6_place 3 (some .int) :: ([.fieldLink RX6 80 "PageTurnerModel" "code" "I", .fieldLink RX6 144 "PageTurnerModel" "events" "I", .fieldLink RX6 54 "PageTurnerModel" "placeEvent" "[I", .fieldLink RX6 196 "PageTurnerModel" "notes" "I", .fieldLink RX6 57 "PageTurnerModel" "placeBits" "[I", .fieldLink RX6 62 "PageTurnerModel" "costs" "[[I", .fieldLink RX6 32 "PageTurnerModel" "measure" "[I", .fieldLink RX6 35 "PageTurnerModel" "page" "[I", .methodLink RX6 180 yX6_fail, .instanceMethod yX6_fail, .selects RX6 yX6_fail yX6_fail, .initialized RX6, .code yX6_fail cX6_fail 1 (some .int)] ++ wsX60)
def wsX6_cost : List Cond := .code yX6_cost cX6_cost 4 (some .int) :: ([.fieldLink RX6 80 "PageTurnerModel" "code" "I", .fieldLink RX6 144 "PageTurnerModel" "events" "I", .fieldLink RX6 62 "PageTurnerModel" "costs" "[[I", .fieldLink RX6 196 "PageTurnerModel" "notes" "I", .constant RX6 202 (268435456), .methodLink RX6 203 yX6_full, .instanceMethod yX6_full, .selects RX6 yX6_full yX6_full, .initialized RX6, .code yX6_full cX6_full 2 (some .int), .fieldLink RX6 20 "PageTurnerModel" "many" "[I", .methodLink RX6 180 yX6_fail, .instanceMethod yX6_fail, .selects RX6 yX6_fail yX6_fail, .code yX6_fail cX6_fail 1 (some .int)] ++ wsX60)
def wsX6_sure : List Cond := .code yX6_sure cX6_sure 5 (some .int) :: ([.fieldLink RX6 80 "PageTurnerModel" "code" "I", .fieldLink RX6 144 "PageTurnerModel" "events" "I", .fieldLink RX6 54 "PageTurnerModel" "placeEvent" "[I", .fieldLink RX6 196 "PageTurnerModel" "notes" "I", .constant RX6 202 (268435456), .fieldLink RX6 32 "PageTurnerModel" "measure" "[I", .fieldLink RX6 62 "PageTurnerModel" "costs" "[[I", .methodLink RX6 112 Lib.Math.min.name, .static Lib.Math.min.name, .initialized "java/lang/Math", .code Lib.Math.min.name Lib.Math.min.code 2 (some .int), .fieldLink RX6 57 "PageTurnerModel" "placeBits" "[I", .methodLink RX6 180 yX6_fail, .instanceMethod yX6_fail, .selects RX6 yX6_fail yX6_fail, .initialized RX6, .code yX6_fail cX6_fail 1 (some .int), .methodLink RX6 203 yX6_full, .instanceMethod yX6_full, .selects RX6 yX6_full yX6_full, .code yX6_full cX6_full 2 (some .int), .fieldLink RX6 20 "PageTurnerModel" "many" "[I"] ++ wsX60)
def wsX6_upper : List Cond := .code yX6_upper cX6_upper 1 (some .int) :: ([.fieldLink RX6 199 "PageTurnerModel" "anchors" "I", .fieldLink RX6 74 "PageTurnerModel" "anchorTime" "[I", .methodLink RX6 232 Lib.Math.max.name, .static Lib.Math.max.name, .initialized "java/lang/Math", .code Lib.Math.max.name Lib.Math.max.code 2 (some .int)] ++ wsX60)
def wsX6_lower : List Cond := .code yX6_lower cX6_lower 1 (some .int) :: ([.fieldLink RX6 199 "PageTurnerModel" "anchors" "I", .fieldLink RX6 26 "PageTurnerModel" "beat" "[I", .fieldLink RX6 71 "PageTurnerModel" "anchorEvent" "[I", .methodLink RX6 232 Lib.Math.max.name, .static Lib.Math.max.name, .initialized "java/lang/Math", .code Lib.Math.max.name Lib.Math.max.code 2 (some .int)] ++ wsX60)
def wsX6_tempo : List Cond := .code yX6_tempo cX6_tempo 7 (some .int) :: ([.fieldLink RX6 80 "PageTurnerModel" "code" "I", .methodLink RX6 235 yX6_upper, .instanceMethod yX6_upper, .selects RX6 yX6_upper yX6_upper, .initialized RX6, .code yX6_upper cX6_upper 1 (some .int), .fieldLink RX6 199 "PageTurnerModel" "anchors" "I", .fieldLink RX6 74 "PageTurnerModel" "anchorTime" "[I", .methodLink RX6 232 Lib.Math.max.name, .static Lib.Math.max.name, .initialized "java/lang/Math", .code Lib.Math.max.name Lib.Math.max.code 2 (some .int), .methodLink RX6 238 yX6_lower, .instanceMethod yX6_lower, .selects RX6 yX6_lower yX6_lower, .code yX6_lower cX6_lower 1 (some .int), .fieldLink RX6 26 "PageTurnerModel" "beat" "[I", .fieldLink RX6 71 "PageTurnerModel" "anchorEvent" "[I"] ++ wsX60)
def wsX6_timeOf : List Cond := .code yX6_timeOf cX6_timeOf 6 (some .long) :: ([.fieldLink RX6 26 "PageTurnerModel" "beat" "[I", .fieldLink RX6 71 "PageTurnerModel" "anchorEvent" "[I", .fieldLink RX6 199 "PageTurnerModel" "anchors" "I", .fieldLink RX6 74 "PageTurnerModel" "anchorTime" "[I", .methodLink RX6 235 yX6_upper, .instanceMethod yX6_upper, .selects RX6 yX6_upper yX6_upper, .initialized RX6, .code yX6_upper cX6_upper 1 (some .int), .methodLink RX6 232 Lib.Math.max.name, .static Lib.Math.max.name, .initialized "java/lang/Math", .code Lib.Math.max.name Lib.Math.max.code 2 (some .int), .methodLink RX6 238 yX6_lower, .instanceMethod yX6_lower, .selects RX6 yX6_lower yX6_lower, .code yX6_lower cX6_lower 1 (some .int)] ++ wsX60)
def wsX6_time_r1 : List Cond := [Cond.fieldLink RX6 80 "PageTurnerModel" "code" "I", Cond.constant RX6 241 (100000), Cond.fieldLink RX6 199 "PageTurnerModel" "anchors" "I", Cond.constantLong RX6 242 (-1), Cond.methodLink RX6 180 yX6_fail, Cond.instanceMethod yX6_fail, Cond.selects RX6 yX6_fail yX6_fail, Cond.initialized RX6, Cond.code yX6_fail cX6_fail 1 (some .int), Cond.methodLink RX6 244 yX6_timeOf, Cond.instanceMethod yX6_timeOf, Cond.selects RX6 yX6_timeOf yX6_timeOf, Cond.code yX6_timeOf cX6_timeOf 6 (some .long), Cond.fieldLink RX6 26 "PageTurnerModel" "beat" "[I", Cond.fieldLink RX6 71 "PageTurnerModel" "anchorEvent" "[I", Cond.fieldLink RX6 74 "PageTurnerModel" "anchorTime" "[I", Cond.methodLink RX6 235 yX6_upper, Cond.instanceMethod yX6_upper, Cond.selects RX6 yX6_upper yX6_upper, Cond.code yX6_upper cX6_upper 1 (some .int), Cond.methodLink RX6 232 Lib.Math.max.name, Cond.static Lib.Math.max.name, Cond.initialized "java/lang/Math", Cond.code Lib.Math.max.name Lib.Math.max.code 2 (some .int)]
def wsX6_time_r2 : List Cond := [Cond.methodLink RX6 238 yX6_lower, Cond.instanceMethod yX6_lower, Cond.selects RX6 yX6_lower yX6_lower, Cond.code yX6_lower cX6_lower 1 (some .int)]
def wsX6_time : List Cond := .code yX6_time cX6_time 2 (some .long) :: ((wsX6_time_r1 ++ wsX6_time_r2) ++ wsX60)
def wsX6_turnsAt_r1 : List Cond := [Cond.fieldLink RX6 80 "PageTurnerModel" "code" "I", Cond.fieldLink RX6 199 "PageTurnerModel" "anchors" "I", Cond.fieldLink RX6 35 "PageTurnerModel" "page" "[I", Cond.fieldLink RX6 54 "PageTurnerModel" "placeEvent" "[I", Cond.fieldLink RX6 196 "PageTurnerModel" "notes" "I", Cond.fieldLink RX6 150 "PageTurnerModel" "pages" "I", Cond.constantLong RX6 242 (-1), Cond.fieldLink RX6 26 "PageTurnerModel" "beat" "[I", Cond.fieldLink RX6 29 "PageTurnerModel" "size" "[I", Cond.fieldLink RX6 77 "PageTurnerModel" "lead" "I", Cond.methodLink RX6 244 yX6_timeOf, Cond.instanceMethod yX6_timeOf, Cond.selects RX6 yX6_timeOf yX6_timeOf, Cond.initialized RX6, Cond.code yX6_timeOf cX6_timeOf 6 (some .long), Cond.fieldLink RX6 71 "PageTurnerModel" "anchorEvent" "[I", Cond.fieldLink RX6 74 "PageTurnerModel" "anchorTime" "[I", Cond.methodLink RX6 235 yX6_upper, Cond.instanceMethod yX6_upper, Cond.selects RX6 yX6_upper yX6_upper, Cond.code yX6_upper cX6_upper 1 (some .int), Cond.methodLink RX6 232 Lib.Math.max.name, Cond.static Lib.Math.max.name, Cond.initialized "java/lang/Math"]
def wsX6_turnsAt_r2 : List Cond := [Cond.code Lib.Math.max.name Lib.Math.max.code 2 (some .int), Cond.methodLink RX6 238 yX6_lower, Cond.instanceMethod yX6_lower, Cond.selects RX6 yX6_lower yX6_lower, Cond.code yX6_lower cX6_lower 1 (some .int)]
def wsX6_turnsAt : List Cond := .code yX6_turnsAt cX6_turnsAt 2 (some .long) :: ((wsX6_turnsAt_r1 ++ wsX6_turnsAt_r2) ++ wsX60)
def wsX6_cue_r1 : List Cond := [Cond.fieldLink RX6 80 "PageTurnerModel" "code" "I", Cond.fieldLink RX6 199 "PageTurnerModel" "anchors" "I", Cond.constantLong RX6 242 (-1), Cond.fieldLink RX6 54 "PageTurnerModel" "placeEvent" "[I", Cond.fieldLink RX6 196 "PageTurnerModel" "notes" "I", Cond.fieldLink RX6 144 "PageTurnerModel" "events" "I", Cond.fieldLink RX6 45 "PageTurnerModel" "isCue" "[Z", Cond.fieldLink RX6 26 "PageTurnerModel" "beat" "[I", Cond.methodLink RX6 244 yX6_timeOf, Cond.instanceMethod yX6_timeOf, Cond.selects RX6 yX6_timeOf yX6_timeOf, Cond.initialized RX6, Cond.code yX6_timeOf cX6_timeOf 6 (some .long), Cond.fieldLink RX6 71 "PageTurnerModel" "anchorEvent" "[I", Cond.fieldLink RX6 74 "PageTurnerModel" "anchorTime" "[I", Cond.methodLink RX6 235 yX6_upper, Cond.instanceMethod yX6_upper, Cond.selects RX6 yX6_upper yX6_upper, Cond.code yX6_upper cX6_upper 1 (some .int), Cond.methodLink RX6 232 Lib.Math.max.name, Cond.static Lib.Math.max.name, Cond.initialized "java/lang/Math", Cond.code Lib.Math.max.name Lib.Math.max.code 2 (some .int), Cond.methodLink RX6 238 yX6_lower]
def wsX6_cue_r2 : List Cond := [Cond.instanceMethod yX6_lower, Cond.selects RX6 yX6_lower yX6_lower, Cond.code yX6_lower cX6_lower 1 (some .int)]
def wsX6_cue : List Cond := .code yX6_cue cX6_cue 2 (some .long) :: ((wsX6_cue_r1 ++ wsX6_cue_r2) ++ wsX60)
def wsX6_lead : List Cond := .code yX6_lead cX6_lead 3 (some .int) :: ([.fieldLink RX6 80 "PageTurnerModel" "code" "I", .constant RX6 248 (60000), .fieldLink RX6 77 "PageTurnerModel" "lead" "I", .methodLink RX6 180 yX6_fail, .instanceMethod yX6_fail, .selects RX6 yX6_fail yX6_fail, .initialized RX6, .code yX6_fail cX6_fail 1 (some .int)] ++ wsX60)
def wsJ9_abs_0f7a4 : List Cond := .code yJ9_abs_0f7a4 cJ9_abs_0f7a4 1 (some .int) :: ([])
def wsJ9_max_7cf53 : List Cond := .code yJ9_max_7cf53 cJ9_max_7cf53 2 (some .int) :: ([])
def wsJ9_min_7cf53 : List Cond := .code yJ9_min_7cf53 cJ9_min_7cf53 2 (some .int) :: ([])
def wsL_music_r1 : List Cond := [Cond.classLink RL 13 "java/lang/IllegalArgumentException", Cond.methodLink RL 7 yX5_music, Cond.instanceMethod yX5_music, Cond.selects RX5 yX5_music yX5_music, Cond.initialized RX5, Cond.code yX5_music cX5_music 3 (some .int), Cond.classLink RX5 47 "java/lang/IllegalArgumentException", Cond.initialized "java/lang/IllegalArgumentException", Cond.fieldLink RX5 13 "PageTurner" "tapeLength" "I", Cond.fieldLink RX5 20 "PageTurner" "reader" "LPageTurner$Reader;", Cond.fieldLink RX5 9 "PageTurner" "tape" "[B", Cond.fieldLink RX5 27 "PageTurner" "score" "LPageTurner$Score;", Cond.fieldLink RX5 36 "PageTurner" "follower" "LPageTurner$Follower;", Cond.methodLink RX5 54 yX2_read, Cond.instanceMethod yX2_read, Cond.selects RX2 yX2_read yX2_read, Cond.initialized RX2, Cond.code yX2_read cX2_read 4 (some .int), Cond.fieldLink RX2 32 "PageTurner$Reader" "stand" "I", Cond.fieldLink RX2 35 "PageTurner$Reader" "marks" "I", Cond.fieldLink RX2 38 "PageTurner$Reader" "cues" "I", Cond.fieldLink RX2 41 "PageTurner$Reader" "marked" "Z", Cond.fieldLink RX2 45 "PageTurner$Reader" "cued" "Z", Cond.fieldLink RX2 48 "PageTurner$Reader" "repeatStart" "I"]
def wsL_music_r2 : List Cond := [Cond.fieldLink RX2 21 "PageTurner$Reader" "draft" "LPageTurner$Score;", Cond.fieldLink RX2 14 "PageTurner$Reader" "tokens" "LPageTurner$Tokens;", Cond.fieldLink RX2 25 "PageTurner$Reader" "fault" "I", Cond.fieldLink RX2 62 "PageTurner$Tokens" "kind" "I", Cond.fieldLink RX2 71 "PageTurner$Tokens" "start" "I", Cond.fieldLink RX2 29 "PageTurner$Reader" "faultPlace" "I", Cond.methodLink RX2 51 yX3_clear, Cond.instanceMethod yX3_clear, Cond.selects RX3 yX3_clear yX3_clear, Cond.initialized RX3, Cond.code yX3_clear cX3_clear 1 none, Cond.fieldLink RX3 15 "PageTurner$Score" "events" "I", Cond.fieldLink RX3 19 "PageTurner$Score" "beats" "I", Cond.fieldLink RX3 22 "PageTurner$Score" "cues" "I", Cond.fieldLink RX3 25 "PageTurner$Score" "states" "I", Cond.fieldLink RX3 28 "PageTurner$Score" "measure" "I", Cond.fieldLink RX3 31 "PageTurner$Score" "page" "I", Cond.methodLink RX2 54 yX4_begin, Cond.instanceMethod yX4_begin, Cond.selects RX4 yX4_begin yX4_begin, Cond.initialized RX4, Cond.code yX4_begin cX4_begin 3 none, Cond.fieldLink RX4 9 "PageTurner$Tokens" "text" "[B", Cond.methodLink RX4 15 Lib.Math.min.name]
def wsL_music_r3 : List Cond := [Cond.static Lib.Math.min.name, Cond.initialized "java/lang/Math", Cond.code Lib.Math.min.name Lib.Math.min.code 2 (some .int), Cond.fieldLink RX4 21 "PageTurner$Tokens" "length" "I", Cond.fieldLink RX4 25 "PageTurner$Tokens" "next" "I", Cond.methodLink RX4 28 yX4_advance, Cond.instanceMethod yX4_advance, Cond.selects RX4 yX4_advance yX4_advance, Cond.code yX4_advance cX4_advance 2 none, Cond.fieldLink RX4 34 "PageTurner$Tokens" "start" "I", Cond.fieldLink RX4 37 "PageTurner$Tokens" "value" "I", Cond.fieldLink RX4 44 "PageTurner$Tokens" "kind" "I", Cond.methodLink RX4 31 yX4_skipBlanks, Cond.instanceMethod yX4_skipBlanks, Cond.selects RX4 yX4_skipBlanks yX4_skipBlanks, Cond.code yX4_skipBlanks cX4_skipBlanks 1 none, Cond.methodLink RX4 40 yX4_byteAt, Cond.instanceMethod yX4_byteAt, Cond.selects RX4 yX4_byteAt yX4_byteAt, Cond.code yX4_byteAt cX4_byteAt 2 (some .int), Cond.methodLink RX4 47 yX4_takePitch, Cond.instanceMethod yX4_takePitch, Cond.selects RX4 yX4_takePitch yX4_takePitch, Cond.code yX4_takePitch cX4_takePitch 5 none]
def wsL_music_r4 : List Cond := [Cond.fieldLink RX4 69 "PageTurner$Tokens" "STEPS" "[I", Cond.methodLink RX4 58 yX4_take, Cond.instanceMethod yX4_take, Cond.selects RX4 yX4_take yX4_take, Cond.code yX4_take cX4_take 3 none, Cond.methodLink RX4 51 yX4_isDigit, Cond.static yX4_isDigit, Cond.code yX4_isDigit cX4_isDigit 1 (some .boolean), Cond.methodLink RX4 55 yX4_takeNumber, Cond.instanceMethod yX4_takeNumber, Cond.selects RX4 yX4_takeNumber yX4_takeNumber, Cond.code yX4_takeNumber cX4_takeNumber 2 none, Cond.methodLink RX4 64 yJ0_indexOf_0f7a4, Cond.instanceMethod yJ0_indexOf_0f7a4, Cond.selects RJ0 yJ0_indexOf_0f7a4 yJ0_indexOf_0f7a4, Cond.initialized RJ0, Cond.code yJ0_indexOf_0f7a4 cJ0_indexOf_0f7a4 2 (some .int), Cond.methodLink RJ0 633 yJ0_indexOf_7cf53, Cond.instanceMethod yJ0_indexOf_7cf53, Cond.selects RJ0 yJ0_indexOf_7cf53 yJ0_indexOf_7cf53, Cond.code yJ0_indexOf_7cf53 cJ0_indexOf_7cf53 3 (some .int), Cond.fieldLink RJ0 9 "java/lang/String" "value" "[B", Cond.methodLink RJ0 492 yJ0_isLatin1_aae02, Cond.instanceMethod yJ0_isLatin1_aae02]
def wsL_music_r5 : List Cond := [Cond.selects RJ0 yJ0_isLatin1_aae02 yJ0_isLatin1_aae02, Cond.code yJ0_isLatin1_aae02 cJ0_isLatin1_aae02 1 (some .boolean), Cond.fieldLink RJ0 38 "java/lang/String" "COMPACT_STRINGS" "Z", Cond.fieldLink RJ0 15 "java/lang/String" "coder" "B", Cond.methodLink RJ0 505 yJ0_length_8abf5, Cond.instanceMethod yJ0_length_8abf5, Cond.selects RJ0 yJ0_length_8abf5 yJ0_length_8abf5, Cond.code yJ0_length_8abf5 cJ0_length_8abf5 1 (some .int), Cond.methodLink RJ0 335 yJ0_coder_7d493, Cond.instanceMethod yJ0_coder_7d493, Cond.selects RJ0 yJ0_coder_7d493 yJ0_coder_7d493, Cond.code yJ0_coder_7d493 cJ0_coder_7d493 1 (some .byte), Cond.methodLink RJ0 637 yJ1_indexOf_4cfef, Cond.static yJ1_indexOf_4cfef, Cond.initialized RJ1, Cond.code yJ1_indexOf_4cfef cJ1_indexOf_4cfef 4 (some .int), Cond.methodLink RJ1 92 Lib.Math.max.name, Cond.static Lib.Math.max.name, Cond.code Lib.Math.max.name Lib.Math.max.code 2 (some .int), Cond.methodLink RJ1 38 Lib.Math.min.name, Cond.methodLink RJ1 88 yJ1_canEncode_9a6ad, Cond.static yJ1_canEncode_9a6ad, Cond.code yJ1_canEncode_9a6ad cJ1_canEncode_9a6ad 1 (some .boolean), Cond.methodLink RJ1 95 yJ1_indexOfChar_4cfef]
def wsL_music_r6 : List Cond := [Cond.static yJ1_indexOfChar_4cfef, Cond.code yJ1_indexOfChar_4cfef cJ1_indexOfChar_4cfef 6 (some .int), Cond.methodLink RJ0 640 yJ2_indexOf_4cfef, Cond.static yJ2_indexOf_4cfef, Cond.initialized RJ2, Cond.code yJ2_indexOf_4cfef cJ2_indexOf_4cfef 4 (some .int), Cond.methodLink RJ2 224 Lib.Math.max.name, Cond.methodLink RJ2 183 Lib.Math.min.name, Cond.constant RJ2 227 (65536), Cond.methodLink RJ2 228 yJ2_indexOfChar_4cfef, Cond.static yJ2_indexOfChar_4cfef, Cond.code yJ2_indexOfChar_4cfef cJ2_indexOfChar_4cfef 4 (some .int), Cond.methodLink RJ2 96 yJ2_checkBoundsBeginEnd_d044e, Cond.static yJ2_checkBoundsBeginEnd_d044e, Cond.code yJ2_checkBoundsBeginEnd_d044e cJ2_checkBoundsBeginEnd_d044e 3 none, Cond.methodLink RJ2 48 yJ2_length_9d52b, Cond.static yJ2_length_9d52b, Cond.code yJ2_length_9d52b cJ2_length_9d52b 1 (some .int), Cond.methodLink RJ2 241 yJ0_checkBoundsBeginEnd_23922, Cond.static yJ0_checkBoundsBeginEnd_23922, Cond.code yJ0_checkBoundsBeginEnd_23922 cJ0_checkBoundsBeginEnd_23922 3 none, Cond.fieldLink RJ0 1053 "jdk/internal/util/Preconditions" "SIOOBE_FORMATTER" "Ljava/util/function/BiFunction;", Cond.methodLink RJ0 1062 yJ3_checkFromToIndex_8c36e, Cond.static yJ3_checkFromToIndex_8c36e]
def wsL_music_r7 : List Cond := [Cond.initialized RJ3, Cond.code yJ3_checkFromToIndex_8c36e cJ3_checkFromToIndex_8c36e 4 (some .int), Cond.methodLink RJ2 244 yJ2_indexOfCharUnsafe_4cfef, Cond.static yJ2_indexOfCharUnsafe_4cfef, Cond.code yJ2_indexOfCharUnsafe_4cfef cJ2_indexOfCharUnsafe_4cfef 5 (some .int), Cond.methodLink RJ2 71 yJ2_getChar_3b067, Cond.static yJ2_getChar_3b067, Cond.code yJ2_getChar_3b067 cJ2_getChar_3b067 2 (some .char), Cond.fieldLink RJ2 44 "java/lang/StringUTF16" "$assertionsDisabled" "Z", Cond.fieldLink RJ2 59 "java/lang/StringUTF16" "HI_BYTE_SHIFT" "I", Cond.fieldLink RJ2 63 "java/lang/StringUTF16" "LO_BYTE_SHIFT" "I", Cond.methodLink RJ2 232 yJ2_indexOfSupplementary_4cfef, Cond.static yJ2_indexOfSupplementary_4cfef, Cond.code yJ2_indexOfSupplementary_4cfef cJ2_indexOfSupplementary_4cfef 7 (some .int), Cond.methodLink RJ2 164 yJ11_isValidCodePoint_9a6ad, Cond.static yJ11_isValidCodePoint_9a6ad, Cond.initialized RJ11, Cond.code yJ11_isValidCodePoint_9a6ad cJ11_isValidCodePoint_9a6ad 2 (some .boolean), Cond.methodLink RJ2 157 yJ11_highSurrogate_5068e, Cond.static yJ11_highSurrogate_5068e, Cond.code yJ11_highSurrogate_5068e cJ11_highSurrogate_5068e 1 (some .char), Cond.constant RJ11 110 (55232), Cond.methodLink RJ2 161 yJ11_lowSurrogate_5068e, Cond.static yJ11_lowSurrogate_5068e]
def wsL_music_r8 : List Cond := [Cond.code yJ11_lowSurrogate_5068e cJ11_lowSurrogate_5068e 1 (some .char), Cond.constant RJ11 76 (56320), Cond.methodLink RX2 58 yX2_faultOfToken, Cond.instanceMethod yX2_faultOfToken, Cond.selects RX2 yX2_faultOfToken yX2_faultOfToken, Cond.code yX2_faultOfToken cX2_faultOfToken 2 (some .int), Cond.fieldLink RX2 86 "PageTurner$Tokens" "value" "I", Cond.methodLink RX2 74 yX2_standsAhead, Cond.static yX2_standsAhead, Cond.code yX2_standsAhead cX2_standsAhead 1 (some .int), Cond.methodLink RX2 78 yX2_standsIn, Cond.instanceMethod yX2_standsIn, Cond.selects RX2 yX2_standsIn yX2_standsIn, Cond.code yX2_standsIn cX2_standsIn 2 (some .boolean), Cond.methodLink RX2 82 yX2_isTooMuch, Cond.instanceMethod yX2_isTooMuch, Cond.selects RX2 yX2_isTooMuch yX2_isTooMuch, Cond.code yX2_isTooMuch cX2_isTooMuch 1 (some .boolean), Cond.methodLink RX2 92 yX3_isFull, Cond.instanceMethod yX3_isFull, Cond.selects RX3 yX3_isFull yX3_isFull, Cond.code yX3_isFull cX3_isFull 1 (some .boolean), Cond.methodLink RX2 95 yX3_openPitches, Cond.instanceMethod yX3_openPitches]
def wsL_music_r9 : List Cond := [Cond.selects RX3 yX3_openPitches yX3_openPitches, Cond.code yX3_openPitches cX3_openPitches 1 (some .int), Cond.methodLink RX3 38 yX3_fact, Cond.instanceMethod yX3_fact, Cond.selects RX3 yX3_fact yX3_fact, Cond.code yX3_fact cX3_fact 3 (some .int), Cond.fieldLink RX3 11 "PageTurner$Score" "facts" "[I", Cond.methodLink RX2 89 yX3_openHasPitch, Cond.instanceMethod yX3_openHasPitch, Cond.selects RX3 yX3_openHasPitch yX3_openHasPitch, Cond.code yX3_openHasPitch cX3_openHasPitch 4 (some .boolean), Cond.methodLink RX3 42 yX3_openPitches, Cond.methodLink RX2 65 yX2_takeToken, Cond.instanceMethod yX2_takeToken, Cond.selects RX2 yX2_takeToken yX2_takeToken, Cond.code yX2_takeToken cX2_takeToken 1 none, Cond.methodLink RX2 98 yX2_takeMark, Cond.instanceMethod yX2_takeMark, Cond.selects RX2 yX2_takeMark yX2_takeMark, Cond.code yX2_takeMark cX2_takeMark 1 none, Cond.methodLink RX2 101 yX2_takeCue, Cond.instanceMethod yX2_takeCue, Cond.selects RX2 yX2_takeCue yX2_takeCue, Cond.code yX2_takeCue cX2_takeCue 1 none]
def wsL_music_r10 : List Cond := [Cond.methodLink RX2 104 yX2_openEvent, Cond.instanceMethod yX2_openEvent, Cond.selects RX2 yX2_openEvent yX2_openEvent, Cond.code yX2_openEvent cX2_openEvent 3 none, Cond.methodLink RX2 118 yX3_openEvent, Cond.instanceMethod yX3_openEvent, Cond.selects RX3 yX3_openEvent yX3_openEvent, Cond.code yX3_openEvent cX3_openEvent 4 none, Cond.methodLink RX3 34 yX3_write, Cond.instanceMethod yX3_write, Cond.selects RX3 yX3_write yX3_write, Cond.code yX3_write cX3_write 4 none, Cond.methodLink RX2 108 yX2_takePitch, Cond.instanceMethod yX2_takePitch, Cond.selects RX2 yX2_takePitch yX2_takePitch, Cond.code yX2_takePitch cX2_takePitch 2 none, Cond.methodLink RX2 121 yX3_addPitch, Cond.instanceMethod yX3_addPitch, Cond.selects RX3 yX3_addPitch yX3_addPitch, Cond.code yX3_addPitch cX3_addPitch 3 none, Cond.methodLink RX2 111 yX3_closeEvent, Cond.instanceMethod yX3_closeEvent, Cond.selects RX3 yX3_closeEvent yX3_closeEvent, Cond.code yX3_closeEvent cX3_closeEvent 2 none]
def wsL_music_r11 : List Cond := [Cond.methodLink RX3 46 yX3_isFull, Cond.methodLink RX3 50 yX3_allBits, Cond.instanceMethod yX3_allBits, Cond.selects RX3 yX3_allBits yX3_allBits, Cond.code yX3_allBits cX3_allBits 3 (some .int), Cond.methodLink RX2 115 yX2_takeBarOrPage, Cond.instanceMethod yX2_takeBarOrPage, Cond.selects RX2 yX2_takeBarOrPage yX2_takeBarOrPage, Cond.code yX2_takeBarOrPage cX2_takeBarOrPage 1 none, Cond.fieldLink RX2 124 "PageTurner$Score" "events" "I", Cond.methodLink RX2 127 yX3_repeatFrom, Cond.instanceMethod yX3_repeatFrom, Cond.selects RX3 yX3_repeatFrom yX3_repeatFrom, Cond.code yX3_repeatFrom cX3_repeatFrom 2 none, Cond.methodLink RX2 130 yX3_endMeasure, Cond.instanceMethod yX3_endMeasure, Cond.selects RX3 yX3_endMeasure yX3_endMeasure, Cond.code yX3_endMeasure cX3_endMeasure 1 none, Cond.methodLink RX2 133 yX3_endPage, Cond.instanceMethod yX3_endPage, Cond.selects RX3 yX3_endPage yX3_endPage, Cond.code yX3_endPage cX3_endPage 1 none, Cond.methodLink RX2 68 yX4_advance, Cond.methodLink RX5 58 yX2_trade]
def wsL_music_r12 : List Cond := [Cond.instanceMethod yX2_trade, Cond.selects RX2 yX2_trade yX2_trade, Cond.code yX2_trade cX2_trade 3 (some (.object "PageTurner$Score")), Cond.methodLink RX5 62 yX0_begin, Cond.instanceMethod yX0_begin, Cond.selects RX0 yX0_begin yX0_begin, Cond.initialized RX0, Cond.code yX0_begin cX0_begin 2 none, Cond.fieldLink RX0 33 "PageTurner$Follower" "score" "LPageTurner$Score;", Cond.fieldLink RX0 26 "PageTurner$Follower" "start" "LPageTurner$Moment;", Cond.fieldLink RX0 37 "PageTurner$Score" "states" "I", Cond.fieldLink RX0 51 "PageTurner$Moment" "placeCost" "I", Cond.methodLink RX0 43 yX1_clear, Cond.instanceMethod yX1_clear, Cond.selects RX1 yX1_clear yX1_clear, Cond.initialized RX1, Cond.code yX1_clear cX1_clear 3 none, Cond.fieldLink RX1 7 "PageTurner$Moment" "costs" "[I", Cond.arrayClass .int, Cond.constant RX1 17 (1000000), Cond.fieldLink RX1 18 "PageTurner$Moment" "placeEvent" "I", Cond.fieldLink RX1 22 "PageTurner$Moment" "placeBits" "I", Cond.fieldLink RX1 25 "PageTurner$Moment" "placeCost" "I", Cond.fieldLink RX1 28 "PageTurner$Moment" "anchors" "I"]
def wsL_music_r13 : List Cond := [Cond.fieldLink RX1 31 "PageTurner$Moment" "anchor" "LPageTurner$Moment;", Cond.fieldLink RX1 34 "PageTurner$Moment" "anchorAhead" "LPageTurner$Moment;", Cond.methodLink RX0 47 yX1_offer, Cond.instanceMethod yX1_offer, Cond.selects RX1 yX1_offer yX1_offer, Cond.code yX1_offer cX1_offer 3 none, Cond.methodLink RX0 54 yX0_forget, Cond.instanceMethod yX0_forget, Cond.selects RX0 yX0_forget yX0_forget, Cond.code yX0_forget cX0_forget 1 none, Cond.fieldLink RX0 30 "PageTurner$Follower" "now" "LPageTurner$Moment;", Cond.fieldLink RX0 57 "PageTurner$Follower" "notes" "I"]
def wsL_music : List Cond := .codeWith yL_music cL_music 4 (some .int) [(0, 9, 12, 13)] :: ((wsL_music_r1 ++ (wsL_music_r2 ++ (wsL_music_r3 ++ (wsL_music_r4 ++ (wsL_music_r5 ++ (wsL_music_r6 ++ (wsL_music_r7 ++ (wsL_music_r8 ++ (wsL_music_r9 ++ (wsL_music_r10 ++ (wsL_music_r11 ++ (wsL_music_r12 ++ wsL_music_r13)))))))))))) ++ wsX50 ++ wsX20 ++ wsX40 ++ wsX30 ++ wsX00 ++ wsX10 ++ (vx_atS RX5 51 "java/lang/IllegalArgumentException" ["java/lang/RuntimeException", "java/lang/Exception"]).filter goodWord)
def wsL_fault : List Cond := .codeWith yL_fault cL_fault 4 (some .int) [(0, 9, 12, 18)] :: ([.classLink RL 18 "java/util/NoSuchElementException", .methodLink RL 15 yX5_fault, .instanceMethod yX5_fault, .selects RX5 yX5_fault yX5_fault, .initialized RX5, .code yX5_fault cX5_fault 2 (some .int), .classLink RX5 71 "java/util/NoSuchElementException", .initialized "java/util/NoSuchElementException", .fieldLink RX5 20 "PageTurner" "reader" "LPageTurner$Reader;", .fieldLink RX5 65 "PageTurner$Reader" "fault" "I", .fieldLink RX5 68 "PageTurner$Reader" "faultPlace" "I"] ++ wsX50 ++ wsX20 ++ (vx_atS RX5 75 "java/util/NoSuchElementException" ["java/lang/RuntimeException", "java/lang/Exception"]).filter goodWord)
def wsL_count_r1 : List Cond := [Cond.classLink RL 18 "java/util/NoSuchElementException", Cond.methodLink RL 20 yX5_count, Cond.instanceMethod yX5_count, Cond.selects RX5 yX5_count yX5_count, Cond.initialized RX5, Cond.code yX5_count cX5_count 2 (some .int), Cond.classLink RX5 71 "java/util/NoSuchElementException", Cond.initialized "java/util/NoSuchElementException", Cond.fieldLink RX5 27 "PageTurner" "score" "LPageTurner$Score;", Cond.fieldLink RX5 76 "PageTurner$Score" "events" "I", Cond.fieldLink RX5 86 "PageTurner$Score" "beats" "I", Cond.fieldLink RX5 36 "PageTurner" "follower" "LPageTurner$Follower;", Cond.fieldLink RX5 89 "PageTurner$Follower" "notes" "I", Cond.fieldLink RX5 13 "PageTurner" "tapeLength" "I", Cond.fieldLink RX5 95 "PageTurner$Score" "cues" "I", Cond.methodLink RX5 79 yX3_measuresWithEvents, Cond.instanceMethod yX3_measuresWithEvents, Cond.selects RX3 yX3_measuresWithEvents yX3_measuresWithEvents, Cond.initialized RX3, Cond.code yX3_measuresWithEvents cX3_measuresWithEvents 1 (some .int), Cond.fieldLink RX3 15 "PageTurner$Score" "events" "I", Cond.methodLink RX3 38 yX3_fact, Cond.instanceMethod yX3_fact, Cond.selects RX3 yX3_fact yX3_fact]
def wsL_count_r2 : List Cond := [Cond.code yX3_fact cX3_fact 3 (some .int), Cond.fieldLink RX3 11 "PageTurner$Score" "facts" "[I", Cond.methodLink RX5 83 yX3_pagesWithEvents, Cond.instanceMethod yX3_pagesWithEvents, Cond.selects RX3 yX3_pagesWithEvents yX3_pagesWithEvents, Cond.code yX3_pagesWithEvents cX3_pagesWithEvents 1 (some .int), Cond.methodLink RX5 92 yX0_anchors, Cond.instanceMethod yX0_anchors, Cond.selects RX0 yX0_anchors yX0_anchors, Cond.initialized RX0, Cond.code yX0_anchors cX0_anchors 1 (some .int), Cond.fieldLink RX0 30 "PageTurner$Follower" "now" "LPageTurner$Moment;", Cond.fieldLink RX0 76 "PageTurner$Moment" "anchors" "I"]
def wsL_count : List Cond := .codeWith yL_count cL_count 4 (some .int) [(0, 9, 12, 18)] :: ((wsL_count_r1 ++ wsL_count_r2) ++ wsX50 ++ wsX30 ++ wsX00 ++ wsX10 ++ (vx_atS RX5 75 "java/util/NoSuchElementException" ["java/lang/RuntimeException", "java/lang/Exception"]).filter goodWord)
def wsL_event : List Cond := .codeWith yL_event cL_event 5 (some .int) [(0, 10, 13, 18)] :: ([.classLink RL 18 "java/util/NoSuchElementException", .methodLink RL 23 yX5_event, .instanceMethod yX5_event, .selects RX5 yX5_event yX5_event, .initialized RX5, .code yX5_event cX5_event 3 (some .int), .classLink RX5 71 "java/util/NoSuchElementException", .initialized "java/util/NoSuchElementException", .fieldLink RX5 27 "PageTurner" "score" "LPageTurner$Score;", .methodLink RX5 100 yX3_has, .instanceMethod yX3_has, .selects RX3 yX3_has yX3_has, .initialized RX3, .code yX3_has cX3_has 2 (some .boolean), .fieldLink RX3 15 "PageTurner$Score" "events" "I", .methodLink RX5 106 yX3_fact, .instanceMethod yX3_fact, .selects RX3 yX3_fact yX3_fact, .code yX3_fact cX3_fact 3 (some .int), .fieldLink RX3 11 "PageTurner$Score" "facts" "[I"] ++ wsX50 ++ wsX30 ++ (vx_atS RX5 75 "java/util/NoSuchElementException" ["java/lang/RuntimeException", "java/lang/Exception"]).filter goodWord)
def wsL_price : List Cond := .codeWith yL_price cL_price 5 (some .int) [(0, 10, 13, 13)] :: ([.classLink RL 13 "java/lang/IllegalArgumentException", .methodLink RL 27 yX5_price, .instanceMethod yX5_price, .selects RX5 yX5_price yX5_price, .initialized RX5, .code yX5_price cX5_price 3 (some .int), .classLink RX5 47 "java/lang/IllegalArgumentException", .initialized "java/lang/IllegalArgumentException", .fieldLink RX5 36 "PageTurner" "follower" "LPageTurner$Follower;", .methodLink RX5 112 yX0_hasPrice, .instanceMethod yX0_hasPrice, .selects RX0 yX0_hasPrice yX0_hasPrice, .initialized RX0, .code yX0_hasPrice cX0_hasPrice 2 (some .boolean), .fieldLink RX0 9 "PageTurner$Follower" "prices" "[I", .methodLink RX5 117 yX0_changePrice, .instanceMethod yX0_changePrice, .selects RX0 yX0_changePrice yX0_changePrice, .code yX0_changePrice cX0_changePrice 4 (some .int), .methodLink RX0 63 yX0_hasPrice] ++ wsX50 ++ wsX00 ++ (vx_atS RX5 51 "java/lang/IllegalArgumentException" ["java/lang/RuntimeException", "java/lang/Exception"]).filter goodWord)
def wsL_heard_r1 : List Cond := [Cond.classLink RL 13 "java/lang/IllegalArgumentException", Cond.methodLink RL 30 yX5_heard, Cond.instanceMethod yX5_heard, Cond.selects RX5 yX5_heard yX5_heard, Cond.initialized RX5, Cond.code yX5_heard cX5_heard 3 (some .int), Cond.classLink RX5 47 "java/lang/IllegalArgumentException", Cond.initialized "java/lang/IllegalArgumentException", Cond.constant RX5 120 (100000000), Cond.fieldLink RX5 27 "PageTurner" "score" "LPageTurner$Score;", Cond.fieldLink RX5 76 "PageTurner$Score" "events" "I", Cond.fieldLink RX5 36 "PageTurner" "follower" "LPageTurner$Follower;", Cond.fieldLink RX5 89 "PageTurner$Follower" "notes" "I", Cond.methodLink RX5 123 yX0_latestTime, Cond.instanceMethod yX0_latestTime, Cond.selects RX0 yX0_latestTime yX0_latestTime, Cond.initialized RX0, Cond.code yX0_latestTime cX0_latestTime 1 (some .int), Cond.fieldLink RX0 57 "PageTurner$Follower" "notes" "I", Cond.fieldLink RX0 30 "PageTurner$Follower" "now" "LPageTurner$Moment;", Cond.fieldLink RX0 67 "PageTurner$Moment" "clock" "I", Cond.methodLink RX5 126 yX0_hear, Cond.instanceMethod yX0_hear, Cond.selects RX0 yX0_hear yX0_hear]
def wsL_heard_r2 : List Cond := [Cond.code yX0_hear cX0_hear 5 none, Cond.fieldLink RX0 102 "PageTurner$Moment" "next" "LPageTurner$Moment;", Cond.classLink RX0 21 RX1, Cond.instantiable RX1 10, Cond.initialized RX1, Cond.fieldLink RX0 33 "PageTurner$Follower" "score" "LPageTurner$Score;", Cond.fieldLink RX0 37 "PageTurner$Score" "states" "I", Cond.fieldLink RX0 88 "PageTurner$Score" "events" "I", Cond.methodLink RX0 23 yX1_init, Cond.instanceMethod yX1_init, Cond.code yX1_init cX1_init 2 none, Cond.methodLink RX1 1 objectInit, Cond.instanceMethod objectInit, Cond.code objectInit ⟨#[0xb1]⟩ 1 none, Cond.arrayClass .int, Cond.fieldLink RX1 7 "PageTurner$Moment" "costs" "[I", Cond.fieldLink RX1 13 "PageTurner$Moment" "before" "LPageTurner$Moment;", Cond.methodLink RX0 43 yX1_clear, Cond.instanceMethod yX1_clear, Cond.selects RX1 yX1_clear yX1_clear, Cond.code yX1_clear cX1_clear 3 none, Cond.constant RX1 17 (1000000), Cond.fieldLink RX1 18 "PageTurner$Moment" "placeEvent" "I", Cond.fieldLink RX1 22 "PageTurner$Moment" "placeBits" "I"]
def wsL_heard_r3 : List Cond := [Cond.fieldLink RX1 25 "PageTurner$Moment" "placeCost" "I", Cond.fieldLink RX1 28 "PageTurner$Moment" "anchors" "I", Cond.fieldLink RX1 31 "PageTurner$Moment" "anchor" "LPageTurner$Moment;", Cond.fieldLink RX1 34 "PageTurner$Moment" "anchorAhead" "LPageTurner$Moment;", Cond.methodLink RX0 105 yX0_makeSilentMoves, Cond.instanceMethod yX0_makeSilentMoves, Cond.selects RX0 yX0_makeSilentMoves yX0_makeSilentMoves, Cond.code yX0_makeSilentMoves cX0_makeSilentMoves 5 none, Cond.fieldLink RX0 51 "PageTurner$Moment" "placeCost" "I", Cond.fieldLink RX0 9 "PageTurner$Follower" "prices" "[I", Cond.fieldLink RX0 15 "PageTurner$Follower" "arrivals" "[I", Cond.methodLink RX0 94 Lib.Math.min.name, Cond.static Lib.Math.min.name, Cond.initialized "java/lang/Math", Cond.code Lib.Math.min.name Lib.Math.min.code 2 (some .int), Cond.fieldLink RX0 18 "PageTurner$Follower" "departures" "[I", Cond.methodLink RX0 79 yX3_fact, Cond.instanceMethod yX3_fact, Cond.selects RX3 yX3_fact yX3_fact, Cond.initialized RX3, Cond.code yX3_fact cX3_fact 3 (some .int), Cond.fieldLink RX3 11 "PageTurner$Score" "facts" "[I", Cond.methodLink RX0 83 yX1_costAt, Cond.instanceMethod yX1_costAt]
def wsL_heard_r4 : List Cond := [Cond.selects RX1 yX1_costAt yX1_costAt, Cond.code yX1_costAt cX1_costAt 2 (some .int), Cond.methodLink RX0 119 yX0_departureFrom, Cond.instanceMethod yX0_departureFrom, Cond.selects RX0 yX0_departureFrom yX0_departureFrom, Cond.code yX0_departureFrom cX0_departureFrom 7 (some .int), Cond.constant RX0 87 (1000000), Cond.methodLink RX0 99 yX3_allBits, Cond.instanceMethod yX3_allBits, Cond.selects RX3 yX3_allBits yX3_allBits, Cond.code yX3_allBits cX3_allBits 3 (some .int), Cond.methodLink RX3 38 yX3_fact, Cond.methodLink RX0 126 yJ6_bitCount_0f7a4, Cond.static yJ6_bitCount_0f7a4, Cond.initialized RJ6, Cond.code yJ6_bitCount_0f7a4 cJ6_bitCount_0f7a4 1 (some .int), Cond.constant RJ6 265 (1431655765), Cond.constant RJ6 266 (858993459), Cond.constant RJ6 267 (252645135), Cond.methodLink RX0 122 yX0_walkOn, Cond.instanceMethod yX0_walkOn, Cond.selects RX0 yX0_walkOn yX0_walkOn, Cond.code yX0_walkOn cX0_walkOn 5 (some .boolean), Cond.methodLink RX0 131 yX0_arrive]
def wsL_heard_r5 : List Cond := [Cond.instanceMethod yX0_arrive, Cond.selects RX0 yX0_arrive yX0_arrive, Cond.code yX0_arrive cX0_arrive 3 (some .boolean), Cond.methodLink RX0 135 yX3_has, Cond.instanceMethod yX3_has, Cond.selects RX3 yX3_has yX3_has, Cond.code yX3_has cX3_has 2 (some .boolean), Cond.fieldLink RX3 15 "PageTurner$Score" "events" "I", Cond.methodLink RX0 108 yX0_takeNote, Cond.instanceMethod yX0_takeNote, Cond.selects RX0 yX0_takeNote yX0_takeNote, Cond.code yX0_takeNote cX0_takeNote 11 none, Cond.methodLink RX0 138 yX3_rightBit, Cond.instanceMethod yX3_rightBit, Cond.selects RX3 yX3_rightBit yX3_rightBit, Cond.code yX3_rightBit cX3_rightBit 6 (some .int), Cond.methodLink RX3 54 Lib.Math.abs.name, Cond.static Lib.Math.abs.name, Cond.code Lib.Math.abs.name Lib.Math.abs.code 1 (some .int), Cond.methodLink RX0 47 yX1_offer, Cond.instanceMethod yX1_offer, Cond.selects RX1 yX1_offer yX1_offer, Cond.code yX1_offer cX1_offer 3 none, Cond.methodLink RX0 112 yX0_findPlace]
def wsL_heard_r6 : List Cond := [Cond.instanceMethod yX0_findPlace, Cond.selects RX0 yX0_findPlace yX0_findPlace, Cond.code yX0_findPlace cX0_findPlace 7 none, Cond.fieldLink RX0 70 "PageTurner$Moment" "placeEvent" "I", Cond.fieldLink RX0 73 "PageTurner$Moment" "placeBits" "I", Cond.methodLink RX0 116 yX0_dropAnchor, Cond.instanceMethod yX0_dropAnchor, Cond.selects RX0 yX0_dropAnchor yX0_dropAnchor, Cond.code yX0_dropAnchor cX0_dropAnchor 3 none, Cond.fieldLink RX0 141 "PageTurner$Moment" "anchor" "LPageTurner$Moment;", Cond.fieldLink RX0 76 "PageTurner$Moment" "anchors" "I", Cond.fieldLink RX0 144 "PageTurner$Moment" "anchorAhead" "LPageTurner$Moment;", Cond.methodLink RX5 130 yX0_placeEvent, Cond.instanceMethod yX0_placeEvent, Cond.selects RX0 yX0_placeEvent yX0_placeEvent, Cond.code yX0_placeEvent cX0_placeEvent 1 (some .int)]
def wsL_heard : List Cond := .codeWith yL_heard cL_heard 5 (some .int) [(0, 10, 13, 13)] :: ((wsL_heard_r1 ++ (wsL_heard_r2 ++ (wsL_heard_r3 ++ (wsL_heard_r4 ++ (wsL_heard_r5 ++ wsL_heard_r6))))) ++ wsX50 ++ wsX30 ++ wsX00 ++ wsX10 ++ (vx_atS RX5 51 "java/lang/IllegalArgumentException" ["java/lang/RuntimeException", "java/lang/Exception"]).filter goodWord)
def wsL_place_r1 : List Cond := [Cond.classLink RL 18 "java/util/NoSuchElementException", Cond.methodLink RL 33 yX5_place, Cond.instanceMethod yX5_place, Cond.selects RX5 yX5_place yX5_place, Cond.initialized RX5, Cond.code yX5_place cX5_place 2 (some .int), Cond.classLink RX5 71 "java/util/NoSuchElementException", Cond.initialized "java/util/NoSuchElementException", Cond.fieldLink RX5 27 "PageTurner" "score" "LPageTurner$Score;", Cond.fieldLink RX5 76 "PageTurner$Score" "events" "I", Cond.fieldLink RX5 36 "PageTurner" "follower" "LPageTurner$Follower;", Cond.methodLink RX5 130 yX0_placeEvent, Cond.instanceMethod yX0_placeEvent, Cond.selects RX0 yX0_placeEvent yX0_placeEvent, Cond.initialized RX0, Cond.code yX0_placeEvent cX0_placeEvent 1 (some .int), Cond.fieldLink RX0 30 "PageTurner$Follower" "now" "LPageTurner$Moment;", Cond.fieldLink RX0 70 "PageTurner$Moment" "placeEvent" "I", Cond.methodLink RX5 142 yX0_placeBits, Cond.instanceMethod yX0_placeBits, Cond.selects RX0 yX0_placeBits yX0_placeBits, Cond.code yX0_placeBits cX0_placeBits 1 (some .int), Cond.fieldLink RX0 73 "PageTurner$Moment" "placeBits" "I", Cond.methodLink RX5 145 yX0_placeCost]
def wsL_place_r2 : List Cond := [Cond.instanceMethod yX0_placeCost, Cond.selects RX0 yX0_placeCost yX0_placeCost, Cond.code yX0_placeCost cX0_placeCost 1 (some .int), Cond.fieldLink RX0 51 "PageTurner$Moment" "placeCost" "I", Cond.methodLink RX5 106 yX3_fact, Cond.instanceMethod yX3_fact, Cond.selects RX3 yX3_fact yX3_fact, Cond.initialized RX3, Cond.code yX3_fact cX3_fact 3 (some .int), Cond.fieldLink RX3 11 "PageTurner$Score" "facts" "[I"]
def wsL_place : List Cond := .codeWith yL_place cL_place 4 (some .int) [(0, 9, 12, 18)] :: ((wsL_place_r1 ++ wsL_place_r2) ++ wsX50 ++ wsX30 ++ wsX00 ++ wsX10 ++ (vx_atS RX5 75 "java/util/NoSuchElementException" ["java/lang/RuntimeException", "java/lang/Exception"]).filter goodWord)
def wsL_cost_r1 : List Cond := [Cond.classLink RL 18 "java/util/NoSuchElementException", Cond.methodLink RL 36 yX5_cost, Cond.instanceMethod yX5_cost, Cond.selects RX5 yX5_cost yX5_cost, Cond.initialized RX5, Cond.code yX5_cost cX5_cost 3 (some .int), Cond.classLink RX5 71 "java/util/NoSuchElementException", Cond.initialized "java/util/NoSuchElementException", Cond.fieldLink RX5 27 "PageTurner" "score" "LPageTurner$Score;", Cond.fieldLink RX5 36 "PageTurner" "follower" "LPageTurner$Follower;", Cond.methodLink RX5 100 yX3_has, Cond.instanceMethod yX3_has, Cond.selects RX3 yX3_has yX3_has, Cond.initialized RX3, Cond.code yX3_has cX3_has 2 (some .boolean), Cond.fieldLink RX3 15 "PageTurner$Score" "events" "I", Cond.methodLink RX5 150 yX3_allBits, Cond.instanceMethod yX3_allBits, Cond.selects RX3 yX3_allBits yX3_allBits, Cond.code yX3_allBits cX3_allBits 3 (some .int), Cond.methodLink RX3 38 yX3_fact, Cond.instanceMethod yX3_fact, Cond.selects RX3 yX3_fact yX3_fact, Cond.code yX3_fact cX3_fact 3 (some .int)]
def wsL_cost_r2 : List Cond := [Cond.fieldLink RX3 11 "PageTurner$Score" "facts" "[I", Cond.methodLink RX5 156 yX0_costOf, Cond.instanceMethod yX0_costOf, Cond.selects RX0 yX0_costOf yX0_costOf, Cond.initialized RX0, Cond.code yX0_costOf cX0_costOf 4 (some .int), Cond.fieldLink RX0 30 "PageTurner$Follower" "now" "LPageTurner$Moment;", Cond.fieldLink RX0 33 "PageTurner$Follower" "score" "LPageTurner$Score;", Cond.constant RX0 87 (1000000), Cond.methodLink RX0 79 yX3_fact, Cond.methodLink RX0 83 yX1_costAt, Cond.instanceMethod yX1_costAt, Cond.selects RX1 yX1_costAt yX1_costAt, Cond.initialized RX1, Cond.code yX1_costAt cX1_costAt 2 (some .int), Cond.fieldLink RX1 7 "PageTurner$Moment" "costs" "[I", Cond.constant RX1 17 (1000000)]
def wsL_cost : List Cond := .codeWith yL_cost cL_cost 5 (some .int) [(0, 10, 13, 18)] :: ((wsL_cost_r1 ++ wsL_cost_r2) ++ wsX50 ++ wsX30 ++ wsX00 ++ wsX10 ++ (vx_atS RX5 75 "java/util/NoSuchElementException" ["java/lang/RuntimeException", "java/lang/Exception"]).filter goodWord)
def wsL_sure_r1 : List Cond := [Cond.classLink RL 18 "java/util/NoSuchElementException", Cond.methodLink RL 39 yX5_sure, Cond.instanceMethod yX5_sure, Cond.selects RX5 yX5_sure yX5_sure, Cond.initialized RX5, Cond.code yX5_sure cX5_sure 1 (some .int), Cond.classLink RX5 71 "java/util/NoSuchElementException", Cond.initialized "java/util/NoSuchElementException", Cond.fieldLink RX5 27 "PageTurner" "score" "LPageTurner$Score;", Cond.fieldLink RX5 76 "PageTurner$Score" "events" "I", Cond.fieldLink RX5 36 "PageTurner" "follower" "LPageTurner$Follower;", Cond.methodLink RX5 159 yX0_leadOverOtherMeasures, Cond.instanceMethod yX0_leadOverOtherMeasures, Cond.selects RX0 yX0_leadOverOtherMeasures yX0_leadOverOtherMeasures, Cond.initialized RX0, Cond.code yX0_leadOverOtherMeasures cX0_leadOverOtherMeasures 4 (some .int), Cond.fieldLink RX0 33 "PageTurner$Follower" "score" "LPageTurner$Score;", Cond.fieldLink RX0 30 "PageTurner$Follower" "now" "LPageTurner$Moment;", Cond.fieldLink RX0 70 "PageTurner$Moment" "placeEvent" "I", Cond.constant RX0 87 (1000000), Cond.fieldLink RX0 88 "PageTurner$Score" "events" "I", Cond.methodLink RX0 94 Lib.Math.min.name, Cond.static Lib.Math.min.name, Cond.initialized "java/lang/Math"]
def wsL_sure_r2 : List Cond := [Cond.code Lib.Math.min.name Lib.Math.min.code 2 (some .int), Cond.fieldLink RX0 51 "PageTurner$Moment" "placeCost" "I", Cond.methodLink RX0 79 yX3_fact, Cond.instanceMethod yX3_fact, Cond.selects RX3 yX3_fact yX3_fact, Cond.initialized RX3, Cond.code yX3_fact cX3_fact 3 (some .int), Cond.fieldLink RX3 11 "PageTurner$Score" "facts" "[I", Cond.methodLink RX0 91 yX0_leastOf, Cond.instanceMethod yX0_leastOf, Cond.selects RX0 yX0_leastOf yX0_leastOf, Cond.code yX0_leastOf cX0_leastOf 6 (some .int), Cond.methodLink RX0 99 yX3_allBits, Cond.instanceMethod yX3_allBits, Cond.selects RX3 yX3_allBits yX3_allBits, Cond.code yX3_allBits cX3_allBits 3 (some .int), Cond.methodLink RX3 38 yX3_fact, Cond.methodLink RX0 83 yX1_costAt, Cond.instanceMethod yX1_costAt, Cond.selects RX1 yX1_costAt yX1_costAt, Cond.initialized RX1, Cond.code yX1_costAt cX1_costAt 2 (some .int), Cond.fieldLink RX1 7 "PageTurner$Moment" "costs" "[I", Cond.constant RX1 17 (1000000)]
def wsL_sure : List Cond := .codeWith yL_sure cL_sure 3 (some .int) [(0, 8, 11, 18)] :: ((wsL_sure_r1 ++ wsL_sure_r2) ++ wsX50 ++ wsX30 ++ wsX00 ++ wsX10 ++ (vx_atS RX5 75 "java/util/NoSuchElementException" ["java/lang/RuntimeException", "java/lang/Exception"]).filter goodWord)
def wsL_time_r1 : List Cond := [Cond.classLink RL 13 "java/lang/IllegalArgumentException", Cond.methodLink RL 43 yX5_time, Cond.instanceMethod yX5_time, Cond.selects RX5 yX5_time yX5_time, Cond.initialized RX5, Cond.code yX5_time cX5_time 2 (some .long), Cond.classLink RX5 47 "java/lang/IllegalArgumentException", Cond.initialized "java/lang/IllegalArgumentException", Cond.constant RX5 171 (100000), Cond.fieldLink RX5 36 "PageTurner" "follower" "LPageTurner$Follower;", Cond.methodLink RX5 174 yX0_timeOfBeat, Cond.instanceMethod yX0_timeOfBeat, Cond.selects RX0 yX0_timeOfBeat yX0_timeOfBeat, Cond.initialized RX0, Cond.code yX0_timeOfBeat cX0_timeOfBeat 7 (some .long), Cond.fieldLink RX0 30 "PageTurner$Follower" "now" "LPageTurner$Moment;", Cond.fieldLink RX0 141 "PageTurner$Moment" "anchor" "LPageTurner$Moment;", Cond.constantLong RX0 155 (-1), Cond.fieldLink RX0 67 "PageTurner$Moment" "clock" "I", Cond.methodLink RX0 157 yX0_tempoLower, Cond.instanceMethod yX0_tempoLower, Cond.selects RX0 yX0_tempoLower yX0_tempoLower, Cond.code yX0_tempoLower cX0_tempoLower 3 (some .int), Cond.methodLink RX0 147 yX0_tempoBase]
def wsL_time_r2 : List Cond := [Cond.instanceMethod yX0_tempoBase, Cond.selects RX0 yX0_tempoBase yX0_tempoBase, Cond.code yX0_tempoBase cX0_tempoBase 4 (some (.object "PageTurner$Moment")), Cond.fieldLink RX0 144 "PageTurner$Moment" "anchorAhead" "LPageTurner$Moment;", Cond.methodLink RX0 151 yX0_beatOf, Cond.instanceMethod yX0_beatOf, Cond.selects RX0 yX0_beatOf yX0_beatOf, Cond.code yX0_beatOf cX0_beatOf 2 (some .int), Cond.fieldLink RX0 33 "PageTurner$Follower" "score" "LPageTurner$Score;", Cond.fieldLink RX0 70 "PageTurner$Moment" "placeEvent" "I", Cond.methodLink RX0 79 yX3_fact, Cond.instanceMethod yX3_fact, Cond.selects RX3 yX3_fact yX3_fact, Cond.initialized RX3, Cond.code yX3_fact cX3_fact 3 (some .int), Cond.fieldLink RX3 11 "PageTurner$Score" "facts" "[I", Cond.methodLink RX0 161 yX0_tempoUpper, Cond.instanceMethod yX0_tempoUpper, Cond.selects RX0 yX0_tempoUpper yX0_tempoUpper, Cond.code yX0_tempoUpper cX0_tempoUpper 3 (some .int), Cond.methodLink RX0 164 yJ9_floorDiv_f86c9, Cond.static yJ9_floorDiv_f86c9, Cond.initialized RJ9, Cond.code yJ9_floorDiv_f86c9 cJ9_floorDiv_f86c9 6 (some .long)]
def wsL_time : List Cond := .codeWith yL_time cL_time 4 (some .int) [(0, 8, 11, 13)] :: ((wsL_time_r1 ++ wsL_time_r2) ++ wsX50 ++ wsX00 ++ wsX10 ++ wsX30 ++ (vx_atS RX5 51 "java/lang/IllegalArgumentException" ["java/lang/RuntimeException", "java/lang/Exception"]).filter goodWord)
def wsL_lead : List Cond := .codeWith yL_lead cL_lead 4 (some .int) [(0, 9, 12, 13)] :: ([.classLink RL 13 "java/lang/IllegalArgumentException", .methodLink RL 47 yX5_lead, .instanceMethod yX5_lead, .selects RX5 yX5_lead yX5_lead, .initialized RX5, .code yX5_lead cX5_lead 3 (some .int), .classLink RX5 47 "java/lang/IllegalArgumentException", .initialized "java/lang/IllegalArgumentException", .constant RX5 186 (60000), .fieldLink RX5 40 "PageTurner" "turnLead" "I"] ++ wsX50 ++ (vx_atS RX5 51 "java/lang/IllegalArgumentException" ["java/lang/RuntimeException", "java/lang/Exception"]).filter goodWord)
def wsL_law0_r1 : List Cond := [Cond.classLink RL 8 RX5, Cond.instantiable RX5 6, Cond.initialized RX5, Cond.classLink RL 51 RX6, Cond.instantiable RX6 45, Cond.initialized RX6, Cond.arrayClass .long, Cond.methodLink RL 50 yX5_init, Cond.instanceMethod yX5_init, Cond.code yX5_init cX5_init 1 none, Cond.methodLink RX5 1 objectInit, Cond.instanceMethod objectInit, Cond.code objectInit ⟨#[0xb1]⟩ 1 none, Cond.arrayClass .byte, Cond.fieldLink RX5 9 "PageTurner" "tape" "[B", Cond.fieldLink RX5 13 "PageTurner" "tapeLength" "I", Cond.classLink RX5 17 RX2, Cond.instantiable RX2 10, Cond.initialized RX2, Cond.fieldLink RX5 20 "PageTurner" "reader" "LPageTurner$Reader;", Cond.classLink RX5 24 RX3, Cond.instantiable RX3 7, Cond.initialized RX3, Cond.fieldLink RX5 27 "PageTurner" "score" "LPageTurner$Score;"]
def wsL_law0_r2 : List Cond := [Cond.classLink RX5 31 RX0, Cond.instantiable RX0 7, Cond.initialized RX0, Cond.fieldLink RX5 36 "PageTurner" "follower" "LPageTurner$Follower;", Cond.fieldLink RX5 40 "PageTurner" "turnLead" "I", Cond.instanceMethod yX2_init, Cond.code yX2_init cX2_init 1 none, Cond.methodLink RX2 5 objectInit, Cond.classLink RX2 11 RX4, Cond.instantiable RX4 6, Cond.initialized RX4, Cond.fieldLink RX2 14 "PageTurner$Reader" "tokens" "LPageTurner$Tokens;", Cond.classLink RX2 18 RX3, Cond.fieldLink RX2 21 "PageTurner$Reader" "draft" "LPageTurner$Score;", Cond.fieldLink RX2 25 "PageTurner$Reader" "fault" "I", Cond.fieldLink RX2 29 "PageTurner$Reader" "faultPlace" "I", Cond.instanceMethod yX4_init, Cond.code yX4_init cX4_init 1 none, Cond.methodLink RX4 3 objectInit, Cond.fieldLink RX4 9 "PageTurner$Tokens" "text" "[B", Cond.instanceMethod yX3_init, Cond.code yX3_init cX3_init 1 none, Cond.methodLink RX3 5 objectInit, Cond.arrayClass .int]
def wsL_law0_r3 : List Cond := [Cond.fieldLink RX3 11 "PageTurner$Score" "facts" "[I", Cond.methodLink RX5 33 yX0_init, Cond.instanceMethod yX0_init, Cond.code yX0_init cX0_init 2 none, Cond.methodLink RX0 3 objectInit, Cond.fieldLink RX0 9 "PageTurner$Follower" "prices" "[I", Cond.fieldLink RX0 15 "PageTurner$Follower" "arrivals" "[I", Cond.fieldLink RX0 18 "PageTurner$Follower" "departures" "[I", Cond.classLink RX0 21 RX1, Cond.instantiable RX1 10, Cond.initialized RX1, Cond.fieldLink RX0 26 "PageTurner$Follower" "start" "LPageTurner$Moment;", Cond.fieldLink RX0 30 "PageTurner$Follower" "now" "LPageTurner$Moment;", Cond.fieldLink RX0 33 "PageTurner$Follower" "score" "LPageTurner$Score;", Cond.methodLink RX0 23 yX1_init, Cond.instanceMethod yX1_init, Cond.code yX1_init cX1_init 2 none, Cond.methodLink RX1 1 objectInit, Cond.fieldLink RX1 7 "PageTurner$Moment" "costs" "[I", Cond.fieldLink RX1 13 "PageTurner$Moment" "before" "LPageTurner$Moment;", Cond.methodLink RL 53 yX6_init, Cond.instanceMethod yX6_init, Cond.code yX6_init cX6_init 1 none, Cond.methodLink RX6 1 objectInit]
def wsL_law0_r4 : List Cond := [Cond.fieldLink RX6 9 "PageTurnerModel" "tape" "[I", Cond.fieldLink RX6 13 "PageTurnerModel" "faultPlace" "I", Cond.fieldLink RX6 17 "PageTurnerModel" "kind" "[I", Cond.fieldLink RX6 20 "PageTurnerModel" "many" "[I", Cond.fieldLink RX6 23 "PageTurnerModel" "pitch" "[I", Cond.fieldLink RX6 26 "PageTurnerModel" "beat" "[I", Cond.fieldLink RX6 29 "PageTurnerModel" "size" "[I", Cond.fieldLink RX6 32 "PageTurnerModel" "measure" "[I", Cond.fieldLink RX6 35 "PageTurnerModel" "page" "[I", Cond.fieldLink RX6 38 "PageTurnerModel" "leads" "[I", Cond.arrayClass .boolean, Cond.fieldLink RX6 41 "PageTurnerModel" "isMarked" "[Z", Cond.fieldLink RX6 45 "PageTurnerModel" "isCue" "[Z", Cond.fieldLink RX6 48 "PageTurnerModel" "old" "[I", Cond.fieldLink RX6 51 "PageTurnerModel" "time" "[I", Cond.fieldLink RX6 54 "PageTurnerModel" "placeEvent" "[I", Cond.fieldLink RX6 57 "PageTurnerModel" "placeBits" "[I", Cond.classLink RX6 60 "[[I", Cond.fieldLink RX6 62 "PageTurnerModel" "costs" "[[I", Cond.fieldLink RX6 65 "PageTurnerModel" "open" "[I", Cond.fieldLink RX6 68 "PageTurnerModel" "price" "[I", Cond.fieldLink RX6 71 "PageTurnerModel" "anchorEvent" "[I", Cond.fieldLink RX6 74 "PageTurnerModel" "anchorTime" "[I", Cond.fieldLink RX6 77 "PageTurnerModel" "lead" "I"]
def wsL_law0_r5 : List Cond := [Cond.methodLink RL 54 yX5_feed, Cond.instanceMethod yX5_feed, Cond.selects RX5 yX5_feed yX5_feed, Cond.code yX5_feed cX5_feed 6 (some .int), Cond.methodLink RX5 43 yX5_putBytes, Cond.instanceMethod yX5_putBytes, Cond.selects RX5 yX5_putBytes yX5_putBytes, Cond.code yX5_putBytes cX5_putBytes 3 none, Cond.methodLink RL 58 yX6_feed, Cond.instanceMethod yX6_feed, Cond.selects RX6 yX6_feed yX6_feed, Cond.code yX6_feed cX6_feed 8 (some .int), Cond.fieldLink RX6 80 "PageTurnerModel" "code" "I", Cond.fieldLink RX6 83 "PageTurnerModel" "taped" "I", Cond.methodLink RL 59 yL_music, Cond.static yL_music, Cond.initialized RL, Cond.codeWith yL_music cL_music 4 (some .int) [(0, 9, 12, 13)], Cond.classLink RL 13 "java/lang/IllegalArgumentException", Cond.methodLink RL 7 yX5_music, Cond.instanceMethod yX5_music, Cond.selects RX5 yX5_music yX5_music, Cond.code yX5_music cX5_music 3 (some .int), Cond.classLink RX5 47 "java/lang/IllegalArgumentException"]
def wsL_law0_r6 : List Cond := [Cond.initialized "java/lang/IllegalArgumentException", Cond.methodLink RX5 54 yX2_read, Cond.instanceMethod yX2_read, Cond.selects RX2 yX2_read yX2_read, Cond.code yX2_read cX2_read 4 (some .int), Cond.fieldLink RX2 32 "PageTurner$Reader" "stand" "I", Cond.fieldLink RX2 35 "PageTurner$Reader" "marks" "I", Cond.fieldLink RX2 38 "PageTurner$Reader" "cues" "I", Cond.fieldLink RX2 41 "PageTurner$Reader" "marked" "Z", Cond.fieldLink RX2 45 "PageTurner$Reader" "cued" "Z", Cond.fieldLink RX2 48 "PageTurner$Reader" "repeatStart" "I", Cond.fieldLink RX2 62 "PageTurner$Tokens" "kind" "I", Cond.fieldLink RX2 71 "PageTurner$Tokens" "start" "I", Cond.methodLink RX2 51 yX3_clear, Cond.instanceMethod yX3_clear, Cond.selects RX3 yX3_clear yX3_clear, Cond.code yX3_clear cX3_clear 1 none, Cond.fieldLink RX3 15 "PageTurner$Score" "events" "I", Cond.fieldLink RX3 19 "PageTurner$Score" "beats" "I", Cond.fieldLink RX3 22 "PageTurner$Score" "cues" "I", Cond.fieldLink RX3 25 "PageTurner$Score" "states" "I", Cond.fieldLink RX3 28 "PageTurner$Score" "measure" "I", Cond.fieldLink RX3 31 "PageTurner$Score" "page" "I", Cond.methodLink RX2 54 yX4_begin]
def wsL_law0_r7 : List Cond := [Cond.instanceMethod yX4_begin, Cond.selects RX4 yX4_begin yX4_begin, Cond.code yX4_begin cX4_begin 3 none, Cond.methodLink RX4 15 Lib.Math.min.name, Cond.static Lib.Math.min.name, Cond.initialized "java/lang/Math", Cond.code Lib.Math.min.name Lib.Math.min.code 2 (some .int), Cond.fieldLink RX4 21 "PageTurner$Tokens" "length" "I", Cond.fieldLink RX4 25 "PageTurner$Tokens" "next" "I", Cond.methodLink RX4 28 yX4_advance, Cond.instanceMethod yX4_advance, Cond.selects RX4 yX4_advance yX4_advance, Cond.code yX4_advance cX4_advance 2 none, Cond.fieldLink RX4 34 "PageTurner$Tokens" "start" "I", Cond.fieldLink RX4 37 "PageTurner$Tokens" "value" "I", Cond.fieldLink RX4 44 "PageTurner$Tokens" "kind" "I", Cond.methodLink RX4 31 yX4_skipBlanks, Cond.instanceMethod yX4_skipBlanks, Cond.selects RX4 yX4_skipBlanks yX4_skipBlanks, Cond.code yX4_skipBlanks cX4_skipBlanks 1 none, Cond.methodLink RX4 40 yX4_byteAt, Cond.instanceMethod yX4_byteAt, Cond.selects RX4 yX4_byteAt yX4_byteAt, Cond.code yX4_byteAt cX4_byteAt 2 (some .int)]
def wsL_law0_r8 : List Cond := [Cond.methodLink RX4 47 yX4_takePitch, Cond.instanceMethod yX4_takePitch, Cond.selects RX4 yX4_takePitch yX4_takePitch, Cond.code yX4_takePitch cX4_takePitch 5 none, Cond.fieldLink RX4 69 "PageTurner$Tokens" "STEPS" "[I", Cond.methodLink RX4 58 yX4_take, Cond.instanceMethod yX4_take, Cond.selects RX4 yX4_take yX4_take, Cond.code yX4_take cX4_take 3 none, Cond.methodLink RX4 51 yX4_isDigit, Cond.static yX4_isDigit, Cond.code yX4_isDigit cX4_isDigit 1 (some .boolean), Cond.methodLink RX4 55 yX4_takeNumber, Cond.instanceMethod yX4_takeNumber, Cond.selects RX4 yX4_takeNumber yX4_takeNumber, Cond.code yX4_takeNumber cX4_takeNumber 2 none, Cond.methodLink RX4 64 yJ0_indexOf_0f7a4, Cond.instanceMethod yJ0_indexOf_0f7a4, Cond.selects RJ0 yJ0_indexOf_0f7a4 yJ0_indexOf_0f7a4, Cond.initialized RJ0, Cond.code yJ0_indexOf_0f7a4 cJ0_indexOf_0f7a4 2 (some .int), Cond.methodLink RJ0 633 yJ0_indexOf_7cf53, Cond.instanceMethod yJ0_indexOf_7cf53, Cond.selects RJ0 yJ0_indexOf_7cf53 yJ0_indexOf_7cf53]
def wsL_law0_r9 : List Cond := [Cond.code yJ0_indexOf_7cf53 cJ0_indexOf_7cf53 3 (some .int), Cond.fieldLink RJ0 9 "java/lang/String" "value" "[B", Cond.methodLink RJ0 492 yJ0_isLatin1_aae02, Cond.instanceMethod yJ0_isLatin1_aae02, Cond.selects RJ0 yJ0_isLatin1_aae02 yJ0_isLatin1_aae02, Cond.code yJ0_isLatin1_aae02 cJ0_isLatin1_aae02 1 (some .boolean), Cond.fieldLink RJ0 38 "java/lang/String" "COMPACT_STRINGS" "Z", Cond.fieldLink RJ0 15 "java/lang/String" "coder" "B", Cond.methodLink RJ0 505 yJ0_length_8abf5, Cond.instanceMethod yJ0_length_8abf5, Cond.selects RJ0 yJ0_length_8abf5 yJ0_length_8abf5, Cond.code yJ0_length_8abf5 cJ0_length_8abf5 1 (some .int), Cond.methodLink RJ0 335 yJ0_coder_7d493, Cond.instanceMethod yJ0_coder_7d493, Cond.selects RJ0 yJ0_coder_7d493 yJ0_coder_7d493, Cond.code yJ0_coder_7d493 cJ0_coder_7d493 1 (some .byte), Cond.methodLink RJ0 637 yJ1_indexOf_4cfef, Cond.static yJ1_indexOf_4cfef, Cond.initialized RJ1, Cond.code yJ1_indexOf_4cfef cJ1_indexOf_4cfef 4 (some .int), Cond.methodLink RJ1 92 Lib.Math.max.name, Cond.static Lib.Math.max.name, Cond.code Lib.Math.max.name Lib.Math.max.code 2 (some .int), Cond.methodLink RJ1 38 Lib.Math.min.name]
def wsL_law0_r10 : List Cond := [Cond.methodLink RJ1 88 yJ1_canEncode_9a6ad, Cond.static yJ1_canEncode_9a6ad, Cond.code yJ1_canEncode_9a6ad cJ1_canEncode_9a6ad 1 (some .boolean), Cond.methodLink RJ1 95 yJ1_indexOfChar_4cfef, Cond.static yJ1_indexOfChar_4cfef, Cond.code yJ1_indexOfChar_4cfef cJ1_indexOfChar_4cfef 6 (some .int), Cond.methodLink RJ0 640 yJ2_indexOf_4cfef, Cond.static yJ2_indexOf_4cfef, Cond.initialized RJ2, Cond.code yJ2_indexOf_4cfef cJ2_indexOf_4cfef 4 (some .int), Cond.methodLink RJ2 224 Lib.Math.max.name, Cond.methodLink RJ2 183 Lib.Math.min.name, Cond.constant RJ2 227 (65536), Cond.methodLink RJ2 228 yJ2_indexOfChar_4cfef, Cond.static yJ2_indexOfChar_4cfef, Cond.code yJ2_indexOfChar_4cfef cJ2_indexOfChar_4cfef 4 (some .int), Cond.methodLink RJ2 96 yJ2_checkBoundsBeginEnd_d044e, Cond.static yJ2_checkBoundsBeginEnd_d044e, Cond.code yJ2_checkBoundsBeginEnd_d044e cJ2_checkBoundsBeginEnd_d044e 3 none, Cond.methodLink RJ2 48 yJ2_length_9d52b, Cond.static yJ2_length_9d52b, Cond.code yJ2_length_9d52b cJ2_length_9d52b 1 (some .int), Cond.methodLink RJ2 241 yJ0_checkBoundsBeginEnd_23922, Cond.static yJ0_checkBoundsBeginEnd_23922]
def wsL_law0_r11 : List Cond := [Cond.code yJ0_checkBoundsBeginEnd_23922 cJ0_checkBoundsBeginEnd_23922 3 none, Cond.fieldLink RJ0 1053 "jdk/internal/util/Preconditions" "SIOOBE_FORMATTER" "Ljava/util/function/BiFunction;", Cond.methodLink RJ0 1062 yJ3_checkFromToIndex_8c36e, Cond.static yJ3_checkFromToIndex_8c36e, Cond.initialized RJ3, Cond.code yJ3_checkFromToIndex_8c36e cJ3_checkFromToIndex_8c36e 4 (some .int), Cond.methodLink RJ2 244 yJ2_indexOfCharUnsafe_4cfef, Cond.static yJ2_indexOfCharUnsafe_4cfef, Cond.code yJ2_indexOfCharUnsafe_4cfef cJ2_indexOfCharUnsafe_4cfef 5 (some .int), Cond.methodLink RJ2 71 yJ2_getChar_3b067, Cond.static yJ2_getChar_3b067, Cond.code yJ2_getChar_3b067 cJ2_getChar_3b067 2 (some .char), Cond.fieldLink RJ2 44 "java/lang/StringUTF16" "$assertionsDisabled" "Z", Cond.fieldLink RJ2 59 "java/lang/StringUTF16" "HI_BYTE_SHIFT" "I", Cond.fieldLink RJ2 63 "java/lang/StringUTF16" "LO_BYTE_SHIFT" "I", Cond.methodLink RJ2 232 yJ2_indexOfSupplementary_4cfef, Cond.static yJ2_indexOfSupplementary_4cfef, Cond.code yJ2_indexOfSupplementary_4cfef cJ2_indexOfSupplementary_4cfef 7 (some .int), Cond.methodLink RJ2 164 yJ11_isValidCodePoint_9a6ad, Cond.static yJ11_isValidCodePoint_9a6ad, Cond.initialized RJ11, Cond.code yJ11_isValidCodePoint_9a6ad cJ11_isValidCodePoint_9a6ad 2 (some .boolean), Cond.methodLink RJ2 157 yJ11_highSurrogate_5068e, Cond.static yJ11_highSurrogate_5068e]
def wsL_law0_r12 : List Cond := [Cond.code yJ11_highSurrogate_5068e cJ11_highSurrogate_5068e 1 (some .char), Cond.constant RJ11 110 (55232), Cond.methodLink RJ2 161 yJ11_lowSurrogate_5068e, Cond.static yJ11_lowSurrogate_5068e, Cond.code yJ11_lowSurrogate_5068e cJ11_lowSurrogate_5068e 1 (some .char), Cond.constant RJ11 76 (56320), Cond.methodLink RX2 58 yX2_faultOfToken, Cond.instanceMethod yX2_faultOfToken, Cond.selects RX2 yX2_faultOfToken yX2_faultOfToken, Cond.code yX2_faultOfToken cX2_faultOfToken 2 (some .int), Cond.fieldLink RX2 86 "PageTurner$Tokens" "value" "I", Cond.methodLink RX2 74 yX2_standsAhead, Cond.static yX2_standsAhead, Cond.code yX2_standsAhead cX2_standsAhead 1 (some .int), Cond.methodLink RX2 78 yX2_standsIn, Cond.instanceMethod yX2_standsIn, Cond.selects RX2 yX2_standsIn yX2_standsIn, Cond.code yX2_standsIn cX2_standsIn 2 (some .boolean), Cond.methodLink RX2 82 yX2_isTooMuch, Cond.instanceMethod yX2_isTooMuch, Cond.selects RX2 yX2_isTooMuch yX2_isTooMuch, Cond.code yX2_isTooMuch cX2_isTooMuch 1 (some .boolean), Cond.methodLink RX2 92 yX3_isFull, Cond.instanceMethod yX3_isFull]
def wsL_law0_r13 : List Cond := [Cond.selects RX3 yX3_isFull yX3_isFull, Cond.code yX3_isFull cX3_isFull 1 (some .boolean), Cond.methodLink RX2 95 yX3_openPitches, Cond.instanceMethod yX3_openPitches, Cond.selects RX3 yX3_openPitches yX3_openPitches, Cond.code yX3_openPitches cX3_openPitches 1 (some .int), Cond.methodLink RX3 38 yX3_fact, Cond.instanceMethod yX3_fact, Cond.selects RX3 yX3_fact yX3_fact, Cond.code yX3_fact cX3_fact 3 (some .int), Cond.methodLink RX2 89 yX3_openHasPitch, Cond.instanceMethod yX3_openHasPitch, Cond.selects RX3 yX3_openHasPitch yX3_openHasPitch, Cond.code yX3_openHasPitch cX3_openHasPitch 4 (some .boolean), Cond.methodLink RX3 42 yX3_openPitches, Cond.methodLink RX2 65 yX2_takeToken, Cond.instanceMethod yX2_takeToken, Cond.selects RX2 yX2_takeToken yX2_takeToken, Cond.code yX2_takeToken cX2_takeToken 1 none, Cond.methodLink RX2 98 yX2_takeMark, Cond.instanceMethod yX2_takeMark, Cond.selects RX2 yX2_takeMark yX2_takeMark, Cond.code yX2_takeMark cX2_takeMark 1 none, Cond.methodLink RX2 101 yX2_takeCue]
def wsL_law0_r14 : List Cond := [Cond.instanceMethod yX2_takeCue, Cond.selects RX2 yX2_takeCue yX2_takeCue, Cond.code yX2_takeCue cX2_takeCue 1 none, Cond.methodLink RX2 104 yX2_openEvent, Cond.instanceMethod yX2_openEvent, Cond.selects RX2 yX2_openEvent yX2_openEvent, Cond.code yX2_openEvent cX2_openEvent 3 none, Cond.methodLink RX2 118 yX3_openEvent, Cond.instanceMethod yX3_openEvent, Cond.selects RX3 yX3_openEvent yX3_openEvent, Cond.code yX3_openEvent cX3_openEvent 4 none, Cond.methodLink RX3 34 yX3_write, Cond.instanceMethod yX3_write, Cond.selects RX3 yX3_write yX3_write, Cond.code yX3_write cX3_write 4 none, Cond.methodLink RX2 108 yX2_takePitch, Cond.instanceMethod yX2_takePitch, Cond.selects RX2 yX2_takePitch yX2_takePitch, Cond.code yX2_takePitch cX2_takePitch 2 none, Cond.methodLink RX2 121 yX3_addPitch, Cond.instanceMethod yX3_addPitch, Cond.selects RX3 yX3_addPitch yX3_addPitch, Cond.code yX3_addPitch cX3_addPitch 3 none, Cond.methodLink RX2 111 yX3_closeEvent]
def wsL_law0_r15 : List Cond := [Cond.instanceMethod yX3_closeEvent, Cond.selects RX3 yX3_closeEvent yX3_closeEvent, Cond.code yX3_closeEvent cX3_closeEvent 2 none, Cond.methodLink RX3 46 yX3_isFull, Cond.methodLink RX3 50 yX3_allBits, Cond.instanceMethod yX3_allBits, Cond.selects RX3 yX3_allBits yX3_allBits, Cond.code yX3_allBits cX3_allBits 3 (some .int), Cond.methodLink RX2 115 yX2_takeBarOrPage, Cond.instanceMethod yX2_takeBarOrPage, Cond.selects RX2 yX2_takeBarOrPage yX2_takeBarOrPage, Cond.code yX2_takeBarOrPage cX2_takeBarOrPage 1 none, Cond.fieldLink RX2 124 "PageTurner$Score" "events" "I", Cond.methodLink RX2 127 yX3_repeatFrom, Cond.instanceMethod yX3_repeatFrom, Cond.selects RX3 yX3_repeatFrom yX3_repeatFrom, Cond.code yX3_repeatFrom cX3_repeatFrom 2 none, Cond.methodLink RX2 130 yX3_endMeasure, Cond.instanceMethod yX3_endMeasure, Cond.selects RX3 yX3_endMeasure yX3_endMeasure, Cond.code yX3_endMeasure cX3_endMeasure 1 none, Cond.methodLink RX2 133 yX3_endPage, Cond.instanceMethod yX3_endPage, Cond.selects RX3 yX3_endPage yX3_endPage]
def wsL_law0_r16 : List Cond := [Cond.code yX3_endPage cX3_endPage 1 none, Cond.methodLink RX2 68 yX4_advance, Cond.methodLink RX5 58 yX2_trade, Cond.instanceMethod yX2_trade, Cond.selects RX2 yX2_trade yX2_trade, Cond.code yX2_trade cX2_trade 3 (some (.object "PageTurner$Score")), Cond.methodLink RX5 62 yX0_begin, Cond.instanceMethod yX0_begin, Cond.selects RX0 yX0_begin yX0_begin, Cond.code yX0_begin cX0_begin 2 none, Cond.fieldLink RX0 37 "PageTurner$Score" "states" "I", Cond.fieldLink RX0 51 "PageTurner$Moment" "placeCost" "I", Cond.methodLink RX0 43 yX1_clear, Cond.instanceMethod yX1_clear, Cond.selects RX1 yX1_clear yX1_clear, Cond.code yX1_clear cX1_clear 3 none, Cond.constant RX1 17 (1000000), Cond.fieldLink RX1 18 "PageTurner$Moment" "placeEvent" "I", Cond.fieldLink RX1 22 "PageTurner$Moment" "placeBits" "I", Cond.fieldLink RX1 25 "PageTurner$Moment" "placeCost" "I", Cond.fieldLink RX1 28 "PageTurner$Moment" "anchors" "I", Cond.fieldLink RX1 31 "PageTurner$Moment" "anchor" "LPageTurner$Moment;", Cond.fieldLink RX1 34 "PageTurner$Moment" "anchorAhead" "LPageTurner$Moment;", Cond.methodLink RX0 47 yX1_offer]
def wsL_law0_r17 : List Cond := [Cond.instanceMethod yX1_offer, Cond.selects RX1 yX1_offer yX1_offer, Cond.code yX1_offer cX1_offer 3 none, Cond.methodLink RX0 54 yX0_forget, Cond.instanceMethod yX0_forget, Cond.selects RX0 yX0_forget yX0_forget, Cond.code yX0_forget cX0_forget 1 none, Cond.fieldLink RX0 57 "PageTurner$Follower" "notes" "I", Cond.methodLink RL 64 yX6_music, Cond.instanceMethod yX6_music, Cond.selects RX6 yX6_music yX6_music, Cond.code yX6_music cX6_music 3 (some .int), Cond.fieldLink RX6 86 "PageTurnerModel" "length" "I", Cond.fieldLink RX6 124 "PageTurnerModel" "bad" "I", Cond.fieldLink RX6 187 "PageTurnerModel" "fault" "I", Cond.fieldLink RX6 127 "PageTurnerModel" "badPlace" "I", Cond.fieldLink RX6 190 "PageTurnerModel" "oldSize" "I", Cond.methodLink RX6 180 yX6_fail, Cond.instanceMethod yX6_fail, Cond.selects RX6 yX6_fail yX6_fail, Cond.code yX6_fail cX6_fail 1 (some .int), Cond.methodLink RX6 184 yX6_readAll, Cond.instanceMethod yX6_readAll, Cond.selects RX6 yX6_readAll yX6_readAll]
def wsL_law0_r18 : List Cond := [Cond.code yX6_readAll cX6_readAll 2 none, Cond.fieldLink RX6 144 "PageTurnerModel" "events" "I", Cond.fieldLink RX6 147 "PageTurnerModel" "measures" "I", Cond.fieldLink RX6 150 "PageTurnerModel" "pages" "I", Cond.fieldLink RX6 153 "PageTurnerModel" "beats" "I", Cond.fieldLink RX6 156 "PageTurnerModel" "cues" "I", Cond.fieldLink RX6 159 "PageTurnerModel" "marks" "I", Cond.fieldLink RX6 162 "PageTurnerModel" "repeatFrom" "I", Cond.fieldLink RX6 89 "PageTurnerModel" "at" "I", Cond.fieldLink RX6 102 "PageTurnerModel" "token" "I", Cond.fieldLink RX6 165 "PageTurnerModel" "firstOfMeasure" "I", Cond.methodLink RX6 133 yX6_next, Cond.instanceMethod yX6_next, Cond.selects RX6 yX6_next yX6_next, Cond.code yX6_next cX6_next 5 none, Cond.fieldLink RX6 96 "PageTurnerModel" "begins" "I", Cond.fieldLink RX6 99 "PageTurnerModel" "sign" "I", Cond.fieldLink RX6 109 "PageTurnerModel" "number" "I", Cond.methodLink RX6 112 Lib.Math.min.name, Cond.fieldLink RX6 121 "PageTurnerModel" "ends" "I", Cond.methodLink RX6 92 yX6_byteAt, Cond.instanceMethod yX6_byteAt, Cond.selects RX6 yX6_byteAt yX6_byteAt, Cond.code yX6_byteAt cX6_byteAt 2 (some .int)]
def wsL_law0_r19 : List Cond := [Cond.methodLink RX6 105 yX6_isDigit, Cond.static yX6_isDigit, Cond.code yX6_isDigit cX6_isDigit 1 (some .boolean), Cond.methodLink RX6 118 yX6_baseOf, Cond.static yX6_baseOf, Cond.code yX6_baseOf cX6_baseOf 1 (some .int), Cond.methodLink RX6 130 yX6_isSign, Cond.instanceMethod yX6_isSign, Cond.selects RX6 yX6_isSign yX6_isSign, Cond.code yX6_isSign cX6_isSign 2 (some .boolean), Cond.methodLink RX6 168 yX6_beginsMarked, Cond.instanceMethod yX6_beginsMarked, Cond.selects RX6 yX6_beginsMarked yX6_beginsMarked, Cond.code yX6_beginsMarked cX6_beginsMarked 1 (some .boolean), Cond.methodLink RX6 140 yX6_beginsEvent, Cond.instanceMethod yX6_beginsEvent, Cond.selects RX6 yX6_beginsEvent yX6_beginsEvent, Cond.code yX6_beginsEvent cX6_beginsEvent 1 (some .boolean), Cond.methodLink RX6 136 yX6_wrong, Cond.instanceMethod yX6_wrong, Cond.selects RX6 yX6_wrong yX6_wrong, Cond.code yX6_wrong cX6_wrong 2 none, Cond.methodLink RX6 171 yX6_readMarked, Cond.instanceMethod yX6_readMarked]
def wsL_law0_r20 : List Cond := [Cond.selects RX6 yX6_readMarked yX6_readMarked, Cond.code yX6_readMarked cX6_readMarked 5 none, Cond.methodLink RX6 174 yX6_readPitch, Cond.instanceMethod yX6_readPitch, Cond.selects RX6 yX6_readPitch yX6_readPitch, Cond.code yX6_readPitch cX6_readPitch 3 none, Cond.methodLink RX6 177 yX6_need, Cond.instanceMethod yX6_need, Cond.selects RX6 yX6_need yX6_need, Cond.code yX6_need cX6_need 2 none, Cond.methodLink RX6 193 yX6_begin, Cond.instanceMethod yX6_begin, Cond.selects RX6 yX6_begin yX6_begin, Cond.code yX6_begin cX6_begin 2 none, Cond.fieldLink RX6 196 "PageTurnerModel" "notes" "I", Cond.fieldLink RX6 199 "PageTurnerModel" "anchors" "I", Cond.constant RX6 202 (268435456), Cond.methodLink RL 65 yX6_thrown, Cond.instanceMethod yX6_thrown, Cond.selects RX6 yX6_thrown yX6_thrown, Cond.code yX6_thrown cX6_thrown 1 (some .int), Cond.methodLink RL 68 yL_fault, Cond.static yL_fault, Cond.codeWith yL_fault cL_fault 4 (some .int) [(0, 9, 12, 18)]]
def wsL_law0_r21 : List Cond := [Cond.classLink RL 18 "java/util/NoSuchElementException", Cond.methodLink RL 15 yX5_fault, Cond.instanceMethod yX5_fault, Cond.selects RX5 yX5_fault yX5_fault, Cond.code yX5_fault cX5_fault 2 (some .int), Cond.classLink RX5 71 "java/util/NoSuchElementException", Cond.initialized "java/util/NoSuchElementException", Cond.fieldLink RX5 65 "PageTurner$Reader" "fault" "I", Cond.fieldLink RX5 68 "PageTurner$Reader" "faultPlace" "I", Cond.methodLink RL 70 yX6_fault, Cond.instanceMethod yX6_fault, Cond.selects RX6 yX6_fault yX6_fault, Cond.code yX6_fault cX6_fault 2 (some .int), Cond.methodLink RL 71 yL_count, Cond.static yL_count, Cond.codeWith yL_count cL_count 4 (some .int) [(0, 9, 12, 18)], Cond.methodLink RL 20 yX5_count, Cond.instanceMethod yX5_count, Cond.selects RX5 yX5_count yX5_count, Cond.code yX5_count cX5_count 2 (some .int), Cond.fieldLink RX5 76 "PageTurner$Score" "events" "I", Cond.fieldLink RX5 86 "PageTurner$Score" "beats" "I", Cond.fieldLink RX5 89 "PageTurner$Follower" "notes" "I", Cond.fieldLink RX5 95 "PageTurner$Score" "cues" "I"]
def wsL_law0_r22 : List Cond := [Cond.methodLink RX5 79 yX3_measuresWithEvents, Cond.instanceMethod yX3_measuresWithEvents, Cond.selects RX3 yX3_measuresWithEvents yX3_measuresWithEvents, Cond.code yX3_measuresWithEvents cX3_measuresWithEvents 1 (some .int), Cond.methodLink RX5 83 yX3_pagesWithEvents, Cond.instanceMethod yX3_pagesWithEvents, Cond.selects RX3 yX3_pagesWithEvents yX3_pagesWithEvents, Cond.code yX3_pagesWithEvents cX3_pagesWithEvents 1 (some .int), Cond.methodLink RX5 92 yX0_anchors, Cond.instanceMethod yX0_anchors, Cond.selects RX0 yX0_anchors yX0_anchors, Cond.code yX0_anchors cX0_anchors 1 (some .int), Cond.fieldLink RX0 76 "PageTurner$Moment" "anchors" "I", Cond.methodLink RL 73 yX6_count, Cond.instanceMethod yX6_count, Cond.selects RX6 yX6_count yX6_count, Cond.code yX6_count cX6_count 2 (some .int), Cond.methodLink RL 74 yL_event, Cond.static yL_event, Cond.codeWith yL_event cL_event 5 (some .int) [(0, 10, 13, 18)], Cond.methodLink RL 23 yX5_event, Cond.instanceMethod yX5_event, Cond.selects RX5 yX5_event yX5_event, Cond.code yX5_event cX5_event 3 (some .int)]
def wsL_law0_r23 : List Cond := [Cond.methodLink RX5 100 yX3_has, Cond.instanceMethod yX3_has, Cond.selects RX3 yX3_has yX3_has, Cond.code yX3_has cX3_has 2 (some .boolean), Cond.methodLink RX5 106 yX3_fact, Cond.methodLink RL 77 yX6_event, Cond.instanceMethod yX6_event, Cond.selects RX6 yX6_event yX6_event, Cond.code yX6_event cX6_event 3 (some .int), Cond.methodLink RL 78 yL_price, Cond.static yL_price, Cond.codeWith yL_price cL_price 5 (some .int) [(0, 10, 13, 13)], Cond.methodLink RL 27 yX5_price, Cond.instanceMethod yX5_price, Cond.selects RX5 yX5_price yX5_price, Cond.code yX5_price cX5_price 3 (some .int), Cond.methodLink RX5 112 yX0_hasPrice, Cond.instanceMethod yX0_hasPrice, Cond.selects RX0 yX0_hasPrice yX0_hasPrice, Cond.code yX0_hasPrice cX0_hasPrice 2 (some .boolean), Cond.methodLink RX5 117 yX0_changePrice, Cond.instanceMethod yX0_changePrice, Cond.selects RX0 yX0_changePrice yX0_changePrice, Cond.code yX0_changePrice cX0_changePrice 4 (some .int)]
def wsL_law0_r24 : List Cond := [Cond.methodLink RX0 63 yX0_hasPrice, Cond.methodLink RL 80 yX6_price, Cond.instanceMethod yX6_price, Cond.selects RX6 yX6_price yX6_price, Cond.code yX6_price cX6_price 4 (some .int), Cond.methodLink RL 81 yL_heard, Cond.static yL_heard, Cond.codeWith yL_heard cL_heard 5 (some .int) [(0, 10, 13, 13)], Cond.methodLink RL 30 yX5_heard, Cond.instanceMethod yX5_heard, Cond.selects RX5 yX5_heard yX5_heard, Cond.code yX5_heard cX5_heard 3 (some .int), Cond.constant RX5 120 (100000000), Cond.methodLink RX5 123 yX0_latestTime, Cond.instanceMethod yX0_latestTime, Cond.selects RX0 yX0_latestTime yX0_latestTime, Cond.code yX0_latestTime cX0_latestTime 1 (some .int), Cond.fieldLink RX0 67 "PageTurner$Moment" "clock" "I", Cond.methodLink RX5 126 yX0_hear, Cond.instanceMethod yX0_hear, Cond.selects RX0 yX0_hear yX0_hear, Cond.code yX0_hear cX0_hear 5 none, Cond.fieldLink RX0 102 "PageTurner$Moment" "next" "LPageTurner$Moment;", Cond.fieldLink RX0 88 "PageTurner$Score" "events" "I"]
def wsL_law0_r25 : List Cond := [Cond.methodLink RX0 105 yX0_makeSilentMoves, Cond.instanceMethod yX0_makeSilentMoves, Cond.selects RX0 yX0_makeSilentMoves yX0_makeSilentMoves, Cond.code yX0_makeSilentMoves cX0_makeSilentMoves 5 none, Cond.methodLink RX0 94 Lib.Math.min.name, Cond.methodLink RX0 79 yX3_fact, Cond.methodLink RX0 83 yX1_costAt, Cond.instanceMethod yX1_costAt, Cond.selects RX1 yX1_costAt yX1_costAt, Cond.code yX1_costAt cX1_costAt 2 (some .int), Cond.methodLink RX0 119 yX0_departureFrom, Cond.instanceMethod yX0_departureFrom, Cond.selects RX0 yX0_departureFrom yX0_departureFrom, Cond.code yX0_departureFrom cX0_departureFrom 7 (some .int), Cond.constant RX0 87 (1000000), Cond.methodLink RX0 99 yX3_allBits, Cond.methodLink RX0 126 yJ6_bitCount_0f7a4, Cond.static yJ6_bitCount_0f7a4, Cond.initialized RJ6, Cond.code yJ6_bitCount_0f7a4 cJ6_bitCount_0f7a4 1 (some .int), Cond.constant RJ6 265 (1431655765), Cond.constant RJ6 266 (858993459), Cond.constant RJ6 267 (252645135), Cond.methodLink RX0 122 yX0_walkOn]
def wsL_law0_r26 : List Cond := [Cond.instanceMethod yX0_walkOn, Cond.selects RX0 yX0_walkOn yX0_walkOn, Cond.code yX0_walkOn cX0_walkOn 5 (some .boolean), Cond.methodLink RX0 131 yX0_arrive, Cond.instanceMethod yX0_arrive, Cond.selects RX0 yX0_arrive yX0_arrive, Cond.code yX0_arrive cX0_arrive 3 (some .boolean), Cond.methodLink RX0 135 yX3_has, Cond.methodLink RX0 108 yX0_takeNote, Cond.instanceMethod yX0_takeNote, Cond.selects RX0 yX0_takeNote yX0_takeNote, Cond.code yX0_takeNote cX0_takeNote 11 none, Cond.methodLink RX0 138 yX3_rightBit, Cond.instanceMethod yX3_rightBit, Cond.selects RX3 yX3_rightBit yX3_rightBit, Cond.code yX3_rightBit cX3_rightBit 6 (some .int), Cond.methodLink RX3 54 Lib.Math.abs.name, Cond.static Lib.Math.abs.name, Cond.code Lib.Math.abs.name Lib.Math.abs.code 1 (some .int), Cond.methodLink RX0 112 yX0_findPlace, Cond.instanceMethod yX0_findPlace, Cond.selects RX0 yX0_findPlace yX0_findPlace, Cond.code yX0_findPlace cX0_findPlace 7 none, Cond.fieldLink RX0 70 "PageTurner$Moment" "placeEvent" "I"]
def wsL_law0_r27 : List Cond := [Cond.fieldLink RX0 73 "PageTurner$Moment" "placeBits" "I", Cond.methodLink RX0 116 yX0_dropAnchor, Cond.instanceMethod yX0_dropAnchor, Cond.selects RX0 yX0_dropAnchor yX0_dropAnchor, Cond.code yX0_dropAnchor cX0_dropAnchor 3 none, Cond.fieldLink RX0 141 "PageTurner$Moment" "anchor" "LPageTurner$Moment;", Cond.fieldLink RX0 144 "PageTurner$Moment" "anchorAhead" "LPageTurner$Moment;", Cond.methodLink RX5 130 yX0_placeEvent, Cond.instanceMethod yX0_placeEvent, Cond.selects RX0 yX0_placeEvent yX0_placeEvent, Cond.code yX0_placeEvent cX0_placeEvent 1 (some .int), Cond.methodLink RL 83 yX6_heard, Cond.instanceMethod yX6_heard, Cond.selects RX6 yX6_heard yX6_heard, Cond.code yX6_heard cX6_heard 3 (some .int), Cond.constant RX6 217 (100000000), Cond.methodLink RX6 218 yX6_bringDown, Cond.instanceMethod yX6_bringDown, Cond.selects RX6 yX6_bringDown yX6_bringDown, Cond.code yX6_bringDown cX6_bringDown 8 none, Cond.methodLink RX6 203 yX6_full, Cond.instanceMethod yX6_full, Cond.selects RX6 yX6_full yX6_full, Cond.code yX6_full cX6_full 2 (some .int)]
def wsL_law0_r28 : List Cond := [Cond.methodLink RX6 206 yX6_ones, Cond.static yX6_ones, Cond.code yX6_ones cX6_ones 3 (some .int), Cond.methodLink RX6 209 yX6_bring, Cond.instanceMethod yX6_bring, Cond.selects RX6 yX6_bring yX6_bring, Cond.code yX6_bring cX6_bring 3 (some .boolean), Cond.methodLink RX6 222 yX6_hear, Cond.instanceMethod yX6_hear, Cond.selects RX6 yX6_hear yX6_hear, Cond.code yX6_hear cX6_hear 9 none, Cond.methodLink RX6 213 yX6_come, Cond.instanceMethod yX6_come, Cond.selects RX6 yX6_come yX6_come, Cond.code yX6_come cX6_come 4 none, Cond.methodLink RX6 226 yX6_findPlace, Cond.instanceMethod yX6_findPlace, Cond.selects RX6 yX6_findPlace yX6_findPlace, Cond.code yX6_findPlace cX6_findPlace 5 none, Cond.methodLink RX6 229 yX6_anchor, Cond.instanceMethod yX6_anchor, Cond.selects RX6 yX6_anchor yX6_anchor, Cond.code yX6_anchor cX6_anchor 3 none, Cond.methodLink RL 84 yX5_back]
def wsL_law0_r29 : List Cond := [Cond.instanceMethod yX5_back, Cond.selects RX5 yX5_back yX5_back, Cond.code yX5_back cX5_back 1 (some .int), Cond.methodLink RX5 133 yX0_takeBack, Cond.instanceMethod yX0_takeBack, Cond.selects RX0 yX0_takeBack yX0_takeBack, Cond.code yX0_takeBack cX0_takeBack 2 (some .boolean), Cond.fieldLink RX0 60 "PageTurner$Moment" "before" "LPageTurner$Moment;", Cond.methodLink RL 87 yX6_back, Cond.instanceMethod yX6_back, Cond.selects RX6 yX6_back yX6_back, Cond.code yX6_back cX6_back 1 (some .int), Cond.methodLink RL 88 yX5_again, Cond.instanceMethod yX5_again, Cond.selects RX5 yX5_again yX5_again, Cond.code yX5_again cX5_again 2 (some .int), Cond.methodLink RX5 137 yX0_forget, Cond.methodLink RL 91 yX6_again, Cond.instanceMethod yX6_again, Cond.selects RX6 yX6_again yX6_again, Cond.code yX6_again cX6_again 2 (some .int), Cond.methodLink RL 92 yL_place, Cond.static yL_place, Cond.codeWith yL_place cL_place 4 (some .int) [(0, 9, 12, 18)]]
def wsL_law0_r30 : List Cond := [Cond.methodLink RL 33 yX5_place, Cond.instanceMethod yX5_place, Cond.selects RX5 yX5_place yX5_place, Cond.code yX5_place cX5_place 2 (some .int), Cond.methodLink RX5 142 yX0_placeBits, Cond.instanceMethod yX0_placeBits, Cond.selects RX0 yX0_placeBits yX0_placeBits, Cond.code yX0_placeBits cX0_placeBits 1 (some .int), Cond.methodLink RX5 145 yX0_placeCost, Cond.instanceMethod yX0_placeCost, Cond.selects RX0 yX0_placeCost yX0_placeCost, Cond.code yX0_placeCost cX0_placeCost 1 (some .int), Cond.methodLink RL 94 yX6_place, Cond.instanceMethod yX6_place, Cond.selects RX6 yX6_place yX6_place, Cond.code yX6_place cX6_place 3 (some .int), Cond.methodLink RL 95 yL_cost, Cond.static yL_cost, Cond.codeWith yL_cost cL_cost 5 (some .int) [(0, 10, 13, 18)], Cond.methodLink RL 36 yX5_cost, Cond.instanceMethod yX5_cost, Cond.selects RX5 yX5_cost yX5_cost, Cond.code yX5_cost cX5_cost 3 (some .int), Cond.methodLink RX5 150 yX3_allBits]
def wsL_law0_r31 : List Cond := [Cond.methodLink RX5 156 yX0_costOf, Cond.instanceMethod yX0_costOf, Cond.selects RX0 yX0_costOf yX0_costOf, Cond.code yX0_costOf cX0_costOf 4 (some .int), Cond.methodLink RL 97 yX6_cost, Cond.instanceMethod yX6_cost, Cond.selects RX6 yX6_cost yX6_cost, Cond.code yX6_cost cX6_cost 4 (some .int), Cond.methodLink RL 98 yL_sure, Cond.static yL_sure, Cond.codeWith yL_sure cL_sure 3 (some .int) [(0, 8, 11, 18)], Cond.methodLink RL 39 yX5_sure, Cond.instanceMethod yX5_sure, Cond.selects RX5 yX5_sure yX5_sure, Cond.code yX5_sure cX5_sure 1 (some .int), Cond.methodLink RX5 159 yX0_leadOverOtherMeasures, Cond.instanceMethod yX0_leadOverOtherMeasures, Cond.selects RX0 yX0_leadOverOtherMeasures yX0_leadOverOtherMeasures, Cond.code yX0_leadOverOtherMeasures cX0_leadOverOtherMeasures 4 (some .int), Cond.methodLink RX0 91 yX0_leastOf, Cond.instanceMethod yX0_leastOf, Cond.selects RX0 yX0_leastOf yX0_leastOf, Cond.code yX0_leastOf cX0_leastOf 6 (some .int), Cond.methodLink RL 101 yX6_sure]
def wsL_law0_r32 : List Cond := [Cond.instanceMethod yX6_sure, Cond.selects RX6 yX6_sure yX6_sure, Cond.code yX6_sure cX6_sure 5 (some .int), Cond.methodLink RL 102 yX5_tempo, Cond.instanceMethod yX5_tempo, Cond.selects RX5 yX5_tempo yX5_tempo, Cond.code yX5_tempo cX5_tempo 6 (some .int), Cond.methodLink RX5 162 yX0_tempoUpper, Cond.instanceMethod yX0_tempoUpper, Cond.selects RX0 yX0_tempoUpper yX0_tempoUpper, Cond.code yX0_tempoUpper cX0_tempoUpper 3 (some .int), Cond.methodLink RX0 147 yX0_tempoBase, Cond.instanceMethod yX0_tempoBase, Cond.selects RX0 yX0_tempoBase yX0_tempoBase, Cond.code yX0_tempoBase cX0_tempoBase 4 (some (.object "PageTurner$Moment")), Cond.methodLink RX5 165 yX0_tempoLower, Cond.instanceMethod yX0_tempoLower, Cond.selects RX0 yX0_tempoLower yX0_tempoLower, Cond.code yX0_tempoLower cX0_tempoLower 3 (some .int), Cond.methodLink RX0 151 yX0_beatOf, Cond.instanceMethod yX0_beatOf, Cond.selects RX0 yX0_beatOf yX0_beatOf, Cond.code yX0_beatOf cX0_beatOf 2 (some .int), Cond.methodLink RX5 168 yX5_commonDivisor]
def wsL_law0_r33 : List Cond := [Cond.static yX5_commonDivisor, Cond.code yX5_commonDivisor cX5_commonDivisor 6 (some .int), Cond.methodLink RL 106 yX6_tempo, Cond.instanceMethod yX6_tempo, Cond.selects RX6 yX6_tempo yX6_tempo, Cond.code yX6_tempo cX6_tempo 7 (some .int), Cond.methodLink RX6 235 yX6_upper, Cond.instanceMethod yX6_upper, Cond.selects RX6 yX6_upper yX6_upper, Cond.code yX6_upper cX6_upper 1 (some .int), Cond.methodLink RX6 232 Lib.Math.max.name, Cond.methodLink RX6 238 yX6_lower, Cond.instanceMethod yX6_lower, Cond.selects RX6 yX6_lower yX6_lower, Cond.code yX6_lower cX6_lower 1 (some .int), Cond.methodLink RL 107 yL_time, Cond.static yL_time, Cond.codeWith yL_time cL_time 4 (some .int) [(0, 8, 11, 13)], Cond.methodLink RL 43 yX5_time, Cond.instanceMethod yX5_time, Cond.selects RX5 yX5_time yX5_time, Cond.code yX5_time cX5_time 2 (some .long), Cond.constant RX5 171 (100000), Cond.methodLink RX5 174 yX0_timeOfBeat]
def wsL_law0_r34 : List Cond := [Cond.instanceMethod yX0_timeOfBeat, Cond.selects RX0 yX0_timeOfBeat yX0_timeOfBeat, Cond.code yX0_timeOfBeat cX0_timeOfBeat 7 (some .long), Cond.constantLong RX0 155 (-1), Cond.methodLink RX0 157 yX0_tempoLower, Cond.methodLink RX0 161 yX0_tempoUpper, Cond.methodLink RX0 164 yJ9_floorDiv_f86c9, Cond.static yJ9_floorDiv_f86c9, Cond.initialized RJ9, Cond.code yJ9_floorDiv_f86c9 cJ9_floorDiv_f86c9 6 (some .long), Cond.methodLink RL 109 yX6_time, Cond.instanceMethod yX6_time, Cond.selects RX6 yX6_time yX6_time, Cond.code yX6_time cX6_time 2 (some .long), Cond.constant RX6 241 (100000), Cond.constantLong RX6 242 (-1), Cond.methodLink RX6 244 yX6_timeOf, Cond.instanceMethod yX6_timeOf, Cond.selects RX6 yX6_timeOf yX6_timeOf, Cond.code yX6_timeOf cX6_timeOf 6 (some .long), Cond.methodLink RL 110 yX5_turnsAt, Cond.instanceMethod yX5_turnsAt, Cond.selects RX5 yX5_turnsAt yX5_turnsAt, Cond.code yX5_turnsAt cX5_turnsAt 2 (some .long)]
def wsL_law0_r35 : List Cond := [Cond.constantLong RX5 181 (-1), Cond.methodLink RX5 178 yX3_firstOfNextPage, Cond.instanceMethod yX3_firstOfNextPage, Cond.selects RX3 yX3_firstOfNextPage yX3_firstOfNextPage, Cond.code yX3_firstOfNextPage cX3_firstOfNextPage 4 (some .int), Cond.methodLink RL 114 yX6_turnsAt, Cond.instanceMethod yX6_turnsAt, Cond.selects RX6 yX6_turnsAt yX6_turnsAt, Cond.code yX6_turnsAt cX6_turnsAt 2 (some .long), Cond.methodLink RL 115 yX5_cue, Cond.instanceMethod yX5_cue, Cond.selects RX5 yX5_cue yX5_cue, Cond.code yX5_cue cX5_cue 2 (some .long), Cond.methodLink RX5 183 yX3_cueFrom, Cond.instanceMethod yX3_cueFrom, Cond.selects RX3 yX3_cueFrom yX3_cueFrom, Cond.code yX3_cueFrom cX3_cueFrom 3 (some .int), Cond.methodLink RL 118 yX6_cue, Cond.instanceMethod yX6_cue, Cond.selects RX6 yX6_cue yX6_cue, Cond.code yX6_cue cX6_cue 2 (some .long), Cond.methodLink RL 119 yL_lead, Cond.static yL_lead, Cond.codeWith yL_lead cL_lead 4 (some .int) [(0, 9, 12, 13)]]
def wsL_law0_r36 : List Cond := [Cond.methodLink RL 47 yX5_lead, Cond.instanceMethod yX5_lead, Cond.selects RX5 yX5_lead yX5_lead, Cond.code yX5_lead cX5_lead 3 (some .int), Cond.constant RX5 186 (60000), Cond.methodLink RL 121 yX6_lead, Cond.instanceMethod yX6_lead, Cond.selects RX6 yX6_lead yX6_lead, Cond.code yX6_lead cX6_lead 3 (some .int), Cond.constant RX6 248 (60000)]
def wsL_law0 : List Cond := (wsL_law0_r1 ++ (wsL_law0_r2 ++ (wsL_law0_r3 ++ (wsL_law0_r4 ++ (wsL_law0_r5 ++ (wsL_law0_r6 ++ (wsL_law0_r7 ++ (wsL_law0_r8 ++ (wsL_law0_r9 ++ (wsL_law0_r10 ++ (wsL_law0_r11 ++ (wsL_law0_r12 ++ (wsL_law0_r13 ++ (wsL_law0_r14 ++ (wsL_law0_r15 ++ (wsL_law0_r16 ++ (wsL_law0_r17 ++ (wsL_law0_r18 ++ (wsL_law0_r19 ++ (wsL_law0_r20 ++ (wsL_law0_r21 ++ (wsL_law0_r22 ++ (wsL_law0_r23 ++ (wsL_law0_r24 ++ (wsL_law0_r25 ++ (wsL_law0_r26 ++ (wsL_law0_r27 ++ (wsL_law0_r28 ++ (wsL_law0_r29 ++ (wsL_law0_r30 ++ (wsL_law0_r31 ++ (wsL_law0_r32 ++ (wsL_law0_r33 ++ (wsL_law0_r34 ++ (wsL_law0_r35 ++ wsL_law0_r36))))))))))))))))))))))))))))))))))) ++ wsX50 ++ wsX60 ++ wsX20 ++ wsX30 ++ wsX00 ++ wsX40 ++ wsX10 ++ ([] : List Cond)
def wsL_law : List Cond := wsL_law0 ++ (vx_atS RX5 51 "java/lang/IllegalArgumentException" ["java/lang/RuntimeException", "java/lang/Exception"]).filter goodWord ++ (vx_atS RX5 75 "java/util/NoSuchElementException" ["java/lang/RuntimeException", "java/lang/Exception"]).filter goodWord
abbrev vwCl : List vw_C := [(RX0, TX0, 7), (RX1, TX1, 10), (RX2, TX2, 10), (RX3, TX3, 7), (RX4, TX4, 6), (RX5, TX5, 6), (RX6, TX6, 45)]
end
section
/-! ===== the judgement J: pure states (program counter, locals, operand stack, a world of cells by address), every machine that holds them ===== -/
abbrev pE : Type := (Nat × vp_A) ⊕ (Nat × List Value)
abbrev pW : Type := Nat → Option pE
abbrev pG : Type := va_G × (Nat → ClassId)
def pCn (G : pG) (e : pE) : va_E := match e with
  | .inl a => .inl (G.2 a.1, a.2)
  | .inr o => .inr o
def fP (G : pG) (w : pW) (H : Heap) : Prop := ∀ (a : Nat) (e : pE), w a = some e → va_at G.1 vwCl (a, pCn G e) H
def pB (b : Nat) : Nat → Prop := fun q => b ≤ q
def fD (b : Nat) (w : pW) : Prop := ∀ (a : Nat) (e : pE), w a = some e → pB b a
abbrev fT (G : pG) : List (ClassId × FieldType) := [(G.2 0, .int), (G.2 1, .byte), (G.2 2, .boolean), (G.2 3, .long), (G.2 4, .array .int)]
def fK (G : pG) (U : State) : Prop := va_K G.1 vwCl (fT G) U
def bgStr : List (String × Nat × String) := [(RX5, 49, "the tape has not so many bytes"), (RX5, 73, "a fault has no such number"), (RX5, 98, "nothing of this kind is counted"), (RX5, 104, "no such event"), (RX5, 110, "the event has no such number"), (RX5, 115, "no such price"), (RX5, 121, "no such note or time"), (RX5, 140, "there is no music"), (RX5, 148, "a place has no such number"), (RX5, 154, "no such place"), (RX5, 172, "no such beat"), (RX5, 187, "no such lead")]
def bgStep : Nat → Int32 := fun j => match j with
  | 0 => 9
  | 1 => 11
  | 2 => 0
  | 3 => 2
  | 4 => 4
  | 5 => 5
  | _ => 7
def bgSigns : List Int32 := [40, 41, 58, 126, 114, 64, 33, 37, 124]
def bgNest : List (String × Nat × MethodName) := [(RX5, 19, yX2_init), (RX2, 13, yX4_init), (RX2, 20, yX3_init), (RX5, 26, yX3_init)]
/-- the class of arrays of int rows stands in the tables -/
def jAO (U : State) : Prop := (Cond.arrayOver (.array .int)).before #[] U = true
theorem jAO.moved {u U : State} (hvm : u.vm.Alike U.vm) (h : jAO u) : jAO U := by
  unfold jAO Cond.before Cond.holds at h ⊢
  simp only [Cond.value] at h ⊢
  have hfc : ∀ n : String, U.vm.findClass n = u.vm.findClass n := fun n => hvm.findClass n _
  rw [hfc]
  cases hc : u.vm.findClass (FieldType.array FieldType.int).toString with
  | none => rw [hc] at h; exact h
  | some comp =>
    rw [hc] at h
    rw [Option.bind_some] at h ⊢
    generalize hF : Array.findIdx? _ u.vm.classes = fi at h
    generalize hG : Array.findIdx? _ U.vm.classes = gi
    have e1 : gi = fi := by
      rw [← hG, ← hF]
      refine ((va_idx_bare U.vm comp).symm.trans ?_).trans (va_idx_bare u.vm comp)
      first | rw [hvm.bare_eq] | rw [← hvm.bare_eq]
    subst e1
    cases gi with
    | none => exact h
    | some c =>
      rw [Option.bind_some] at h ⊢
      cases hk : u.vm.classes[c]? with
      | none => rw [hk] at h; cases h
      | some kk =>
        obtain ⟨k', hk', he⟩ := hvm.2.2 _ _ hk
        have hkind : k'.kind = kk.kind := by rw [he]
        rw [hk] at h
        rw [hk', hfc]
        simp only [Option.map_some] at h ⊢
        rw [hkind]
        exact h
/-- what stands in the machine from the start and is never written: constants, statics, links -/
def Bg (b : Nat) (U : State) : Prop :=
  vx_Zq Bundle.tN "UNASSIGNED_STACK" Bundle.steD (pB b) U U.heap ∧ vx_Zq Bundle.tN "SUPPRESSED_SENTINEL" Bundle.listD (pB b) U U.heap ∧
  (∀ z ∈ bgStr, ∃ sa, vk_R z.1 z.2.1 z.2.2 sa U) ∧
  (∃ t, va_Z RX4 "STEPS" "[I" (.ref t) (pB b) U U.heap ∧ va_T .int t 7 (fun j => .int (bgStep j)) (pB b) U U.heap) ∧
  (∃ adK adV, vk_R RX4 62 "():~r@!%|" (adK 0) U ∧ vk_S 1 [9] [bgSigns] adK adV (pB b) U U.heap) ∧
  va_Z "java/lang/String" "COMPACT_STRINGS" "Z" (.int 1) (pB b) U U.heap ∧
  (∀ z ∈ bgNest, va_Nw (.methodLinkNest z.1 z.2.1 z.2.2 RX5) U) ∧ jAO U ∧
  va_Nw (.castable "java/lang/IllegalArgumentException" "java/lang/IllegalArgumentException") U ∧ va_Nw (.castable "java/util/NoSuchElementException" "java/util/NoSuchElementException") U
theorem Bg.warm {b : Nat} {s U : State} (hW : s.WarmedH U.vm) (hh : ∀ a : Nat, a < s.heap.size → ¬ pB b a → U.heap[a]? = s.heap[a]?) (h : Bg b s) : Bg b U := by
  obtain ⟨h1, h2, h3, ⟨t, h4, h5⟩, ⟨k, v, h6, h7⟩, h8, h9, h10, h11, h12⟩ := h
  have ha := hW.alike
  exact ⟨(h1.moved ha).kept hh, (h2.moved ha).kept hh, fun z hz => (h3 z hz).imp fun _ q => q.warm hW, ⟨t, (h4.moved ha).kept hh, (h5.moved ha).kept hh⟩, ⟨k, v, h6.warm hW, (h7.moved ha).kept hh⟩, (h8.moved ha).kept hh, fun z hz => va_Nw.warmM hW (h9 z hz), jAO.moved ha h10, va_Nw.warmC hW h11, va_Nw.warmC hW h12⟩
theorem Bg.call {b : Nat} {U : State} {g : JFrame} {mk : MethodId} {a : Array Value} (h : Bg b U) : Bg b (U.calling g mk a) := by
  obtain ⟨h1, h2, h3, ⟨t, h4, h5⟩, ⟨k, v, h6, h7⟩, h8, h9, h10, h11, h12⟩ := h
  have ha : U.vm.Alike (U.calling g mk a).vm := Vm.Alike.refl U.vm
  exact ⟨h1.moved ha, h2.moved ha, fun z hz => (h3 z hz).imp fun _ q => q.same rfl, ⟨t, h4.moved ha, h5.moved ha⟩, ⟨k, v, h6.same rfl, h7.moved ha⟩, h8.moved ha, fun z hz => va_Nw.same rfl rfl (h9 z hz), jAO.moved ha h10, va_Nw.same rfl rfl h11, va_Nw.same rfl rfl h12⟩
/-- the world w in the state U -/
def fw (G : pG) (b : Nat) (w : pW) (U : State) : Prop := fP G w U.heap ∧ fD b w ∧ fK G U ∧ Bg b U ∧ b ≤ U.heap.size
theorem fw_blind {G : pG} {b : Nat} {w : pW} {As : List Value} : FrameBlind (va_Pc As (fw G b w)) := by
  intro a U g mk h
  obtain ⟨h0, h1, h2, h3, h4, h5⟩ := h
  exact ⟨h0, h1, h2, va_K.moved (u := U) (U := U.calling g mk a) (Vm.Alike.refl U.vm) h3, h4.call, h5⟩
/-! what a method comes to: an answer, or an exception by its class's name -/
abbrev pO : Type := (Option Value) ⊕ String
def jQ (G : pG) (b : Nat) (post : pO → pW → Prop) : Array Value → State → Outcome → State → Prop := fun _ st oc t => (∃ (v : Option Value) (w' : pW), oc = .returned v ∧ post (.inl v) w' ∧ fP G w' t.heap ∧ fD b w') ∧ va_F (pB b) st t
def jX (G : pG) (b : Nat) (post : pO → pW → Prop) : String → State → State → Prop := fun E st t => ∃ w' : pW, post (.inr E) w' ∧ (fP G w' t.heap ∧ fD b w') ∧ va_F (pB b) st t
/-- a method's pure contract -/
def Ct (y : MethodName) (ws : List Cond) (rm : Room) (As : List Value) (w : pW) (post : pO → pW → Prop) : Prop :=
  ∀ (l : Launch) (G : pG) (b : Nat), l.stackTraces = false → vx_Met l y ws rm (va_Pc As (fw G b w)) (jQ G b post) (jX G b post) rm.cells rm.slots (pB b)
/-- code, its class, its locals, its words; room, answer's type, name, handlers; what is owed; what more is known of the start -/
abbrev JP : Type := (ByteArray × String × Nat × List Cond) × (Room × Option FieldType × String × List (Nat × Nat × Nat × Nat)) × (pO → pW → Prop) × (Nat → Array Value → State → Prop)
def jF (P : JP) (p : Program) (l : Launch) (s : State) (m : MethodId) (args : Array Value) (meth : Method) (c : Code) (G : pG) (b : Nat) : Prop :=
  p.tables.exec = Jvm.exec ∧ c.code = P.1.1 ∧ c.maxLocals = P.1.2.2.1 ∧ s.vm.findClass P.1.2.1 = some m.cls ∧ (∀ w ∈ P.1.2.2.2, w.before args s = true) ∧ meth.sig.returnType = P.2.1.2.1 ∧ meth.locks = false ∧ meth.name = P.2.1.2.2.1 ∧ c.exceptionTable.toList = tableOf P.2.1.2.2.2 ∧ fK G s ∧ Bg b s ∧ l.stackTraces = false ∧ b ≤ s.heap.size ∧ P.2.2.2 b args s
def J (P : JP) (pc : Nat) (lv : List (Nat × Value)) (st : List Value) (w : pW) (k n : Nat) : Prop :=
  ∀ (p : Program) (l : Launch) (e : Env) (s : State) (m : MethodId) (args : Array Value) (below : List Frame) (meth : Method) (c : Code) (H : Heap) (locs : List Loc) (G : pG) (b : Nat) (ls : Array Slot),
    jF P p l s m args meth c G b → fP G w H → fD b w → va_S (pB b) s.heap H locs → lv_has ls P.1.2.2.1 lv →
    W p l e P.2.1.1 s m args below meth c H locs k n (vx_MQ below (jQ G b P.2.2.1) (jX G b P.2.2.1) args s P.2.1.1.cells P.2.1.1.slots (pB b)) (F0 m pc ls st)
section JL
/-! a world as a list of cells -/
def fL (G : pG) (w : pW) (N : Nat) : va_W := (List.range N).filterMap (fun a => (w a).map (fun e => (a, pCn G e)))
theorem fL_mem {G : pG} {w : pW} {N : Nat} {q : Nat × va_E} (h : q ∈ fL G w N) : ∃ e, w q.1 = some e ∧ q.2 = pCn G e := by
  obtain ⟨a, -, ha⟩ := List.mem_filterMap.mp h
  cases hw : w a with
  | none => rw [hw] at ha; cases ha
  | some e =>
    rw [hw] at ha
    cases ha
    exact ⟨e, hw, rfl⟩
theorem fL_in {G : pG} {w : pW} {N a : Nat} {e : pE} (hw : w a = some e) (ha : a < N) : (a, pCn G e) ∈ fL G w N := List.mem_filterMap.mpr ⟨a, List.mem_range.mpr ha, by rw [hw]; rfl⟩
theorem fL_nd (G : pG) (w : pW) : ∀ N : Nat, ((fL G w N).map Prod.fst).Nodup
  | 0 => by simp [fL]
  | N + 1 => by
    have h1 : fL G w (N + 1) = fL G w N ++ (match w N with | none => [] | some e => [(N, pCn G e)]) := by
      unfold fL
      rw [List.range_succ, List.filterMap_append]
      congr 1
      cases hN : w N <;> simp [hN]
    rw [h1, List.map_append]
    have ih := fL_nd G w N
    have hlt : ∀ x ∈ (fL G w N).map Prod.fst, x < N := by
      intro x hx
      obtain ⟨q, hq, rfl⟩ := List.mem_map.mp hx
      obtain ⟨a, ha, hb⟩ := List.mem_filterMap.mp hq
      cases hw : w a with
      | none => rw [hw] at hb; cases hb
      | some e => rw [hw] at hb; cases hb; exact List.mem_range.mp ha
    cases w N with
    | none => simpa using ih
    | some e =>
      refine List.nodup_append.mpr ⟨ih, by simp, fun x hx y hy => ?_⟩
      have h2 := hlt x hx
      simp at hy
      omega
theorem fL_P {G : pG} {w : pW} {H : Heap} (h : fP G w H) : va_P G.1 vwCl (fL G w H.size) H := by
  intro k q hk
  obtain ⟨e, h1, h2⟩ := fL_mem (List.mem_of_getElem? hk)
  have := h q.1 e h1
  rw [← h2] at this
  exact this
theorem fP.lt {G : pG} {w : pW} {H : Heap} (h : fP G w H) {a : Nat} {e : pE} (hw : w a = some e) : a < H.size := (h a e hw).lt
theorem fL_D {G : pG} {w : pW} {b : Nat} {N : Nat} (h : fD b w) : va_D (pB b) (fL G w N) := by
  refine ⟨fun i j p q hi hj hpq => ?_, fun k q hk => ?_⟩
  · have h1 : ((fL G w N).map Prod.fst)[i]? = some p.1 := by rw [List.getElem?_map, hi]; rfl
    have h2 : ((fL G w N).map Prod.fst)[j]? = some q.1 := by rw [List.getElem?_map, hj]; rfl
    rw [← hpq] at h2
    exact (List.getElem?_inj (List.getElem?_eq_some_iff.mp h1).1 (fL_nd G w N)).mp (h1.trans h2.symm)
  · obtain ⟨e, h1, -⟩ := fL_mem (List.mem_of_getElem? hk)
    exact h q.1 e h1
theorem fL_at {G : pG} {w : pW} {H : Heap} (h : fP G w H) {a : Nat} {e : pE} (hw : w a = some e) : ∃ k : Nat, (fL G w H.size)[k]? = some (a, pCn G e) := List.getElem?_of_mem (fL_in hw (h.lt hw))
theorem fL_set {G : pG} {w : pW} {H H1 : Heap} (h : fP G w H) {a k : Nat} {e0 : va_E} {e : pE} (hk : (fL G w H.size)[k]? = some (a, e0)) (h1 : va_P G.1 vwCl ((fL G w H.size).set k (a, pCn G e)) H1) : fP G (va_up w a (some e)) H1 := by
  intro b f hb
  have hl := (List.getElem?_eq_some_iff.mp hk).1
  by_cases hba : b = a
  · subst hba
    rw [va_up_self] at hb
    cases hb
    exact h1 k (b, pCn G e) (by rw [List.getElem?_set_self hl])
  · rw [va_up_ne _ _ hba] at hb
    obtain ⟨j, hj⟩ := fL_at h hb
    refine h1 j (b, pCn G f) ?_
    rw [List.getElem?_set_ne, hj]
    intro hjk
    subst hjk
    rw [hk] at hj
    cases hj
    exact hba rfl
theorem fL_push {G : pG} {w : pW} {b : Nat} {H H1 : Heap} (h : fP G w H) (hb : fD b w) {q : Nat} {e : pE} (h1 : va_P G.1 vwCl (fL G w H.size ++ [(q, pCn G e)]) H1) (h2 : va_D (pB b) (fL G w H.size ++ [(q, pCn G e)])) : w q = none ∧ pB b q ∧ fP G (va_up w q (some e)) H1 ∧ fD b (va_up w q (some e)) := by
  have hq : (fL G w H.size ++ [(q, pCn G e)])[(fL G w H.size).length]? = some (q, pCn G e) := by
    rw [List.getElem?_append_right (Nat.le_refl _), Nat.sub_self]; rfl
  have hB : pB b q := h2.2 _ _ hq
  refine ⟨?_, hB, ?_, ?_⟩
  · cases hw : w q with
    | none => rfl
    | some f =>
      obtain ⟨j, hj⟩ := fL_at h hw
      have hl := (List.getElem?_eq_some_iff.mp hj).1
      have := h2.1 j _ (q, pCn G f) (q, pCn G e) (by rw [List.getElem?_append_left hl]; exact hj) hq rfl
      omega
  · intro a f ha
    by_cases hba : a = q
    · subst hba
      rw [va_up_self] at ha
      cases ha
      exact h1 _ _ hq
    · rw [va_up_ne _ _ hba] at ha
      obtain ⟨j, hj⟩ := fL_at h ha
      exact h1 j _ (by rw [List.getElem?_append_left (List.getElem?_eq_some_iff.mp hj).1]; exact hj)
  · intro a f ha
    by_cases hba : a = q
    · subst hba; exact hB
    · rw [va_up_ne _ _ hba] at ha
      exact hb a f ha
theorem fD.up {w : pW} {b a : Nat} {e e' : pE} (h : fD b w) (hw : w a = some e') : fD b (va_up w a (some e)) := by
  intro x f hx
  by_cases hxa : x = a
  · subst hxa; exact h x e' hw
  · rw [va_up_ne _ _ hxa] at hx
    exact h x f hx
end JL
section JR
theorem j_iadd {P : JP} {pc : Nat} {lv : List (Nat × Value)} {st : List Value} {w : pW} {k n : Nat} {x y : Int32} (hd : decode P.1.1 pc = .ok (.iadd, 1))  (h : J P (pc + 1) lv (.int (x + y) :: st) w k n) : J P pc lv (.int y :: .int x :: st) w k n := fun p l e s m args below meth c H locs G b ls F hP hD hS hl => lv_iadd F.1 F.2.1 hd (h p l e s m args below meth c H locs G b ls F hP hD hS hl)
theorem j_isub {P : JP} {pc : Nat} {lv : List (Nat × Value)} {st : List Value} {w : pW} {k n : Nat} {x y : Int32} (hd : decode P.1.1 pc = .ok (.isub, 1))  (h : J P (pc + 1) lv (.int (x - y) :: st) w k n) : J P pc lv (.int y :: .int x :: st) w k n := fun p l e s m args below meth c H locs G b ls F hP hD hS hl => lv_isub F.1 F.2.1 hd (h p l e s m args below meth c H locs G b ls F hP hD hS hl)
theorem j_imul {P : JP} {pc : Nat} {lv : List (Nat × Value)} {st : List Value} {w : pW} {k n : Nat} {x y : Int32} (hd : decode P.1.1 pc = .ok (.imul, 1))  (h : J P (pc + 1) lv (.int (x * y) :: st) w k n) : J P pc lv (.int y :: .int x :: st) w k n := fun p l e s m args below meth c H locs G b ls F hP hD hS hl => lv_imul F.1 F.2.1 hd (h p l e s m args below meth c H locs G b ls F hP hD hS hl)
theorem j_iand {P : JP} {pc : Nat} {lv : List (Nat × Value)} {st : List Value} {w : pW} {k n : Nat} {x y : Int32} (hd : decode P.1.1 pc = .ok (.iand, 1))  (h : J P (pc + 1) lv (.int (x &&& y) :: st) w k n) : J P pc lv (.int y :: .int x :: st) w k n := fun p l e s m args below meth c H locs G b ls F hP hD hS hl => lv_iand F.1 F.2.1 hd (h p l e s m args below meth c H locs G b ls F hP hD hS hl)
theorem j_ior {P : JP} {pc : Nat} {lv : List (Nat × Value)} {st : List Value} {w : pW} {k n : Nat} {x y : Int32} (hd : decode P.1.1 pc = .ok (.ior, 1))  (h : J P (pc + 1) lv (.int (x ||| y) :: st) w k n) : J P pc lv (.int y :: .int x :: st) w k n := fun p l e s m args below meth c H locs G b ls F hP hD hS hl => lv_ior F.1 F.2.1 hd (h p l e s m args below meth c H locs G b ls F hP hD hS hl)
theorem j_ixor {P : JP} {pc : Nat} {lv : List (Nat × Value)} {st : List Value} {w : pW} {k n : Nat} {x y : Int32} (hd : decode P.1.1 pc = .ok (.ixor, 1))  (h : J P (pc + 1) lv (.int (x ^^^ y) :: st) w k n) : J P pc lv (.int y :: .int x :: st) w k n := fun p l e s m args below meth c H locs G b ls F hP hD hS hl => lv_ixor F.1 F.2.1 hd (h p l e s m args below meth c H locs G b ls F hP hD hS hl)
theorem j_ishl {P : JP} {pc : Nat} {lv : List (Nat × Value)} {st : List Value} {w : pW} {k n : Nat} {x y : Int32} (hd : decode P.1.1 pc = .ok (.ishl, 1))  (h : J P (pc + 1) lv (.int (x <<< (y &&& 31)) :: st) w k n) : J P pc lv (.int y :: .int x :: st) w k n := fun p l e s m args below meth c H locs G b ls F hP hD hS hl => lv_ishl F.1 F.2.1 hd (h p l e s m args below meth c H locs G b ls F hP hD hS hl)
theorem j_ishr {P : JP} {pc : Nat} {lv : List (Nat × Value)} {st : List Value} {w : pW} {k n : Nat} {x y : Int32} (hd : decode P.1.1 pc = .ok (.ishr, 1))  (h : J P (pc + 1) lv (.int (x >>> (y &&& 31)) :: st) w k n) : J P pc lv (.int y :: .int x :: st) w k n := fun p l e s m args below meth c H locs G b ls F hP hD hS hl => lv_ishr F.1 F.2.1 hd (h p l e s m args below meth c H locs G b ls F hP hD hS hl)
theorem j_idiv {P : JP} {pc : Nat} {lv : List (Nat × Value)} {st : List Value} {w : pW} {k n : Nat} {x y : Int32} (hd : decode P.1.1 pc = .ok (.idiv, 1)) (hne : ¬ y = 0) (h : J P (pc + 1) lv (.int (x / y) :: st) w k n) : J P pc lv (.int y :: .int x :: st) w k n := fun p l e s m args below meth c H locs G b ls F hP hD hS hl => lv_idiv F.1 F.2.1 hd hne (h p l e s m args below meth c H locs G b ls F hP hD hS hl)
theorem j_irem {P : JP} {pc : Nat} {lv : List (Nat × Value)} {st : List Value} {w : pW} {k n : Nat} {x y : Int32} (hd : decode P.1.1 pc = .ok (.irem, 1)) (hne : ¬ y = 0) (h : J P (pc + 1) lv (.int (x - x / y * y) :: st) w k n) : J P pc lv (.int y :: .int x :: st) w k n := fun p l e s m args below meth c H locs G b ls F hP hD hS hl => lv_irem F.1 F.2.1 hd hne (h p l e s m args below meth c H locs G b ls F hP hD hS hl)
theorem j_ineg {P : JP} {pc : Nat} {lv : List (Nat × Value)} {st : List Value} {w : pW} {k n : Nat} {x : Int32} (hd : decode P.1.1 pc = .ok (.ineg, 1))  (h : J P (pc + 1) lv (.int (-x) :: st) w k n) : J P pc lv (.int x :: st) w k n := fun p l e s m args below meth c H locs G b ls F hP hD hS hl => lv_ineg F.1 F.2.1 hd (h p l e s m args below meth c H locs G b ls F hP hD hS hl)
theorem j_ladd {P : JP} {pc : Nat} {lv : List (Nat × Value)} {st : List Value} {w : pW} {k n : Nat} {x y : Int64} (hd : decode P.1.1 pc = .ok (.ladd, 1))  (h : J P (pc + 1) lv (.long (x + y) :: st) w k n) : J P pc lv (.long y :: .long x :: st) w k n := fun p l e s m args below meth c H locs G b ls F hP hD hS hl => lv_ladd F.1 F.2.1 hd (h p l e s m args below meth c H locs G b ls F hP hD hS hl)
theorem j_lsub {P : JP} {pc : Nat} {lv : List (Nat × Value)} {st : List Value} {w : pW} {k n : Nat} {x y : Int64} (hd : decode P.1.1 pc = .ok (.lsub, 1))  (h : J P (pc + 1) lv (.long (x - y) :: st) w k n) : J P pc lv (.long y :: .long x :: st) w k n := fun p l e s m args below meth c H locs G b ls F hP hD hS hl => lv_lsub F.1 F.2.1 hd (h p l e s m args below meth c H locs G b ls F hP hD hS hl)
theorem j_lmul {P : JP} {pc : Nat} {lv : List (Nat × Value)} {st : List Value} {w : pW} {k n : Nat} {x y : Int64} (hd : decode P.1.1 pc = .ok (.lmul, 1))  (h : J P (pc + 1) lv (.long (x * y) :: st) w k n) : J P pc lv (.long y :: .long x :: st) w k n := fun p l e s m args below meth c H locs G b ls F hP hD hS hl => lv_lmul F.1 F.2.1 hd (h p l e s m args below meth c H locs G b ls F hP hD hS hl)
theorem j_ldiv {P : JP} {pc : Nat} {lv : List (Nat × Value)} {st : List Value} {w : pW} {k n : Nat} {x y : Int64} (hd : decode P.1.1 pc = .ok (.ldiv, 1)) (hne : ¬ y = 0) (h : J P (pc + 1) lv (.long (x / y) :: st) w k n) : J P pc lv (.long y :: .long x :: st) w k n := fun p l e s m args below meth c H locs G b ls F hP hD hS hl => lv_ldiv F.1 F.2.1 hd hne (h p l e s m args below meth c H locs G b ls F hP hD hS hl)
theorem j_lrem {P : JP} {pc : Nat} {lv : List (Nat × Value)} {st : List Value} {w : pW} {k n : Nat} {x y : Int64} (hd : decode P.1.1 pc = .ok (.lrem, 1)) (hne : ¬ y = 0) (h : J P (pc + 1) lv (.long (x - x / y * y) :: st) w k n) : J P pc lv (.long y :: .long x :: st) w k n := fun p l e s m args below meth c H locs G b ls F hP hD hS hl => lv_lrem F.1 F.2.1 hd hne (h p l e s m args below meth c H locs G b ls F hP hD hS hl)
theorem j_lcmp {P : JP} {pc : Nat} {lv : List (Nat × Value)} {st : List Value} {w : pW} {k n : Nat} {x y : Int64} (hd : decode P.1.1 pc = .ok (.lcmp, 1))  (h : J P (pc + 1) lv (.int (lg_cmp x y) :: st) w k n) : J P pc lv (.long y :: .long x :: st) w k n := fun p l e s m args below meth c H locs G b ls F hP hD hS hl => W.lcmp F.1 F.2.1 hd (h p l e s m args below meth c H locs G b ls F hP hD hS hl)
theorem j_i2l {P : JP} {pc : Nat} {lv : List (Nat × Value)} {st : List Value} {w : pW} {k n : Nat} {x : Int32} {v : Int64} (hd : decode P.1.1 pc = .ok (.i2l, 1)) (hv : x.toInt64 = v) (h : J P (pc + 1) lv (.long v :: st) w k n) : J P pc lv (.int x :: st) w k n := fun p l e s m args below meth c H locs G b ls F hP hD hS hl => lv_i2l F.1 F.2.1 hd hv (h p l e s m args below meth c H locs G b ls F hP hD hS hl)
theorem j_i2b {P : JP} {pc : Nat} {lv : List (Nat × Value)} {st : List Value} {w : pW} {k n : Nat} {x v : Int32} (hd : decode P.1.1 pc = .ok (.i2b, 1)) (hv : x.toInt8.toInt32 = v) (h : J P (pc + 1) lv (.int v :: st) w k n) : J P pc lv (.int x :: st) w k n := fun p l e s m args below meth c H locs G b ls F hP hD hS hl => lv_i2b F.1 F.2.1 hd hv (h p l e s m args below meth c H locs G b ls F hP hD hS hl)
theorem j_i2c {P : JP} {pc : Nat} {lv : List (Nat × Value)} {st : List Value} {w : pW} {k n : Nat} {x v : Int32} (hd : decode P.1.1 pc = .ok (.i2c, 1)) (hv : (x.toUInt32 % 65536).toInt32 = v) (h : J P (pc + 1) lv (.int v :: st) w k n) : J P pc lv (.int x :: st) w k n := fun p l e s m args below meth c H locs G b ls F hP hD hS hl => lv_i2c F.1 F.2.1 hd hv (h p l e s m args below meth c H locs G b ls F hP hD hS hl)
theorem j_iconst {P : JP} {pc : Nat} {lv : List (Nat × Value)} {st : List Value} {w : pW} {k n : Nat} {i : Int} {v : Int32} (hd : decode P.1.1 pc = .ok (.iconst i, 1)) (hv : Int32.ofInt i = v) (h : J P (pc + 1) lv (.int v :: st) w k n) : J P pc lv st w k n := fun p l e s m args below meth c H locs G b ls F hP hD hS hl => lv_iconst F.1 F.2.1 hd hv (h p l e s m args below meth c H locs G b ls F hP hD hS hl)
theorem j_bipush {P : JP} {pc : Nat} {lv : List (Nat × Value)} {st : List Value} {w : pW} {k n : Nat} {i : Int} {v : Int32} (hd : decode P.1.1 pc = .ok (.bipush i, 2)) (hv : (Int8.ofInt i).toInt32 = v) (h : J P (pc + 2) lv (.int v :: st) w k n) : J P pc lv st w k n := fun p l e s m args below meth c H locs G b ls F hP hD hS hl => lv_bipush F.1 F.2.1 hd hv (h p l e s m args below meth c H locs G b ls F hP hD hS hl)
theorem j_sipush {P : JP} {pc : Nat} {lv : List (Nat × Value)} {st : List Value} {w : pW} {k n : Nat} {i : Int} {v : Int32} (hd : decode P.1.1 pc = .ok (.sipush i, 3)) (hv : (Int16.ofInt i).toInt32 = v) (h : J P (pc + 3) lv (.int v :: st) w k n) : J P pc lv st w k n := fun p l e s m args below meth c H locs G b ls F hP hD hS hl => lv_sipush F.1 F.2.1 hd hv (h p l e s m args below meth c H locs G b ls F hP hD hS hl)
theorem j_lconst {P : JP} {pc : Nat} {lv : List (Nat × Value)} {st : List Value} {w : pW} {k n : Nat} {i : Fin 2} {v : Int64} (hd : decode P.1.1 pc = .ok (.lconst i, 1)) (hv : Int64.ofNat (i : Nat) = v) (h : J P (pc + 1) lv (.long v :: st) w k n) : J P pc lv st w k n := fun p l e s m args below meth c H locs G b ls F hP hD hS hl => lv_lconst F.1 F.2.1 hd hv (h p l e s m args below meth c H locs G b ls F hP hD hS hl)
theorem j_null {P : JP} {pc : Nat} {lv : List (Nat × Value)} {st : List Value} {w : pW} {k n : Nat}  (hd : decode P.1.1 pc = .ok (.aconst_null, 1))  (h : J P (pc + 1) lv (.null :: st) w k n) : J P pc lv st w k n := fun p l e s m args below meth c H locs G b ls F hP hD hS hl => lv_null F.1 F.2.1 hd (h p l e s m args below meth c H locs G b ls F hP hD hS hl)
theorem j_ldc {P : JP} {pc : Nat} {lv : List (Nat × Value)} {st : List Value} {w : pW} {k n : Nat} {i : Nat} {v : Int32} (hd : decode P.1.1 pc = .ok (.ldc i, 2)) (hc : Cond.constant P.1.2.1 i v ∈ P.1.2.2.2) (h : J P (pc + 2) lv (.int v :: st) w k n) : J P pc lv st w k n := fun p l e s m args below meth c H locs G b ls F hP hD hS hl => lv_ldc F.1 F.2.1 F.2.2.2.1 (F.2.2.2.2.1 _ hc) hd (h p l e s m args below meth c H locs G b ls F hP hD hS hl)
theorem j_ldc2 {P : JP} {pc : Nat} {lv : List (Nat × Value)} {st : List Value} {w : pW} {k n : Nat} {i : Nat} {v : Int64} (hd : decode P.1.1 pc = .ok (.ldc2_w i, 3)) (hc : Cond.constantLong P.1.2.1 i v ∈ P.1.2.2.2) (h : J P (pc + 3) lv (.long v :: st) w k n) : J P pc lv st w k n := fun p l e s m args below meth c H locs G b ls F hP hD hS hl => lv_ldc2 F.1 F.2.1 F.2.2.2.1 (F.2.2.2.2.1 _ hc) hd (h p l e s m args below meth c H locs G b ls F hP hD hS hl)
theorem j_dup {P : JP} {pc : Nat} {lv : List (Nat × Value)} {st : List Value} {w : pW} {k n : Nat} {va : Value} (hd : decode P.1.1 pc = .ok (.dup, 1)) (hc : va.category = 1) (h : J P (pc + 1) lv (va :: va :: st) w k n) : J P pc lv (va :: st) w k n := fun p l e s m args below meth c H locs G b ls F hP hD hS hl => lv_dup F.1 F.2.1 hd hc (h p l e s m args below meth c H locs G b ls F hP hD hS hl)
theorem j_dup2 {P : JP} {pc : Nat} {lv : List (Nat × Value)} {st : List Value} {w : pW} {k n : Nat} {va vb : Value} (hd : decode P.1.1 pc = .ok (.dup2, 1)) (hc : va.category = 1) (hc2 : vb.category = 1) (h : J P (pc + 1) lv (va :: vb :: va :: vb :: st) w k n) : J P pc lv (va :: vb :: st) w k n := fun p l e s m args below meth c H locs G b ls F hP hD hS hl => lv_dup2_11 F.1 F.2.1 hd hc hc2 (h p l e s m args below meth c H locs G b ls F hP hD hS hl)
theorem j_pop {P : JP} {pc : Nat} {lv : List (Nat × Value)} {st : List Value} {w : pW} {k n : Nat} {va : Value} (hd : decode P.1.1 pc = .ok (.pop, 1)) (hc : va.category = 1) (h : J P (pc + 1) lv st w k n) : J P pc lv (va :: st) w k n := fun p l e s m args below meth c H locs G b ls F hP hD hS hl => lv_pop F.1 F.2.1 hd hc (h p l e s m args below meth c H locs G b ls F hP hD hS hl)
theorem j_iload_n {P : JP} {pc : Nat} {lv : List (Nat × Value)} {st : List Value} {w : pW} {k n : Nat} {i : Fin 4} {x : Int32} (hd : decode P.1.1 pc = .ok (.iload_n i, 1)) (q : Nat) (hq : lv[q]? = some ((i : Nat), .int x)) (h : J P (pc + 1) lv (.int x :: st) w k n) : J P pc lv st w k n := fun p l e s m args below meth c H locs G b ls F hP hD hS hl => lv_iload_n F.1 F.2.1 hd rfl (lv_at hl q hq) (h p l e s m args below meth c H locs G b ls F hP hD hS hl)
theorem j_iload {P : JP} {pc : Nat} {lv : List (Nat × Value)} {st : List Value} {w : pW} {k n : Nat} {i : Nat} {x : Int32} (hd : decode P.1.1 pc = .ok (.iload i, 2)) (q : Nat) (hq : lv[q]? = some (i, .int x)) (h : J P (pc + 2) lv (.int x :: st) w k n) : J P pc lv st w k n := fun p l e s m args below meth c H locs G b ls F hP hD hS hl => lv_iload F.1 F.2.1 hd (lv_at hl q hq) (h p l e s m args below meth c H locs G b ls F hP hD hS hl)
theorem j_aload_n {P : JP} {pc : Nat} {lv : List (Nat × Value)} {st : List Value} {w : pW} {k n : Nat} {i : Fin 4} {x : Nat} (hd : decode P.1.1 pc = .ok (.aload_n i, 1)) (q : Nat) (hq : lv[q]? = some ((i : Nat), .ref x)) (h : J P (pc + 1) lv (.ref x :: st) w k n) : J P pc lv st w k n := fun p l e s m args below meth c H locs G b ls F hP hD hS hl => lv_aload_n F.1 F.2.1 hd rfl (lv_at hl q hq) (h p l e s m args below meth c H locs G b ls F hP hD hS hl)
theorem j_aload {P : JP} {pc : Nat} {lv : List (Nat × Value)} {st : List Value} {w : pW} {k n : Nat} {i : Nat} {x : Nat} (hd : decode P.1.1 pc = .ok (.aload i, 2)) (q : Nat) (hq : lv[q]? = some (i, .ref x)) (h : J P (pc + 2) lv (.ref x :: st) w k n) : J P pc lv st w k n := fun p l e s m args below meth c H locs G b ls F hP hD hS hl => lv_aload F.1 F.2.1 hd (lv_at hl q hq) (h p l e s m args below meth c H locs G b ls F hP hD hS hl)
theorem j_lload_n {P : JP} {pc : Nat} {lv : List (Nat × Value)} {st : List Value} {w : pW} {k n : Nat} {i : Fin 4} {x : Int64} (hd : decode P.1.1 pc = .ok (.lload_n i, 1)) (q : Nat) (hq : lv[q]? = some ((i : Nat), .long x)) (h : J P (pc + 1) lv (.long x :: st) w k n) : J P pc lv st w k n := fun p l e s m args below meth c H locs G b ls F hP hD hS hl => lv_lload_n F.1 F.2.1 hd rfl (lv_at hl q hq) (h p l e s m args below meth c H locs G b ls F hP hD hS hl)
theorem j_lload {P : JP} {pc : Nat} {lv : List (Nat × Value)} {st : List Value} {w : pW} {k n : Nat} {i : Nat} {x : Int64} (hd : decode P.1.1 pc = .ok (.lload i, 2)) (q : Nat) (hq : lv[q]? = some (i, .long x)) (h : J P (pc + 2) lv (.long x :: st) w k n) : J P pc lv st w k n := fun p l e s m args below meth c H locs G b ls F hP hD hS hl => lv_lload F.1 F.2.1 hd (lv_at hl q hq) (h p l e s m args below meth c H locs G b ls F hP hD hS hl)
theorem j_aload_nN {P : JP} {pc : Nat} {lv : List (Nat × Value)} {st : List Value} {w : pW} {k n : Nat} {i : Fin 4} (hd : decode P.1.1 pc = .ok (.aload_n i, 1)) (q : Nat) (hq : lv[q]? = some ((i : Nat), .null)) (h : J P (pc + 1) lv (.null :: st) w k n) : J P pc lv st w k n := fun p l e s m args below meth c H locs G b ls F hP hD hS hl => lv_aload_nN F.1 F.2.1 hd rfl (lv_at hl q hq) (h p l e s m args below meth c H locs G b ls F hP hD hS hl)
theorem j_aloadN {P : JP} {pc : Nat} {lv : List (Nat × Value)} {st : List Value} {w : pW} {k n : Nat} {i : Nat} (hd : decode P.1.1 pc = .ok (.aload i, 2)) (q : Nat) (hq : lv[q]? = some (i, .null)) (h : J P (pc + 2) lv (.null :: st) w k n) : J P pc lv st w k n := fun p l e s m args below meth c H locs G b ls F hP hD hS hl => lv_aloadN F.1 F.2.1 hd (lv_at hl q hq) (h p l e s m args below meth c H locs G b ls F hP hD hS hl)
theorem j_istore_n {P : JP} {pc : Nat} {lv : List (Nat × Value)} {st : List Value} {w : pW} {k n : Nat} {i : Fin 4} {x : Int32} {lv' : List (Nat × Value)} (hd : decode P.1.1 pc = .ok (.istore_n i, 1)) (hn : (i : Nat) < P.1.2.2.1) (hl' : ((i : Nat), Value.int x) :: lv.filter (fun q => !(q.1 == (i : Nat)) && !(q.1 + 1 == (i : Nat) && q.2.category == 2)) = lv') (h : J P (pc + 1) lv' st w k n) : J P pc lv (.int x :: st) w k n := fun p l e s m args below meth c H locs G b ls F hP hD hS hl => lv_istore_n F.1 F.2.1 hd rfl hl hn hl' (fun ls' hl9 => h p l e s m args below meth c H locs G b ls' F hP hD hS hl9)
theorem j_istore {P : JP} {pc : Nat} {lv : List (Nat × Value)} {st : List Value} {w : pW} {k n : Nat} {i : Nat} {x : Int32} {lv' : List (Nat × Value)} (hd : decode P.1.1 pc = .ok (.istore i, 2)) (hn : i < P.1.2.2.1) (hl' : (i, Value.int x) :: lv.filter (fun q => !(q.1 == i) && !(q.1 + 1 == i && q.2.category == 2)) = lv') (h : J P (pc + 2) lv' st w k n) : J P pc lv (.int x :: st) w k n := fun p l e s m args below meth c H locs G b ls F hP hD hS hl => lv_istore F.1 F.2.1 hd hl hn hl' (fun ls' hl9 => h p l e s m args below meth c H locs G b ls' F hP hD hS hl9)
theorem j_astore_n {P : JP} {pc : Nat} {lv : List (Nat × Value)} {st : List Value} {w : pW} {k n : Nat} {i : Fin 4} {x : Nat} {lv' : List (Nat × Value)} (hd : decode P.1.1 pc = .ok (.astore_n i, 1)) (hn : (i : Nat) < P.1.2.2.1) (hl' : ((i : Nat), Value.ref x) :: lv.filter (fun q => !(q.1 == (i : Nat)) && !(q.1 + 1 == (i : Nat) && q.2.category == 2)) = lv') (h : J P (pc + 1) lv' st w k n) : J P pc lv (.ref x :: st) w k n := fun p l e s m args below meth c H locs G b ls F hP hD hS hl => lv_astore_n F.1 F.2.1 hd rfl hl hn hl' (fun ls' hl9 => h p l e s m args below meth c H locs G b ls' F hP hD hS hl9)
theorem j_astore {P : JP} {pc : Nat} {lv : List (Nat × Value)} {st : List Value} {w : pW} {k n : Nat} {i : Nat} {x : Nat} {lv' : List (Nat × Value)} (hd : decode P.1.1 pc = .ok (.astore i, 2)) (hn : i < P.1.2.2.1) (hl' : (i, Value.ref x) :: lv.filter (fun q => !(q.1 == i) && !(q.1 + 1 == i && q.2.category == 2)) = lv') (h : J P (pc + 2) lv' st w k n) : J P pc lv (.ref x :: st) w k n := fun p l e s m args below meth c H locs G b ls F hP hD hS hl => lv_astore F.1 F.2.1 hd hl hn hl' (fun ls' hl9 => h p l e s m args below meth c H locs G b ls' F hP hD hS hl9)
theorem j_lstore_n {P : JP} {pc : Nat} {lv : List (Nat × Value)} {st : List Value} {w : pW} {k n : Nat} {i : Fin 4} {x : Int64} {lv' : List (Nat × Value)} (hd : decode P.1.1 pc = .ok (.lstore_n i, 1)) (hn : (i : Nat) + 1 < P.1.2.2.1) (hl' : ((i : Nat), Value.long x) :: lv.filter (fun q => !(q.1 == (i : Nat)) && (!(q.1 == (i : Nat) + 1) && !(q.1 + 1 == (i : Nat) && q.2.category == 2))) = lv') (h : J P (pc + 1) lv' st w k n) : J P pc lv (.long x :: st) w k n := fun p l e s m args below meth c H locs G b ls F hP hD hS hl => lv_lstore_n F.1 F.2.1 hd rfl hl hn hl' (fun ls' hl9 => h p l e s m args below meth c H locs G b ls' F hP hD hS hl9)
theorem j_lstore {P : JP} {pc : Nat} {lv : List (Nat × Value)} {st : List Value} {w : pW} {k n : Nat} {i : Nat} {x : Int64} {lv' : List (Nat × Value)} (hd : decode P.1.1 pc = .ok (.lstore i, 2)) (hn : i + 1 < P.1.2.2.1) (hl' : (i, Value.long x) :: lv.filter (fun q => !(q.1 == i) && (!(q.1 == i + 1) && !(q.1 + 1 == i && q.2.category == 2))) = lv') (h : J P (pc + 2) lv' st w k n) : J P pc lv (.long x :: st) w k n := fun p l e s m args below meth c H locs G b ls F hP hD hS hl => lv_lstore F.1 F.2.1 hd hl hn hl' (fun ls' hl9 => h p l e s m args below meth c H locs G b ls' F hP hD hS hl9)
theorem j_astore_nN {P : JP} {pc : Nat} {lv : List (Nat × Value)} {st : List Value} {w : pW} {k n : Nat} {i : Fin 4} {lv' : List (Nat × Value)} (hd : decode P.1.1 pc = .ok (.astore_n i, 1)) (hn : (i : Nat) < P.1.2.2.1) (hl' : ((i : Nat), Value.null) :: lv.filter (fun q => !(q.1 == (i : Nat)) && !(q.1 + 1 == (i : Nat) && q.2.category == 2)) = lv') (h : J P (pc + 1) lv' st w k n) : J P pc lv (.null :: st) w k n := fun p l e s m args below meth c H locs G b ls F hP hD hS hl => lv_astore_nN F.1 F.2.1 hd rfl hl hn hl' (fun ls' hl9 => h p l e s m args below meth c H locs G b ls' F hP hD hS hl9)
theorem j_astoreN {P : JP} {pc : Nat} {lv : List (Nat × Value)} {st : List Value} {w : pW} {k n : Nat} {i : Nat} {lv' : List (Nat × Value)} (hd : decode P.1.1 pc = .ok (.astore i, 2)) (hn : i < P.1.2.2.1) (hl' : (i, Value.null) :: lv.filter (fun q => !(q.1 == i) && !(q.1 + 1 == i && q.2.category == 2)) = lv') (h : J P (pc + 2) lv' st w k n) : J P pc lv (.null :: st) w k n := fun p l e s m args below meth c H locs G b ls F hP hD hS hl => lv_astoreN F.1 F.2.1 hd hl hn hl' (fun ls' hl9 => h p l e s m args below meth c H locs G b ls' F hP hD hS hl9)
theorem j_iinc {P : JP} {pc : Nat} {lv : List (Nat × Value)} {st : List Value} {w : pW} {k n : Nat} {i q : Nat} {d : Int} {x v : Int32} {lv' : List (Nat × Value)} (hd : decode P.1.1 pc = .ok (.iinc i d, 3)) (hq : lv[q]? = some (i, .int x)) (hv : x + Int32.ofInt d = v) (hn : i < P.1.2.2.1) (hl' : (i, Value.int v) :: lv.filter (fun q => !(q.1 == i) && !(q.1 + 1 == i && q.2.category == 2)) = lv') (h : J P (pc + 3) lv' st w k n) : J P pc lv st w k n := fun p l e s m args below meth c H locs G b ls F hP hD hS hl => lv_iinc F.1 F.2.1 hd hl hq hv hn hl' (fun ls' hl9 => h p l e s m args below meth c H locs G b ls' F hP hD hS hl9)
theorem j_icmp_eq {P : JP} {pc : Nat} {lv : List (Nat × Value)} {st : List Value} {w : pW} {k n : Nat} {x y : Int32} {off : Int} (tgt : Nat) (hd : decode P.1.1 pc = .ok (.if_icmp .eq off, 3)) (ht : (pc : Int) + off = (tgt : Int)) (ht1 : x = y → J P tgt lv st w k n) (hf1 : ¬ (x = y) → J P (pc + 3) lv st w k n) : J P pc lv (.int y :: .int x :: st) w k n := fun p l e s m args below meth c H locs G b ls F hP hD hS hl => lv_icmp_eq F.1 F.2.1 hd ht (fun q => ht1 q p l e s m args below meth c H locs G b ls F hP hD hS hl) (fun q => hf1 q p l e s m args below meth c H locs G b ls F hP hD hS hl)
theorem j_icmp_ne {P : JP} {pc : Nat} {lv : List (Nat × Value)} {st : List Value} {w : pW} {k n : Nat} {x y : Int32} {off : Int} (tgt : Nat) (hd : decode P.1.1 pc = .ok (.if_icmp .ne off, 3)) (ht : (pc : Int) + off = (tgt : Int)) (ht1 : x ≠ y → J P tgt lv st w k n) (hf1 : x = y → J P (pc + 3) lv st w k n) : J P pc lv (.int y :: .int x :: st) w k n := fun p l e s m args below meth c H locs G b ls F hP hD hS hl => lv_icmp_ne F.1 F.2.1 hd ht (fun q => ht1 q p l e s m args below meth c H locs G b ls F hP hD hS hl) (fun q => hf1 q p l e s m args below meth c H locs G b ls F hP hD hS hl)
theorem j_icmp_lt {P : JP} {pc : Nat} {lv : List (Nat × Value)} {st : List Value} {w : pW} {k n : Nat} {x y : Int32} {off : Int} (tgt : Nat) (hd : decode P.1.1 pc = .ok (.if_icmp .lt off, 3)) (ht : (pc : Int) + off = (tgt : Int)) (ht1 : x < y → J P tgt lv st w k n) (hf1 : ¬ (x < y) → J P (pc + 3) lv st w k n) : J P pc lv (.int y :: .int x :: st) w k n := fun p l e s m args below meth c H locs G b ls F hP hD hS hl => lv_icmp_lt F.1 F.2.1 hd ht (fun q => ht1 q p l e s m args below meth c H locs G b ls F hP hD hS hl) (fun q => hf1 q p l e s m args below meth c H locs G b ls F hP hD hS hl)
theorem j_icmp_ge {P : JP} {pc : Nat} {lv : List (Nat × Value)} {st : List Value} {w : pW} {k n : Nat} {x y : Int32} {off : Int} (tgt : Nat) (hd : decode P.1.1 pc = .ok (.if_icmp .ge off, 3)) (ht : (pc : Int) + off = (tgt : Int)) (ht1 : y ≤ x → J P tgt lv st w k n) (hf1 : ¬ (y ≤ x) → J P (pc + 3) lv st w k n) : J P pc lv (.int y :: .int x :: st) w k n := fun p l e s m args below meth c H locs G b ls F hP hD hS hl => lv_icmp_ge F.1 F.2.1 hd ht (fun q => ht1 q p l e s m args below meth c H locs G b ls F hP hD hS hl) (fun q => hf1 q p l e s m args below meth c H locs G b ls F hP hD hS hl)
theorem j_icmp_gt {P : JP} {pc : Nat} {lv : List (Nat × Value)} {st : List Value} {w : pW} {k n : Nat} {x y : Int32} {off : Int} (tgt : Nat) (hd : decode P.1.1 pc = .ok (.if_icmp .gt off, 3)) (ht : (pc : Int) + off = (tgt : Int)) (ht1 : y < x → J P tgt lv st w k n) (hf1 : ¬ (y < x) → J P (pc + 3) lv st w k n) : J P pc lv (.int y :: .int x :: st) w k n := fun p l e s m args below meth c H locs G b ls F hP hD hS hl => lv_icmp_gt F.1 F.2.1 hd ht (fun q => ht1 q p l e s m args below meth c H locs G b ls F hP hD hS hl) (fun q => hf1 q p l e s m args below meth c H locs G b ls F hP hD hS hl)
theorem j_icmp_le {P : JP} {pc : Nat} {lv : List (Nat × Value)} {st : List Value} {w : pW} {k n : Nat} {x y : Int32} {off : Int} (tgt : Nat) (hd : decode P.1.1 pc = .ok (.if_icmp .le off, 3)) (ht : (pc : Int) + off = (tgt : Int)) (ht1 : x ≤ y → J P tgt lv st w k n) (hf1 : ¬ (x ≤ y) → J P (pc + 3) lv st w k n) : J P pc lv (.int y :: .int x :: st) w k n := fun p l e s m args below meth c H locs G b ls F hP hD hS hl => lv_icmp_le F.1 F.2.1 hd ht (fun q => ht1 q p l e s m args below meth c H locs G b ls F hP hD hS hl) (fun q => hf1 q p l e s m args below meth c H locs G b ls F hP hD hS hl)
theorem j_if_eq {P : JP} {pc : Nat} {lv : List (Nat × Value)} {st : List Value} {w : pW} {k n : Nat} {x : Int32} {off : Int} (tgt : Nat) (hd : decode P.1.1 pc = .ok (.ifCond .eq off, 3)) (ht : (pc : Int) + off = (tgt : Int)) (ht1 : x = 0 → J P tgt lv st w k n) (hf1 : ¬ (x = 0) → J P (pc + 3) lv st w k n) : J P pc lv (.int x :: st) w k n := fun p l e s m args below meth c H locs G b ls F hP hD hS hl => lv_if_eq F.1 F.2.1 hd ht (fun q => ht1 q p l e s m args below meth c H locs G b ls F hP hD hS hl) (fun q => hf1 q p l e s m args below meth c H locs G b ls F hP hD hS hl)
theorem j_if_ne {P : JP} {pc : Nat} {lv : List (Nat × Value)} {st : List Value} {w : pW} {k n : Nat} {x : Int32} {off : Int} (tgt : Nat) (hd : decode P.1.1 pc = .ok (.ifCond .ne off, 3)) (ht : (pc : Int) + off = (tgt : Int)) (ht1 : x ≠ 0 → J P tgt lv st w k n) (hf1 : x = 0 → J P (pc + 3) lv st w k n) : J P pc lv (.int x :: st) w k n := fun p l e s m args below meth c H locs G b ls F hP hD hS hl => lv_if_ne F.1 F.2.1 hd ht (fun q => ht1 q p l e s m args below meth c H locs G b ls F hP hD hS hl) (fun q => hf1 q p l e s m args below meth c H locs G b ls F hP hD hS hl)
theorem j_if_lt {P : JP} {pc : Nat} {lv : List (Nat × Value)} {st : List Value} {w : pW} {k n : Nat} {x : Int32} {off : Int} (tgt : Nat) (hd : decode P.1.1 pc = .ok (.ifCond .lt off, 3)) (ht : (pc : Int) + off = (tgt : Int)) (ht1 : x < 0 → J P tgt lv st w k n) (hf1 : ¬ (x < 0) → J P (pc + 3) lv st w k n) : J P pc lv (.int x :: st) w k n := fun p l e s m args below meth c H locs G b ls F hP hD hS hl => lv_if_lt F.1 F.2.1 hd ht (fun q => ht1 q p l e s m args below meth c H locs G b ls F hP hD hS hl) (fun q => hf1 q p l e s m args below meth c H locs G b ls F hP hD hS hl)
theorem j_if_ge {P : JP} {pc : Nat} {lv : List (Nat × Value)} {st : List Value} {w : pW} {k n : Nat} {x : Int32} {off : Int} (tgt : Nat) (hd : decode P.1.1 pc = .ok (.ifCond .ge off, 3)) (ht : (pc : Int) + off = (tgt : Int)) (ht1 : 0 ≤ x → J P tgt lv st w k n) (hf1 : ¬ (0 ≤ x) → J P (pc + 3) lv st w k n) : J P pc lv (.int x :: st) w k n := fun p l e s m args below meth c H locs G b ls F hP hD hS hl => lv_if_ge F.1 F.2.1 hd ht (fun q => ht1 q p l e s m args below meth c H locs G b ls F hP hD hS hl) (fun q => hf1 q p l e s m args below meth c H locs G b ls F hP hD hS hl)
theorem j_if_gt {P : JP} {pc : Nat} {lv : List (Nat × Value)} {st : List Value} {w : pW} {k n : Nat} {x : Int32} {off : Int} (tgt : Nat) (hd : decode P.1.1 pc = .ok (.ifCond .gt off, 3)) (ht : (pc : Int) + off = (tgt : Int)) (ht1 : 0 < x → J P tgt lv st w k n) (hf1 : ¬ (0 < x) → J P (pc + 3) lv st w k n) : J P pc lv (.int x :: st) w k n := fun p l e s m args below meth c H locs G b ls F hP hD hS hl => lv_if_gt F.1 F.2.1 hd ht (fun q => ht1 q p l e s m args below meth c H locs G b ls F hP hD hS hl) (fun q => hf1 q p l e s m args below meth c H locs G b ls F hP hD hS hl)
theorem j_if_le {P : JP} {pc : Nat} {lv : List (Nat × Value)} {st : List Value} {w : pW} {k n : Nat} {x : Int32} {off : Int} (tgt : Nat) (hd : decode P.1.1 pc = .ok (.ifCond .le off, 3)) (ht : (pc : Int) + off = (tgt : Int)) (ht1 : x ≤ 0 → J P tgt lv st w k n) (hf1 : ¬ (x ≤ 0) → J P (pc + 3) lv st w k n) : J P pc lv (.int x :: st) w k n := fun p l e s m args below meth c H locs G b ls F hP hD hS hl => lv_if_le F.1 F.2.1 hd ht (fun q => ht1 q p l e s m args below meth c H locs G b ls F hP hD hS hl) (fun q => hf1 q p l e s m args below meth c H locs G b ls F hP hD hS hl)
theorem j_goto {P : JP} {pc : Nat} {lv : List (Nat × Value)} {st : List Value} {w : pW} {k n : Nat} {off : Int} (tgt : Nat) (hd : decode P.1.1 pc = .ok (.goto off, 3)) (ht : (pc : Int) + off = (tgt : Int)) (h : J P tgt lv st w k n) : J P pc lv st w k n := fun p l e s m args below meth c H locs G b ls F hP hD hS hl => lv_goto F.1 F.2.1 hd ht (h p l e s m args below meth c H locs G b ls F hP hD hS hl)
theorem j_ifnull {P : JP} {pc : Nat} {lv : List (Nat × Value)} {st : List Value} {w : pW} {k n : Nat} {a : Nat} {off : Int} (hd : decode P.1.1 pc = .ok (.ifnull off, 3)) (h : J P (pc + 3) lv st w k n) : J P pc lv (.ref a :: st) w k n := fun p l e s m args below meth c H locs G b ls F hP hD hS hl => lv_ifnull F.1 F.2.1 hd (h p l e s m args below meth c H locs G b ls F hP hD hS hl)
theorem j_ifnonnull {P : JP} {pc : Nat} {lv : List (Nat × Value)} {st : List Value} {w : pW} {k n : Nat} {a : Nat} {off : Int} (tgt : Nat) (hd : decode P.1.1 pc = .ok (.ifnonnull off, 3)) (ht : (pc : Int) + off = (tgt : Int)) (h : J P tgt lv st w k n) : J P pc lv (.ref a :: st) w k n := fun p l e s m args below meth c H locs G b ls F hP hD hS hl => lv_ifnonnull F.1 F.2.1 hd ht (h p l e s m args below meth c H locs G b ls F hP hD hS hl)
theorem j_ifnullN {P : JP} {pc : Nat} {lv : List (Nat × Value)} {st : List Value} {w : pW} {k n : Nat} {off : Int} (tgt : Nat) (hd : decode P.1.1 pc = .ok (.ifnull off, 3)) (ht : (pc : Int) + off = (tgt : Int)) (h : J P tgt lv st w k n) : J P pc lv (.null :: st) w k n := fun p l e s m args below meth c H locs G b ls F hP hD hS hl => lv_ifnullN F.1 F.2.1 hd ht (h p l e s m args below meth c H locs G b ls F hP hD hS hl)
theorem j_ifnonnullN {P : JP} {pc : Nat} {lv : List (Nat × Value)} {st : List Value} {w : pW} {k n : Nat} {off : Int} (hd : decode P.1.1 pc = .ok (.ifnonnull off, 3)) (h : J P (pc + 3) lv st w k n) : J P pc lv (.null :: st) w k n := fun p l e s m args below meth c H locs G b ls F hP hD hS hl => lv_ifnonnullN F.1 F.2.1 hd (h p l e s m args below meth c H locs G b ls F hP hD hS hl)
theorem j_tableOut {P : JP} {pc : Nat} {lv : List (Nat × Value)} {st : List Value} {w : pW} {k n : Nat} {dflt lo hi : Int} {offs : Array Int} {len : Nat} {x : Int32} (tgt : Nat) (hd : decode P.1.1 pc = .ok (.tableswitch dflt lo hi offs, len)) (hx : x.toInt < lo ∨ hi < x.toInt) (ht : (pc : Int) + dflt = (tgt : Int)) (h : J P tgt lv st w k n) : J P pc lv (.int x :: st) w k n := fun p l e s m args below meth c H locs G b ls F hP hD hS hl => lv_tableOut F.1 F.2.1 hd hx ht (h p l e s m args below meth c H locs G b ls F hP hD hS hl)
theorem j_tableIn {P : JP} {pc : Nat} {lv : List (Nat × Value)} {st : List Value} {w : pW} {k n : Nat} {dflt lo hi : Int} {offs : Array Int} {len : Nat} {x : Int32} {off : Int} (tgt : Nat) (hd : decode P.1.1 pc = .ok (.tableswitch dflt lo hi offs, len)) (h1 : ¬ x.toInt < lo) (h2 : ¬ hi < x.toInt) (ho : offs[(x.toInt - lo).toNat]? = some off) (ht : (pc : Int) + off = (tgt : Int)) (h : J P tgt lv st w k n) : J P pc lv (.int x :: st) w k n := fun p l e s m args below meth c H locs G b ls F hP hD hS hl => lv_tableIn F.1 F.2.1 hd h1 h2 ho ht (h p l e s m args below meth c H locs G b ls F hP hD hS hl)
theorem j_lookup {P : JP} {pc : Nat} {lv : List (Nat × Value)} {st : List Value} {w : pW} {k n : Nat} {dflt : Int} {ps : Array (Int × Int)} {len : Nat} {x : Int32} {off : Int} (tgt : Nat) (hd : decode P.1.1 pc = .ok (.lookupswitch dflt ps, len)) (hp : (ps.toList.zip (ps.toList.drop 1)).all (fun (a, next) => a.1 < next.1) = true) (ho : Op.lookupswitch.offset ps.toList dflt x.toInt = off) (ht : (pc : Int) + off = (tgt : Int)) (h : J P tgt lv st w k n) : J P pc lv (.int x :: st) w k n := fun p l e s m args below meth c H locs G b ls F hP hD hS hl => lv_lookup F.1 F.2.1 hd hp ho ht (h p l e s m args below meth c H locs G b ls F hP hD hS hl)
theorem j_lv {P : JP} {pc : Nat} {lv : List (Nat × Value)} {st : List Value} {w : pW} {k n : Nat} {lv' : List (Nat × Value)} (ks : List Nat) (hk : lv_pick lv ks = lv') (h : J P pc lv' st w k n) : J P pc lv st w k n := fun p l e s m args below meth c H locs G b ls F hP hD hS hl => h p l e s m args below meth c H locs G b ls F hP hD hS (lv_sub hl ks hk)
theorem j_eqw {P : JP} {pc : Nat} {lv : List (Nat × Value)} {st : List Value} {w : pW} {k n : Nat} {w' : pW} (hw : w = w') (h : J P pc lv st w' k n) : J P pc lv st w k n := by rw [hw]; exact h
theorem j_eqi {P : JP} {pc : Nat} {lv : List (Nat × Value)} {st : List Value} {w : pW} {k n : Nat} {x y : Int32} (hx : x = y) (h : J P pc lv (.int y :: st) w k n) : J P pc lv (.int x :: st) w k n := by rw [hx]; exact h
theorem j_topi {P : JP} {pc : Nat} {lv : List (Nat × Value)} {st : List Value} {w : pW} {k n : Nat} {x : Int32} (h : ∀ y : Int32, y = x → J P pc lv (.int y :: st) w k n) : J P pc lv (.int x :: st) w k n := h x rfl
theorem j_widen {P : JP} {pc : Nat} {lv : List (Nat × Value)} {st : List Value} {w : pW} {k n : Nat} {k' n' : Nat} (h1 : k ≤ k') (h2 : n ≤ n') (h : J P pc lv st w k' n') : J P pc lv st w k n := fun p l e s m args below meth c H locs G b ls F hP hD hS hl => W.widen h1 h2 (h p l e s m args below meth c H locs G b ls F hP hD hS hl)
end JR
section JH
/-- field kf of the class ci by the entry idx of own's pool -/
def FL (Ts : List Cond) (own : String) (idx ci kf : Nat) : Prop := ∃ (C : String) (T : u_T) (N : Nat), vwCl[ci]? = some (C, T, N) ∧ kf < N ∧ (∀ w ∈ u_ws C T N, w ∈ Ts) ∧ Cond.fieldLink own idx (T kf).1 (T kf).2.1 (T kf).2.2.1 ∈ Ts
def FS (Ts : List Cond) (own : String) (idx ci kf : Nat) (fin : Bool) (ty : FieldType) : Prop := ∃ (C : String) (T : u_T) (N : Nat) (ty0 : Nat → FieldType), vwCl[ci]? = some (C, T, N) ∧ kf < N ∧ (∀ w ∈ u_ws C T N, w ∈ Ts) ∧ Cond.fieldLink own idx (T kf).1 (T kf).2.1 (T kf).2.2.1 ∈ Ts ∧
  (∀ k, k < N → parseFieldDescriptor (T k).2.2.1 = some (ty0 k)) ∧ (∀ a, a < N → ∀ b, b < N → a ≠ b → (T a).2.1 ≠ (T b).2.1) ∧ (T kf).2.2.2 = fin ∧ ty0 kf = ty ∧ (T kf).1 = C
variable {P : JP} {pc : Nat} {lv : List (Nat × Value)} {st : List Value} {w : pW} {k n : Nat}
theorem j_get {a idx ci kf : Nat} {fs : List Value} {v : Value} (f : FL P.1.2.2.2 P.1.2.1 idx ci kf) (hw : w a = some (.inr (ci, fs))) (hv : fs[kf]? = some v) (hd : decode P.1.1 pc = .ok (.getfield idx, 3)) (h : J P (pc + 3) lv (v :: st) w k n) : J P pc lv (.ref a :: st) w k n := by
  intro p l e s m args below meth c H locs G b ls F hP hD hS hl
  obtain ⟨hx, hb, hml, hown, hts, hr, hlk, hnm, htb, hK, hBg, hst, hbs, hX⟩ := id F
  obtain ⟨C, T, N, hc, hk, hin, hlink⟩ := f
  obtain ⟨q0, hq⟩ := fL_at hP hw
  exact va_get hx hb hts hin hown hK (fL_P hP) q0 hq hc kf hk (hts _ hlink) (fun _ h9 => h9) hv hd (h p l e s m args below meth c H locs G b ls F hP hD hS hl)
theorem j_put {a idx ci kf : Nat} {fs fs9 : List Value} {ty : FieldType} {v : Value} (f : FS P.1.2.2.2 P.1.2.1 idx ci kf false ty) (hw : w a = some (.inr (ci, fs))) (hn : narrow ty v = v) (hfit : fits ty v = true) (hlen : kf < fs.length) (hfs : fs.set kf v = fs9) (hd : decode P.1.1 pc = .ok (.putfield idx, 3)) (h : J P (pc + 3) lv st (va_up w a (some (.inr (ci, fs9)))) k n) : J P pc lv (v :: .ref a :: st) w k n := by
  subst hfs
  intro p l e s m args below meth c H locs G b ls F hP hD hS hl
  obtain ⟨hx, hb, hml, hown, hts, hr, hlk, hnm, htb, hK, hBg, hst, hbs, hX⟩ := id F
  obtain ⟨C, T, N, ty0, hc, hk, hin, hlink, hty, hnd, hfin, rfl, -⟩ := f
  obtain ⟨q0, hq⟩ := fL_at hP hw
  refine va_put hx hb hts hin ty0 hty hnd hown hK (fL_P hP) (fL_D hD) hS q0 hq hc kf hk (hts _ hlink) (fun _ h9 => h9) hfin (hty kf hk) hn hfit hlen hd (fun H1 locs1 hP1 hD1 hS1 => ?_)
  exact h p l e s m args below meth c H1 locs1 G b ls F (fL_set (e := .inr (ci, fs.set kf v)) hP hq hP1) (hD.up hw) hS1 hl
theorem j_putF {a idx ci kf : Nat} {fs fs9 : List Value} {ty : FieldType} {v : Value} (f : FS P.1.2.2.2 P.1.2.1 idx ci kf true ty) (hw : w a = some (.inr (ci, fs))) (hi : P.2.1.2.2.1 = "<init>") (ho : ∀ C T N, vwCl[ci]? = some (C, T, N) → C = P.1.2.1) (hn : narrow ty v = v) (hfit : fits ty v = true) (hlen : kf < fs.length) (hfs : fs.set kf v = fs9) (hd : decode P.1.1 pc = .ok (.putfield idx, 3)) (h : J P (pc + 3) lv st (va_up w a (some (.inr (ci, fs9)))) k n) : J P pc lv (v :: .ref a :: st) w k n := by
  subst hfs
  intro p l e s m args below meth c H locs G b ls F hP hD hS hl
  obtain ⟨hx, hb, hml, hown, hts, hr, hlk, hnm, htb, hK, hBg, hst, hbs, hX⟩ := id F
  obtain ⟨C, T, N, ty0, hc, hk, hin, hlink, hty, hnd, hfin, rfl, hCo⟩ := f
  obtain ⟨q0, hq⟩ := fL_at hP hw
  refine va_putF hx hb hts hin ty0 hty hnd hown hK (fL_P hP) (fL_D hD) hS q0 hq hc kf hk (hts _ hlink) (fun _ h9 => h9) hfin (hnm.trans hi) (hCo.trans (ho C T N hc)) (hty kf hk) hn hfit hlen hd (fun H1 locs1 hP1 hD1 hS1 => ?_)
  exact h p l e s m args below meth c H1 locs1 G b ls F (fL_set (e := .inr (ci, fs.set kf v)) hP hq hP1) (hD.up hw) hS1 hl
theorem j_iald {a N : Nat} {f : Nat → Int32} {i : Int32} (hw : w a = some (.inl (0, N, .inl f))) (hin : vp_in i N) (hd : decode P.1.1 pc = .ok (.iaload, 1)) (h : J P (pc + 1) lv (.int (f i.toNatClampNeg) :: st) w k n) : J P pc lv (.int i :: .ref a :: st) w k n := by
  intro p l e s m args below meth c H locs G b ls F hP hD hS hl
  obtain ⟨hx, hb, hml, hown, hts, hr, hlk, hnm, htb, hK, hBg, hst, hbs, hX⟩ := id F
  obtain ⟨q0, hq⟩ := fL_at hP hw
  exact va_iald hx hb hK (fL_P hP) q0 0 hq rfl hin hd (h p l e s m args below meth c H locs G b ls F hP hD hS hl)
theorem j_bald {a N : Nat} {f : Nat → Int32} {i : Int32} (hw : w a = some (.inl (1, N, .inl f))) (hin : vp_in i N) (hd : decode P.1.1 pc = .ok (.baload, 1)) (h : J P (pc + 1) lv (.int (f i.toNatClampNeg) :: st) w k n) : J P pc lv (.int i :: .ref a :: st) w k n := by
  intro p l e s m args below meth c H locs G b ls F hP hD hS hl
  obtain ⟨hx, hb, hml, hown, hts, hr, hlk, hnm, htb, hK, hBg, hst, hbs, hX⟩ := id F
  obtain ⟨q0, hq⟩ := fL_at hP hw
  exact va_bald hx hb hK (fL_P hP) q0 1 hq rfl hin hd (h p l e s m args below meth c H locs G b ls F hP hD hS hl)
theorem j_zald {a N : Nat} {f : Nat → Int32} {i : Int32} (hw : w a = some (.inl (2, N, .inl f))) (hin : vp_in i N) (hd : decode P.1.1 pc = .ok (.baload, 1)) (h : J P (pc + 1) lv (.int (f i.toNatClampNeg) :: st) w k n) : J P pc lv (.int i :: .ref a :: st) w k n := by
  intro p l e s m args below meth c H locs G b ls F hP hD hS hl
  obtain ⟨hx, hb, hml, hown, hts, hr, hlk, hnm, htb, hK, hBg, hst, hbs, hX⟩ := id F
  obtain ⟨q0, hq⟩ := fL_at hP hw
  exact va_zald hx hb hK (fL_P hP) q0 2 hq rfl hin hd (h p l e s m args below meth c H locs G b ls F hP hD hS hl)
theorem j_lald {a N : Nat} {f : Nat → Int64} {i : Int32} (hw : w a = some (.inl (3, N, .inr (.inl f)))) (hin : vp_in i N) (hd : decode P.1.1 pc = .ok (.laload, 1)) (h : J P (pc + 1) lv (.long (f i.toNatClampNeg) :: st) w k n) : J P pc lv (.int i :: .ref a :: st) w k n := by
  intro p l e s m args below meth c H locs G b ls F hP hD hS hl
  obtain ⟨hx, hb, hml, hown, hts, hr, hlk, hnm, htb, hK, hBg, hst, hbs, hX⟩ := id F
  obtain ⟨q0, hq⟩ := fL_at hP hw
  exact va_lald hx hb hK (fL_P hP) q0 3 hq rfl hin hd (h p l e s m args below meth c H locs G b ls F hP hD hS hl)
theorem j_aald {a N : Nat} {f : Nat → Option Nat} {i : Int32} (hw : w a = some (.inl (4, N, .inr (.inr (.inr (.inr f)))))) (hin : vp_in i N) (hd : decode P.1.1 pc = .ok (.aaload, 1)) (h : J P (pc + 1) lv (va_rf (f i.toNatClampNeg) :: st) w k n) : J P pc lv (.int i :: .ref a :: st) w k n := by
  intro p l e s m args below meth c H locs G b ls F hP hD hS hl
  obtain ⟨hx, hb, hml, hown, hts, hr, hlk, hnm, htb, hK, hBg, hst, hbs, hX⟩ := id F
  obtain ⟨q0, hq⟩ := fL_at hP hw
  have hlt : i.toNatClampNeg < N := Nat.not_le.mp fun q => hin (Or.inr q)
  exact W.aald (v := va_rf (f i.toNatClampNeg)) (ty := .array .int) hx hb (fL_P hP q0 _ hq) ((hK.2 4 (G.2 4, .array .int) rfl).1 N (fun j => va_rf (f j))) rfl (fun q => by cases q) (by show ¬ (i < 0 ∨ (arrV _ _ _).slots.size ≤ _); rw [arrV_size]; exact hin) (by show (arrV _ _ _).slots[_]? = _; rw [arrV_read _ _ hlt]) rfl rfl hd (h p l e s m args below meth c H locs G b ls F hP hD hS hl)
theorem j_iast {a N : Nat} {f : Nat → Int32} {i x : Int32} (hw : w a = some (.inl (0, N, .inl f))) (hin : vp_in i N) (hd : decode P.1.1 pc = .ok (.iastore, 1)) (h : J P (pc + 1) lv st (va_up w a (some (.inl (0, N, .inl (upd f i.toNatClampNeg x))))) k n) : J P pc lv (.int x :: .int i :: .ref a :: st) w k n := by
  intro p l e s m args below meth c H locs G b ls F hP hD hS hl
  obtain ⟨hx, hb, hml, hown, hts, hr, hlk, hnm, htb, hK, hBg, hst, hbs, hX⟩ := id F
  obtain ⟨q0, hq⟩ := fL_at hP hw
  refine va_iast hx hb hK (fL_P hP) (fL_D hD) hS q0 0 hq rfl hin hd (fun H1 locs1 hP1 hD1 hS1 => ?_)
  exact h p l e s m args below meth c H1 locs1 G b ls F (fL_set (e := .inl (0, N, .inl (upd f i.toNatClampNeg x))) hP hq hP1) (hD.up hw) hS1 hl
theorem j_bast {a N : Nat} {f : Nat → Int32} {i x : Int32} (hw : w a = some (.inl (1, N, .inl f))) (hin : vp_in i N) (hd : decode P.1.1 pc = .ok (.bastore, 1)) (h : J P (pc + 1) lv st (va_up w a (some (.inl (1, N, .inl (upd f i.toNatClampNeg (vp_nar .byte x)))))) k n) : J P pc lv (.int x :: .int i :: .ref a :: st) w k n := by
  intro p l e s m args below meth c H locs G b ls F hP hD hS hl
  obtain ⟨hx, hb, hml, hown, hts, hr, hlk, hnm, htb, hK, hBg, hst, hbs, hX⟩ := id F
  obtain ⟨q0, hq⟩ := fL_at hP hw
  refine va_bast hx hb hK (fL_P hP) (fL_D hD) hS q0 1 hq rfl hin hd (fun H1 locs1 hP1 hD1 hS1 => ?_)
  exact h p l e s m args below meth c H1 locs1 G b ls F (fL_set (e := .inl (1, N, .inl (upd f i.toNatClampNeg (vp_nar .byte x)))) hP hq hP1) (hD.up hw) hS1 hl
theorem j_zast {a N : Nat} {f : Nat → Int32} {i x : Int32} (hw : w a = some (.inl (2, N, .inl f))) (hin : vp_in i N) (hd : decode P.1.1 pc = .ok (.bastore, 1)) (h : J P (pc + 1) lv st (va_up w a (some (.inl (2, N, .inl (upd f i.toNatClampNeg (vp_nar .boolean x)))))) k n) : J P pc lv (.int x :: .int i :: .ref a :: st) w k n := by
  intro p l e s m args below meth c H locs G b ls F hP hD hS hl
  obtain ⟨hx, hb, hml, hown, hts, hr, hlk, hnm, htb, hK, hBg, hst, hbs, hX⟩ := id F
  obtain ⟨q0, hq⟩ := fL_at hP hw
  refine va_zast hx hb hK (fL_P hP) (fL_D hD) hS q0 2 hq rfl hin hd (fun H1 locs1 hP1 hD1 hS1 => ?_)
  exact h p l e s m args below meth c H1 locs1 G b ls F (fL_set (e := .inl (2, N, .inl (upd f i.toNatClampNeg (vp_nar .boolean x)))) hP hq hP1) (hD.up hw) hS1 hl
theorem j_last {a N : Nat} {f : Nat → Int64} {i : Int32} {x : Int64} (hw : w a = some (.inl (3, N, .inr (.inl f)))) (hin : vp_in i N) (hd : decode P.1.1 pc = .ok (.lastore, 1)) (h : J P (pc + 1) lv st (va_up w a (some (.inl (3, N, .inr (.inl (vp_updL f i.toNatClampNeg x)))))) k n) : J P pc lv (.long x :: .int i :: .ref a :: st) w k n := by
  intro p l e s m args below meth c H locs G b ls F hP hD hS hl
  obtain ⟨hx, hb, hml, hown, hts, hr, hlk, hnm, htb, hK, hBg, hst, hbs, hX⟩ := id F
  obtain ⟨q0, hq⟩ := fL_at hP hw
  refine va_last hx hb hK (fL_P hP) (fL_D hD) hS q0 3 hq rfl hin hd (fun H1 locs1 hP1 hD1 hS1 => ?_)
  exact h p l e s m args below meth c H1 locs1 G b ls F (fL_set (e := .inl (3, N, .inr (.inl (vp_updL f i.toNatClampNeg x)))) hP hq hP1) (hD.up hw) hS1 hl
theorem j_alen {a t : Nat} {x : vp_A} {v : Int32} (ht : t < 5) (hw : w a = some (.inl (t, x))) (hv : Int32.ofNat x.1 = v) (hd : decode P.1.1 pc = .ok (.arraylength, 1)) (h : J P (pc + 1) lv (.int v :: st) w k n) : J P pc lv (.ref a :: st) w k n := by
  intro p l e s m args below meth c H locs G b ls F hP hD hS hl
  obtain ⟨hx, hb, hml, hown, hts, hr, hlk, hnm, htb, hK, hBg, hst, hbs, hX⟩ := id F
  obtain ⟨q0, hq⟩ := fL_at hP hw
  obtain ⟨ty, hty⟩ : ∃ ty, (fT G)[t]? = some (G.2 t, ty) := by
    rcases (show t = 0 ∨ t = 1 ∨ t = 2 ∨ t = 3 ∨ t = 4 by omega) with rfl | rfl | rfl | rfl | rfl <;> exact ⟨_, rfl⟩
  exact va_alen hx hb hK (fL_P hP) q0 t hq hty hv hd (h p l e s m args below meth c H locs G b ls F hP hD hS hl)
/-- new: a cell at an address where none was -/
theorem j_new {idx ci N : Nat} {C : String} {T : u_T} {fs : List Value} (ty : Nat → FieldType) (hc : vwCl[ci]? = some (C, T, N)) (hin : ∀ w ∈ u_ws C T N, w ∈ P.1.2.2.2) (hty : ∀ k, k < N → parseFieldDescriptor (T k).2.2.1 = some (ty k)) (hcl : Cond.classLink P.1.2.1 idx C ∈ P.1.2.2.2) (hinst : Cond.instantiable C N ∈ P.1.2.2.2) (hini : Cond.initialized C ∈ P.1.2.2.2) (hfs : ∀ j, j < N → defaultValue (ty j) = vp_V fs j) (hcells : k + 1 ≤ P.2.1.1.cells) (hslots : n + N ≤ P.2.1.1.slots) (hd : decode P.1.1 pc = .ok (.new idx, 3))
    (h : ∀ q : Nat, w q = none → J P (pc + 3) lv (.ref q :: st) (va_up w q (some (.inr (ci, fs)))) (k + 1) (n + N)) : J P pc lv st w k n := by
  intro p l e s m args below meth c H locs G b ls F hP hD hS hl
  obtain ⟨hx, hb, hml, hown, hts, hr, hlk, hnm, htb, hK, hBg, hst, hbs, hX⟩ := id F
  refine va_new (ci := ci) (fs := fs) hx hb hts hin ty hty hown (hts _ hcl) (hts _ hinst) (hts _ hini) hK (fL_P hP) (fL_D hD) hS (fun q hq => Nat.le_trans hbs hq) hc hfs hcells hslots hd (fun q H1 hP1 hD1 hS1 => ?_)
  obtain ⟨h1, h2, h3, h4⟩ := fL_push (e := .inr (ci, fs)) hP hD hP1 hD1
  exact h q h1 p l e s m args below meth c H1 locs G b ls F h3 h4 hS1 hl
theorem j_newi {x : Int32} {N : Nat} (harr : Cond.arrayClass .int ∈ P.1.2.2.2) (hx0 : ¬ x < 0) (hN : x.toNatClampNeg = N) (hb4 : N ≤ 100000) (hcells : k + 1 ≤ P.2.1.1.cells) (hslots : n + N ≤ P.2.1.1.slots) (hd : decode P.1.1 pc = .ok (.newarray .int, 2))
    (h : ∀ q : Nat, w q = none → J P (pc + 2) lv (.ref q :: st) (va_up w q (some (.inl (0, N, .inl (fun _ => 0))))) (k + 1) (n + N)) : J P pc lv (.int x :: st) w k n := by
  intro p l e s m args below meth c H locs G b ls F hP hD hS hl
  obtain ⟨hx, hb, hml, hown, hts, hr, hlk, hnm, htb, hK, hBg, hst, hbs, hX⟩ := id F
  refine va_newa (atype := .int) (ty := .int) (a0 := (N, .inl (fun _ => 0))) hx hb (hts _ harr) rfl hK (fL_P hP) (fL_D hD) hS (fun q hq => Nat.le_trans hbs hq) (fun cA => by rw [vp_cell_i]; rfl) hx0 hN (by show N * 4 ≤ _; omega) hcells hslots hd (fun q cA H1 hK1 hP1 hD1 hS1 => ?_)
  have e1 : cA = G.2 0 := by
    have h1 := (hK1.2 5 (cA, .int) rfl).2
    have h2 := (hK.2 0 (G.2 0, .int) rfl).2
    exact Option.some.inj (h1.symm.trans h2)
  subst e1
  obtain ⟨h1, h2, h3, h4⟩ := fL_push (e := .inl (0, N, .inl (fun _ => 0))) hP hD hP1 hD1
  exact h q h1 p l e s m args below meth c H1 locs G b ls F h3 h4 hS1 hl
theorem j_newb {x : Int32} {N : Nat} (harr : Cond.arrayClass .byte ∈ P.1.2.2.2) (hx0 : ¬ x < 0) (hN : x.toNatClampNeg = N) (hb4 : N ≤ 100000) (hcells : k + 1 ≤ P.2.1.1.cells) (hslots : n + N ≤ P.2.1.1.slots) (hd : decode P.1.1 pc = .ok (.newarray .byte, 2))
    (h : ∀ q : Nat, w q = none → J P (pc + 2) lv (.ref q :: st) (va_up w q (some (.inl (1, N, .inl (fun _ => 0))))) (k + 1) (n + N)) : J P pc lv (.int x :: st) w k n := by
  intro p l e s m args below meth c H locs G b ls F hP hD hS hl
  obtain ⟨hx, hb, hml, hown, hts, hr, hlk, hnm, htb, hK, hBg, hst, hbs, hX⟩ := id F
  refine va_newa (atype := .byte) (ty := .byte) (a0 := (N, .inl (fun _ => 0))) hx hb (hts _ harr) rfl hK (fL_P hP) (fL_D hD) hS (fun q hq => Nat.le_trans hbs hq) (fun cA => by rw [vp_cell_i]; rfl) hx0 hN (by show N * 1 ≤ _; omega) hcells hslots hd (fun q cA H1 hK1 hP1 hD1 hS1 => ?_)
  have e1 : cA = G.2 1 := by
    have h1 := (hK1.2 5 (cA, .byte) rfl).2
    have h2 := (hK.2 1 (G.2 1, .byte) rfl).2
    exact Option.some.inj (h1.symm.trans h2)
  subst e1
  obtain ⟨h1, h2, h3, h4⟩ := fL_push (e := .inl (1, N, .inl (fun _ => 0))) hP hD hP1 hD1
  exact h q h1 p l e s m args below meth c H1 locs G b ls F h3 h4 hS1 hl
theorem j_newz {x : Int32} {N : Nat} (harr : Cond.arrayClass .boolean ∈ P.1.2.2.2) (hx0 : ¬ x < 0) (hN : x.toNatClampNeg = N) (hb4 : N ≤ 100000) (hcells : k + 1 ≤ P.2.1.1.cells) (hslots : n + N ≤ P.2.1.1.slots) (hd : decode P.1.1 pc = .ok (.newarray .boolean, 2))
    (h : ∀ q : Nat, w q = none → J P (pc + 2) lv (.ref q :: st) (va_up w q (some (.inl (2, N, .inl (fun _ => 0))))) (k + 1) (n + N)) : J P pc lv (.int x :: st) w k n := by
  intro p l e s m args below meth c H locs G b ls F hP hD hS hl
  obtain ⟨hx, hb, hml, hown, hts, hr, hlk, hnm, htb, hK, hBg, hst, hbs, hX⟩ := id F
  refine va_newa (atype := .boolean) (ty := .boolean) (a0 := (N, .inl (fun _ => 0))) hx hb (hts _ harr) rfl hK (fL_P hP) (fL_D hD) hS (fun q hq => Nat.le_trans hbs hq) (fun cA => by rw [vp_cell_i]; rfl) hx0 hN (by show N * 1 ≤ _; omega) hcells hslots hd (fun q cA H1 hK1 hP1 hD1 hS1 => ?_)
  have e1 : cA = G.2 2 := by
    have h1 := (hK1.2 5 (cA, .boolean) rfl).2
    have h2 := (hK.2 2 (G.2 2, .boolean) rfl).2
    exact Option.some.inj (h1.symm.trans h2)
  subst e1
  obtain ⟨h1, h2, h3, h4⟩ := fL_push (e := .inl (2, N, .inl (fun _ => 0))) hP hD hP1 hD1
  exact h q h1 p l e s m args below meth c H1 locs G b ls F h3 h4 hS1 hl
theorem j_newl {x : Int32} {N : Nat} (harr : Cond.arrayClass .long ∈ P.1.2.2.2) (hx0 : ¬ x < 0) (hN : x.toNatClampNeg = N) (hb4 : N ≤ 100000) (hcells : k + 1 ≤ P.2.1.1.cells) (hslots : n + N ≤ P.2.1.1.slots) (hd : decode P.1.1 pc = .ok (.newarray .long, 2))
    (h : ∀ q : Nat, w q = none → J P (pc + 2) lv (.ref q :: st) (va_up w q (some (.inl (3, N, .inr (.inl (fun _ => 0)))))) (k + 1) (n + N)) : J P pc lv (.int x :: st) w k n := by
  intro p l e s m args below meth c H locs G b ls F hP hD hS hl
  obtain ⟨hx, hb, hml, hown, hts, hr, hlk, hnm, htb, hK, hBg, hst, hbs, hX⟩ := id F
  refine va_newa (atype := .long) (ty := .long) (a0 := (N, .inr (.inl (fun _ => 0)))) hx hb (hts _ harr) rfl hK (fL_P hP) (fL_D hD) hS (fun q hq => Nat.le_trans hbs hq) (fun cA => by rw [vp_cell_l]; rfl) hx0 hN (by show N * 8 ≤ _; omega) hcells hslots hd (fun q cA H1 hK1 hP1 hD1 hS1 => ?_)
  have e1 : cA = G.2 3 := by
    have h1 := (hK1.2 5 (cA, .long) rfl).2
    have h2 := (hK.2 3 (G.2 3, .long) rfl).2
    exact Option.some.inj (h1.symm.trans h2)
  subst e1
  obtain ⟨h1, h2, h3, h4⟩ := fL_push (e := .inl (3, N, .inr (.inl (fun _ => 0)))) hP hD hP1 hD1
  exact h q h1 p l e s m args below meth c H1 locs G b ls F h3 h4 hS1 hl
theorem j_objInit {a idx : Nat} (h1 : Cond.methodLink P.1.2.1 idx objectInit ∈ P.1.2.2.2) (h2 : Cond.instanceMethod objectInit ∈ P.1.2.2.2) (h3 : Cond.code objectInit ⟨#[0xb1]⟩ 1 none ∈ P.1.2.2.2) (hd : decode P.1.1 pc = .ok (.invokespecial idx, 3)) (hf : 1 ≤ P.2.1.1.frames) (hlo : (st.map fun v => v.category).sum + 12 ≤ P.2.1.1.locals) (h : J P (pc + 3) lv st w k n) : J P pc lv (.ref a :: st) w k n := by
  intro p l e s m args below meth c H locs G b ls F hP hD hS hl
  obtain ⟨hx, hb, hml, hown, hts, hr, hlk, hnm, htb, hK, hBg, hst, hbs, hX⟩ := id F
  exact W.objInit hx hb hown (hts _ h1) (hts _ h2) (hts _ h3) rfl (by rw [hml]; exact hl.1) rfl hd hf (by show 2 * 0 + _ + 12 ≤ _; omega) (h p l e s m args below meth c H locs G b ls F hP hD hS hl)
/-! ends -/
theorem j_iret {x : Int32} (hr0 : P.2.1.2.1 = some .int) (hp : P.2.2.1 (.inl (some (.int x))) w) (hk : k ≤ P.2.1.1.cells) (hn : n ≤ P.2.1.1.slots) (hd : decode P.1.1 pc = .ok (.ireturn, 1)) : J P pc lv [.int x] w k n := by
  intro p l e s m args below meth c H locs G b ls F hP hD hS hl
  obtain ⟨hx, hb, hml, hown, hts, hr, hlk, hnm, htb, hK, hBg, hst, hbs, hX⟩ := id F
  exact W.widen hk hn (vx_ret (W.iret hx hb (hr.trans hr0) (fun t ht hW => ⟨⟨_, w, rfl, hp, by rw [ht]; exact hP, hD⟩, hS.F ht⟩) hS.2.2 hd hlk))
theorem j_zret {x : Int32} (hr0 : P.2.1.2.1 = some .boolean) (hz : x = 0 ∨ x = 1) (hp : P.2.2.1 (.inl (some (.int x))) w) (hk : k ≤ P.2.1.1.cells) (hn : n ≤ P.2.1.1.slots) (hd : decode P.1.1 pc = .ok (.ireturn, 1)) : J P pc lv [.int x] w k n := by
  intro p l e s m args below meth c H locs G b ls F hP hD hS hl
  obtain ⟨hx, hb, hml, hown, hts, hr, hlk, hnm, htb, hK, hBg, hst, hbs, hX⟩ := id F
  exact W.widen hk hn (vx_ret (W.zret hx hb (hr.trans hr0) (by rcases hz with rfl | rfl <;> rfl) (fun t ht hW => ⟨⟨_, w, rfl, hp, by rw [ht]; exact hP, hD⟩, hS.F ht⟩) hS.2.2 hd hlk))
theorem j_lret {x : Int64} (hr0 : P.2.1.2.1 = some .long) (hp : P.2.2.1 (.inl (some (.long x))) w) (hk : k ≤ P.2.1.1.cells) (hn : n ≤ P.2.1.1.slots) (hd : decode P.1.1 pc = .ok (.lreturn, 1)) : J P pc lv [.long x] w k n := by
  intro p l e s m args below meth c H locs G b ls F hP hD hS hl
  obtain ⟨hx, hb, hml, hown, hts, hr, hlk, hnm, htb, hK, hBg, hst, hbs, hX⟩ := id F
  exact W.widen hk hn (vx_ret (W.lret hx hb (hr.trans hr0) (fun t ht hW => ⟨⟨_, w, rfl, hp, by rw [ht]; exact hP, hD⟩, hS.F ht⟩) hS.2.2 hd hlk))
theorem j_aret {r : Option Nat} {rt : FieldType} (hr0 : P.2.1.2.1 = some rt) (hrt : (∃ n, rt = .object n) ∨ ∃ t, rt = .array t) (hp : P.2.2.1 (.inl (some (va_rf r))) w) (hk : k ≤ P.2.1.1.cells) (hn : n ≤ P.2.1.1.slots) (hd : decode P.1.1 pc = .ok (.areturn, 1)) : J P pc lv [va_rf r] w k n := by
  intro p l e s m args below meth c H locs G b ls F hP hD hS hl
  obtain ⟨hx, hb, hml, hown, hts, hr, hlk, hnm, htb, hK, hBg, hst, hbs, hX⟩ := id F
  exact W.widen hk hn (vx_ret (W.aret hx hb (hr.trans hr0) hrt (va_rf_or r) (fun t ht hW => ⟨⟨_, w, rfl, hp, by rw [ht]; exact hP, hD⟩, hS.F ht⟩) hS.2.2 hd hlk))
theorem j_vret (hr0 : P.2.1.2.1 = none) (hp : P.2.2.1 (.inl none) w) (hk : k ≤ P.2.1.1.cells) (hn : n ≤ P.2.1.1.slots) (hd : decode P.1.1 pc = .ok (.return_, 1)) : J P pc lv [] w k n := by
  intro p l e s m args below meth c H locs G b ls F hP hD hS hl
  obtain ⟨hx, hb, hml, hown, hts, hr, hlk, hnm, htb, hK, hBg, hst, hbs, hX⟩ := id F
  exact W.widen hk hn (vx_ret (W.vret hx hb (hr.trans hr0) (fun t ht hW => ⟨⟨_, w, rfl, hp, by rw [ht]; exact hP, hD⟩, hS.F ht⟩) hS.2.2 hd hlk))
end JH
section JE
/-- a contract out of a walk from the entry -/
theorem Ct.of {y : MethodName} {ws ws' : List Cond} {rm : Room} {As : List Value} {w : pW} {post : pO → pW → Prop} {cc : ByteArray} {own nm : String} {nL : Nat} {ret : Option FieldType}
    (hy : plainName y.cls = true) (hw : ws = Cond.code y cc nL ret :: ws') (ho : y.cls = own) (hn : y.name = nm) (hsz : (lg_sl As).length ≤ nL)
    (h : J ((cc, own, nL, ws), (rm, ret, nm, []), post, fun _ _ _ => True) 0 (lv_args 0 As) [] w 0 0) : Ct y ws rm As w post := by
  intro l G b hst
  refine vx_ofW (cc := cc) (maxL := nL) (ret := ret) hy hw ?_
  intro p e s m args below meth c s₁ B hml ht hv
  obtain ⟨rfl, hP, hD, hK, hBg, hbs⟩ := hv
  have hl := lv_entry As (n := nL) hsz
  rw [lg_entry_eq]
  generalize (lg_sl As ++ List.replicate (nL - (lg_sl As).length) Slot.unset).toArray = ls at hl ⊢
  have hown : s.vm.findClass own = some m.cls := by rw [← ho]; exact findClass_of_methodNamed B.named
  have hnm : meth.name = nm := by rw [← hn]; exact (name_of_methodNamed B.named B.method).1
  have htb : c.exceptionTable.toList = tableOf [] := by
    cases hq : c.exceptionTable.toList with
    | nil => rfl
    | cons x xs => exact (ht x (by rw [hq]; exact List.mem_cons_self)).elim
  exact h p l e s m _ below meth c s.heap [] G b ls ⟨B.exec, B.bytes, hml, hown, atoms_spec (ws := ws) B.pre, B.returns, B.notSynchronized, hnm, htb, hK, hBg, hst, hbs, trivial⟩ hP hD va_S.rf hl
/-- a contract that never throws, for the kit's calls -/
theorem Ct.met {y : MethodName} {ws : List Cond} {rm : Room} {As : List Value} {w : pW} {post : pO → pW → Prop} (h : Ct y ws rm As w post) (hx : ∀ E w', ¬ post (.inr E) w') {l : Launch} (G : pG) (b : Nat) (hst : l.stackTraces = false) : Met l y ws rm (va_Pc As (fw G b w)) (jQ G b post) rm.cells rm.slots (pB b) := by
  intro p e ha hc hk s m args below hf happ hP hK
  obtain ⟨n, o, h1, h2, h3, h4⟩ := h l G b hst p e ha hc hk s m args below hf happ hP hK
  rcases h4 with h4 | ⟨q, -, E, ce, L, ⟨w', hw', -⟩, -⟩
  · exact ⟨n, o, h1, h2, h3, h4⟩
  · exact absurd hw' (hx E w')
theorem Ct.imp {y : MethodName} {ws : List Cond} {rm : Room} {As : List Value} {w : pW} {post post' : pO → pW → Prop} (h : Ct y ws rm As w post) (hp : ∀ o w', post o w' → post' o w') : Ct y ws rm As w post' := by
  intro l G b hst p e ha hc hk s m args below hf happ hP hK
  obtain ⟨n, o, h1, h2, h3, h4⟩ := h l G b hst p e ha hc hk s m args below hf happ hP hK
  refine ⟨n, o, h1, h2, h3, ?_⟩
  rcases h4 with ⟨⟨⟨v, w', q1, q2, q3, q4⟩, q5⟩, q6⟩ | ⟨q, q1, E, ce, L, ⟨w', hw', q3⟩, q4⟩
  · exact Or.inl ⟨⟨⟨v, w', q1, hp _ _ q2, q3, q4⟩, q5⟩, q6⟩
  · exact Or.inr ⟨q, q1, E, ce, L, ⟨w', hp _ _ hw', q3⟩, q4⟩
end JE
section JC
variable {P : JP} {pc : Nat} {lv : List (Nat × Value)} {st stk : List Value} {w : pW} {k n : Nat}
variable {na : Nat} {y : MethodName} {ws ws' : List Cond} {rm : Room} {As : List Value} {post : pO → pW → Prop} {bytes : ByteArray} {maxL idx : Nat} {ret : Option FieldType} {C : String} {b0 : Nat}
/-- what a run of a call gives back to the walk -/
theorem j_back {p : Program} {l : Launch} {e : Env} {s : State} {m : MethodId} {args : Array Value} {below : List Frame} {meth : Method} {c : Code} {H : Heap} {locs : List Loc} {G : pG} {b : Nat} {ls : Array Slot} {a : Array Value} {st0 : List Value}
    (F : jF P p l s m args meth c G b) (hS : va_S (pB b) s.heap H locs) (hl : lv_has ls P.1.2.2.1 lv)
    (hr : va_Run p l e P.2.1.1 s m args below meth c H locs k n rm.cells rm.slots (F0 m pc ls stk) st0 (jQ G b post a) (pB b))
    (h : ∀ (v : Option Value) (w' : pW), post (.inl v) w' → J P (pc + 3) lv (v.toList ++ st0) w' (k + rm.cells) (n + rm.slots)) :
    W p l e P.2.1.1 s m args below meth c H locs k n (vx_MQ below (jQ G b P.2.2.1) (jX G b P.2.2.1) args s P.2.1.1.cells P.2.1.1.slots (pB b)) (F0 m pc ls stk) := by
  intro T hT X
  obtain ⟨v, st₀, t, T', L, h0, X', hL, e1, e2, ⟨⟨v', w', hv, hp, hP', hD'⟩, hz, hk⟩, go⟩ := hr T hT X
  cases hv
  rw [h0] at hz hk
  have hS' : va_S (pB b) s.heap T'.heap (locs ++ L) := ⟨Nat.le_trans hS.1 (by rw [e1]; exact hz), fun q h1 h2 => by rw [e1, hk q (Nat.lt_of_lt_of_le h1 hS.1) h2]; exact hS.2.1 q h1 h2, fun q hq => by
      rcases List.mem_append.mp hq with h | h
      · exact hS.2.2 q h
      · exact hL q h⟩
  obtain ⟨t2, a1, b1⟩ := h v w' hp p l e s m args below meth c T'.heap (locs ++ L) G b ls F (by rw [e1]; exact hP') hD' hS' hl T' rfl X'
  exact ⟨t2, go t2 a1, b1⟩
theorem j_fw {p : Program} {l : Launch} {s : State} {m : MethodId} {args : Array Value} {meth : Method} {c : Code} {H : Heap} {locs : List Loc} {G : pG} {b : Nat}
    (F : jF P p l s m args meth c G b) (hP : fP G w H) (hD : fD b w) (hS : va_S (pB b) s.heap H locs) : ∀ U : State, U.heap = H → s.WarmedH U.vm → va_Pc As (fw G b w) As.toArray U := by
  obtain ⟨hx, hb, hml, hown, hts, hr, hlk, hnm, htb, hK, hBg, hst, hbs, hX⟩ := id F
  intro U hU hW
  exact ⟨rfl, by rw [hU]; exact hP, hD, va_K.moved hW.alike hK, hBg.warm hW (fun a h1 h2 => by rw [hU]; exact hS.2.1 a h1 h2), Nat.le_trans hbs (by rw [hU]; exact hS.1)⟩
theorem j_callV {ci N : Nat} {T : u_T} {fs : List Value} (hM : Ct y ws rm (.ref b0 :: As) w post) (hnx : ∀ E w', ¬ post (.inr E) w') (g : GoodIn P.1.2.2.2 (wsV P.1.2.1 idx C y ws)) (hwc : ws = Cond.code y bytes maxL ret :: ws') (hc : vwCl[ci]? = some (C, T, N)) (hw : w b0 = some (.inr (ci, fs)))
    (hd0 : y.cls = C ∧ y.cls ≠ "java/lang/invoke/MethodHandle" ∧ y.cls ≠ "java/lang/invoke/VarHandle" ∧ (parseMethodDescriptor y.desc).map (fun d => d.parameters.length) = some na) (hna : As.length = na) (hR : rm.frames + 1 ≤ P.2.1.1.frames ∧ 8 + (maxL + 11) + rm.locals ≤ P.2.1.1.locals) (hst : stk = As.reverse ++ .ref b0 :: st) (hcat : (st.map fun v => v.category).sum ≤ 8) (hd : decode P.1.1 pc = .ok (.invokevirtual idx, 3)) (hf : k + rm.cells ≤ P.2.1.1.cells ∧ n + rm.slots ≤ P.2.1.1.slots)
    (h : ∀ (v : Option Value) (w' : pW), post (.inl v) w' → J P (pc + 3) lv (v.toList ++ st) w' (k + rm.cells) (n + rm.slots)) : J P pc lv stk w k n := by
  intro p l e s m args below meth c H locs G b ls F hP hD hS hl
  have hfw := j_fw (As := .ref b0 :: As) F hP hD hS
  obtain ⟨hx, hb, hml, hown, hts, hr, hlk, hnm, htb, hK, hBg, hst2, hbs, hX⟩ := id F
  obtain ⟨q0, hq⟩ := fL_at hP hw
  refine j_back F hS hl (va_runV (As := As) (rest := st) ⟨hx, hb, hml, hown, hts⟩ (hM.met hnx G b hst2) (cwV na hts g hwc rfl rfl hd0 hR) ⟨fw_blind, va_recv hK (fL_P hP) hc hq, hfw⟩ rfl hna hl.1 hst (lv_room hcat) hd hf) h
theorem j_callS (hM : Ct y ws rm As w post) (hnx : ∀ E w', ¬ post (.inr E) w') (g : GoodIn P.1.2.2.2 (va_wsS P.1.2.1 idx y ws)) (hwc : ws = Cond.code y bytes maxL ret :: ws')
    (hd0 : y.cls ≠ "java/lang/invoke/MethodHandle" ∧ y.cls ≠ "java/lang/invoke/VarHandle" ∧ (parseMethodDescriptor y.desc).map (fun d => d.parameters.length) = some na) (hna : As.length = na) (hR : rm.frames + 1 ≤ P.2.1.1.frames ∧ 8 + (maxL + 11) + rm.locals ≤ P.2.1.1.locals) (hst : stk = As.reverse ++ st) (hcat : (st.map fun v => v.category).sum ≤ 8) (hd : decode P.1.1 pc = .ok (.invokestatic idx, 3)) (hf : k + rm.cells ≤ P.2.1.1.cells ∧ n + rm.slots ≤ P.2.1.1.slots)
    (h : ∀ (v : Option Value) (w' : pW), post (.inl v) w' → J P (pc + 3) lv (v.toList ++ st) w' (k + rm.cells) (n + rm.slots)) : J P pc lv stk w k n := by
  intro p l e s m args below meth c H locs G b ls F hP hD hS hl
  have hfw := j_fw (As := As) F hP hD hS
  obtain ⟨hx, hb, hml, hown, hts, hr, hlk, hnm, htb, hK, hBg, hst2, hbs, hX⟩ := id F
  refine j_back F hS hl (va_runS (As := As) (rest := st) ⟨hx, hb, hml, hown, hts⟩ (hM.met hnx G b hst2) (va_cwS na hts g hwc rfl rfl hd0 hR) ⟨fw_blind, hfw⟩ rfl hna hl.1 hst (lv_room hcat) hd hf) h
theorem j_callI (hM : Ct y ws rm (.ref b0 :: As) w post) (hnx : ∀ E w', ¬ post (.inr E) w') (g : GoodIn P.1.2.2.2 ws) (hwc : ws = Cond.code y bytes maxL none :: ws') (h1 : Cond.initialized y.cls ∈ P.1.2.2.2) (h2 : Cond.methodLink P.1.2.1 idx y ∈ P.1.2.2.2) (h3 : Cond.instanceMethod y ∈ P.1.2.2.2) (h4 : y.name = "<init>")
    (hd0 : y.cls ≠ "java/lang/invoke/MethodHandle" ∧ y.cls ≠ "java/lang/invoke/VarHandle" ∧ (parseMethodDescriptor y.desc).map (fun d => d.parameters.length) = some na) (hna : As.length = na) (hR : rm.frames + 1 ≤ P.2.1.1.frames ∧ 8 + (maxL + 11) + rm.locals ≤ P.2.1.1.locals) (hst : stk = As.reverse ++ .ref b0 :: st) (hcat : (st.map fun v => v.category).sum ≤ 8) (hd : decode P.1.1 pc = .ok (.invokespecial idx, 3)) (hf : k + rm.cells ≤ P.2.1.1.cells ∧ n + rm.slots ≤ P.2.1.1.slots)
    (h : ∀ (v : Option Value) (w' : pW), post (.inl v) w' → J P (pc + 3) lv (v.toList ++ st) w' (k + rm.cells) (n + rm.slots)) : J P pc lv stk w k n := by
  intro p l e s m args below meth c H locs G b ls F hP hD hS hl
  have hfw := j_fw (As := .ref b0 :: As) F hP hD hS
  obtain ⟨hx, hb, hml, hown, hts, hr, hlk, hnm, htb, hK, hBg, hst2, hbs, hX⟩ := id F
  refine j_back F hS hl (va_runI (As := As) (rest := st) ⟨hx, hb, hml, hown, hts⟩ (hM.met hnx G b hst2) (cwI na hts g hwc rfl rfl (hts _ h1) (hts _ h2) (hts _ h3) h4 hd0 hR) ⟨fw_blind, hfw⟩ rfl hna hl.1 hst (lv_room hcat) hd hf) h
theorem j_callIN (hM : Ct y ws rm (.ref b0 :: As) w post) (hnx : ∀ E w', ¬ post (.inr E) w') (g : GoodIn P.1.2.2.2 ws) (hwc : ws = Cond.code y bytes maxL none :: ws') (h1 : Cond.initialized y.cls ∈ P.1.2.2.2) (h2 : (P.1.2.1, idx, y) ∈ bgNest) (h3 : Cond.instanceMethod y ∈ P.1.2.2.2) (h4 : y.name = "<init>")
    (hd0 : y.cls ≠ "java/lang/invoke/MethodHandle" ∧ y.cls ≠ "java/lang/invoke/VarHandle" ∧ (parseMethodDescriptor y.desc).map (fun d => d.parameters.length) = some na) (hna : As.length = na) (hR : rm.frames + 1 ≤ P.2.1.1.frames ∧ 8 + (maxL + 11) + rm.locals ≤ P.2.1.1.locals) (hst : stk = As.reverse ++ .ref b0 :: st) (hcat : (st.map fun v => v.category).sum ≤ 8) (hd : decode P.1.1 pc = .ok (.invokespecial idx, 3)) (hf : k + rm.cells ≤ P.2.1.1.cells ∧ n + rm.slots ≤ P.2.1.1.slots)
    (h : ∀ (v : Option Value) (w' : pW), post (.inl v) w' → J P (pc + 3) lv (v.toList ++ st) w' (k + rm.cells) (n + rm.slots)) : J P pc lv stk w k n := by
  intro p l e s m args below meth c H locs G b ls F hP hD hS hl
  have hfw := j_fw (As := .ref b0 :: As) F hP hD hS
  obtain ⟨hx, hb, hml, hown, hts, hr, hlk, hnm, htb, hK, hBg, hst2, hbs, hX⟩ := id F
  have hnest := hBg.2.2.2.2.2.2.1 _ h2
  refine j_back F hS hl (va_runIN (As := As) (rest := st) ⟨hx, hb, hml, hown, hts⟩ (hM.met hnx G b hst2) ⟨va_cnB na hts g hwc rfl rfl hnest (hts _ h1) hd0 hR, h4, hts _ h3⟩ ⟨fw_blind, hfw⟩ rfl hna hl.1 hst (lv_room hcat) hd hf) h
theorem j_min {x z : Int32} (h1 : Cond.methodLink P.1.2.1 idx Lib.Math.min.name ∈ P.1.2.2.2) (h2 : Cond.static Lib.Math.min.name ∈ P.1.2.2.2) (h3 : Cond.initialized "java/lang/Math" ∈ P.1.2.2.2) (h4 : Cond.code Lib.Math.min.name Lib.Math.min.code 2 (some .int) ∈ P.1.2.2.2) (hf : 1 ≤ P.2.1.1.frames) (hlo : (st.map fun v => v.category).sum + 13 ≤ P.2.1.1.locals) (hk : k ≤ P.2.1.1.cells ∧ n ≤ P.2.1.1.slots) (hd : decode P.1.1 pc = .ok (.invokestatic idx, 3))
    (h : J P (pc + 3) lv (.int (if z < x then z else x) :: st) w k n) : J P pc lv (.int z :: .int x :: st) w k n := by
  intro p l e s m args below meth c H locs G b ls F hP hD hS hl
  obtain ⟨hx, hb, hml, hown, hts, hr, hlk, hnm, htb, hK, hBg, hst2, hbs, hX⟩ := id F
  exact va_mmin hx hb (hml.trans hl.1.symm) hown (hts _ h1) (hts _ h2) (hts _ h3) (hts _ h4) hf hlo hk.1 hk.2 hd (h p l e s m args below meth c H locs G b ls F hP hD hS hl)
end JC
section JN
theorem j_icmp_eqN {P : JP} {pc : Nat} {lv : List (Nat × Value)} {st : List Value} {w : pW} {k n : Nat} {a b : Nat} {off : Int} (tgt : Nat) (ha : a < 2 ^ 31) (hb : b < 2 ^ 31) (hd : decode P.1.1 pc = .ok (.if_icmp .eq off, 3)) (ht : (pc : Int) + off = (tgt : Int)) (ht1 : a = b → J P tgt lv st w k n) (hf1 : a ≠ b → J P (pc + 3) lv st w k n) : J P pc lv (.int (nI b) :: .int (nI a) :: st) w k n := j_icmp_eq tgt hd ht (fun q => ht1 ((nI_eq ha hb).mp q)) (fun q => hf1 (fun z => q ((nI_eq ha hb).mpr z)))
theorem j_icmp_neN {P : JP} {pc : Nat} {lv : List (Nat × Value)} {st : List Value} {w : pW} {k n : Nat} {a b : Nat} {off : Int} (tgt : Nat) (ha : a < 2 ^ 31) (hb : b < 2 ^ 31) (hd : decode P.1.1 pc = .ok (.if_icmp .ne off, 3)) (ht : (pc : Int) + off = (tgt : Int)) (ht1 : a ≠ b → J P tgt lv st w k n) (hf1 : a = b → J P (pc + 3) lv st w k n) : J P pc lv (.int (nI b) :: .int (nI a) :: st) w k n := j_icmp_ne tgt hd ht (fun q => ht1 (fun z => q ((nI_eq ha hb).mpr z))) (fun q => hf1 ((nI_eq ha hb).mp q))
theorem j_icmp_ltN {P : JP} {pc : Nat} {lv : List (Nat × Value)} {st : List Value} {w : pW} {k n : Nat} {a b : Nat} {off : Int} (tgt : Nat) (ha : a < 2 ^ 31) (hb : b < 2 ^ 31) (hd : decode P.1.1 pc = .ok (.if_icmp .lt off, 3)) (ht : (pc : Int) + off = (tgt : Int)) (ht1 : a < b → J P tgt lv st w k n) (hf1 : b ≤ a → J P (pc + 3) lv st w k n) : J P pc lv (.int (nI b) :: .int (nI a) :: st) w k n := j_icmp_lt tgt hd ht (fun q => ht1 ((nI_ltI ha hb).mp q)) (fun q => hf1 (Nat.not_lt.mp (fun z => q ((nI_ltI ha hb).mpr z))))
theorem j_icmp_geN {P : JP} {pc : Nat} {lv : List (Nat × Value)} {st : List Value} {w : pW} {k n : Nat} {a b : Nat} {off : Int} (tgt : Nat) (ha : a < 2 ^ 31) (hb : b < 2 ^ 31) (hd : decode P.1.1 pc = .ok (.if_icmp .ge off, 3)) (ht : (pc : Int) + off = (tgt : Int)) (ht1 : b ≤ a → J P tgt lv st w k n) (hf1 : a < b → J P (pc + 3) lv st w k n) : J P pc lv (.int (nI b) :: .int (nI a) :: st) w k n := j_icmp_ge tgt hd ht (fun q => ht1 ((nI_leI hb ha).mp q)) (fun q => hf1 (Nat.not_le.mp (fun z => q ((nI_leI hb ha).mpr z))))
theorem j_icmp_gtN {P : JP} {pc : Nat} {lv : List (Nat × Value)} {st : List Value} {w : pW} {k n : Nat} {a b : Nat} {off : Int} (tgt : Nat) (ha : a < 2 ^ 31) (hb : b < 2 ^ 31) (hd : decode P.1.1 pc = .ok (.if_icmp .gt off, 3)) (ht : (pc : Int) + off = (tgt : Int)) (ht1 : b < a → J P tgt lv st w k n) (hf1 : a ≤ b → J P (pc + 3) lv st w k n) : J P pc lv (.int (nI b) :: .int (nI a) :: st) w k n := j_icmp_gt tgt hd ht (fun q => ht1 ((nI_ltI hb ha).mp q)) (fun q => hf1 (Nat.not_lt.mp (fun z => q ((nI_ltI hb ha).mpr z))))
theorem j_icmp_leN {P : JP} {pc : Nat} {lv : List (Nat × Value)} {st : List Value} {w : pW} {k n : Nat} {a b : Nat} {off : Int} (tgt : Nat) (ha : a < 2 ^ 31) (hb : b < 2 ^ 31) (hd : decode P.1.1 pc = .ok (.if_icmp .le off, 3)) (ht : (pc : Int) + off = (tgt : Int)) (ht1 : a ≤ b → J P tgt lv st w k n) (hf1 : b < a → J P (pc + 3) lv st w k n) : J P pc lv (.int (nI b) :: .int (nI a) :: st) w k n := j_icmp_le tgt hd ht (fun q => ht1 ((nI_leI ha hb).mp q)) (fun q => hf1 (Nat.not_le.mp (fun z => q ((nI_leI ha hb).mpr z))))
theorem j_if_eqN {P : JP} {pc : Nat} {lv : List (Nat × Value)} {st : List Value} {w : pW} {k n : Nat} {a : Nat} {off : Int} (tgt : Nat) (ha : a < 2 ^ 31) (hd : decode P.1.1 pc = .ok (.ifCond .eq off, 3)) (ht : (pc : Int) + off = (tgt : Int)) (ht1 : a = 0 → J P tgt lv st w k n) (hf1 : a ≠ 0 → J P (pc + 3) lv st w k n) : J P pc lv (.int (nI a) :: st) w k n := j_if_eq tgt hd ht (fun q => ht1 ((nI_eq (b := 0) ha (by decide)).mp (q.trans nI_0.symm))) (fun q => hf1 (fun z => q (((nI_eq (b := 0) ha (by decide)).mpr z).trans nI_0)))
theorem j_if_neN {P : JP} {pc : Nat} {lv : List (Nat × Value)} {st : List Value} {w : pW} {k n : Nat} {a : Nat} {off : Int} (tgt : Nat) (ha : a < 2 ^ 31) (hd : decode P.1.1 pc = .ok (.ifCond .ne off, 3)) (ht : (pc : Int) + off = (tgt : Int)) (ht1 : a ≠ 0 → J P tgt lv st w k n) (hf1 : a = 0 → J P (pc + 3) lv st w k n) : J P pc lv (.int (nI a) :: st) w k n := j_if_ne tgt hd ht (fun q => ht1 (fun z => q (((nI_eq (b := 0) ha (by decide)).mpr z).trans nI_0))) (fun q => hf1 ((nI_eq (b := 0) ha (by decide)).mp (q.trans nI_0.symm)))
theorem j_if_gtN {P : JP} {pc : Nat} {lv : List (Nat × Value)} {st : List Value} {w : pW} {k n : Nat} {a : Nat} {off : Int} (tgt : Nat) (ha : a < 2 ^ 31) (hd : decode P.1.1 pc = .ok (.ifCond .gt off, 3)) (ht : (pc : Int) + off = (tgt : Int)) (ht1 : 0 < a → J P tgt lv st w k n) (hf1 : a = 0 → J P (pc + 3) lv st w k n) : J P pc lv (.int (nI a) :: st) w k n := j_if_gt tgt hd ht (fun q => ht1 ((nI_ltI (a := 0) (by decide) ha).mp (by rw [nI_0]; exact q))) (fun q => hf1 (Nat.eq_zero_of_not_pos (fun z => q (by have z2 := (nI_ltI (a := 0) (by decide) ha).mpr z; rw [nI_0] at z2; exact z2))))
theorem j_if_leN {P : JP} {pc : Nat} {lv : List (Nat × Value)} {st : List Value} {w : pW} {k n : Nat} {a : Nat} {off : Int} (tgt : Nat) (ha : a < 2 ^ 31) (hd : decode P.1.1 pc = .ok (.ifCond .le off, 3)) (ht : (pc : Int) + off = (tgt : Int)) (ht1 : a = 0 → J P tgt lv st w k n) (hf1 : 0 < a → J P (pc + 3) lv st w k n) : J P pc lv (.int (nI a) :: st) w k n := j_if_le tgt hd ht (fun q => ht1 (Nat.eq_zero_of_le_zero ((nI_leI (b := 0) ha (by decide)).mp (by rw [nI_0]; exact q)))) (fun q => hf1 (Nat.pos_of_ne_zero (fun z => q (by rw [z, nI_0]; exact Int32.le_refl 0))))
theorem j_if_ltN {P : JP} {pc : Nat} {lv : List (Nat × Value)} {st : List Value} {w : pW} {k n : Nat} {a : Nat} {off : Int} {tgt : Nat} (ha : a < 2 ^ 31) (hd : decode P.1.1 pc = .ok (.ifCond .lt off, 3)) (ht : (pc : Int) + off = (tgt : Int)) (h : J P (pc + 3) lv st w k n) : J P pc lv (.int (nI a) :: st) w k n := j_if_lt tgt hd ht (fun q => absurd q (nI_pos ha)) (fun _ => h)
theorem j_if_geN {P : JP} {pc : Nat} {lv : List (Nat × Value)} {st : List Value} {w : pW} {k n : Nat} {a : Nat} {off : Int} (tgt : Nat) (ha : a < 2 ^ 31) (hd : decode P.1.1 pc = .ok (.ifCond .ge off, 3)) (ht : (pc : Int) + off = (tgt : Int)) (h : J P tgt lv st w k n) : J P pc lv (.int (nI a) :: st) w k n := j_if_ge tgt hd ht (fun _ => h) (fun q => absurd (nI_pos' ha) q)
theorem j_iaddN {P : JP} {pc : Nat} {lv : List (Nat × Value)} {st : List Value} {w : pW} {k n : Nat} {a b : Nat} (hd : decode P.1.1 pc = .ok (.iadd, 1)) (h : J P (pc + 1) lv (.int (nI (a + b)) :: st) w k n) : J P pc lv (.int (nI b) :: .int (nI a) :: st) w k n := j_iadd hd (by rw [nI_add]; exact h)
theorem j_imulN {P : JP} {pc : Nat} {lv : List (Nat × Value)} {st : List Value} {w : pW} {k n : Nat} {a b : Nat} (hd : decode P.1.1 pc = .ok (.imul, 1)) (h : J P (pc + 1) lv (.int (nI (a * b)) :: st) w k n) : J P pc lv (.int (nI b) :: .int (nI a) :: st) w k n := j_imul hd (by rw [pk_mul]; exact h)
theorem j_isubN {P : JP} {pc : Nat} {lv : List (Nat × Value)} {st : List Value} {w : pW} {k n : Nat} {a b : Nat} (hba : b ≤ a) (hd : decode P.1.1 pc = .ok (.isub, 1)) (h : J P (pc + 1) lv (.int (nI (a - b)) :: st) w k n) : J P pc lv (.int (nI b) :: .int (nI a) :: st) w k n := j_isub hd (by rw [pk_sub hba]; exact h)
theorem j_ialdN {P : JP} {pc : Nat} {lv : List (Nat × Value)} {st : List Value} {w : pW} {k n : Nat} {a N j : Nat} {f : Nat → Int32} {i : Int32} (hw : w a = some (.inl (0, N, .inl f))) (hi : i = nI j) (hj : j < N) (hN : N ≤ 100000) (hd : decode P.1.1 pc = .ok (.iaload, 1)) (h : J P (pc + 1) lv (.int (f j) :: st) w k n) : J P pc lv (.int i :: .ref a :: st) w k n := by
  have e1 : i.toNatClampNeg = j := by rw [hi]; exact nI_clamp (by omega)
  have hin : vp_in i N := by rw [hi]; exact vp_in_nI hj (by omega)
  exact j_iald hw hin hd (by rw [e1]; exact h)
theorem j_baldN {P : JP} {pc : Nat} {lv : List (Nat × Value)} {st : List Value} {w : pW} {k n : Nat} {a N j : Nat} {f : Nat → Int32} {i : Int32} (hw : w a = some (.inl (1, N, .inl f))) (hi : i = nI j) (hj : j < N) (hN : N ≤ 100000) (hd : decode P.1.1 pc = .ok (.baload, 1)) (h : J P (pc + 1) lv (.int (f j) :: st) w k n) : J P pc lv (.int i :: .ref a :: st) w k n := by
  have e1 : i.toNatClampNeg = j := by rw [hi]; exact nI_clamp (by omega)
  have hin : vp_in i N := by rw [hi]; exact vp_in_nI hj (by omega)
  exact j_bald hw hin hd (by rw [e1]; exact h)
theorem j_zaldN {P : JP} {pc : Nat} {lv : List (Nat × Value)} {st : List Value} {w : pW} {k n : Nat} {a N j : Nat} {f : Nat → Int32} {i : Int32} (hw : w a = some (.inl (2, N, .inl f))) (hi : i = nI j) (hj : j < N) (hN : N ≤ 100000) (hd : decode P.1.1 pc = .ok (.baload, 1)) (h : J P (pc + 1) lv (.int (f j) :: st) w k n) : J P pc lv (.int i :: .ref a :: st) w k n := by
  have e1 : i.toNatClampNeg = j := by rw [hi]; exact nI_clamp (by omega)
  have hin : vp_in i N := by rw [hi]; exact vp_in_nI hj (by omega)
  exact j_zald hw hin hd (by rw [e1]; exact h)
theorem j_laldN {P : JP} {pc : Nat} {lv : List (Nat × Value)} {st : List Value} {w : pW} {k n : Nat} {a N j : Nat} {f : Nat → Int64} {i : Int32} (hw : w a = some (.inl (3, N, .inr (.inl f)))) (hi : i = nI j) (hj : j < N) (hN : N ≤ 100000) (hd : decode P.1.1 pc = .ok (.laload, 1)) (h : J P (pc + 1) lv (.long (f j) :: st) w k n) : J P pc lv (.int i :: .ref a :: st) w k n := by
  have e1 : i.toNatClampNeg = j := by rw [hi]; exact nI_clamp (by omega)
  have hin : vp_in i N := by rw [hi]; exact vp_in_nI hj (by omega)
  exact j_lald hw hin hd (by rw [e1]; exact h)
theorem j_aaldN {P : JP} {pc : Nat} {lv : List (Nat × Value)} {st : List Value} {w : pW} {k n : Nat} {a N j : Nat} {f : Nat → Option Nat} {i : Int32} (hw : w a = some (.inl (4, N, .inr (.inr (.inr (.inr f)))))) (hi : i = nI j) (hj : j < N) (hN : N ≤ 100000) (hd : decode P.1.1 pc = .ok (.aaload, 1)) (h : J P (pc + 1) lv (va_rf (f j) :: st) w k n) : J P pc lv (.int i :: .ref a :: st) w k n := by
  have e1 : i.toNatClampNeg = j := by rw [hi]; exact nI_clamp (by omega)
  have hin : vp_in i N := by rw [hi]; exact vp_in_nI hj (by omega)
  exact j_aald hw hin hd (by rw [e1]; exact h)
theorem j_iastN {P : JP} {pc : Nat} {lv : List (Nat × Value)} {st : List Value} {w : pW} {k n : Nat} {a N j : Nat} {f : Nat → Int32} {i x : Int32} (hw : w a = some (.inl (0, N, .inl f))) (hi : i = nI j) (hj : j < N) (hN : N ≤ 100000) (hd : decode P.1.1 pc = .ok (.iastore, 1)) (h : J P (pc + 1) lv st (va_up w a (some (.inl (0, N, .inl (upd f j x))))) k n) : J P pc lv (.int x :: .int i :: .ref a :: st) w k n := by
  have e1 : i.toNatClampNeg = j := by rw [hi]; exact nI_clamp (by omega)
  have hin : vp_in i N := by rw [hi]; exact vp_in_nI hj (by omega)
  exact j_iast hw hin hd (by rw [e1]; exact h)
theorem j_bastN {P : JP} {pc : Nat} {lv : List (Nat × Value)} {st : List Value} {w : pW} {k n : Nat} {a N j : Nat} {f : Nat → Int32} {i x : Int32} (hw : w a = some (.inl (1, N, .inl f))) (hi : i = nI j) (hj : j < N) (hN : N ≤ 100000) (hd : decode P.1.1 pc = .ok (.bastore, 1)) (h : J P (pc + 1) lv st (va_up w a (some (.inl (1, N, .inl (upd f j (vp_nar .byte x)))))) k n) : J P pc lv (.int x :: .int i :: .ref a :: st) w k n := by
  have e1 : i.toNatClampNeg = j := by rw [hi]; exact nI_clamp (by omega)
  have hin : vp_in i N := by rw [hi]; exact vp_in_nI hj (by omega)
  exact j_bast hw hin hd (by rw [e1]; exact h)
theorem j_zastN {P : JP} {pc : Nat} {lv : List (Nat × Value)} {st : List Value} {w : pW} {k n : Nat} {a N j : Nat} {f : Nat → Int32} {i x : Int32} (hw : w a = some (.inl (2, N, .inl f))) (hi : i = nI j) (hj : j < N) (hN : N ≤ 100000) (hx : x = 0 ∨ x = 1) (hd : decode P.1.1 pc = .ok (.bastore, 1)) (h : J P (pc + 1) lv st (va_up w a (some (.inl (2, N, .inl (upd f j x))))) k n) : J P pc lv (.int x :: .int i :: .ref a :: st) w k n := by
  have e1 : i.toNatClampNeg = j := by rw [hi]; exact nI_clamp (by omega)
  have hin : vp_in i N := by rw [hi]; exact vp_in_nI hj (by omega)
  have e2 : vp_nar .boolean x = x := by rcases hx with rfl | rfl <;> rfl
  exact j_zast hw hin hd (by rw [e1, e2]; exact h)
theorem j_lastN {P : JP} {pc : Nat} {lv : List (Nat × Value)} {st : List Value} {w : pW} {k n : Nat} {a N j : Nat} {f : Nat → Int64} {i : Int32} {x : Int64} (hw : w a = some (.inl (3, N, .inr (.inl f)))) (hi : i = nI j) (hj : j < N) (hN : N ≤ 100000) (hd : decode P.1.1 pc = .ok (.lastore, 1)) (h : J P (pc + 1) lv st (va_up w a (some (.inl (3, N, .inr (.inl (vp_updL f j x)))))) k n) : J P pc lv (.long x :: .int i :: .ref a :: st) w k n := by
  have e1 : i.toNatClampNeg = j := by rw [hi]; exact nI_clamp (by omega)
  have hin : vp_in i N := by rw [hi]; exact vp_in_nI hj (by omega)
  exact j_last hw hin hd (by rw [e1]; exact h)
theorem j_w {P : JP} {pc : Nat} {lv : List (Nat × Value)} {st : List Value} {w : pW} {k n : Nat} (h : ∀ w' : pW, w' = w → J P pc lv st w' k n) : J P pc lv st w k n := h w rfl
theorem j_lvE {P : JP} {pc : Nat} {lv : List (Nat × Value)} {st : List Value} {w : pW} {k n : Nat} {lv' : List (Nat × Value)} (hk : lv = lv') (h : J P pc lv' st w k n) : J P pc lv st w k n := by rw [hk]; exact h
theorem j_stE {P : JP} {pc : Nat} {lv : List (Nat × Value)} {st : List Value} {w : pW} {k n : Nat} {st' : List Value} (hk : st = st') (h : J P pc lv st' w k n) : J P pc lv st w k n := by rw [hk]; exact h
theorem up_at {w w1 : pW} {a : Nat} {e : Option pE} (h : w1 = va_up w a e) : w1 a = e := by rw [h]; exact va_up_self w a e
theorem up_ne {w w1 : pW} {a b : Nat} {e x : Option pE} (h : w1 = va_up w a e) (hn : b ≠ a) (hb : w b = x) : w1 b = x := by rw [h, va_up_ne w e hn]; exact hb
def pK (e : pE) : Nat := match e with
  | .inl a => 100 + a.1
  | .inr o => o.1
theorem fk {w : pW} {a b : Nat} {x y : pE} (ha : w a = some x) (hb : w b = some y) (h : (pK x == pK y) = false) : a ≠ b := by
  intro e
  subst e
  rw [ha] at hb
  cases hb
  simp at h
theorem fn {w : pW} {a b : Nat} {x : pE} (ha : w a = some x) (hb : w b = none) : a ≠ b := by
  intro e
  subst e
  rw [ha] at hb
  cases hb
/-- outside l the worlds are the same -/
def Fr (l : List Nat) (w w1 : pW) : Prop := ∀ x : Nat, x ∉ l → w1 x = w x
theorem Fr.refl {l : List Nat} {w : pW} : Fr l w w := fun _ _ => rfl
theorem Fr.trans {l : List Nat} {w w1 w2 : pW} (h1 : Fr l w w1) (h2 : Fr l w1 w2) : Fr l w w2 := fun x hx => (h2 x hx).trans (h1 x hx)
theorem Fr.up {l : List Nat} {w w1 : pW} {a : Nat} {e : Option pE} (h : w1 = va_up w a e) (ha : a ∈ l) : Fr l w w1 := fun x hx => by rw [h]; exact va_up_ne w e (fun q => hx (by rw [q]; exact ha))
theorem Fr.mono {l l' : List Nat} {w w1 : pW} (h : Fr l w w1) (hl : ∀ x ∈ l, x ∈ l') : Fr l' w w1 := fun x hx => h x (fun q => hx (hl x q))
theorem Fr.at {l : List Nat} {w w1 : pW} (h : Fr l w w1) {a : Nat} {x : Option pE} (ha : a ∉ l) (hx : w a = x) : w1 a = x := (h a ha).trans hx
end JN
/-- |x| -/
def ab (x : Int32) : Int32 := if 0 ≤ x then x else 0 - x
section JM
variable {P : JP} {pc : Nat} {lv : List (Nat × Value)} {st : List Value} {w : pW} {k n idx : Nat}
theorem j_after {st1 st' : List Value} {k' n' : Nat} (hs : st1 = st') (hk : k = k') (hn : n = n') (h : J P pc lv st' w k' n') : J P pc lv st1 w k n := by rw [hs, hk, hn]; exact h
theorem j_abs {x : Int32} (h1 : Cond.methodLink P.1.2.1 idx Lib.Math.abs.name ∈ P.1.2.2.2) (h2 : Cond.static Lib.Math.abs.name ∈ P.1.2.2.2) (h3 : Cond.initialized "java/lang/Math" ∈ P.1.2.2.2) (h4 : Cond.code Lib.Math.abs.name Lib.Math.abs.code 1 (some .int) ∈ P.1.2.2.2) (hf : 1 ≤ P.2.1.1.frames) (hlo : (st.map fun v => v.category).sum + 13 ≤ P.2.1.1.locals) (hk : k ≤ P.2.1.1.cells ∧ n ≤ P.2.1.1.slots) (hd : decode P.1.1 pc = .ok (.invokestatic idx, 3))
    (h : J P (pc + 3) lv (.int (ab x) :: st) w k n) : J P pc lv (.int x :: st) w k n := by
  intro p l e s m args below meth c H locs G b ls F hP hD hS hl
  obtain ⟨hx, hb, hml, hown, hts, hr, hlk, hnm, htb, hK, hBg, hst2, hbs, hX⟩ := id F
  exact va_mabs hx hb (hml.trans hl.1.symm) hown (hts _ h1) (hts _ h2) (hts _ h3) (hts _ h4) hf (by omega) hk.1 hk.2 hd (h p l e s m args below meth c H locs G b ls F hP hD hS hl)
end JM
section PU
/-- a truth value as an int -/
def zb (b : Bool) : Int32 := if b then 1 else 0
theorem zb_01 (b : Bool) : zb b = 0 ∨ zb b = 1 := by cases b <;> simp [zb]
theorem zb_t {b : Bool} (h : b = true) : zb b = 1 := by rw [h]; rfl
theorem zb_f {b : Bool} (h : b = false) : zb b = 0 := by rw [h]; rfl
theorem zb_0 {b : Bool} (h : zb b = 0) : b = false := by cases b with
  | false => rfl
  | true => exact absurd h (by decide)
theorem zb_n {b : Bool} (h : zb b ≠ 0) : b = true := by cases b with
  | true => rfl
  | false => exact absurd rfl h
theorem zb_n' {b : Bool} (h : ¬ zb b = 0) : b = true := zb_n h
theorem zb_nar (b : Bool) : narrow .boolean (.int (zb b)) = .int (zb b) := by cases b <;> rfl
/-- the first place from i on, among k, where q holds -/
def fstN (q : Nat → Bool) : Nat → Nat → Option Nat
  | 0, _ => none
  | k + 1, i => if q i then some i else fstN q k (i + 1)
theorem fstN_hit {q : Nat → Bool} {k i : Nat} (hk : 0 < k) (h : q i = true) : fstN q k i = some i := by
  cases k with
  | zero => omega
  | succ k => simp [fstN, h]
theorem fstN_miss {q : Nat → Bool} {e i : Nat} (hk : i < e) (h : q i = false) : fstN q (e - i) i = fstN q (e - (i + 1)) (i + 1) := by
  obtain ⟨k, hk'⟩ : ∃ k, e - i = k + 1 := ⟨e - i - 1, by omega⟩
  rw [hk', show e - (i + 1) = k by omega]
  simp [fstN, h]
theorem fstN_end {q : Nat → Bool} {e i : Nat} (h : e ≤ i) : fstN q (e - i) i = none := by
  rw [show e - i = 0 by omega]; rfl
theorem fstN_some {q : Nat → Bool} : ∀ {k i j : Nat}, fstN q k i = some j → i ≤ j ∧ j < i + k ∧ q j = true ∧ ∀ x, i ≤ x → x < j → q x = false
  | 0, i, j, h => by simp [fstN] at h
  | k + 1, i, j, h => by
    by_cases hq : q i = true
    · simp [fstN, hq] at h
      subst h
      exact ⟨Nat.le_refl _, by omega, hq, fun x h1 h2 => by omega⟩
    · have hq : q i = false := by simpa using hq
      simp [fstN, hq] at h
      obtain ⟨h1, h2, h3, h4⟩ := fstN_some h
      refine ⟨by omega, by omega, h3, fun x g1 g2 => ?_⟩
      by_cases hx : x = i
      · rw [hx]; exact hq
      · exact h4 x (by omega) g2
theorem fstN_none {q : Nat → Bool} : ∀ {k i : Nat}, fstN q k i = none → ∀ x, i ≤ x → x < i + k → q x = false
  | 0, i, h => fun x h1 h2 => by omega
  | k + 1, i, h => fun x h1 h2 => by
    by_cases hq : q i = true
    · simp [fstN, hq] at h
    · have hq : q i = false := by simpa using hq
      simp [fstN, hq] at h
      by_cases hx : x = i
      · rw [hx]; exact hq
      · exact fstN_none h x (by omega) (by omega)
/-- a place, or -1 -/
def on1 (r : Option Nat) : Int32 := match r with
  | some j => nI j
  | none => -1
theorem sh4 {i : Nat} (h : i < 5) : nI 1 <<< (nI i &&& 31) = nI (2 ^ i) := by
  rcases (show i = 0 ∨ i = 1 ∨ i = 2 ∨ i = 3 ∨ i = 4 by omega) with rfl | rfl | rfl | rfl | rfl <;> decide
theorem nI_1' : nI 1 = 1 := rfl
theorem nI_ne {a b : Nat} (ha : a < 2 ^ 31) (hb : b < 2 ^ 31) (h : a ≠ b) : nI a ≠ nI b := fun q => h ((nI_eq ha hb).mp q)
end PU
section JT
variable {P : JP} {pc : Nat} {lv : List (Nat × Value)} {st : List Value} {w : pW} {k n : Nat}
/-- b ? 1 : 0 -/
theorem j_ztern {b : Bool} {o1 o2 : Int} (t0 t1 : Nat) (h1 : decode P.1.1 pc = .ok (.ifCond .eq o1, 3)) (e1 : (pc : Int) + o1 = (t0 : Int)) (h2 : decode P.1.1 (pc + 3) = .ok (.iconst 1, 1)) (h3 : decode P.1.1 (pc + 3 + 1) = .ok (.goto o2, 3)) (e2 : ((pc + 3 + 1 : Nat) : Int) + o2 = (t1 : Int)) (h4 : decode P.1.1 t0 = .ok (.iconst 0, 1)) (e3 : t0 + 1 = t1) (h : J P t1 lv (.int (zb b) :: st) w k n) : J P pc lv (.int (zb b) :: st) w k n := by
  refine j_if_eq t0 h1 e1 (fun c => ?_) (fun c => ?_)
  · have hb := zb_0 c
    subst hb
    refine j_iconst (v := 0) h4 (by decide) ?_
    rw [e3]; exact h
  · have hb := zb_n' c
    subst hb
    refine j_iconst (v := 1) h2 (by decide) ?_
    exact j_goto t1 h3 e2 h
end JT
section JV
theorem mnN {a b : Nat} (ha : a < 2 ^ 31) (hb : b < 2 ^ 31) : (if nI b < nI a then nI b else nI a) = nI (min a b) := by
  by_cases h : b < a
  · rw [if_pos (nI_lt h ha), Nat.min_eq_right (by omega)]
  · rw [if_neg (nI_nlt (by omega) hb), Nat.min_eq_left (by omega)]
/-- 2 to a place, or 0 -/
def r2 (r : Option Nat) : Nat := match r with
  | some i => 2 ^ i
  | none => 0
end JV
section JW
variable {P : JP} {pc : Nat} {lv : List (Nat × Value)} {st : List Value} {w : pW} {k n : Nat}
theorem up_nI (d : Nat → Nat) (j x : Nat) : upd (fun j9 => nI (d j9)) j (nI x) = fun j9 => nI (va_up d j x j9) := by
  funext q
  by_cases h : q = j
  · subst h; rw [pk_us, va_up_self]
  · rw [pk_un h, va_up_ne _ _ h]
theorem j_iastn {a N j x : Nat} {d : Nat → Nat} {i : Int32} (hw : w a = some (.inl (0, N, .inl (fun j9 => nI (d j9))))) (hi : i = nI j) (hj : j < N) (hN : N ≤ 100000) (hd : decode P.1.1 pc = .ok (.iastore, 1)) (h : J P (pc + 1) lv st (va_up w a (some (.inl (0, N, .inl (fun j9 => nI (va_up d j x j9)))))) k n) : J P pc lv (.int (nI x) :: .int i :: .ref a :: st) w k n := j_iastN hw hi hj hN hd (by rw [up_nI]; exact h)
theorem up_same {w : pW} {a : Nat} {e : pE} (h : w a = some e) : va_up w a (some e) = w := by
  funext x
  by_cases hx : x = a
  · subst hx; rw [va_up_self]; exact h.symm
  · exact va_up_ne _ _ hx
theorem up_sw {w : pW} {a b : Nat} {x y : Option pE} (h : a ≠ b) : va_up (va_up w a x) b y = va_up (va_up w b y) a x := by
  funext q
  by_cases h1 : q = b
  · subst h1; rw [va_up_self, va_up_ne _ _ (Ne.symm h), va_up_self]
  · rw [va_up_ne _ _ h1]
    by_cases h2 : q = a
    · subst h2; rw [va_up_self, va_up_self]
    · rw [va_up_ne _ _ h2, va_up_ne _ _ h2, va_up_ne _ _ h1]
end JW
/-- a walk that owes less than another -/
theorem J.post {A : ByteArray × String × Nat × List Cond} {B : Room × Option FieldType × String × List (Nat × Nat × Nat × Nat)} {Q1 Q2 : pO → pW → Prop} {X : Nat → Array Value → State → Prop} {pc : Nat} {lv : List (Nat × Value)} {st : List Value} {w : pW} {k n : Nat} (hq : ∀ o w', Q1 o w' → Q2 o w') (h : J (A, B, Q1, X) pc lv st w k n) : J (A, B, Q2, X) pc lv st w k n := by
  intro p l e s m args below meth c H locs G b ls F hP hD hS hl T hT XX
  obtain ⟨t, a1, o, b1, b2, b3⟩ := h p l e s m args below meth c H locs G b ls F hP hD hS hl T hT XX
  refine ⟨t, a1, o, b1, b2, ?_⟩
  rcases b3 with ⟨⟨⟨v, w', q1, q2, q3, q4⟩, q5⟩, q6⟩ | ⟨q, q1, E, ce, L, ⟨w', hw', q3⟩, q4⟩
  · exact Or.inl ⟨⟨⟨v, w', q1, hq _ _ q2, q3, q4⟩, q5⟩, q6⟩
  · exact Or.inr ⟨q, q1, E, ce, L, ⟨w', hq _ _ hw', q3⟩, q4⟩
end
section
theorem dX1_init_0 : decode cX1_init 0 = .ok (.aload_n 0, 1) := by decide +kernel
theorem dX1_init_1 : decode cX1_init 1 = .ok (.invokespecial 1, 3) := by decide +kernel
theorem dX1_init_4 : decode cX1_init 4 = .ok (.aload_n 0, 1) := by decide +kernel
theorem dX1_init_5 : decode cX1_init 5 = .ok (.iconst 0, 1) := by decide +kernel
theorem dX1_init_6 : decode cX1_init 6 = .ok (.newarray .int, 2) := by decide +kernel
theorem dX1_init_8 : decode cX1_init 8 = .ok (.putfield 7, 3) := by decide +kernel
theorem dX1_init_11 : decode cX1_init 11 = .ok (.aload_n 0, 1) := by decide +kernel
theorem dX1_init_12 : decode cX1_init 12 = .ok (.aload_n 1, 1) := by decide +kernel
theorem dX1_init_13 : decode cX1_init 13 = .ok (.putfield 13, 3) := by decide +kernel
theorem dX1_init_16 : decode cX1_init 16 = .ok (.return_, 1) := by decide +kernel
theorem dX1_clear_0 : decode cX1_clear 0 = .ok (.iload_n 1, 1) := by decide +kernel
theorem dX1_clear_1 : decode cX1_clear 1 = .ok (.aload_n 0, 1) := by decide +kernel
theorem dX1_clear_2 : decode cX1_clear 2 = .ok (.getfield 7, 3) := by decide +kernel
theorem dX1_clear_5 : decode cX1_clear 5 = .ok (.arraylength, 1) := by decide +kernel
theorem dX1_clear_6 : decode cX1_clear 6 = .ok (.if_icmp .le 10, 3) := by decide +kernel
theorem dX1_clear_9 : decode cX1_clear 9 = .ok (.aload_n 0, 1) := by decide +kernel
theorem dX1_clear_10 : decode cX1_clear 10 = .ok (.iload_n 1, 1) := by decide +kernel
theorem dX1_clear_11 : decode cX1_clear 11 = .ok (.newarray .int, 2) := by decide +kernel
theorem dX1_clear_13 : decode cX1_clear 13 = .ok (.putfield 7, 3) := by decide +kernel
theorem dX1_clear_16 : decode cX1_clear 16 = .ok (.iconst 0, 1) := by decide +kernel
theorem dX1_clear_17 : decode cX1_clear 17 = .ok (.istore_n 2, 1) := by decide +kernel
theorem dX1_clear_18 : decode cX1_clear 18 = .ok (.iload_n 2, 1) := by decide +kernel
theorem dX1_clear_19 : decode cX1_clear 19 = .ok (.iload_n 1, 1) := by decide +kernel
theorem dX1_clear_20 : decode cX1_clear 20 = .ok (.if_icmp .ge 26, 3) := by decide +kernel
theorem dX1_clear_23 : decode cX1_clear 23 = .ok (.iload_n 2, 1) := by decide +kernel
theorem dX1_clear_24 : decode cX1_clear 24 = .ok (.aload_n 0, 1) := by decide +kernel
theorem dX1_clear_25 : decode cX1_clear 25 = .ok (.getfield 7, 3) := by decide +kernel
theorem dX1_clear_28 : decode cX1_clear 28 = .ok (.arraylength, 1) := by decide +kernel
theorem dX1_clear_29 : decode cX1_clear 29 = .ok (.if_icmp .ge 17, 3) := by decide +kernel
theorem dX1_clear_32 : decode cX1_clear 32 = .ok (.aload_n 0, 1) := by decide +kernel
theorem dX1_clear_33 : decode cX1_clear 33 = .ok (.getfield 7, 3) := by decide +kernel
theorem dX1_clear_36 : decode cX1_clear 36 = .ok (.iload_n 2, 1) := by decide +kernel
theorem dX1_clear_37 : decode cX1_clear 37 = .ok (.ldc 17, 2) := by decide +kernel
theorem dX1_clear_39 : decode cX1_clear 39 = .ok (.iastore, 1) := by decide +kernel
theorem dX1_clear_40 : decode cX1_clear 40 = .ok (.iinc 2 1, 3) := by decide +kernel
theorem dX1_clear_43 : decode cX1_clear 43 = .ok (.goto (-25), 3) := by decide +kernel
theorem dX1_clear_46 : decode cX1_clear 46 = .ok (.aload_n 0, 1) := by decide +kernel
theorem dX1_clear_47 : decode cX1_clear 47 = .ok (.iconst 0, 1) := by decide +kernel
theorem dX1_clear_48 : decode cX1_clear 48 = .ok (.putfield 18, 3) := by decide +kernel
theorem dX1_clear_51 : decode cX1_clear 51 = .ok (.aload_n 0, 1) := by decide +kernel
theorem dX1_clear_52 : decode cX1_clear 52 = .ok (.iconst 0, 1) := by decide +kernel
theorem dX1_clear_53 : decode cX1_clear 53 = .ok (.putfield 22, 3) := by decide +kernel
theorem dX1_clear_56 : decode cX1_clear 56 = .ok (.aload_n 0, 1) := by decide +kernel
theorem dX1_clear_57 : decode cX1_clear 57 = .ok (.ldc 17, 2) := by decide +kernel
theorem dX1_clear_59 : decode cX1_clear 59 = .ok (.putfield 25, 3) := by decide +kernel
theorem dX1_clear_62 : decode cX1_clear 62 = .ok (.aload_n 0, 1) := by decide +kernel
theorem dX1_clear_63 : decode cX1_clear 63 = .ok (.iconst 0, 1) := by decide +kernel
theorem dX1_clear_64 : decode cX1_clear 64 = .ok (.putfield 28, 3) := by decide +kernel
theorem dX1_clear_67 : decode cX1_clear 67 = .ok (.aload_n 0, 1) := by decide +kernel
theorem dX1_clear_68 : decode cX1_clear 68 = .ok (.aconst_null, 1) := by decide +kernel
theorem dX1_clear_69 : decode cX1_clear 69 = .ok (.putfield 31, 3) := by decide +kernel
theorem dX1_clear_72 : decode cX1_clear 72 = .ok (.aload_n 0, 1) := by decide +kernel
theorem dX1_clear_73 : decode cX1_clear 73 = .ok (.aconst_null, 1) := by decide +kernel
theorem dX1_clear_74 : decode cX1_clear 74 = .ok (.putfield 34, 3) := by decide +kernel
theorem dX1_clear_77 : decode cX1_clear 77 = .ok (.return_, 1) := by decide +kernel
theorem dX1_costAt_0 : decode cX1_costAt 0 = .ok (.iload_n 1, 1) := by decide +kernel
theorem dX1_costAt_1 : decode cX1_costAt 1 = .ok (.ifCond .lt 21, 3) := by decide +kernel
theorem dX1_costAt_4 : decode cX1_costAt 4 = .ok (.iload_n 1, 1) := by decide +kernel
theorem dX1_costAt_5 : decode cX1_costAt 5 = .ok (.aload_n 0, 1) := by decide +kernel
theorem dX1_costAt_6 : decode cX1_costAt 6 = .ok (.getfield 7, 3) := by decide +kernel
theorem dX1_costAt_9 : decode cX1_costAt 9 = .ok (.arraylength, 1) := by decide +kernel
theorem dX1_costAt_10 : decode cX1_costAt 10 = .ok (.if_icmp .ge 12, 3) := by decide +kernel
theorem dX1_costAt_13 : decode cX1_costAt 13 = .ok (.aload_n 0, 1) := by decide +kernel
theorem dX1_costAt_14 : decode cX1_costAt 14 = .ok (.getfield 7, 3) := by decide +kernel
theorem dX1_costAt_17 : decode cX1_costAt 17 = .ok (.iload_n 1, 1) := by decide +kernel
theorem dX1_costAt_18 : decode cX1_costAt 18 = .ok (.iaload, 1) := by decide +kernel
theorem dX1_costAt_19 : decode cX1_costAt 19 = .ok (.goto 5, 3) := by decide +kernel
theorem dX1_costAt_22 : decode cX1_costAt 22 = .ok (.ldc 17, 2) := by decide +kernel
theorem dX1_costAt_24 : decode cX1_costAt 24 = .ok (.ireturn, 1) := by decide +kernel
theorem dX1_offer_0 : decode cX1_offer 0 = .ok (.iload_n 1, 1) := by decide +kernel
theorem dX1_offer_1 : decode cX1_offer 1 = .ok (.ifCond .lt 29, 3) := by decide +kernel
theorem dX1_offer_4 : decode cX1_offer 4 = .ok (.iload_n 1, 1) := by decide +kernel
theorem dX1_offer_5 : decode cX1_offer 5 = .ok (.aload_n 0, 1) := by decide +kernel
theorem dX1_offer_6 : decode cX1_offer 6 = .ok (.getfield 7, 3) := by decide +kernel
theorem dX1_offer_9 : decode cX1_offer 9 = .ok (.arraylength, 1) := by decide +kernel
theorem dX1_offer_10 : decode cX1_offer 10 = .ok (.if_icmp .ge 20, 3) := by decide +kernel
theorem dX1_offer_13 : decode cX1_offer 13 = .ok (.iload_n 2, 1) := by decide +kernel
theorem dX1_offer_14 : decode cX1_offer 14 = .ok (.aload_n 0, 1) := by decide +kernel
theorem dX1_offer_15 : decode cX1_offer 15 = .ok (.getfield 7, 3) := by decide +kernel
theorem dX1_offer_18 : decode cX1_offer 18 = .ok (.iload_n 1, 1) := by decide +kernel
theorem dX1_offer_19 : decode cX1_offer 19 = .ok (.iaload, 1) := by decide +kernel
theorem dX1_offer_20 : decode cX1_offer 20 = .ok (.if_icmp .ge 10, 3) := by decide +kernel
theorem dX1_offer_23 : decode cX1_offer 23 = .ok (.aload_n 0, 1) := by decide +kernel
theorem dX1_offer_24 : decode cX1_offer 24 = .ok (.getfield 7, 3) := by decide +kernel
theorem dX1_offer_27 : decode cX1_offer 27 = .ok (.iload_n 1, 1) := by decide +kernel
theorem dX1_offer_28 : decode cX1_offer 28 = .ok (.iload_n 2, 1) := by decide +kernel
theorem dX1_offer_29 : decode cX1_offer 29 = .ok (.iastore, 1) := by decide +kernel
theorem dX1_offer_30 : decode cX1_offer 30 = .ok (.return_, 1) := by decide +kernel
end
section
theorem dX3_init_0 : decode cX3_init 0 = .ok (.aload_n 0, 1) := by decide +kernel
theorem dX3_init_1 : decode cX3_init 1 = .ok (.invokespecial 5, 3) := by decide +kernel
theorem dX3_init_4 : decode cX3_init 4 = .ok (.aload_n 0, 1) := by decide +kernel
theorem dX3_init_5 : decode cX3_init 5 = .ok (.sipush 1400, 3) := by decide +kernel
theorem dX3_init_8 : decode cX3_init 8 = .ok (.newarray .int, 2) := by decide +kernel
theorem dX3_init_10 : decode cX3_init 10 = .ok (.putfield 11, 3) := by decide +kernel
theorem dX3_init_13 : decode cX3_init 13 = .ok (.return_, 1) := by decide +kernel
theorem dX3_clear_0 : decode cX3_clear 0 = .ok (.aload_n 0, 1) := by decide +kernel
theorem dX3_clear_1 : decode cX3_clear 1 = .ok (.iconst 0, 1) := by decide +kernel
theorem dX3_clear_2 : decode cX3_clear 2 = .ok (.putfield 15, 3) := by decide +kernel
theorem dX3_clear_5 : decode cX3_clear 5 = .ok (.aload_n 0, 1) := by decide +kernel
theorem dX3_clear_6 : decode cX3_clear 6 = .ok (.iconst 0, 1) := by decide +kernel
theorem dX3_clear_7 : decode cX3_clear 7 = .ok (.putfield 19, 3) := by decide +kernel
theorem dX3_clear_10 : decode cX3_clear 10 = .ok (.aload_n 0, 1) := by decide +kernel
theorem dX3_clear_11 : decode cX3_clear 11 = .ok (.iconst 0, 1) := by decide +kernel
theorem dX3_clear_12 : decode cX3_clear 12 = .ok (.putfield 22, 3) := by decide +kernel
theorem dX3_clear_15 : decode cX3_clear 15 = .ok (.aload_n 0, 1) := by decide +kernel
theorem dX3_clear_16 : decode cX3_clear 16 = .ok (.iconst 0, 1) := by decide +kernel
theorem dX3_clear_17 : decode cX3_clear 17 = .ok (.putfield 25, 3) := by decide +kernel
theorem dX3_clear_20 : decode cX3_clear 20 = .ok (.aload_n 0, 1) := by decide +kernel
theorem dX3_clear_21 : decode cX3_clear 21 = .ok (.iconst 0, 1) := by decide +kernel
theorem dX3_clear_22 : decode cX3_clear 22 = .ok (.putfield 28, 3) := by decide +kernel
theorem dX3_clear_25 : decode cX3_clear 25 = .ok (.aload_n 0, 1) := by decide +kernel
theorem dX3_clear_26 : decode cX3_clear 26 = .ok (.iconst 0, 1) := by decide +kernel
theorem dX3_clear_27 : decode cX3_clear 27 = .ok (.putfield 31, 3) := by decide +kernel
theorem dX3_clear_30 : decode cX3_clear 30 = .ok (.return_, 1) := by decide +kernel
theorem dX3_has_0 : decode cX3_has 0 = .ok (.iload_n 1, 1) := by decide +kernel
theorem dX3_has_1 : decode cX3_has 1 = .ok (.ifCond .lt 15, 3) := by decide +kernel
theorem dX3_has_4 : decode cX3_has 4 = .ok (.iload_n 1, 1) := by decide +kernel
theorem dX3_has_5 : decode cX3_has 5 = .ok (.aload_n 0, 1) := by decide +kernel
theorem dX3_has_6 : decode cX3_has 6 = .ok (.getfield 15, 3) := by decide +kernel
theorem dX3_has_9 : decode cX3_has 9 = .ok (.if_icmp .ge 7, 3) := by decide +kernel
theorem dX3_has_12 : decode cX3_has 12 = .ok (.iconst 1, 1) := by decide +kernel
theorem dX3_has_13 : decode cX3_has 13 = .ok (.goto 4, 3) := by decide +kernel
theorem dX3_has_16 : decode cX3_has 16 = .ok (.iconst 0, 1) := by decide +kernel
theorem dX3_has_17 : decode cX3_has 17 = .ok (.ireturn, 1) := by decide +kernel
theorem dX3_fact_0 : decode cX3_fact 0 = .ok (.iload_n 1, 1) := by decide +kernel
theorem dX3_fact_1 : decode cX3_fact 1 = .ok (.ifCond .lt 19, 3) := by decide +kernel
theorem dX3_fact_4 : decode cX3_fact 4 = .ok (.iload_n 1, 1) := by decide +kernel
theorem dX3_fact_5 : decode cX3_fact 5 = .ok (.bipush 100, 2) := by decide +kernel
theorem dX3_fact_7 : decode cX3_fact 7 = .ok (.if_icmp .ge 13, 3) := by decide +kernel
theorem dX3_fact_10 : decode cX3_fact 10 = .ok (.iload_n 2, 1) := by decide +kernel
theorem dX3_fact_11 : decode cX3_fact 11 = .ok (.ifCond .lt 9, 3) := by decide +kernel
theorem dX3_fact_14 : decode cX3_fact 14 = .ok (.iload_n 2, 1) := by decide +kernel
theorem dX3_fact_15 : decode cX3_fact 15 = .ok (.bipush 14, 2) := by decide +kernel
theorem dX3_fact_17 : decode cX3_fact 17 = .ok (.if_icmp .lt 5, 3) := by decide +kernel
theorem dX3_fact_20 : decode cX3_fact 20 = .ok (.iconst (-1), 1) := by decide +kernel
theorem dX3_fact_21 : decode cX3_fact 21 = .ok (.ireturn, 1) := by decide +kernel
theorem dX3_fact_22 : decode cX3_fact 22 = .ok (.aload_n 0, 1) := by decide +kernel
theorem dX3_fact_23 : decode cX3_fact 23 = .ok (.getfield 11, 3) := by decide +kernel
theorem dX3_fact_26 : decode cX3_fact 26 = .ok (.iload_n 1, 1) := by decide +kernel
theorem dX3_fact_27 : decode cX3_fact 27 = .ok (.bipush 14, 2) := by decide +kernel
theorem dX3_fact_29 : decode cX3_fact 29 = .ok (.imul, 1) := by decide +kernel
theorem dX3_fact_30 : decode cX3_fact 30 = .ok (.iload_n 2, 1) := by decide +kernel
theorem dX3_fact_31 : decode cX3_fact 31 = .ok (.iadd, 1) := by decide +kernel
theorem dX3_fact_32 : decode cX3_fact 32 = .ok (.iaload, 1) := by decide +kernel
theorem dX3_fact_33 : decode cX3_fact 33 = .ok (.ireturn, 1) := by decide +kernel
theorem dX3_write_0 : decode cX3_write 0 = .ok (.iload_n 1, 1) := by decide +kernel
theorem dX3_write_1 : decode cX3_write 1 = .ok (.ifCond .lt 31, 3) := by decide +kernel
theorem dX3_write_4 : decode cX3_write 4 = .ok (.iload_n 1, 1) := by decide +kernel
theorem dX3_write_5 : decode cX3_write 5 = .ok (.bipush 100, 2) := by decide +kernel
theorem dX3_write_7 : decode cX3_write 7 = .ok (.if_icmp .ge 25, 3) := by decide +kernel
theorem dX3_write_10 : decode cX3_write 10 = .ok (.iload_n 2, 1) := by decide +kernel
theorem dX3_write_11 : decode cX3_write 11 = .ok (.ifCond .lt 21, 3) := by decide +kernel
theorem dX3_write_14 : decode cX3_write 14 = .ok (.iload_n 2, 1) := by decide +kernel
theorem dX3_write_15 : decode cX3_write 15 = .ok (.bipush 14, 2) := by decide +kernel
theorem dX3_write_17 : decode cX3_write 17 = .ok (.if_icmp .ge 15, 3) := by decide +kernel
theorem dX3_write_20 : decode cX3_write 20 = .ok (.aload_n 0, 1) := by decide +kernel
theorem dX3_write_21 : decode cX3_write 21 = .ok (.getfield 11, 3) := by decide +kernel
theorem dX3_write_24 : decode cX3_write 24 = .ok (.iload_n 1, 1) := by decide +kernel
theorem dX3_write_25 : decode cX3_write 25 = .ok (.bipush 14, 2) := by decide +kernel
theorem dX3_write_27 : decode cX3_write 27 = .ok (.imul, 1) := by decide +kernel
theorem dX3_write_28 : decode cX3_write 28 = .ok (.iload_n 2, 1) := by decide +kernel
theorem dX3_write_29 : decode cX3_write 29 = .ok (.iadd, 1) := by decide +kernel
theorem dX3_write_30 : decode cX3_write 30 = .ok (.iload_n 3, 1) := by decide +kernel
theorem dX3_write_31 : decode cX3_write 31 = .ok (.iastore, 1) := by decide +kernel
theorem dX3_write_32 : decode cX3_write 32 = .ok (.return_, 1) := by decide +kernel
theorem dX3_isFull_0 : decode cX3_isFull 0 = .ok (.aload_n 0, 1) := by decide +kernel
theorem dX3_isFull_1 : decode cX3_isFull 1 = .ok (.getfield 15, 3) := by decide +kernel
theorem dX3_isFull_4 : decode cX3_isFull 4 = .ok (.bipush 100, 2) := by decide +kernel
theorem dX3_isFull_6 : decode cX3_isFull 6 = .ok (.if_icmp .lt 7, 3) := by decide +kernel
theorem dX3_isFull_9 : decode cX3_isFull 9 = .ok (.iconst 1, 1) := by decide +kernel
theorem dX3_isFull_10 : decode cX3_isFull 10 = .ok (.goto 4, 3) := by decide +kernel
theorem dX3_isFull_13 : decode cX3_isFull 13 = .ok (.iconst 0, 1) := by decide +kernel
theorem dX3_isFull_14 : decode cX3_isFull 14 = .ok (.ireturn, 1) := by decide +kernel
set_option maxRecDepth 20000 in
theorem ggX3_openEvent_X3_write : GoodIn wsX3_openEvent wsX3_write := goodIn_r _ [10, 11, 12, 13, 14, 15, 16, 17, 18] (by decide +kernel) (by decide +kernel)
set_option maxRecDepth 20000 in
theorem gX3_openEvent_X3_write : GoodIn wsX3_openEvent (wsV RX3 34 RX3 yX3_write wsX3_write) := goodIn_app (goodIn_of _ (by decide +kernel)) ggX3_openEvent_X3_write
theorem dX3_openEvent_0 : decode cX3_openEvent 0 = .ok (.aload_n 0, 1) := by decide +kernel
theorem dX3_openEvent_1 : decode cX3_openEvent 1 = .ok (.aload_n 0, 1) := by decide +kernel
theorem dX3_openEvent_2 : decode cX3_openEvent 2 = .ok (.getfield 15, 3) := by decide +kernel
theorem dX3_openEvent_5 : decode cX3_openEvent 5 = .ok (.iconst 0, 1) := by decide +kernel
theorem dX3_openEvent_6 : decode cX3_openEvent 6 = .ok (.iload_n 1, 1) := by decide +kernel
theorem dX3_openEvent_7 : decode cX3_openEvent 7 = .ok (.invokevirtual 34, 3) := by decide +kernel
theorem dX3_openEvent_10 : decode cX3_openEvent 10 = .ok (.aload_n 0, 1) := by decide +kernel
theorem dX3_openEvent_11 : decode cX3_openEvent 11 = .ok (.aload_n 0, 1) := by decide +kernel
theorem dX3_openEvent_12 : decode cX3_openEvent 12 = .ok (.getfield 15, 3) := by decide +kernel
theorem dX3_openEvent_15 : decode cX3_openEvent 15 = .ok (.iconst 1, 1) := by decide +kernel
theorem dX3_openEvent_16 : decode cX3_openEvent 16 = .ok (.iconst 0, 1) := by decide +kernel
theorem dX3_openEvent_17 : decode cX3_openEvent 17 = .ok (.invokevirtual 34, 3) := by decide +kernel
theorem dX3_openEvent_20 : decode cX3_openEvent 20 = .ok (.aload_n 0, 1) := by decide +kernel
theorem dX3_openEvent_21 : decode cX3_openEvent 21 = .ok (.aload_n 0, 1) := by decide +kernel
theorem dX3_openEvent_22 : decode cX3_openEvent 22 = .ok (.getfield 15, 3) := by decide +kernel
theorem dX3_openEvent_25 : decode cX3_openEvent 25 = .ok (.iconst 2, 1) := by decide +kernel
theorem dX3_openEvent_26 : decode cX3_openEvent 26 = .ok (.aload_n 0, 1) := by decide +kernel
theorem dX3_openEvent_27 : decode cX3_openEvent 27 = .ok (.getfield 19, 3) := by decide +kernel
theorem dX3_openEvent_30 : decode cX3_openEvent 30 = .ok (.invokevirtual 34, 3) := by decide +kernel
theorem dX3_openEvent_33 : decode cX3_openEvent 33 = .ok (.aload_n 0, 1) := by decide +kernel
theorem dX3_openEvent_34 : decode cX3_openEvent 34 = .ok (.aload_n 0, 1) := by decide +kernel
theorem dX3_openEvent_35 : decode cX3_openEvent 35 = .ok (.getfield 15, 3) := by decide +kernel
theorem dX3_openEvent_38 : decode cX3_openEvent 38 = .ok (.iconst 4, 1) := by decide +kernel
theorem dX3_openEvent_39 : decode cX3_openEvent 39 = .ok (.aload_n 0, 1) := by decide +kernel
theorem dX3_openEvent_40 : decode cX3_openEvent 40 = .ok (.getfield 28, 3) := by decide +kernel
theorem dX3_openEvent_43 : decode cX3_openEvent 43 = .ok (.invokevirtual 34, 3) := by decide +kernel
theorem dX3_openEvent_46 : decode cX3_openEvent 46 = .ok (.aload_n 0, 1) := by decide +kernel
theorem dX3_openEvent_47 : decode cX3_openEvent 47 = .ok (.aload_n 0, 1) := by decide +kernel
theorem dX3_openEvent_48 : decode cX3_openEvent 48 = .ok (.getfield 15, 3) := by decide +kernel
theorem dX3_openEvent_51 : decode cX3_openEvent 51 = .ok (.iconst 5, 1) := by decide +kernel
theorem dX3_openEvent_52 : decode cX3_openEvent 52 = .ok (.aload_n 0, 1) := by decide +kernel
theorem dX3_openEvent_53 : decode cX3_openEvent 53 = .ok (.getfield 31, 3) := by decide +kernel
theorem dX3_openEvent_56 : decode cX3_openEvent 56 = .ok (.invokevirtual 34, 3) := by decide +kernel
theorem dX3_openEvent_59 : decode cX3_openEvent 59 = .ok (.aload_n 0, 1) := by decide +kernel
theorem dX3_openEvent_60 : decode cX3_openEvent 60 = .ok (.aload_n 0, 1) := by decide +kernel
theorem dX3_openEvent_61 : decode cX3_openEvent 61 = .ok (.getfield 15, 3) := by decide +kernel
theorem dX3_openEvent_64 : decode cX3_openEvent 64 = .ok (.bipush 6, 2) := by decide +kernel
theorem dX3_openEvent_66 : decode cX3_openEvent 66 = .ok (.iload_n 2, 1) := by decide +kernel
theorem dX3_openEvent_67 : decode cX3_openEvent 67 = .ok (.ifCond .eq 7, 3) := by decide +kernel
theorem dX3_openEvent_70 : decode cX3_openEvent 70 = .ok (.iconst 1, 1) := by decide +kernel
theorem dX3_openEvent_71 : decode cX3_openEvent 71 = .ok (.goto 4, 3) := by decide +kernel
theorem dX3_openEvent_74 : decode cX3_openEvent 74 = .ok (.iconst 0, 1) := by decide +kernel
theorem dX3_openEvent_75 : decode cX3_openEvent 75 = .ok (.invokevirtual 34, 3) := by decide +kernel
theorem dX3_openEvent_78 : decode cX3_openEvent 78 = .ok (.aload_n 0, 1) := by decide +kernel
theorem dX3_openEvent_79 : decode cX3_openEvent 79 = .ok (.aload_n 0, 1) := by decide +kernel
theorem dX3_openEvent_80 : decode cX3_openEvent 80 = .ok (.getfield 15, 3) := by decide +kernel
theorem dX3_openEvent_83 : decode cX3_openEvent 83 = .ok (.bipush 7, 2) := by decide +kernel
theorem dX3_openEvent_85 : decode cX3_openEvent 85 = .ok (.iload_n 3, 1) := by decide +kernel
theorem dX3_openEvent_86 : decode cX3_openEvent 86 = .ok (.ifCond .eq 7, 3) := by decide +kernel
theorem dX3_openEvent_89 : decode cX3_openEvent 89 = .ok (.iconst 1, 1) := by decide +kernel
theorem dX3_openEvent_90 : decode cX3_openEvent 90 = .ok (.goto 4, 3) := by decide +kernel
theorem dX3_openEvent_93 : decode cX3_openEvent 93 = .ok (.iconst 0, 1) := by decide +kernel
theorem dX3_openEvent_94 : decode cX3_openEvent 94 = .ok (.invokevirtual 34, 3) := by decide +kernel
theorem dX3_openEvent_97 : decode cX3_openEvent 97 = .ok (.aload_n 0, 1) := by decide +kernel
theorem dX3_openEvent_98 : decode cX3_openEvent 98 = .ok (.aload_n 0, 1) := by decide +kernel
theorem dX3_openEvent_99 : decode cX3_openEvent 99 = .ok (.getfield 15, 3) := by decide +kernel
theorem dX3_openEvent_102 : decode cX3_openEvent 102 = .ok (.bipush 8, 2) := by decide +kernel
theorem dX3_openEvent_104 : decode cX3_openEvent 104 = .ok (.iconst (-1), 1) := by decide +kernel
theorem dX3_openEvent_105 : decode cX3_openEvent 105 = .ok (.invokevirtual 34, 3) := by decide +kernel
theorem dX3_openEvent_108 : decode cX3_openEvent 108 = .ok (.aload_n 0, 1) := by decide +kernel
theorem dX3_openEvent_109 : decode cX3_openEvent 109 = .ok (.aload_n 0, 1) := by decide +kernel
theorem dX3_openEvent_110 : decode cX3_openEvent 110 = .ok (.getfield 15, 3) := by decide +kernel
theorem dX3_openEvent_113 : decode cX3_openEvent 113 = .ok (.bipush 13, 2) := by decide +kernel
theorem dX3_openEvent_115 : decode cX3_openEvent 115 = .ok (.aload_n 0, 1) := by decide +kernel
theorem dX3_openEvent_116 : decode cX3_openEvent 116 = .ok (.getfield 25, 3) := by decide +kernel
theorem dX3_openEvent_119 : decode cX3_openEvent 119 = .ok (.invokevirtual 34, 3) := by decide +kernel
theorem dX3_openEvent_122 : decode cX3_openEvent 122 = .ok (.return_, 1) := by decide +kernel
set_option maxRecDepth 20000 in
theorem ggX3_openPitches_X3_fact : GoodIn wsX3_openPitches wsX3_fact := goodIn_r _ [6, 7, 8, 9, 10, 11, 12, 13, 14] (by decide +kernel) (by decide +kernel)
set_option maxRecDepth 20000 in
theorem gX3_openPitches_X3_fact : GoodIn wsX3_openPitches (wsV RX3 38 RX3 yX3_fact wsX3_fact) := goodIn_app (goodIn_of _ (by decide +kernel)) ggX3_openPitches_X3_fact
theorem dX3_openPitches_0 : decode cX3_openPitches 0 = .ok (.aload_n 0, 1) := by decide +kernel
theorem dX3_openPitches_1 : decode cX3_openPitches 1 = .ok (.aload_n 0, 1) := by decide +kernel
theorem dX3_openPitches_2 : decode cX3_openPitches 2 = .ok (.getfield 15, 3) := by decide +kernel
theorem dX3_openPitches_5 : decode cX3_openPitches 5 = .ok (.iconst 1, 1) := by decide +kernel
theorem dX3_openPitches_6 : decode cX3_openPitches 6 = .ok (.invokevirtual 38, 3) := by decide +kernel
theorem dX3_openPitches_9 : decode cX3_openPitches 9 = .ok (.ireturn, 1) := by decide +kernel
set_option maxRecDepth 20000 in
theorem ggX3_openHasPitch_X3_openPitches : GoodIn wsX3_openHasPitch wsX3_openPitches := goodIn_r _ [6, 1, 7, 8, 9, 5, 10, 11, 12, 13, 14, 15, 16, 17, 18] (by decide +kernel) (by decide +kernel)
set_option maxRecDepth 20000 in
theorem gX3_openHasPitch_X3_openPitches : GoodIn wsX3_openHasPitch (wsV RX3 42 RX3 yX3_openPitches wsX3_openPitches) := goodIn_app (goodIn_of _ (by decide +kernel)) ggX3_openHasPitch_X3_openPitches
set_option maxRecDepth 20000 in
theorem ggX3_openHasPitch_X3_fact : GoodIn wsX3_openHasPitch wsX3_fact := goodIn_r _ [10, 11, 12, 13, 14, 15, 16, 17, 18] (by decide +kernel) (by decide +kernel)
set_option maxRecDepth 20000 in
theorem gX3_openHasPitch_X3_fact : GoodIn wsX3_openHasPitch (wsV RX3 38 RX3 yX3_fact wsX3_fact) := goodIn_app (goodIn_of _ (by decide +kernel)) ggX3_openHasPitch_X3_fact
theorem dX3_openHasPitch_0 : decode cX3_openHasPitch 0 = .ok (.aload_n 0, 1) := by decide +kernel
theorem dX3_openHasPitch_1 : decode cX3_openHasPitch 1 = .ok (.invokevirtual 42, 3) := by decide +kernel
theorem dX3_openHasPitch_4 : decode cX3_openHasPitch 4 = .ok (.istore_n 2, 1) := by decide +kernel
theorem dX3_openHasPitch_5 : decode cX3_openHasPitch 5 = .ok (.iconst 0, 1) := by decide +kernel
theorem dX3_openHasPitch_6 : decode cX3_openHasPitch 6 = .ok (.istore_n 3, 1) := by decide +kernel
theorem dX3_openHasPitch_7 : decode cX3_openHasPitch 7 = .ok (.iload_n 3, 1) := by decide +kernel
theorem dX3_openHasPitch_8 : decode cX3_openHasPitch 8 = .ok (.iload_n 2, 1) := by decide +kernel
theorem dX3_openHasPitch_9 : decode cX3_openHasPitch 9 = .ok (.if_icmp .ge 27, 3) := by decide +kernel
theorem dX3_openHasPitch_12 : decode cX3_openHasPitch 12 = .ok (.aload_n 0, 1) := by decide +kernel
theorem dX3_openHasPitch_13 : decode cX3_openHasPitch 13 = .ok (.aload_n 0, 1) := by decide +kernel
theorem dX3_openHasPitch_14 : decode cX3_openHasPitch 14 = .ok (.getfield 15, 3) := by decide +kernel
theorem dX3_openHasPitch_17 : decode cX3_openHasPitch 17 = .ok (.bipush 9, 2) := by decide +kernel
theorem dX3_openHasPitch_19 : decode cX3_openHasPitch 19 = .ok (.iload_n 3, 1) := by decide +kernel
theorem dX3_openHasPitch_20 : decode cX3_openHasPitch 20 = .ok (.iadd, 1) := by decide +kernel
theorem dX3_openHasPitch_21 : decode cX3_openHasPitch 21 = .ok (.invokevirtual 38, 3) := by decide +kernel
theorem dX3_openHasPitch_24 : decode cX3_openHasPitch 24 = .ok (.iload_n 1, 1) := by decide +kernel
theorem dX3_openHasPitch_25 : decode cX3_openHasPitch 25 = .ok (.if_icmp .ne 5, 3) := by decide +kernel
theorem dX3_openHasPitch_28 : decode cX3_openHasPitch 28 = .ok (.iconst 1, 1) := by decide +kernel
theorem dX3_openHasPitch_29 : decode cX3_openHasPitch 29 = .ok (.ireturn, 1) := by decide +kernel
theorem dX3_openHasPitch_30 : decode cX3_openHasPitch 30 = .ok (.iinc 3 1, 3) := by decide +kernel
theorem dX3_openHasPitch_33 : decode cX3_openHasPitch 33 = .ok (.goto (-26), 3) := by decide +kernel
theorem dX3_openHasPitch_36 : decode cX3_openHasPitch 36 = .ok (.iconst 0, 1) := by decide +kernel
theorem dX3_openHasPitch_37 : decode cX3_openHasPitch 37 = .ok (.ireturn, 1) := by decide +kernel
set_option maxRecDepth 20000 in
theorem ggX3_addPitch_X3_openPitches : GoodIn wsX3_addPitch wsX3_openPitches := goodIn_r _ [6, 1, 7, 8, 9, 5, 10, 11, 16, 17, 18, 19, 20, 21, 22] (by decide +kernel) (by decide +kernel)
set_option maxRecDepth 20000 in
theorem gX3_addPitch_X3_openPitches : GoodIn wsX3_addPitch (wsV RX3 42 RX3 yX3_openPitches wsX3_openPitches) := goodIn_app (goodIn_of _ (by decide +kernel)) ggX3_addPitch_X3_openPitches
set_option maxRecDepth 20000 in
theorem ggX3_addPitch_X3_write : GoodIn wsX3_addPitch wsX3_write := goodIn_r _ [15, 11, 16, 17, 18, 19, 20, 21, 22] (by decide +kernel) (by decide +kernel)
set_option maxRecDepth 20000 in
theorem gX3_addPitch_X3_write : GoodIn wsX3_addPitch (wsV RX3 34 RX3 yX3_write wsX3_write) := goodIn_app (goodIn_of _ (by decide +kernel)) ggX3_addPitch_X3_write
theorem dX3_addPitch_0 : decode cX3_addPitch 0 = .ok (.aload_n 0, 1) := by decide +kernel
theorem dX3_addPitch_1 : decode cX3_addPitch 1 = .ok (.invokevirtual 42, 3) := by decide +kernel
theorem dX3_addPitch_4 : decode cX3_addPitch 4 = .ok (.istore_n 2, 1) := by decide +kernel
theorem dX3_addPitch_5 : decode cX3_addPitch 5 = .ok (.iload_n 2, 1) := by decide +kernel
theorem dX3_addPitch_6 : decode cX3_addPitch 6 = .ok (.ifCond .lt 33, 3) := by decide +kernel
theorem dX3_addPitch_9 : decode cX3_addPitch 9 = .ok (.iload_n 2, 1) := by decide +kernel
theorem dX3_addPitch_10 : decode cX3_addPitch 10 = .ok (.iconst 4, 1) := by decide +kernel
theorem dX3_addPitch_11 : decode cX3_addPitch 11 = .ok (.if_icmp .ge 28, 3) := by decide +kernel
theorem dX3_addPitch_14 : decode cX3_addPitch 14 = .ok (.aload_n 0, 1) := by decide +kernel
theorem dX3_addPitch_15 : decode cX3_addPitch 15 = .ok (.aload_n 0, 1) := by decide +kernel
theorem dX3_addPitch_16 : decode cX3_addPitch 16 = .ok (.getfield 15, 3) := by decide +kernel
theorem dX3_addPitch_19 : decode cX3_addPitch 19 = .ok (.bipush 9, 2) := by decide +kernel
theorem dX3_addPitch_21 : decode cX3_addPitch 21 = .ok (.iload_n 2, 1) := by decide +kernel
theorem dX3_addPitch_22 : decode cX3_addPitch 22 = .ok (.iadd, 1) := by decide +kernel
theorem dX3_addPitch_23 : decode cX3_addPitch 23 = .ok (.iload_n 1, 1) := by decide +kernel
theorem dX3_addPitch_24 : decode cX3_addPitch 24 = .ok (.invokevirtual 34, 3) := by decide +kernel
theorem dX3_addPitch_27 : decode cX3_addPitch 27 = .ok (.aload_n 0, 1) := by decide +kernel
theorem dX3_addPitch_28 : decode cX3_addPitch 28 = .ok (.aload_n 0, 1) := by decide +kernel
theorem dX3_addPitch_29 : decode cX3_addPitch 29 = .ok (.getfield 15, 3) := by decide +kernel
theorem dX3_addPitch_32 : decode cX3_addPitch 32 = .ok (.iconst 1, 1) := by decide +kernel
theorem dX3_addPitch_33 : decode cX3_addPitch 33 = .ok (.iload_n 2, 1) := by decide +kernel
theorem dX3_addPitch_34 : decode cX3_addPitch 34 = .ok (.iconst 1, 1) := by decide +kernel
theorem dX3_addPitch_35 : decode cX3_addPitch 35 = .ok (.iadd, 1) := by decide +kernel
theorem dX3_addPitch_36 : decode cX3_addPitch 36 = .ok (.invokevirtual 34, 3) := by decide +kernel
theorem dX3_addPitch_39 : decode cX3_addPitch 39 = .ok (.return_, 1) := by decide +kernel
set_option maxRecDepth 20000 in
theorem ggX3_closeEvent_X3_isFull : GoodIn wsX3_closeEvent wsX3_isFull := goodIn_r _ [9, 1, 23, 24, 25, 26, 27, 28, 29] (by decide +kernel) (by decide +kernel)
set_option maxRecDepth 20000 in
theorem gX3_closeEvent_X3_isFull : GoodIn wsX3_closeEvent (wsV RX3 46 RX3 yX3_isFull wsX3_isFull) := goodIn_app (goodIn_of _ (by decide +kernel)) ggX3_closeEvent_X3_isFull
set_option maxRecDepth 20000 in
theorem ggX3_closeEvent_X3_write : GoodIn wsX3_closeEvent wsX3_write := goodIn_r _ [13, 14, 23, 24, 25, 26, 27, 28, 29] (by decide +kernel) (by decide +kernel)
set_option maxRecDepth 20000 in
theorem gX3_closeEvent_X3_write : GoodIn wsX3_closeEvent (wsV RX3 34 RX3 yX3_write wsX3_write) := goodIn_app (goodIn_of _ (by decide +kernel)) ggX3_closeEvent_X3_write
set_option maxRecDepth 20000 in
theorem ggX3_closeEvent_X3_fact : GoodIn wsX3_closeEvent wsX3_fact := goodIn_r _ [18, 14, 23, 24, 25, 26, 27, 28, 29] (by decide +kernel) (by decide +kernel)
set_option maxRecDepth 20000 in
theorem gX3_closeEvent_X3_fact : GoodIn wsX3_closeEvent (wsV RX3 38 RX3 yX3_fact wsX3_fact) := goodIn_app (goodIn_of _ (by decide +kernel)) ggX3_closeEvent_X3_fact
set_option maxRecDepth 20000 in
theorem ggX3_closeEvent_X3_allBits : GoodIn wsX3_closeEvent wsX3_allBits := goodIn_r _ [22, 15, 16, 17, 8, 18, 14, 23, 24, 25, 26, 27, 28, 29] (by decide +kernel) (by decide +kernel)
set_option maxRecDepth 20000 in
theorem gX3_closeEvent_X3_allBits : GoodIn wsX3_closeEvent (wsV RX3 50 RX3 yX3_allBits wsX3_allBits) := goodIn_app (goodIn_of _ (by decide +kernel)) ggX3_closeEvent_X3_allBits
theorem dX3_closeEvent_0 : decode cX3_closeEvent 0 = .ok (.aload_n 0, 1) := by decide +kernel
theorem dX3_closeEvent_1 : decode cX3_closeEvent 1 = .ok (.invokevirtual 46, 3) := by decide +kernel
theorem dX3_closeEvent_4 : decode cX3_closeEvent 4 = .ok (.ifCond .eq 4, 3) := by decide +kernel
theorem dX3_closeEvent_7 : decode cX3_closeEvent 7 = .ok (.return_, 1) := by decide +kernel
theorem dX3_closeEvent_8 : decode cX3_closeEvent 8 = .ok (.aload_n 0, 1) := by decide +kernel
theorem dX3_closeEvent_9 : decode cX3_closeEvent 9 = .ok (.aload_n 0, 1) := by decide +kernel
theorem dX3_closeEvent_10 : decode cX3_closeEvent 10 = .ok (.getfield 15, 3) := by decide +kernel
theorem dX3_closeEvent_13 : decode cX3_closeEvent 13 = .ok (.iconst 3, 1) := by decide +kernel
theorem dX3_closeEvent_14 : decode cX3_closeEvent 14 = .ok (.iload_n 1, 1) := by decide +kernel
theorem dX3_closeEvent_15 : decode cX3_closeEvent 15 = .ok (.invokevirtual 34, 3) := by decide +kernel
theorem dX3_closeEvent_18 : decode cX3_closeEvent 18 = .ok (.aload_n 0, 1) := by decide +kernel
theorem dX3_closeEvent_19 : decode cX3_closeEvent 19 = .ok (.dup, 1) := by decide +kernel
theorem dX3_closeEvent_20 : decode cX3_closeEvent 20 = .ok (.getfield 19, 3) := by decide +kernel
theorem dX3_closeEvent_23 : decode cX3_closeEvent 23 = .ok (.iload_n 1, 1) := by decide +kernel
theorem dX3_closeEvent_24 : decode cX3_closeEvent 24 = .ok (.iadd, 1) := by decide +kernel
theorem dX3_closeEvent_25 : decode cX3_closeEvent 25 = .ok (.putfield 19, 3) := by decide +kernel
theorem dX3_closeEvent_28 : decode cX3_closeEvent 28 = .ok (.aload_n 0, 1) := by decide +kernel
theorem dX3_closeEvent_29 : decode cX3_closeEvent 29 = .ok (.dup, 1) := by decide +kernel
theorem dX3_closeEvent_30 : decode cX3_closeEvent 30 = .ok (.getfield 22, 3) := by decide +kernel
theorem dX3_closeEvent_33 : decode cX3_closeEvent 33 = .ok (.aload_n 0, 1) := by decide +kernel
theorem dX3_closeEvent_34 : decode cX3_closeEvent 34 = .ok (.aload_n 0, 1) := by decide +kernel
theorem dX3_closeEvent_35 : decode cX3_closeEvent 35 = .ok (.getfield 15, 3) := by decide +kernel
theorem dX3_closeEvent_38 : decode cX3_closeEvent 38 = .ok (.bipush 7, 2) := by decide +kernel
theorem dX3_closeEvent_40 : decode cX3_closeEvent 40 = .ok (.invokevirtual 38, 3) := by decide +kernel
theorem dX3_closeEvent_43 : decode cX3_closeEvent 43 = .ok (.iadd, 1) := by decide +kernel
theorem dX3_closeEvent_44 : decode cX3_closeEvent 44 = .ok (.putfield 22, 3) := by decide +kernel
theorem dX3_closeEvent_47 : decode cX3_closeEvent 47 = .ok (.aload_n 0, 1) := by decide +kernel
theorem dX3_closeEvent_48 : decode cX3_closeEvent 48 = .ok (.dup, 1) := by decide +kernel
theorem dX3_closeEvent_49 : decode cX3_closeEvent 49 = .ok (.getfield 25, 3) := by decide +kernel
theorem dX3_closeEvent_52 : decode cX3_closeEvent 52 = .ok (.aload_n 0, 1) := by decide +kernel
theorem dX3_closeEvent_53 : decode cX3_closeEvent 53 = .ok (.aload_n 0, 1) := by decide +kernel
theorem dX3_closeEvent_54 : decode cX3_closeEvent 54 = .ok (.getfield 15, 3) := by decide +kernel
theorem dX3_closeEvent_57 : decode cX3_closeEvent 57 = .ok (.invokevirtual 50, 3) := by decide +kernel
theorem dX3_closeEvent_60 : decode cX3_closeEvent 60 = .ok (.iconst 1, 1) := by decide +kernel
theorem dX3_closeEvent_61 : decode cX3_closeEvent 61 = .ok (.iadd, 1) := by decide +kernel
theorem dX3_closeEvent_62 : decode cX3_closeEvent 62 = .ok (.iadd, 1) := by decide +kernel
theorem dX3_closeEvent_63 : decode cX3_closeEvent 63 = .ok (.putfield 25, 3) := by decide +kernel
theorem dX3_closeEvent_66 : decode cX3_closeEvent 66 = .ok (.aload_n 0, 1) := by decide +kernel
theorem dX3_closeEvent_67 : decode cX3_closeEvent 67 = .ok (.dup, 1) := by decide +kernel
theorem dX3_closeEvent_68 : decode cX3_closeEvent 68 = .ok (.getfield 15, 3) := by decide +kernel
theorem dX3_closeEvent_71 : decode cX3_closeEvent 71 = .ok (.iconst 1, 1) := by decide +kernel
theorem dX3_closeEvent_72 : decode cX3_closeEvent 72 = .ok (.iadd, 1) := by decide +kernel
theorem dX3_closeEvent_73 : decode cX3_closeEvent 73 = .ok (.putfield 15, 3) := by decide +kernel
theorem dX3_closeEvent_76 : decode cX3_closeEvent 76 = .ok (.return_, 1) := by decide +kernel
set_option maxRecDepth 20000 in
theorem ggX3_repeatFrom_X3_write : GoodIn wsX3_repeatFrom wsX3_write := goodIn_r _ [6, 7, 8, 9, 10, 11, 12, 13, 14] (by decide +kernel) (by decide +kernel)
set_option maxRecDepth 20000 in
theorem gX3_repeatFrom_X3_write : GoodIn wsX3_repeatFrom (wsV RX3 34 RX3 yX3_write wsX3_write) := goodIn_app (goodIn_of _ (by decide +kernel)) ggX3_repeatFrom_X3_write
theorem dX3_repeatFrom_0 : decode cX3_repeatFrom 0 = .ok (.aload_n 0, 1) := by decide +kernel
theorem dX3_repeatFrom_1 : decode cX3_repeatFrom 1 = .ok (.aload_n 0, 1) := by decide +kernel
theorem dX3_repeatFrom_2 : decode cX3_repeatFrom 2 = .ok (.getfield 15, 3) := by decide +kernel
theorem dX3_repeatFrom_5 : decode cX3_repeatFrom 5 = .ok (.iconst 1, 1) := by decide +kernel
theorem dX3_repeatFrom_6 : decode cX3_repeatFrom 6 = .ok (.isub, 1) := by decide +kernel
theorem dX3_repeatFrom_7 : decode cX3_repeatFrom 7 = .ok (.bipush 8, 2) := by decide +kernel
theorem dX3_repeatFrom_9 : decode cX3_repeatFrom 9 = .ok (.iload_n 1, 1) := by decide +kernel
theorem dX3_repeatFrom_10 : decode cX3_repeatFrom 10 = .ok (.invokevirtual 34, 3) := by decide +kernel
theorem dX3_repeatFrom_13 : decode cX3_repeatFrom 13 = .ok (.return_, 1) := by decide +kernel
theorem dX3_endMeasure_0 : decode cX3_endMeasure 0 = .ok (.aload_n 0, 1) := by decide +kernel
theorem dX3_endMeasure_1 : decode cX3_endMeasure 1 = .ok (.dup, 1) := by decide +kernel
theorem dX3_endMeasure_2 : decode cX3_endMeasure 2 = .ok (.getfield 28, 3) := by decide +kernel
theorem dX3_endMeasure_5 : decode cX3_endMeasure 5 = .ok (.iconst 1, 1) := by decide +kernel
theorem dX3_endMeasure_6 : decode cX3_endMeasure 6 = .ok (.iadd, 1) := by decide +kernel
theorem dX3_endMeasure_7 : decode cX3_endMeasure 7 = .ok (.putfield 28, 3) := by decide +kernel
theorem dX3_endMeasure_10 : decode cX3_endMeasure 10 = .ok (.return_, 1) := by decide +kernel
theorem dX3_endPage_0 : decode cX3_endPage 0 = .ok (.aload_n 0, 1) := by decide +kernel
theorem dX3_endPage_1 : decode cX3_endPage 1 = .ok (.dup, 1) := by decide +kernel
theorem dX3_endPage_2 : decode cX3_endPage 2 = .ok (.getfield 31, 3) := by decide +kernel
theorem dX3_endPage_5 : decode cX3_endPage 5 = .ok (.iconst 1, 1) := by decide +kernel
theorem dX3_endPage_6 : decode cX3_endPage 6 = .ok (.iadd, 1) := by decide +kernel
theorem dX3_endPage_7 : decode cX3_endPage 7 = .ok (.putfield 31, 3) := by decide +kernel
theorem dX3_endPage_10 : decode cX3_endPage 10 = .ok (.return_, 1) := by decide +kernel
set_option maxRecDepth 20000 in
theorem ggX3_measuresWithEvents_X3_fact : GoodIn wsX3_measuresWithEvents wsX3_fact := goodIn_r _ [6, 7, 8, 9, 10, 11, 12, 13, 14] (by decide +kernel) (by decide +kernel)
set_option maxRecDepth 20000 in
theorem gX3_measuresWithEvents_X3_fact : GoodIn wsX3_measuresWithEvents (wsV RX3 38 RX3 yX3_fact wsX3_fact) := goodIn_app (goodIn_of _ (by decide +kernel)) ggX3_measuresWithEvents_X3_fact
theorem dX3_measuresWithEvents_0 : decode cX3_measuresWithEvents 0 = .ok (.aload_n 0, 1) := by decide +kernel
theorem dX3_measuresWithEvents_1 : decode cX3_measuresWithEvents 1 = .ok (.getfield 15, 3) := by decide +kernel
theorem dX3_measuresWithEvents_4 : decode cX3_measuresWithEvents 4 = .ok (.ifCond .ne 7, 3) := by decide +kernel
theorem dX3_measuresWithEvents_7 : decode cX3_measuresWithEvents 7 = .ok (.iconst 0, 1) := by decide +kernel
theorem dX3_measuresWithEvents_8 : decode cX3_measuresWithEvents 8 = .ok (.goto 16, 3) := by decide +kernel
theorem dX3_measuresWithEvents_11 : decode cX3_measuresWithEvents 11 = .ok (.aload_n 0, 1) := by decide +kernel
theorem dX3_measuresWithEvents_12 : decode cX3_measuresWithEvents 12 = .ok (.aload_n 0, 1) := by decide +kernel
theorem dX3_measuresWithEvents_13 : decode cX3_measuresWithEvents 13 = .ok (.getfield 15, 3) := by decide +kernel
theorem dX3_measuresWithEvents_16 : decode cX3_measuresWithEvents 16 = .ok (.iconst 1, 1) := by decide +kernel
theorem dX3_measuresWithEvents_17 : decode cX3_measuresWithEvents 17 = .ok (.isub, 1) := by decide +kernel
theorem dX3_measuresWithEvents_18 : decode cX3_measuresWithEvents 18 = .ok (.iconst 4, 1) := by decide +kernel
theorem dX3_measuresWithEvents_19 : decode cX3_measuresWithEvents 19 = .ok (.invokevirtual 38, 3) := by decide +kernel
theorem dX3_measuresWithEvents_22 : decode cX3_measuresWithEvents 22 = .ok (.iconst 1, 1) := by decide +kernel
theorem dX3_measuresWithEvents_23 : decode cX3_measuresWithEvents 23 = .ok (.iadd, 1) := by decide +kernel
theorem dX3_measuresWithEvents_24 : decode cX3_measuresWithEvents 24 = .ok (.ireturn, 1) := by decide +kernel
set_option maxRecDepth 20000 in
theorem ggX3_pagesWithEvents_X3_fact : GoodIn wsX3_pagesWithEvents wsX3_fact := goodIn_r _ [6, 7, 8, 9, 10, 11, 12, 13, 14] (by decide +kernel) (by decide +kernel)
set_option maxRecDepth 20000 in
theorem gX3_pagesWithEvents_X3_fact : GoodIn wsX3_pagesWithEvents (wsV RX3 38 RX3 yX3_fact wsX3_fact) := goodIn_app (goodIn_of _ (by decide +kernel)) ggX3_pagesWithEvents_X3_fact
theorem dX3_pagesWithEvents_0 : decode cX3_pagesWithEvents 0 = .ok (.aload_n 0, 1) := by decide +kernel
theorem dX3_pagesWithEvents_1 : decode cX3_pagesWithEvents 1 = .ok (.getfield 15, 3) := by decide +kernel
theorem dX3_pagesWithEvents_4 : decode cX3_pagesWithEvents 4 = .ok (.ifCond .ne 7, 3) := by decide +kernel
theorem dX3_pagesWithEvents_7 : decode cX3_pagesWithEvents 7 = .ok (.iconst 0, 1) := by decide +kernel
theorem dX3_pagesWithEvents_8 : decode cX3_pagesWithEvents 8 = .ok (.goto 16, 3) := by decide +kernel
theorem dX3_pagesWithEvents_11 : decode cX3_pagesWithEvents 11 = .ok (.aload_n 0, 1) := by decide +kernel
theorem dX3_pagesWithEvents_12 : decode cX3_pagesWithEvents 12 = .ok (.aload_n 0, 1) := by decide +kernel
theorem dX3_pagesWithEvents_13 : decode cX3_pagesWithEvents 13 = .ok (.getfield 15, 3) := by decide +kernel
theorem dX3_pagesWithEvents_16 : decode cX3_pagesWithEvents 16 = .ok (.iconst 1, 1) := by decide +kernel
theorem dX3_pagesWithEvents_17 : decode cX3_pagesWithEvents 17 = .ok (.isub, 1) := by decide +kernel
theorem dX3_pagesWithEvents_18 : decode cX3_pagesWithEvents 18 = .ok (.iconst 5, 1) := by decide +kernel
theorem dX3_pagesWithEvents_19 : decode cX3_pagesWithEvents 19 = .ok (.invokevirtual 38, 3) := by decide +kernel
theorem dX3_pagesWithEvents_22 : decode cX3_pagesWithEvents 22 = .ok (.iconst 1, 1) := by decide +kernel
theorem dX3_pagesWithEvents_23 : decode cX3_pagesWithEvents 23 = .ok (.iadd, 1) := by decide +kernel
theorem dX3_pagesWithEvents_24 : decode cX3_pagesWithEvents 24 = .ok (.ireturn, 1) := by decide +kernel
set_option maxRecDepth 20000 in
theorem ggX3_allBits_X3_fact : GoodIn wsX3_allBits wsX3_fact := goodIn_r _ [5, 6, 7, 8, 9, 10, 11, 12, 13] (by decide +kernel) (by decide +kernel)
set_option maxRecDepth 20000 in
theorem gX3_allBits_X3_fact : GoodIn wsX3_allBits (wsV RX3 38 RX3 yX3_fact wsX3_fact) := goodIn_app (goodIn_of _ (by decide +kernel)) ggX3_allBits_X3_fact
theorem dX3_allBits_0 : decode cX3_allBits 0 = .ok (.aload_n 0, 1) := by decide +kernel
theorem dX3_allBits_1 : decode cX3_allBits 1 = .ok (.iload_n 1, 1) := by decide +kernel
theorem dX3_allBits_2 : decode cX3_allBits 2 = .ok (.iconst 1, 1) := by decide +kernel
theorem dX3_allBits_3 : decode cX3_allBits 3 = .ok (.invokevirtual 38, 3) := by decide +kernel
theorem dX3_allBits_6 : decode cX3_allBits 6 = .ok (.istore_n 2, 1) := by decide +kernel
theorem dX3_allBits_7 : decode cX3_allBits 7 = .ok (.iload_n 2, 1) := by decide +kernel
theorem dX3_allBits_8 : decode cX3_allBits 8 = .ok (.ifCond .gt 7, 3) := by decide +kernel
theorem dX3_allBits_11 : decode cX3_allBits 11 = .ok (.iconst 0, 1) := by decide +kernel
theorem dX3_allBits_12 : decode cX3_allBits 12 = .ok (.goto 8, 3) := by decide +kernel
theorem dX3_allBits_15 : decode cX3_allBits 15 = .ok (.iconst 1, 1) := by decide +kernel
theorem dX3_allBits_16 : decode cX3_allBits 16 = .ok (.iload_n 2, 1) := by decide +kernel
theorem dX3_allBits_17 : decode cX3_allBits 17 = .ok (.ishl, 1) := by decide +kernel
theorem dX3_allBits_18 : decode cX3_allBits 18 = .ok (.iconst 1, 1) := by decide +kernel
theorem dX3_allBits_19 : decode cX3_allBits 19 = .ok (.isub, 1) := by decide +kernel
theorem dX3_allBits_20 : decode cX3_allBits 20 = .ok (.ireturn, 1) := by decide +kernel
set_option maxRecDepth 20000 in
theorem ggX3_firstOfNextPage_X3_fact : GoodIn wsX3_firstOfNextPage wsX3_fact := goodIn_r _ [6, 7, 8, 9, 10, 11, 12, 13, 14] (by decide +kernel) (by decide +kernel)
set_option maxRecDepth 20000 in
theorem gX3_firstOfNextPage_X3_fact : GoodIn wsX3_firstOfNextPage (wsV RX3 38 RX3 yX3_fact wsX3_fact) := goodIn_app (goodIn_of _ (by decide +kernel)) ggX3_firstOfNextPage_X3_fact
theorem dX3_firstOfNextPage_0 : decode cX3_firstOfNextPage 0 = .ok (.aload_n 0, 1) := by decide +kernel
theorem dX3_firstOfNextPage_1 : decode cX3_firstOfNextPage 1 = .ok (.iload_n 1, 1) := by decide +kernel
theorem dX3_firstOfNextPage_2 : decode cX3_firstOfNextPage 2 = .ok (.iconst 5, 1) := by decide +kernel
theorem dX3_firstOfNextPage_3 : decode cX3_firstOfNextPage 3 = .ok (.invokevirtual 38, 3) := by decide +kernel
theorem dX3_firstOfNextPage_6 : decode cX3_firstOfNextPage 6 = .ok (.istore_n 2, 1) := by decide +kernel
theorem dX3_firstOfNextPage_7 : decode cX3_firstOfNextPage 7 = .ok (.iload_n 1, 1) := by decide +kernel
theorem dX3_firstOfNextPage_8 : decode cX3_firstOfNextPage 8 = .ok (.iconst 1, 1) := by decide +kernel
theorem dX3_firstOfNextPage_9 : decode cX3_firstOfNextPage 9 = .ok (.iadd, 1) := by decide +kernel
theorem dX3_firstOfNextPage_10 : decode cX3_firstOfNextPage 10 = .ok (.istore_n 3, 1) := by decide +kernel
theorem dX3_firstOfNextPage_11 : decode cX3_firstOfNextPage 11 = .ok (.iload_n 3, 1) := by decide +kernel
theorem dX3_firstOfNextPage_12 : decode cX3_firstOfNextPage 12 = .ok (.aload_n 0, 1) := by decide +kernel
theorem dX3_firstOfNextPage_13 : decode cX3_firstOfNextPage 13 = .ok (.getfield 15, 3) := by decide +kernel
theorem dX3_firstOfNextPage_16 : decode cX3_firstOfNextPage 16 = .ok (.if_icmp .ge 21, 3) := by decide +kernel
theorem dX3_firstOfNextPage_19 : decode cX3_firstOfNextPage 19 = .ok (.aload_n 0, 1) := by decide +kernel
theorem dX3_firstOfNextPage_20 : decode cX3_firstOfNextPage 20 = .ok (.iload_n 3, 1) := by decide +kernel
theorem dX3_firstOfNextPage_21 : decode cX3_firstOfNextPage 21 = .ok (.iconst 5, 1) := by decide +kernel
theorem dX3_firstOfNextPage_22 : decode cX3_firstOfNextPage 22 = .ok (.invokevirtual 38, 3) := by decide +kernel
theorem dX3_firstOfNextPage_25 : decode cX3_firstOfNextPage 25 = .ok (.iload_n 2, 1) := by decide +kernel
theorem dX3_firstOfNextPage_26 : decode cX3_firstOfNextPage 26 = .ok (.if_icmp .eq 5, 3) := by decide +kernel
theorem dX3_firstOfNextPage_29 : decode cX3_firstOfNextPage 29 = .ok (.iload_n 3, 1) := by decide +kernel
theorem dX3_firstOfNextPage_30 : decode cX3_firstOfNextPage 30 = .ok (.ireturn, 1) := by decide +kernel
theorem dX3_firstOfNextPage_31 : decode cX3_firstOfNextPage 31 = .ok (.iinc 3 1, 3) := by decide +kernel
theorem dX3_firstOfNextPage_34 : decode cX3_firstOfNextPage 34 = .ok (.goto (-23), 3) := by decide +kernel
theorem dX3_firstOfNextPage_37 : decode cX3_firstOfNextPage 37 = .ok (.iconst (-1), 1) := by decide +kernel
theorem dX3_firstOfNextPage_38 : decode cX3_firstOfNextPage 38 = .ok (.ireturn, 1) := by decide +kernel
set_option maxRecDepth 20000 in
theorem ggX3_cueFrom_X3_fact : GoodIn wsX3_cueFrom wsX3_fact := goodIn_r _ [6, 7, 8, 9, 10, 11, 12, 13, 14] (by decide +kernel) (by decide +kernel)
set_option maxRecDepth 20000 in
theorem gX3_cueFrom_X3_fact : GoodIn wsX3_cueFrom (wsV RX3 38 RX3 yX3_fact wsX3_fact) := goodIn_app (goodIn_of _ (by decide +kernel)) ggX3_cueFrom_X3_fact
theorem dX3_cueFrom_0 : decode cX3_cueFrom 0 = .ok (.iload_n 1, 1) := by decide +kernel
theorem dX3_cueFrom_1 : decode cX3_cueFrom 1 = .ok (.istore_n 2, 1) := by decide +kernel
theorem dX3_cueFrom_2 : decode cX3_cueFrom 2 = .ok (.iload_n 2, 1) := by decide +kernel
theorem dX3_cueFrom_3 : decode cX3_cueFrom 3 = .ok (.aload_n 0, 1) := by decide +kernel
theorem dX3_cueFrom_4 : decode cX3_cueFrom 4 = .ok (.getfield 15, 3) := by decide +kernel
theorem dX3_cueFrom_7 : decode cX3_cueFrom 7 = .ok (.if_icmp .ge 22, 3) := by decide +kernel
theorem dX3_cueFrom_10 : decode cX3_cueFrom 10 = .ok (.aload_n 0, 1) := by decide +kernel
theorem dX3_cueFrom_11 : decode cX3_cueFrom 11 = .ok (.iload_n 2, 1) := by decide +kernel
theorem dX3_cueFrom_12 : decode cX3_cueFrom 12 = .ok (.bipush 7, 2) := by decide +kernel
theorem dX3_cueFrom_14 : decode cX3_cueFrom 14 = .ok (.invokevirtual 38, 3) := by decide +kernel
theorem dX3_cueFrom_17 : decode cX3_cueFrom 17 = .ok (.iconst 1, 1) := by decide +kernel
theorem dX3_cueFrom_18 : decode cX3_cueFrom 18 = .ok (.if_icmp .ne 5, 3) := by decide +kernel
theorem dX3_cueFrom_21 : decode cX3_cueFrom 21 = .ok (.iload_n 2, 1) := by decide +kernel
theorem dX3_cueFrom_22 : decode cX3_cueFrom 22 = .ok (.ireturn, 1) := by decide +kernel
theorem dX3_cueFrom_23 : decode cX3_cueFrom 23 = .ok (.iinc 2 1, 3) := by decide +kernel
theorem dX3_cueFrom_26 : decode cX3_cueFrom 26 = .ok (.goto (-24), 3) := by decide +kernel
theorem dX3_cueFrom_29 : decode cX3_cueFrom 29 = .ok (.iconst (-1), 1) := by decide +kernel
theorem dX3_cueFrom_30 : decode cX3_cueFrom 30 = .ok (.ireturn, 1) := by decide +kernel
set_option maxRecDepth 20000 in
theorem ggX3_rightBit_X3_fact : GoodIn wsX3_rightBit wsX3_fact := goodIn_r _ [9, 10, 11, 12, 13, 14, 15, 16, 17] (by decide +kernel) (by decide +kernel)
set_option maxRecDepth 20000 in
theorem gX3_rightBit_X3_fact : GoodIn wsX3_rightBit (wsV RX3 38 RX3 yX3_fact wsX3_fact) := goodIn_app (goodIn_of _ (by decide +kernel)) ggX3_rightBit_X3_fact
theorem dX3_rightBit_0 : decode cX3_rightBit 0 = .ok (.aload_n 0, 1) := by decide +kernel
theorem dX3_rightBit_1 : decode cX3_rightBit 1 = .ok (.iload_n 1, 1) := by decide +kernel
theorem dX3_rightBit_2 : decode cX3_rightBit 2 = .ok (.iconst 0, 1) := by decide +kernel
theorem dX3_rightBit_3 : decode cX3_rightBit 3 = .ok (.invokevirtual 38, 3) := by decide +kernel
theorem dX3_rightBit_6 : decode cX3_rightBit 6 = .ok (.iconst 2, 1) := by decide +kernel
theorem dX3_rightBit_7 : decode cX3_rightBit 7 = .ok (.if_icmp .ne 7, 3) := by decide +kernel
theorem dX3_rightBit_10 : decode cX3_rightBit 10 = .ok (.iconst 1, 1) := by decide +kernel
theorem dX3_rightBit_11 : decode cX3_rightBit 11 = .ok (.goto 4, 3) := by decide +kernel
theorem dX3_rightBit_14 : decode cX3_rightBit 14 = .ok (.iconst 0, 1) := by decide +kernel
theorem dX3_rightBit_15 : decode cX3_rightBit 15 = .ok (.istore_n 3, 1) := by decide +kernel
theorem dX3_rightBit_16 : decode cX3_rightBit 16 = .ok (.aload_n 0, 1) := by decide +kernel
theorem dX3_rightBit_17 : decode cX3_rightBit 17 = .ok (.iload_n 1, 1) := by decide +kernel
theorem dX3_rightBit_18 : decode cX3_rightBit 18 = .ok (.iconst 1, 1) := by decide +kernel
theorem dX3_rightBit_19 : decode cX3_rightBit 19 = .ok (.invokevirtual 38, 3) := by decide +kernel
theorem dX3_rightBit_22 : decode cX3_rightBit 22 = .ok (.istore 4, 2) := by decide +kernel
theorem dX3_rightBit_24 : decode cX3_rightBit 24 = .ok (.iconst 0, 1) := by decide +kernel
theorem dX3_rightBit_25 : decode cX3_rightBit 25 = .ok (.istore 5, 2) := by decide +kernel
theorem dX3_rightBit_27 : decode cX3_rightBit 27 = .ok (.iload 5, 2) := by decide +kernel
theorem dX3_rightBit_29 : decode cX3_rightBit 29 = .ok (.iload 4, 2) := by decide +kernel
theorem dX3_rightBit_31 : decode cX3_rightBit 31 = .ok (.if_icmp .ge 33, 3) := by decide +kernel
theorem dX3_rightBit_34 : decode cX3_rightBit 34 = .ok (.iload_n 2, 1) := by decide +kernel
theorem dX3_rightBit_35 : decode cX3_rightBit 35 = .ok (.aload_n 0, 1) := by decide +kernel
theorem dX3_rightBit_36 : decode cX3_rightBit 36 = .ok (.iload_n 1, 1) := by decide +kernel
theorem dX3_rightBit_37 : decode cX3_rightBit 37 = .ok (.bipush 9, 2) := by decide +kernel
theorem dX3_rightBit_39 : decode cX3_rightBit 39 = .ok (.iload 5, 2) := by decide +kernel
theorem dX3_rightBit_41 : decode cX3_rightBit 41 = .ok (.iadd, 1) := by decide +kernel
theorem dX3_rightBit_42 : decode cX3_rightBit 42 = .ok (.invokevirtual 38, 3) := by decide +kernel
theorem dX3_rightBit_45 : decode cX3_rightBit 45 = .ok (.isub, 1) := by decide +kernel
theorem dX3_rightBit_46 : decode cX3_rightBit 46 = .ok (.invokestatic 54, 3) := by decide +kernel
theorem dX3_rightBit_49 : decode cX3_rightBit 49 = .ok (.iload_n 3, 1) := by decide +kernel
theorem dX3_rightBit_50 : decode cX3_rightBit 50 = .ok (.if_icmp .gt 8, 3) := by decide +kernel
theorem dX3_rightBit_53 : decode cX3_rightBit 53 = .ok (.iconst 1, 1) := by decide +kernel
theorem dX3_rightBit_54 : decode cX3_rightBit 54 = .ok (.iload 5, 2) := by decide +kernel
theorem dX3_rightBit_56 : decode cX3_rightBit 56 = .ok (.ishl, 1) := by decide +kernel
theorem dX3_rightBit_57 : decode cX3_rightBit 57 = .ok (.ireturn, 1) := by decide +kernel
theorem dX3_rightBit_58 : decode cX3_rightBit 58 = .ok (.iinc 5 1, 3) := by decide +kernel
theorem dX3_rightBit_61 : decode cX3_rightBit 61 = .ok (.goto (-34), 3) := by decide +kernel
theorem dX3_rightBit_64 : decode cX3_rightBit 64 = .ok (.iconst 0, 1) := by decide +kernel
theorem dX3_rightBit_65 : decode cX3_rightBit 65 = .ok (.ireturn, 1) := by decide +kernel
end
section
abbrev rX3_has : Room := { frames := 0, cells := 0, slots := 0, locals := 0 }
theorem flX3_has_15 : FL wsX3_has RX3 15 3 1 := ⟨RX3, TX3, 7, rfl, by decide, by decide +kernel, by decide +kernel⟩
set_option maxHeartbeats 4000000 in
set_option maxRecDepth 100000 in
theorem c_hasN {w : pW} {sc fa : Nat} {ev be cu st me pa : Nat} {f : Nat → Int32} (hs : w sc = some (.inr (3, [.ref fa, .int (nI ev), .int (nI be), .int (nI cu), .int (nI st), .int (nI me), .int (nI pa)]))) (hf : w fa = some (.inl (0, 1400, .inl f))) {e : Nat} (he : e < 2 ^ 31) (hev : ev ≤ 100) : Ct yX3_has wsX3_has rX3_has [.ref sc, .int (nI e)] w (fun o w9 => o = .inl (some (.int (zb (decide (e < ev))))) ∧ w9 = w) := by
  refine Ct.of (cc := cX3_has) (own := RX3) (nm := "has") (nL := 2) (ret := (some .boolean)) (by decide) rfl rfl rfl (Nat.le_of_ble_eq_true rfl) ?_
  refine j_lvE (lv' := [(0, .ref sc), (1, .int (nI e))]) rfl ?_
  refine j_iload_n dX3_has_0 1 rfl ?_
  refine j_if_ltN (by omega) dX3_has_1 (by decide : _ = ((16 : Nat) : Int)) ?_
  refine j_iload_n dX3_has_4 1 rfl ?_
  refine j_aload_n dX3_has_5 0 rfl ?_
  refine j_get flX3_has_15 hs rfl dX3_has_6 ?_
  refine j_icmp_geN 16 (by omega) (by omega) dX3_has_9 (by decide) (fun c9 => ?_) (fun c9 => ?_)
  · skip
    refine j_iconst (v := nI 0) dX3_has_16 (by decide) ?_
    exact j_zret rfl (Or.inl rfl) ⟨by rw [zb_f (by simp; omega)]; rfl, rfl⟩ (show 0 ≤ 0 by omega) (show 0 ≤ 0 by omega) dX3_has_17
  · skip
    refine j_iconst (v := nI 1) dX3_has_12 (by decide) ?_
    refine j_goto 17 dX3_has_13 (by decide) ?_
    exact j_zret rfl (Or.inr rfl) ⟨by rw [zb_t (by simp; omega)]; rfl, rfl⟩ (show 0 ≤ 0 by omega) (show 0 ≤ 0 by omega) dX3_has_17
set_option maxHeartbeats 4000000 in
set_option maxRecDepth 100000 in
theorem c_hasM {w : pW} {sc fa : Nat} {ev be cu st me pa : Nat} {f : Nat → Int32} (hs : w sc = some (.inr (3, [.ref fa, .int (nI ev), .int (nI be), .int (nI cu), .int (nI st), .int (nI me), .int (nI pa)]))) (hf : w fa = some (.inl (0, 1400, .inl f))) {e : Int32} (he : e < 0) : Ct yX3_has wsX3_has rX3_has [.ref sc, .int e] w (fun o w9 => o = .inl (some (.int (0))) ∧ w9 = w) := by
  refine Ct.of (cc := cX3_has) (own := RX3) (nm := "has") (nL := 2) (ret := (some .boolean)) (by decide) rfl rfl rfl (Nat.le_of_ble_eq_true rfl) ?_
  refine j_lvE (lv' := [(0, .ref sc), (1, .int e)]) rfl ?_
  refine j_iload_n dX3_has_0 1 rfl ?_
  refine j_if_lt 16 dX3_has_1 (by decide) (fun c1 => ?_) (fun c1 => ?_)
  · skip
    refine j_iconst (v := nI 0) dX3_has_16 (by decide) ?_
    exact j_zret rfl (Or.inl rfl) ⟨rfl, rfl⟩ (show 0 ≤ 0 by omega) (show 0 ≤ 0 by omega) dX3_has_17
  · skip
    exact absurd he c1
abbrev rX3_fact : Room := { frames := 0, cells := 0, slots := 0, locals := 0 }
theorem flX3_fact_11 : FL wsX3_fact RX3 11 3 0 := ⟨RX3, TX3, 7, rfl, by decide, by decide +kernel, by decide +kernel⟩
set_option maxHeartbeats 4000000 in
set_option maxRecDepth 100000 in
theorem c_fact {w : pW} {sc fa : Nat} {ev be cu st me pa : Nat} {f : Nat → Int32} (hs : w sc = some (.inr (3, [.ref fa, .int (nI ev), .int (nI be), .int (nI cu), .int (nI st), .int (nI me), .int (nI pa)]))) (hf : w fa = some (.inl (0, 1400, .inl f))) {e c : Nat} (he : e < 100) (hc : c < 14) : Ct yX3_fact wsX3_fact rX3_fact [.ref sc, .int (nI e), .int (nI c)] w (fun o w9 => o = .inl (some (.int (f (e * 14 + c)))) ∧ w9 = w) := by
  refine Ct.of (cc := cX3_fact) (own := RX3) (nm := "fact") (nL := 3) (ret := (some .int)) (by decide) rfl rfl rfl (Nat.le_of_ble_eq_true rfl) ?_
  refine j_lvE (lv' := [(0, .ref sc), (1, .int (nI e)), (2, .int (nI c))]) rfl ?_
  refine j_iload_n dX3_fact_0 1 rfl ?_
  refine j_if_ltN (by omega) dX3_fact_1 (by decide : _ = ((20 : Nat) : Int)) ?_
  refine j_iload_n dX3_fact_4 1 rfl ?_
  refine j_bipush (v := nI 100) dX3_fact_5 (by decide) ?_
  refine j_icmp_geN 20 (by omega) (by omega) dX3_fact_7 (by decide) (fun c7 => ?_) (fun c7 => ?_)
  · skip
    exfalso; omega
  · skip
    refine j_iload_n dX3_fact_10 2 rfl ?_
    refine j_if_ltN (by omega) dX3_fact_11 (by decide : _ = ((20 : Nat) : Int)) ?_
    refine j_iload_n dX3_fact_14 2 rfl ?_
    refine j_bipush (v := nI 14) dX3_fact_15 (by decide) ?_
    refine j_icmp_ltN 22 (by omega) (by omega) dX3_fact_17 (by decide) (fun c17 => ?_) (fun c17 => ?_)
    · skip
      refine j_aload_n dX3_fact_22 0 rfl ?_
      refine j_get flX3_fact_11 hs rfl dX3_fact_23 ?_
      refine j_iload_n dX3_fact_26 1 rfl ?_
      refine j_bipush (v := nI 14) dX3_fact_27 (by decide) ?_
      refine j_imulN dX3_fact_29 ?_
      refine j_iload_n dX3_fact_30 2 rfl ?_
      refine j_iaddN dX3_fact_31 ?_
      refine j_ialdN (j := (e * 14) + c) hf rfl (by omega) (by omega) dX3_fact_32 ?_
      exact j_iret rfl ⟨rfl, rfl⟩ (show 0 ≤ 0 by omega) (show 0 ≤ 0 by omega) dX3_fact_33
    · skip
      exfalso; omega
abbrev rX3_write : Room := { frames := 0, cells := 0, slots := 0, locals := 0 }
theorem flX3_write_11 : FL wsX3_write RX3 11 3 0 := ⟨RX3, TX3, 7, rfl, by decide, by decide +kernel, by decide +kernel⟩
set_option maxHeartbeats 4000000 in
set_option maxRecDepth 100000 in
theorem c_write {w : pW} {sc fa : Nat} {ev be cu st me pa : Nat} {f : Nat → Int32} (hs : w sc = some (.inr (3, [.ref fa, .int (nI ev), .int (nI be), .int (nI cu), .int (nI st), .int (nI me), .int (nI pa)]))) (hf : w fa = some (.inl (0, 1400, .inl f))) {e c : Nat} {v : Int32} (he : e < 100) (hc : c < 14) : Ct yX3_write wsX3_write rX3_write [.ref sc, .int (nI e), .int (nI c), .int v] w (fun o w9 => o = .inl none ∧ w9 = va_up w fa (some (.inl (0, 1400, .inl (upd f (e * 14 + c) v))))) := by
  refine Ct.of (cc := cX3_write) (own := RX3) (nm := "write") (nL := 4) (ret := none) (by decide) rfl rfl rfl (Nat.le_of_ble_eq_true rfl) ?_
  refine j_lvE (lv' := [(0, .ref sc), (1, .int (nI e)), (2, .int (nI c)), (3, .int v)]) rfl ?_
  refine j_iload_n dX3_write_0 1 rfl ?_
  refine j_if_ltN (by omega) dX3_write_1 (by decide : _ = ((32 : Nat) : Int)) ?_
  refine j_iload_n dX3_write_4 1 rfl ?_
  refine j_bipush (v := nI 100) dX3_write_5 (by decide) ?_
  refine j_icmp_geN 32 (by omega) (by omega) dX3_write_7 (by decide) (fun c7 => ?_) (fun c7 => ?_)
  · skip
    exfalso; omega
  · skip
    refine j_iload_n dX3_write_10 2 rfl ?_
    refine j_if_ltN (by omega) dX3_write_11 (by decide : _ = ((32 : Nat) : Int)) ?_
    refine j_iload_n dX3_write_14 2 rfl ?_
    refine j_bipush (v := nI 14) dX3_write_15 (by decide) ?_
    refine j_icmp_geN 32 (by omega) (by omega) dX3_write_17 (by decide) (fun c17 => ?_) (fun c17 => ?_)
    · skip
      exfalso; omega
    · skip
      refine j_aload_n dX3_write_20 0 rfl ?_
      refine j_get flX3_write_11 hs rfl dX3_write_21 ?_
      refine j_iload_n dX3_write_24 1 rfl ?_
      refine j_bipush (v := nI 14) dX3_write_25 (by decide) ?_
      refine j_imulN dX3_write_27 ?_
      refine j_iload_n dX3_write_28 2 rfl ?_
      refine j_iaddN dX3_write_29 ?_
      refine j_iload_n dX3_write_30 3 rfl ?_
      refine j_iastN (j := (e * 14) + c) hf rfl (by omega) (by omega) dX3_write_31 ?_
      refine j_w (fun w1 hw1 => ?_)
      have f2 := up_ne hw1 (fk hs hf rfl) hs
      have f3 : w1 fa = some (.inl (0, 1400, .inl (upd f ((e * 14) + c) v))) := up_at hw1
      exact j_vret rfl ⟨rfl, hw1⟩ (show 0 ≤ 0 by omega) (show 0 ≤ 0 by omega) dX3_write_32
abbrev rX3_isFull : Room := { frames := 0, cells := 0, slots := 0, locals := 0 }
theorem flX3_isFull_15 : FL wsX3_isFull RX3 15 3 1 := ⟨RX3, TX3, 7, rfl, by decide, by decide +kernel, by decide +kernel⟩
set_option maxHeartbeats 4000000 in
set_option maxRecDepth 100000 in
theorem c_isFull {w : pW} {sc fa : Nat} {ev be cu st me pa : Nat} {f : Nat → Int32} (hs : w sc = some (.inr (3, [.ref fa, .int (nI ev), .int (nI be), .int (nI cu), .int (nI st), .int (nI me), .int (nI pa)]))) (hf : w fa = some (.inl (0, 1400, .inl f))) (hev : ev ≤ 100) : Ct yX3_isFull wsX3_isFull rX3_isFull [.ref sc] w (fun o w9 => o = .inl (some (.int (zb (decide (100 ≤ ev))))) ∧ w9 = w) := by
  refine Ct.of (cc := cX3_isFull) (own := RX3) (nm := "isFull") (nL := 1) (ret := (some .boolean)) (by decide) rfl rfl rfl (Nat.le_of_ble_eq_true rfl) ?_
  refine j_lvE (lv' := [(0, .ref sc)]) rfl ?_
  refine j_aload_n dX3_isFull_0 0 rfl ?_
  refine j_get flX3_isFull_15 hs rfl dX3_isFull_1 ?_
  refine j_bipush (v := nI 100) dX3_isFull_4 (by decide) ?_
  refine j_icmp_ltN 13 (by omega) (by omega) dX3_isFull_6 (by decide) (fun c6 => ?_) (fun c6 => ?_)
  · skip
    refine j_iconst (v := nI 0) dX3_isFull_13 (by decide) ?_
    exact j_zret rfl (Or.inl rfl) ⟨by rw [zb_f (by simp; omega)]; rfl, rfl⟩ (show 0 ≤ 0 by omega) (show 0 ≤ 0 by omega) dX3_isFull_14
  · skip
    refine j_iconst (v := nI 1) dX3_isFull_9 (by decide) ?_
    refine j_goto 14 dX3_isFull_10 (by decide) ?_
    exact j_zret rfl (Or.inr rfl) ⟨by rw [zb_t (by simp; omega)]; rfl, rfl⟩ (show 0 ≤ 0 by omega) (show 0 ≤ 0 by omega) dX3_isFull_14
abbrev rX3_clear : Room := { frames := 0, cells := 0, slots := 0, locals := 0 }
theorem fsX3_clear_15 : FS wsX3_clear RX3 15 3 1 false (.int) := ⟨RX3, TX3, 7, tyX3, rfl, by decide, by decide +kernel, by decide +kernel, tyX3_ok, nmX3, rfl, rfl, rfl⟩
theorem fsX3_clear_19 : FS wsX3_clear RX3 19 3 2 false (.int) := ⟨RX3, TX3, 7, tyX3, rfl, by decide, by decide +kernel, by decide +kernel, tyX3_ok, nmX3, rfl, rfl, rfl⟩
theorem fsX3_clear_22 : FS wsX3_clear RX3 22 3 3 false (.int) := ⟨RX3, TX3, 7, tyX3, rfl, by decide, by decide +kernel, by decide +kernel, tyX3_ok, nmX3, rfl, rfl, rfl⟩
theorem fsX3_clear_25 : FS wsX3_clear RX3 25 3 4 false (.int) := ⟨RX3, TX3, 7, tyX3, rfl, by decide, by decide +kernel, by decide +kernel, tyX3_ok, nmX3, rfl, rfl, rfl⟩
theorem fsX3_clear_28 : FS wsX3_clear RX3 28 3 5 false (.int) := ⟨RX3, TX3, 7, tyX3, rfl, by decide, by decide +kernel, by decide +kernel, tyX3_ok, nmX3, rfl, rfl, rfl⟩
theorem fsX3_clear_31 : FS wsX3_clear RX3 31 3 6 false (.int) := ⟨RX3, TX3, 7, tyX3, rfl, by decide, by decide +kernel, by decide +kernel, tyX3_ok, nmX3, rfl, rfl, rfl⟩
set_option maxHeartbeats 4000000 in
set_option maxRecDepth 100000 in
theorem c_clear {w : pW} {sc fa : Nat} {ev be cu st me pa : Nat} {f : Nat → Int32} (hs : w sc = some (.inr (3, [.ref fa, .int (nI ev), .int (nI be), .int (nI cu), .int (nI st), .int (nI me), .int (nI pa)]))) (hf : w fa = some (.inl (0, 1400, .inl f))) : Ct yX3_clear wsX3_clear rX3_clear [.ref sc] w (fun o w9 => o = .inl none ∧ w9 = va_up w sc (some (.inr (3, [.ref fa, .int (nI 0), .int (nI 0), .int (nI 0), .int (nI 0), .int (nI 0), .int (nI 0)])))) := by
  refine Ct.of (cc := cX3_clear) (own := RX3) (nm := "clear") (nL := 1) (ret := none) (by decide) rfl rfl rfl (Nat.le_of_ble_eq_true rfl) ?_
  refine j_lvE (lv' := [(0, .ref sc)]) rfl ?_
  refine j_aload_n dX3_clear_0 0 rfl ?_
  refine j_iconst (v := nI 0) dX3_clear_1 (by decide) ?_
  refine j_put (fs9 := [.ref fa, .int (nI 0), .int (nI be), .int (nI cu), .int (nI st), .int (nI me), .int (nI pa)]) fsX3_clear_15 hs rfl rfl (Nat.le_of_ble_eq_true rfl) rfl dX3_clear_2 ?_
  refine j_w (fun w1 hw1 => ?_)
  have f2 : w1 sc = some (.inr (3, [.ref fa, .int (nI 0), .int (nI be), .int (nI cu), .int (nI st), .int (nI me), .int (nI pa)])) := up_at hw1
  have f3 := up_ne hw1 (fk hf hs rfl) hf
  refine j_aload_n dX3_clear_5 0 rfl ?_
  refine j_iconst (v := nI 0) dX3_clear_6 (by decide) ?_
  refine j_put (fs9 := [.ref fa, .int (nI 0), .int (nI 0), .int (nI cu), .int (nI st), .int (nI me), .int (nI pa)]) fsX3_clear_19 f2 rfl rfl (Nat.le_of_ble_eq_true rfl) rfl dX3_clear_7 ?_
  refine j_w (fun w4 hw4 => ?_)
  have f5 : w4 sc = some (.inr (3, [.ref fa, .int (nI 0), .int (nI 0), .int (nI cu), .int (nI st), .int (nI me), .int (nI pa)])) := up_at hw4
  have f6 := up_ne hw4 (fk f3 f2 rfl) f3
  refine j_aload_n dX3_clear_10 0 rfl ?_
  refine j_iconst (v := nI 0) dX3_clear_11 (by decide) ?_
  refine j_put (fs9 := [.ref fa, .int (nI 0), .int (nI 0), .int (nI 0), .int (nI st), .int (nI me), .int (nI pa)]) fsX3_clear_22 f5 rfl rfl (Nat.le_of_ble_eq_true rfl) rfl dX3_clear_12 ?_
  refine j_w (fun w7 hw7 => ?_)
  have f8 : w7 sc = some (.inr (3, [.ref fa, .int (nI 0), .int (nI 0), .int (nI 0), .int (nI st), .int (nI me), .int (nI pa)])) := up_at hw7
  have f9 := up_ne hw7 (fk f6 f5 rfl) f6
  refine j_aload_n dX3_clear_15 0 rfl ?_
  refine j_iconst (v := nI 0) dX3_clear_16 (by decide) ?_
  refine j_put (fs9 := [.ref fa, .int (nI 0), .int (nI 0), .int (nI 0), .int (nI 0), .int (nI me), .int (nI pa)]) fsX3_clear_25 f8 rfl rfl (Nat.le_of_ble_eq_true rfl) rfl dX3_clear_17 ?_
  refine j_w (fun w10 hw10 => ?_)
  have f11 : w10 sc = some (.inr (3, [.ref fa, .int (nI 0), .int (nI 0), .int (nI 0), .int (nI 0), .int (nI me), .int (nI pa)])) := up_at hw10
  have f12 := up_ne hw10 (fk f9 f8 rfl) f9
  refine j_aload_n dX3_clear_20 0 rfl ?_
  refine j_iconst (v := nI 0) dX3_clear_21 (by decide) ?_
  refine j_put (fs9 := [.ref fa, .int (nI 0), .int (nI 0), .int (nI 0), .int (nI 0), .int (nI 0), .int (nI pa)]) fsX3_clear_28 f11 rfl rfl (Nat.le_of_ble_eq_true rfl) rfl dX3_clear_22 ?_
  refine j_w (fun w13 hw13 => ?_)
  have f14 : w13 sc = some (.inr (3, [.ref fa, .int (nI 0), .int (nI 0), .int (nI 0), .int (nI 0), .int (nI 0), .int (nI pa)])) := up_at hw13
  have f15 := up_ne hw13 (fk f12 f11 rfl) f12
  refine j_aload_n dX3_clear_25 0 rfl ?_
  refine j_iconst (v := nI 0) dX3_clear_26 (by decide) ?_
  refine j_put (fs9 := [.ref fa, .int (nI 0), .int (nI 0), .int (nI 0), .int (nI 0), .int (nI 0), .int (nI 0)]) fsX3_clear_31 f14 rfl rfl (Nat.le_of_ble_eq_true rfl) rfl dX3_clear_27 ?_
  refine j_w (fun w16 hw16 => ?_)
  have f17 : w16 sc = some (.inr (3, [.ref fa, .int (nI 0), .int (nI 0), .int (nI 0), .int (nI 0), .int (nI 0), .int (nI 0)])) := up_at hw16
  have f18 := up_ne hw16 (fk f15 f14 rfl) f15
  exact j_vret rfl ⟨rfl, by rw [hw16, hw13, hw10, hw7, hw4, hw1] <;> (try simp only [bx_uu]) <;> (try rfl)⟩ (show 0 ≤ 0 by omega) (show 0 ≤ 0 by omega) dX3_clear_30
/-- the columns of an event that is opened -/
def opF (f : Nat → Int32) (ev kd be me pa st : Nat) (mk cq : Int32) : Nat → Int32 := upd (upd (upd (upd (upd (upd (upd (upd (upd f (ev * 14 + 0) (nI kd)) (ev * 14 + 1) (nI 0)) (ev * 14 + 2) (nI be)) (ev * 14 + 4) (nI me)) (ev * 14 + 5) (nI pa)) (ev * 14 + 6) mk) (ev * 14 + 7) cq) (ev * 14 + 8) (-1)) (ev * 14 + 13) (nI st)
abbrev rX3_openEvent : Room := { frames := 1, cells := 0, slots := 0, locals := 23 }
theorem flX3_openEvent_15 : FL wsX3_openEvent RX3 15 3 1 := ⟨RX3, TX3, 7, rfl, by decide, by decide +kernel, by decide +kernel⟩
theorem flX3_openEvent_19 : FL wsX3_openEvent RX3 19 3 2 := ⟨RX3, TX3, 7, rfl, by decide, by decide +kernel, by decide +kernel⟩
theorem flX3_openEvent_28 : FL wsX3_openEvent RX3 28 3 5 := ⟨RX3, TX3, 7, rfl, by decide, by decide +kernel, by decide +kernel⟩
theorem flX3_openEvent_31 : FL wsX3_openEvent RX3 31 3 6 := ⟨RX3, TX3, 7, rfl, by decide, by decide +kernel, by decide +kernel⟩
theorem flX3_openEvent_25 : FL wsX3_openEvent RX3 25 3 4 := ⟨RX3, TX3, 7, rfl, by decide, by decide +kernel, by decide +kernel⟩
set_option maxHeartbeats 4000000 in
set_option maxRecDepth 100000 in
theorem c_openEvent {w : pW} {sc fa : Nat} {ev be cu st me pa : Nat} {f : Nat → Int32} (hs : w sc = some (.inr (3, [.ref fa, .int (nI ev), .int (nI be), .int (nI cu), .int (nI st), .int (nI me), .int (nI pa)]))) (hf : w fa = some (.inl (0, 1400, .inl f))) {kd : Nat} {mk cq : Bool} (hev : ev < 100) : Ct yX3_openEvent wsX3_openEvent rX3_openEvent [.ref sc, .int (nI kd), .int (zb mk), .int (zb cq)] w (fun o w9 => o = .inl none ∧ w9 = va_up w fa (some (.inl (0, 1400, .inl (opF f ev kd be me pa st (zb mk) (zb cq)))))) := by
  refine Ct.of (cc := cX3_openEvent) (own := RX3) (nm := "openEvent") (nL := 4) (ret := none) (by decide) rfl rfl rfl (Nat.le_of_ble_eq_true rfl) ?_
  refine j_lvE (lv' := [(0, .ref sc), (1, .int (nI kd)), (2, .int (zb mk)), (3, .int (zb cq))]) rfl ?_
  refine j_aload_n dX3_openEvent_0 0 rfl ?_
  refine j_aload_n dX3_openEvent_1 0 rfl ?_
  refine j_get flX3_openEvent_15 hs rfl dX3_openEvent_2 ?_
  refine j_iconst (v := nI 0) dX3_openEvent_5 (by decide) ?_
  refine j_iload_n dX3_openEvent_6 1 rfl ?_
  refine j_callV (rm := rX3_write) (As := [.int (nI ev), .int (nI 0), .int (nI kd)]) (st := []) (b0 := sc) (ci := 3) (na := 3) (c_write (e := ev) (c := 0) (v := nI kd) hs hf (by omega) (by omega)) (by intro E w9 h9; first | exact nomatch h9.1 | (obtain ⟨_, h9, _⟩ := h9; exact nomatch h9)) gX3_openEvent_X3_write rfl rfl hs (by decide +kernel) rfl ⟨Nat.le_of_ble_eq_true rfl, Nat.le_of_ble_eq_true rfl⟩ rfl (Nat.le_of_ble_eq_true rfl) dX3_openEvent_7 ⟨(show 0 + 0 ≤ 0 by omega), (show 0 + 0 ≤ 0 by omega)⟩ (fun v1 w2 h3 => ?_)
  obtain ⟨h3, h4⟩ := h3
  cases h3
  -- w2
  refine j_after (st' := []) (k' := 0) (n' := 0) rfl rfl rfl ?_
  have f5 : w2 sc = some (.inr (3, [.ref fa, .int (nI ev), .int (nI be), .int (nI cu), .int (nI st), .int (nI me), .int (nI pa)])) := by rw [h4]; exact (va_up_ne _ _ (fk hs hf rfl)).trans (hs)
  have f6 : w2 fa = some (.inl (0, 1400, .inl (upd f (ev * 14 + 0) (nI kd)))) := by rw [h4]; exact va_up_self _ _ _
  refine j_aload_n dX3_openEvent_10 0 rfl ?_
  refine j_aload_n dX3_openEvent_11 0 rfl ?_
  refine j_get flX3_openEvent_15 f5 rfl dX3_openEvent_12 ?_
  refine j_iconst (v := nI 1) dX3_openEvent_15 (by decide) ?_
  refine j_iconst (v := nI 0) dX3_openEvent_16 (by decide) ?_
  refine j_callV (rm := rX3_write) (As := [.int (nI ev), .int (nI 1), .int (nI 0)]) (st := []) (b0 := sc) (ci := 3) (na := 3) (c_write (e := ev) (c := 1) (v := nI 0) f5 f6 (by omega) (by omega)) (by intro E w9 h9; first | exact nomatch h9.1 | (obtain ⟨_, h9, _⟩ := h9; exact nomatch h9)) gX3_openEvent_X3_write rfl rfl f5 (by decide +kernel) rfl ⟨Nat.le_of_ble_eq_true rfl, Nat.le_of_ble_eq_true rfl⟩ rfl (Nat.le_of_ble_eq_true rfl) dX3_openEvent_17 ⟨(show 0 + 0 ≤ 0 by omega), (show 0 + 0 ≤ 0 by omega)⟩ (fun v7 w8 h9 => ?_)
  obtain ⟨h9, h10⟩ := h9
  cases h9
  -- w8
  refine j_after (st' := []) (k' := 0) (n' := 0) rfl rfl rfl ?_
  have f11 : w8 sc = some (.inr (3, [.ref fa, .int (nI ev), .int (nI be), .int (nI cu), .int (nI st), .int (nI me), .int (nI pa)])) := by rw [h10]; exact (va_up_ne _ _ (fk f5 f6 rfl)).trans (f5)
  have f12 : w8 fa = some (.inl (0, 1400, .inl (upd (upd f (ev * 14 + 0) (nI kd)) (ev * 14 + 1) (nI 0)))) := by rw [h10]; exact va_up_self _ _ _
  refine j_aload_n dX3_openEvent_20 0 rfl ?_
  refine j_aload_n dX3_openEvent_21 0 rfl ?_
  refine j_get flX3_openEvent_15 f11 rfl dX3_openEvent_22 ?_
  refine j_iconst (v := nI 2) dX3_openEvent_25 (by decide) ?_
  refine j_aload_n dX3_openEvent_26 0 rfl ?_
  refine j_get flX3_openEvent_19 f11 rfl dX3_openEvent_27 ?_
  refine j_callV (rm := rX3_write) (As := [.int (nI ev), .int (nI 2), .int (nI be)]) (st := []) (b0 := sc) (ci := 3) (na := 3) (c_write (e := ev) (c := 2) (v := nI be) f11 f12 (by omega) (by omega)) (by intro E w9 h9; first | exact nomatch h9.1 | (obtain ⟨_, h9, _⟩ := h9; exact nomatch h9)) gX3_openEvent_X3_write rfl rfl f11 (by decide +kernel) rfl ⟨Nat.le_of_ble_eq_true rfl, Nat.le_of_ble_eq_true rfl⟩ rfl (Nat.le_of_ble_eq_true rfl) dX3_openEvent_30 ⟨(show 0 + 0 ≤ 0 by omega), (show 0 + 0 ≤ 0 by omega)⟩ (fun v13 w14 h15 => ?_)
  obtain ⟨h15, h16⟩ := h15
  cases h15
  -- w14
  refine j_after (st' := []) (k' := 0) (n' := 0) rfl rfl rfl ?_
  have f17 : w14 sc = some (.inr (3, [.ref fa, .int (nI ev), .int (nI be), .int (nI cu), .int (nI st), .int (nI me), .int (nI pa)])) := by rw [h16]; exact (va_up_ne _ _ (fk f11 f12 rfl)).trans (f11)
  have f18 : w14 fa = some (.inl (0, 1400, .inl (upd (upd (upd f (ev * 14 + 0) (nI kd)) (ev * 14 + 1) (nI 0)) (ev * 14 + 2) (nI be)))) := by rw [h16]; exact va_up_self _ _ _
  refine j_aload_n dX3_openEvent_33 0 rfl ?_
  refine j_aload_n dX3_openEvent_34 0 rfl ?_
  refine j_get flX3_openEvent_15 f17 rfl dX3_openEvent_35 ?_
  refine j_iconst (v := nI 4) dX3_openEvent_38 (by decide) ?_
  refine j_aload_n dX3_openEvent_39 0 rfl ?_
  refine j_get flX3_openEvent_28 f17 rfl dX3_openEvent_40 ?_
  refine j_callV (rm := rX3_write) (As := [.int (nI ev), .int (nI 4), .int (nI me)]) (st := []) (b0 := sc) (ci := 3) (na := 3) (c_write (e := ev) (c := 4) (v := nI me) f17 f18 (by omega) (by omega)) (by intro E w9 h9; first | exact nomatch h9.1 | (obtain ⟨_, h9, _⟩ := h9; exact nomatch h9)) gX3_openEvent_X3_write rfl rfl f17 (by decide +kernel) rfl ⟨Nat.le_of_ble_eq_true rfl, Nat.le_of_ble_eq_true rfl⟩ rfl (Nat.le_of_ble_eq_true rfl) dX3_openEvent_43 ⟨(show 0 + 0 ≤ 0 by omega), (show 0 + 0 ≤ 0 by omega)⟩ (fun v19 w20 h21 => ?_)
  obtain ⟨h21, h22⟩ := h21
  cases h21
  -- w20
  refine j_after (st' := []) (k' := 0) (n' := 0) rfl rfl rfl ?_
  have f23 : w20 sc = some (.inr (3, [.ref fa, .int (nI ev), .int (nI be), .int (nI cu), .int (nI st), .int (nI me), .int (nI pa)])) := by rw [h22]; exact (va_up_ne _ _ (fk f17 f18 rfl)).trans (f17)
  have f24 : w20 fa = some (.inl (0, 1400, .inl (upd (upd (upd (upd f (ev * 14 + 0) (nI kd)) (ev * 14 + 1) (nI 0)) (ev * 14 + 2) (nI be)) (ev * 14 + 4) (nI me)))) := by rw [h22]; exact va_up_self _ _ _
  refine j_aload_n dX3_openEvent_46 0 rfl ?_
  refine j_aload_n dX3_openEvent_47 0 rfl ?_
  refine j_get flX3_openEvent_15 f23 rfl dX3_openEvent_48 ?_
  refine j_iconst (v := nI 5) dX3_openEvent_51 (by decide) ?_
  refine j_aload_n dX3_openEvent_52 0 rfl ?_
  refine j_get flX3_openEvent_31 f23 rfl dX3_openEvent_53 ?_
  refine j_callV (rm := rX3_write) (As := [.int (nI ev), .int (nI 5), .int (nI pa)]) (st := []) (b0 := sc) (ci := 3) (na := 3) (c_write (e := ev) (c := 5) (v := nI pa) f23 f24 (by omega) (by omega)) (by intro E w9 h9; first | exact nomatch h9.1 | (obtain ⟨_, h9, _⟩ := h9; exact nomatch h9)) gX3_openEvent_X3_write rfl rfl f23 (by decide +kernel) rfl ⟨Nat.le_of_ble_eq_true rfl, Nat.le_of_ble_eq_true rfl⟩ rfl (Nat.le_of_ble_eq_true rfl) dX3_openEvent_56 ⟨(show 0 + 0 ≤ 0 by omega), (show 0 + 0 ≤ 0 by omega)⟩ (fun v25 w26 h27 => ?_)
  obtain ⟨h27, h28⟩ := h27
  cases h27
  -- w26
  refine j_after (st' := []) (k' := 0) (n' := 0) rfl rfl rfl ?_
  have f29 : w26 sc = some (.inr (3, [.ref fa, .int (nI ev), .int (nI be), .int (nI cu), .int (nI st), .int (nI me), .int (nI pa)])) := by rw [h28]; exact (va_up_ne _ _ (fk f23 f24 rfl)).trans (f23)
  have f30 : w26 fa = some (.inl (0, 1400, .inl (upd (upd (upd (upd (upd f (ev * 14 + 0) (nI kd)) (ev * 14 + 1) (nI 0)) (ev * 14 + 2) (nI be)) (ev * 14 + 4) (nI me)) (ev * 14 + 5) (nI pa)))) := by rw [h28]; exact va_up_self _ _ _
  refine j_aload_n dX3_openEvent_59 0 rfl ?_
  refine j_aload_n dX3_openEvent_60 0 rfl ?_
  refine j_get flX3_openEvent_15 f29 rfl dX3_openEvent_61 ?_
  refine j_bipush (v := nI 6) dX3_openEvent_64 (by decide) ?_
  refine j_iload_n dX3_openEvent_66 2 rfl ?_
  refine j_ztern 74 75 dX3_openEvent_67 (by decide) dX3_openEvent_70 dX3_openEvent_71 (by decide) dX3_openEvent_74 rfl ?_
  refine j_callV (rm := rX3_write) (As := [.int (nI ev), .int (nI 6), .int (zb mk)]) (st := []) (b0 := sc) (ci := 3) (na := 3) (c_write (e := ev) (c := 6) (v := zb mk) f29 f30 (by omega) (by omega)) (by intro E w9 h9; first | exact nomatch h9.1 | (obtain ⟨_, h9, _⟩ := h9; exact nomatch h9)) gX3_openEvent_X3_write rfl rfl f29 (by decide +kernel) rfl ⟨Nat.le_of_ble_eq_true rfl, Nat.le_of_ble_eq_true rfl⟩ rfl (Nat.le_of_ble_eq_true rfl) dX3_openEvent_75 ⟨(show 0 + 0 ≤ 0 by omega), (show 0 + 0 ≤ 0 by omega)⟩ (fun v31 w32 h33 => ?_)
  obtain ⟨h33, h34⟩ := h33
  cases h33
  -- w32
  refine j_after (st' := []) (k' := 0) (n' := 0) rfl rfl rfl ?_
  have f35 : w32 sc = some (.inr (3, [.ref fa, .int (nI ev), .int (nI be), .int (nI cu), .int (nI st), .int (nI me), .int (nI pa)])) := by rw [h34]; exact (va_up_ne _ _ (fk f29 f30 rfl)).trans (f29)
  have f36 : w32 fa = some (.inl (0, 1400, .inl (upd (upd (upd (upd (upd (upd f (ev * 14 + 0) (nI kd)) (ev * 14 + 1) (nI 0)) (ev * 14 + 2) (nI be)) (ev * 14 + 4) (nI me)) (ev * 14 + 5) (nI pa)) (ev * 14 + 6) (zb mk)))) := by rw [h34]; exact va_up_self _ _ _
  refine j_aload_n dX3_openEvent_78 0 rfl ?_
  refine j_aload_n dX3_openEvent_79 0 rfl ?_
  refine j_get flX3_openEvent_15 f35 rfl dX3_openEvent_80 ?_
  refine j_bipush (v := nI 7) dX3_openEvent_83 (by decide) ?_
  refine j_iload_n dX3_openEvent_85 3 rfl ?_
  refine j_ztern 93 94 dX3_openEvent_86 (by decide) dX3_openEvent_89 dX3_openEvent_90 (by decide) dX3_openEvent_93 rfl ?_
  refine j_callV (rm := rX3_write) (As := [.int (nI ev), .int (nI 7), .int (zb cq)]) (st := []) (b0 := sc) (ci := 3) (na := 3) (c_write (e := ev) (c := 7) (v := zb cq) f35 f36 (by omega) (by omega)) (by intro E w9 h9; first | exact nomatch h9.1 | (obtain ⟨_, h9, _⟩ := h9; exact nomatch h9)) gX3_openEvent_X3_write rfl rfl f35 (by decide +kernel) rfl ⟨Nat.le_of_ble_eq_true rfl, Nat.le_of_ble_eq_true rfl⟩ rfl (Nat.le_of_ble_eq_true rfl) dX3_openEvent_94 ⟨(show 0 + 0 ≤ 0 by omega), (show 0 + 0 ≤ 0 by omega)⟩ (fun v37 w38 h39 => ?_)
  obtain ⟨h39, h40⟩ := h39
  cases h39
  -- w38
  refine j_after (st' := []) (k' := 0) (n' := 0) rfl rfl rfl ?_
  have f41 : w38 sc = some (.inr (3, [.ref fa, .int (nI ev), .int (nI be), .int (nI cu), .int (nI st), .int (nI me), .int (nI pa)])) := by rw [h40]; exact (va_up_ne _ _ (fk f35 f36 rfl)).trans (f35)
  have f42 : w38 fa = some (.inl (0, 1400, .inl (upd (upd (upd (upd (upd (upd (upd f (ev * 14 + 0) (nI kd)) (ev * 14 + 1) (nI 0)) (ev * 14 + 2) (nI be)) (ev * 14 + 4) (nI me)) (ev * 14 + 5) (nI pa)) (ev * 14 + 6) (zb mk)) (ev * 14 + 7) (zb cq)))) := by rw [h40]; exact va_up_self _ _ _
  refine j_aload_n dX3_openEvent_97 0 rfl ?_
  refine j_aload_n dX3_openEvent_98 0 rfl ?_
  refine j_get flX3_openEvent_15 f41 rfl dX3_openEvent_99 ?_
  refine j_bipush (v := nI 8) dX3_openEvent_102 (by decide) ?_
  refine j_iconst (v := (-1)) dX3_openEvent_104 (by decide) ?_
  refine j_callV (rm := rX3_write) (As := [.int (nI ev), .int (nI 8), .int ((-1))]) (st := []) (b0 := sc) (ci := 3) (na := 3) (c_write (e := ev) (c := 8) (v := (-1)) f41 f42 (by omega) (by omega)) (by intro E w9 h9; first | exact nomatch h9.1 | (obtain ⟨_, h9, _⟩ := h9; exact nomatch h9)) gX3_openEvent_X3_write rfl rfl f41 (by decide +kernel) rfl ⟨Nat.le_of_ble_eq_true rfl, Nat.le_of_ble_eq_true rfl⟩ rfl (Nat.le_of_ble_eq_true rfl) dX3_openEvent_105 ⟨(show 0 + 0 ≤ 0 by omega), (show 0 + 0 ≤ 0 by omega)⟩ (fun v43 w44 h45 => ?_)
  obtain ⟨h45, h46⟩ := h45
  cases h45
  -- w44
  refine j_after (st' := []) (k' := 0) (n' := 0) rfl rfl rfl ?_
  have f47 : w44 sc = some (.inr (3, [.ref fa, .int (nI ev), .int (nI be), .int (nI cu), .int (nI st), .int (nI me), .int (nI pa)])) := by rw [h46]; exact (va_up_ne _ _ (fk f41 f42 rfl)).trans (f41)
  have f48 : w44 fa = some (.inl (0, 1400, .inl (upd (upd (upd (upd (upd (upd (upd (upd f (ev * 14 + 0) (nI kd)) (ev * 14 + 1) (nI 0)) (ev * 14 + 2) (nI be)) (ev * 14 + 4) (nI me)) (ev * 14 + 5) (nI pa)) (ev * 14 + 6) (zb mk)) (ev * 14 + 7) (zb cq)) (ev * 14 + 8) ((-1))))) := by rw [h46]; exact va_up_self _ _ _
  refine j_aload_n dX3_openEvent_108 0 rfl ?_
  refine j_aload_n dX3_openEvent_109 0 rfl ?_
  refine j_get flX3_openEvent_15 f47 rfl dX3_openEvent_110 ?_
  refine j_bipush (v := nI 13) dX3_openEvent_113 (by decide) ?_
  refine j_aload_n dX3_openEvent_115 0 rfl ?_
  refine j_get flX3_openEvent_25 f47 rfl dX3_openEvent_116 ?_
  refine j_callV (rm := rX3_write) (As := [.int (nI ev), .int (nI 13), .int (nI st)]) (st := []) (b0 := sc) (ci := 3) (na := 3) (c_write (e := ev) (c := 13) (v := nI st) f47 f48 (by omega) (by omega)) (by intro E w9 h9; first | exact nomatch h9.1 | (obtain ⟨_, h9, _⟩ := h9; exact nomatch h9)) gX3_openEvent_X3_write rfl rfl f47 (by decide +kernel) rfl ⟨Nat.le_of_ble_eq_true rfl, Nat.le_of_ble_eq_true rfl⟩ rfl (Nat.le_of_ble_eq_true rfl) dX3_openEvent_119 ⟨(show 0 + 0 ≤ 0 by omega), (show 0 + 0 ≤ 0 by omega)⟩ (fun v49 w50 h51 => ?_)
  obtain ⟨h51, h52⟩ := h51
  cases h51
  -- w50
  refine j_after (st' := []) (k' := 0) (n' := 0) rfl rfl rfl ?_
  have f53 : w50 sc = some (.inr (3, [.ref fa, .int (nI ev), .int (nI be), .int (nI cu), .int (nI st), .int (nI me), .int (nI pa)])) := by rw [h52]; exact (va_up_ne _ _ (fk f47 f48 rfl)).trans (f47)
  have f54 : w50 fa = some (.inl (0, 1400, .inl (upd (upd (upd (upd (upd (upd (upd (upd (upd f (ev * 14 + 0) (nI kd)) (ev * 14 + 1) (nI 0)) (ev * 14 + 2) (nI be)) (ev * 14 + 4) (nI me)) (ev * 14 + 5) (nI pa)) (ev * 14 + 6) (zb mk)) (ev * 14 + 7) (zb cq)) (ev * 14 + 8) ((-1))) (ev * 14 + 13) (nI st)))) := by rw [h52]; exact va_up_self _ _ _
  exact j_vret rfl ⟨rfl, by rw [h52, h46, h40, h34, h28, h22, h16, h10, h4] <;> (try simp only [bx_uu]) <;> (try rfl)⟩ (show 0 ≤ 0 by omega) (show 0 ≤ 0 by omega) dX3_openEvent_122
abbrev rX3_openPitches : Room := { frames := 1, cells := 0, slots := 0, locals := 22 }
theorem flX3_openPitches_15 : FL wsX3_openPitches RX3 15 3 1 := ⟨RX3, TX3, 7, rfl, by decide, by decide +kernel, by decide +kernel⟩
set_option maxHeartbeats 4000000 in
set_option maxRecDepth 100000 in
theorem c_openPitches {w : pW} {sc fa : Nat} {ev be cu st me pa : Nat} {f : Nat → Int32} (hs : w sc = some (.inr (3, [.ref fa, .int (nI ev), .int (nI be), .int (nI cu), .int (nI st), .int (nI me), .int (nI pa)]))) (hf : w fa = some (.inl (0, 1400, .inl f))) (hev : ev < 100) : Ct yX3_openPitches wsX3_openPitches rX3_openPitches [.ref sc] w (fun o w9 => o = .inl (some (.int (f (ev * 14 + 1)))) ∧ w9 = w) := by
  refine Ct.of (cc := cX3_openPitches) (own := RX3) (nm := "openPitches") (nL := 1) (ret := (some .int)) (by decide) rfl rfl rfl (Nat.le_of_ble_eq_true rfl) ?_
  refine j_lvE (lv' := [(0, .ref sc)]) rfl ?_
  refine j_aload_n dX3_openPitches_0 0 rfl ?_
  refine j_aload_n dX3_openPitches_1 0 rfl ?_
  refine j_get flX3_openPitches_15 hs rfl dX3_openPitches_2 ?_
  refine j_iconst (v := nI 1) dX3_openPitches_5 (by decide) ?_
  refine j_callV (rm := rX3_fact) (As := [.int (nI ev), .int (nI 1)]) (st := []) (b0 := sc) (ci := 3) (na := 2) (c_fact (e := ev) (c := 1) hs hf (by omega) (by omega)) (by intro E w9 h9; first | exact nomatch h9.1 | (obtain ⟨_, h9, _⟩ := h9; exact nomatch h9)) gX3_openPitches_X3_fact rfl rfl hs (by decide +kernel) rfl ⟨Nat.le_of_ble_eq_true rfl, Nat.le_of_ble_eq_true rfl⟩ rfl (Nat.le_of_ble_eq_true rfl) dX3_openPitches_6 ⟨(show 0 + 0 ≤ 0 by omega), (show 0 + 0 ≤ 0 by omega)⟩ (fun v1 w2 h3 => ?_)
  obtain ⟨h3, h4⟩ := h3
  cases h3
  subst w2
  refine j_after (st' := [.int (f (ev * 14 + 1))]) (k' := 0) (n' := 0) rfl rfl rfl ?_
  exact j_iret rfl ⟨rfl, rfl⟩ (show 0 ≤ 0 by omega) (show 0 ≤ 0 by omega) dX3_openPitches_9
/-- whether one of the first np pitches of the row is p -/
def hasP (f : Nat → Int32) (ev np : Nat) (p : Int32) : Option Nat := fstN (fun i => f (ev * 14 + (9 + i)) == p) np 0
abbrev rX3_openHasPitch : Room := { frames := 2, cells := 0, slots := 0, locals := 42 }
theorem flX3_openHasPitch_15 : FL wsX3_openHasPitch RX3 15 3 1 := ⟨RX3, TX3, 7, rfl, by decide, by decide +kernel, by decide +kernel⟩
set_option maxHeartbeats 4000000 in
set_option maxRecDepth 100000 in
theorem l_openHasPitch {w : pW} {sc fa : Nat} {ev be cu st me pa : Nat} {f : Nat → Int32} (hs : w sc = some (.inr (3, [.ref fa, .int (nI ev), .int (nI be), .int (nI cu), .int (nI st), .int (nI me), .int (nI pa)]))) (hf : w fa = some (.inl (0, 1400, .inl f))) {np : Nat} {p : Int32} {r : Option Nat} (hev : ev < 100) (hnp : np ≤ 4) : ∀ (m9 : Nat) (i : Nat), np - i < m9 → i ≤ np → fstN (fun i => f (ev * 14 + (9 + i)) == p) (np - i) i = r → J ((cX3_openHasPitch, RX3, 4, wsX3_openHasPitch), (rX3_openHasPitch, (some .boolean), "openHasPitch", []), fun o w9 => o = .inl (some (.int (zb r.isSome))) ∧ w9 = w, fun _ _ _ => True) 7 [(0, .ref sc), (1, .int p), (2, .int (nI np)), (3, .int (nI i))] [] w 0 0 := by
  intro m9
  induction m9 with
  | zero => intro i h9; omega
  | succ m9 ih =>
    intro i hm9 hi hr
    refine j_iload_n dX3_openHasPitch_7 3 rfl ?_
    refine j_iload_n dX3_openHasPitch_8 2 rfl ?_
    refine j_icmp_geN 36 (by omega) (by omega) dX3_openHasPitch_9 (by decide) (fun c9 => ?_) (fun c9 => ?_)
    · skip
      refine j_iconst (v := nI 0) dX3_openHasPitch_36 (by decide) ?_
      exact j_zret rfl (Or.inl rfl) ⟨by rw [← hr, fstN_end (by omega)]; rfl, rfl⟩ (show 0 ≤ 0 by omega) (show 0 ≤ 0 by omega) dX3_openHasPitch_37
    · skip
      refine j_aload_n dX3_openHasPitch_12 0 rfl ?_
      refine j_aload_n dX3_openHasPitch_13 0 rfl ?_
      refine j_get flX3_openHasPitch_15 hs rfl dX3_openHasPitch_14 ?_
      refine j_bipush (v := nI 9) dX3_openHasPitch_17 (by decide) ?_
      refine j_iload_n dX3_openHasPitch_19 3 rfl ?_
      refine j_iaddN dX3_openHasPitch_20 ?_
      refine j_callV (rm := rX3_fact) (As := [.int (nI ev), .int (nI (9 + i))]) (st := []) (b0 := sc) (ci := 3) (na := 2) (c_fact (e := ev) (c := (9 + i)) hs hf (by omega) (by omega)) (by intro E w9 h9; first | exact nomatch h9.1 | (obtain ⟨_, h9, _⟩ := h9; exact nomatch h9)) gX3_openHasPitch_X3_fact rfl rfl hs (by decide +kernel) rfl ⟨Nat.le_of_ble_eq_true rfl, Nat.le_of_ble_eq_true rfl⟩ rfl (Nat.le_of_ble_eq_true rfl) dX3_openHasPitch_21 ⟨(show 0 + 0 ≤ 0 by omega), (show 0 + 0 ≤ 0 by omega)⟩ (fun v1 w2 h3 => ?_)
      obtain ⟨h3, h4⟩ := h3
      cases h3
      subst w2
      refine j_after (st' := [.int (f (ev * 14 + (9 + i)))]) (k' := 0) (n' := 0) rfl rfl rfl ?_
      refine j_iload_n dX3_openHasPitch_24 1 rfl ?_
      refine j_icmp_ne 30 dX3_openHasPitch_25 (by decide) (fun c25 => ?_) (fun c25 => ?_)
      · skip
        refine j_iinc (q := 3) (v := nI (i + 1)) (lv' := [(3, .int (nI (i + 1))), (0, .ref sc), (1, .int p), (2, .int (nI np))]) dX3_openHasPitch_30 rfl (by first | exact nI_1 _ | exact nI_add _ _) (Nat.le_of_ble_eq_true rfl) rfl ?_
        refine j_goto 7 dX3_openHasPitch_33 (by decide) ?_
        refine j_lv (lv' := [(0, .ref sc), (1, .int p), (2, .int (nI np)), (3, .int (nI (i + 1)))]) [1, 2, 3, 0] rfl ?_
        exact ih (i + 1) (by omega) (by omega) (by rw [← hr]; exact (fstN_miss (by omega) (by simpa using c25)).symm)
      · skip
        refine j_iconst (v := nI 1) dX3_openHasPitch_28 (by decide) ?_
        exact j_zret rfl (Or.inr rfl) ⟨by rw [← hr, fstN_hit (by omega) (by simpa using c25)]; rfl, rfl⟩ (show 0 ≤ 0 by omega) (show 0 ≤ 0 by omega) dX3_openHasPitch_29
set_option maxHeartbeats 4000000 in
set_option maxRecDepth 100000 in
theorem c_openHasPitch {w : pW} {sc fa : Nat} {ev be cu st me pa : Nat} {f : Nat → Int32} (hs : w sc = some (.inr (3, [.ref fa, .int (nI ev), .int (nI be), .int (nI cu), .int (nI st), .int (nI me), .int (nI pa)]))) (hf : w fa = some (.inl (0, 1400, .inl f))) {np : Nat} {p : Int32} (hev : ev < 100) (hnp : np ≤ 4) (hp : f (ev * 14 + 1) = nI np) : Ct yX3_openHasPitch wsX3_openHasPitch rX3_openHasPitch [.ref sc, .int p] w (fun o w9 => o = .inl (some (.int (zb (hasP f ev np p).isSome))) ∧ w9 = w) := by
  refine Ct.of (cc := cX3_openHasPitch) (own := RX3) (nm := "openHasPitch") (nL := 4) (ret := (some .boolean)) (by decide) rfl rfl rfl (Nat.le_of_ble_eq_true rfl) ?_
  refine j_lvE (lv' := [(0, .ref sc), (1, .int p)]) rfl ?_
  refine j_aload_n dX3_openHasPitch_0 0 rfl ?_
  refine j_callV (rm := rX3_openPitches) (As := []) (st := []) (b0 := sc) (ci := 3) (na := 0) (c_openPitches hs hf (by omega)) (by intro E w9 h9; first | exact nomatch h9.1 | (obtain ⟨_, h9, _⟩ := h9; exact nomatch h9)) gX3_openHasPitch_X3_openPitches rfl rfl hs (by decide +kernel) rfl ⟨Nat.le_of_ble_eq_true rfl, Nat.le_of_ble_eq_true rfl⟩ rfl (Nat.le_of_ble_eq_true rfl) dX3_openHasPitch_1 ⟨(show 0 + 0 ≤ 0 by omega), (show 0 + 0 ≤ 0 by omega)⟩ (fun v1 w2 h3 => ?_)
  obtain ⟨h3, h4⟩ := h3
  cases h3
  subst w2
  refine j_after (st' := [.int (f (ev * 14 + 1))]) (k' := 0) (n' := 0) rfl rfl rfl ?_
  refine j_eqi (y := nI np) (hp) ?_
  refine j_istore_n (lv' := [(2, .int (nI np)), (0, .ref sc), (1, .int p)]) dX3_openHasPitch_4 (Nat.le_of_ble_eq_true rfl) rfl ?_
  refine j_iconst (v := nI 0) dX3_openHasPitch_5 (by decide) ?_
  refine j_istore_n (lv' := [(3, .int (nI 0)), (2, .int (nI np)), (0, .ref sc), (1, .int p)]) dX3_openHasPitch_6 (Nat.le_of_ble_eq_true rfl) rfl ?_
  refine j_lv (lv' := [(0, .ref sc), (1, .int p), (2, .int (nI np)), (3, .int (nI 0))]) [2, 3, 1, 0] rfl ?_
  exact l_openHasPitch hs hf hev hnp (np + 1) 0 (by omega) (by omega) rfl
/-- a pitch more -/
def adF (f : Nat → Int32) (ev np : Nat) (p : Int32) : Nat → Int32 := upd (upd f (ev * 14 + (9 + np)) p) (ev * 14 + 1) (nI (np + 1))
abbrev rX3_addPitch : Room := { frames := 2, cells := 0, slots := 0, locals := 42 }
theorem flX3_addPitch_15 : FL wsX3_addPitch RX3 15 3 1 := ⟨RX3, TX3, 7, rfl, by decide, by decide +kernel, by decide +kernel⟩
set_option maxHeartbeats 4000000 in
set_option maxRecDepth 100000 in
theorem c_addPitch {w : pW} {sc fa : Nat} {ev be cu st me pa : Nat} {f : Nat → Int32} (hs : w sc = some (.inr (3, [.ref fa, .int (nI ev), .int (nI be), .int (nI cu), .int (nI st), .int (nI me), .int (nI pa)]))) (hf : w fa = some (.inl (0, 1400, .inl f))) {np : Nat} {p : Int32} (hev : ev < 100) (hnp : np < 4) (hp : f (ev * 14 + 1) = nI np) : Ct yX3_addPitch wsX3_addPitch rX3_addPitch [.ref sc, .int p] w (fun o w9 => o = .inl none ∧ w9 = va_up w fa (some (.inl (0, 1400, .inl (adF f ev np p))))) := by
  refine Ct.of (cc := cX3_addPitch) (own := RX3) (nm := "addPitch") (nL := 3) (ret := none) (by decide) rfl rfl rfl (Nat.le_of_ble_eq_true rfl) ?_
  refine j_lvE (lv' := [(0, .ref sc), (1, .int p)]) rfl ?_
  refine j_aload_n dX3_addPitch_0 0 rfl ?_
  refine j_callV (rm := rX3_openPitches) (As := []) (st := []) (b0 := sc) (ci := 3) (na := 0) (c_openPitches hs hf (by omega)) (by intro E w9 h9; first | exact nomatch h9.1 | (obtain ⟨_, h9, _⟩ := h9; exact nomatch h9)) gX3_addPitch_X3_openPitches rfl rfl hs (by decide +kernel) rfl ⟨Nat.le_of_ble_eq_true rfl, Nat.le_of_ble_eq_true rfl⟩ rfl (Nat.le_of_ble_eq_true rfl) dX3_addPitch_1 ⟨(show 0 + 0 ≤ 0 by omega), (show 0 + 0 ≤ 0 by omega)⟩ (fun v1 w2 h3 => ?_)
  obtain ⟨h3, h4⟩ := h3
  cases h3
  subst w2
  refine j_after (st' := [.int (f (ev * 14 + 1))]) (k' := 0) (n' := 0) rfl rfl rfl ?_
  refine j_eqi (y := nI np) (hp) ?_
  refine j_istore_n (lv' := [(2, .int (nI np)), (0, .ref sc), (1, .int p)]) dX3_addPitch_4 (Nat.le_of_ble_eq_true rfl) rfl ?_
  refine j_iload_n dX3_addPitch_5 0 rfl ?_
  refine j_if_ltN (by omega) dX3_addPitch_6 (by decide : _ = ((39 : Nat) : Int)) ?_
  refine j_iload_n dX3_addPitch_9 0 rfl ?_
  refine j_iconst (v := nI 4) dX3_addPitch_10 (by decide) ?_
  refine j_icmp_geN 39 (by omega) (by omega) dX3_addPitch_11 (by decide) (fun c11 => ?_) (fun c11 => ?_)
  · skip
    exfalso; omega
  · skip
    refine j_aload_n dX3_addPitch_14 1 rfl ?_
    refine j_aload_n dX3_addPitch_15 1 rfl ?_
    refine j_get flX3_addPitch_15 hs rfl dX3_addPitch_16 ?_
    refine j_bipush (v := nI 9) dX3_addPitch_19 (by decide) ?_
    refine j_iload_n dX3_addPitch_21 0 rfl ?_
    refine j_iaddN dX3_addPitch_22 ?_
    refine j_iload_n dX3_addPitch_23 2 rfl ?_
    refine j_callV (rm := rX3_write) (As := [.int (nI ev), .int (nI (9 + np)), .int p]) (st := []) (b0 := sc) (ci := 3) (na := 3) (c_write (e := ev) (c := (9 + np)) (v := p) hs hf (by omega) (by omega)) (by intro E w9 h9; first | exact nomatch h9.1 | (obtain ⟨_, h9, _⟩ := h9; exact nomatch h9)) gX3_addPitch_X3_write rfl rfl hs (by decide +kernel) rfl ⟨Nat.le_of_ble_eq_true rfl, Nat.le_of_ble_eq_true rfl⟩ rfl (Nat.le_of_ble_eq_true rfl) dX3_addPitch_24 ⟨(show 0 + 0 ≤ 0 by omega), (show 0 + 0 ≤ 0 by omega)⟩ (fun v5 w6 h7 => ?_)
    obtain ⟨h7, h8⟩ := h7
    cases h7
    -- w6
    refine j_after (st' := []) (k' := 0) (n' := 0) rfl rfl rfl ?_
    have f9 : w6 sc = some (.inr (3, [.ref fa, .int (nI ev), .int (nI be), .int (nI cu), .int (nI st), .int (nI me), .int (nI pa)])) := by rw [h8]; exact (va_up_ne _ _ (fk hs hf rfl)).trans (hs)
    have f10 : w6 fa = some (.inl (0, 1400, .inl (upd f (ev * 14 + (9 + np)) p))) := by rw [h8]; exact va_up_self _ _ _
    refine j_aload_n dX3_addPitch_27 1 rfl ?_
    refine j_aload_n dX3_addPitch_28 1 rfl ?_
    refine j_get flX3_addPitch_15 f9 rfl dX3_addPitch_29 ?_
    refine j_iconst (v := nI 1) dX3_addPitch_32 (by decide) ?_
    refine j_iload_n dX3_addPitch_33 0 rfl ?_
    refine j_iconst (v := nI 1) dX3_addPitch_34 (by decide) ?_
    refine j_iaddN dX3_addPitch_35 ?_
    refine j_callV (rm := rX3_write) (As := [.int (nI ev), .int (nI 1), .int (nI (np + 1))]) (st := []) (b0 := sc) (ci := 3) (na := 3) (c_write (e := ev) (c := 1) (v := nI (np + 1)) f9 f10 (by omega) (by omega)) (by intro E w9 h9; first | exact nomatch h9.1 | (obtain ⟨_, h9, _⟩ := h9; exact nomatch h9)) gX3_addPitch_X3_write rfl rfl f9 (by decide +kernel) rfl ⟨Nat.le_of_ble_eq_true rfl, Nat.le_of_ble_eq_true rfl⟩ rfl (Nat.le_of_ble_eq_true rfl) dX3_addPitch_36 ⟨(show 0 + 0 ≤ 0 by omega), (show 0 + 0 ≤ 0 by omega)⟩ (fun v11 w12 h13 => ?_)
    obtain ⟨h13, h14⟩ := h13
    cases h13
    -- w12
    refine j_after (st' := []) (k' := 0) (n' := 0) rfl rfl rfl ?_
    have f15 : w12 sc = some (.inr (3, [.ref fa, .int (nI ev), .int (nI be), .int (nI cu), .int (nI st), .int (nI me), .int (nI pa)])) := by rw [h14]; exact (va_up_ne _ _ (fk f9 f10 rfl)).trans (f9)
    have f16 : w12 fa = some (.inl (0, 1400, .inl (upd (upd f (ev * 14 + (9 + np)) p) (ev * 14 + 1) (nI (np + 1))))) := by rw [h14]; exact va_up_self _ _ _
    exact j_vret rfl ⟨rfl, by rw [h14, h8] <;> (try simp only [bx_uu]) <;> (try rfl)⟩ (show 0 ≤ 0 by omega) (show 0 ≤ 0 by omega) dX3_addPitch_39
abbrev rX3_allBits : Room := { frames := 1, cells := 0, slots := 0, locals := 22 }
set_option maxHeartbeats 4000000 in
set_option maxRecDepth 100000 in
theorem c_allBits {w : pW} {sc fa : Nat} {ev be cu st me pa : Nat} {f : Nat → Int32} (hs : w sc = some (.inr (3, [.ref fa, .int (nI ev), .int (nI be), .int (nI cu), .int (nI st), .int (nI me), .int (nI pa)]))) (hf : w fa = some (.inl (0, 1400, .inl f))) {e np : Nat} (he : e < 100) (hnp : np ≤ 4) (hp : f (e * 14 + 1) = nI np) : Ct yX3_allBits wsX3_allBits rX3_allBits [.ref sc, .int (nI e)] w (fun o w9 => o = .inl (some (.int (nI (2 ^ np - 1)))) ∧ w9 = w) := by
  refine Ct.of (cc := cX3_allBits) (own := RX3) (nm := "allBits") (nL := 3) (ret := (some .int)) (by decide) rfl rfl rfl (Nat.le_of_ble_eq_true rfl) ?_
  refine j_lvE (lv' := [(0, .ref sc), (1, .int (nI e))]) rfl ?_
  refine j_aload_n dX3_allBits_0 0 rfl ?_
  refine j_iload_n dX3_allBits_1 1 rfl ?_
  refine j_iconst (v := nI 1) dX3_allBits_2 (by decide) ?_
  refine j_callV (rm := rX3_fact) (As := [.int (nI e), .int (nI 1)]) (st := []) (b0 := sc) (ci := 3) (na := 2) (c_fact (e := e) (c := 1) hs hf (by omega) (by omega)) (by intro E w9 h9; first | exact nomatch h9.1 | (obtain ⟨_, h9, _⟩ := h9; exact nomatch h9)) gX3_allBits_X3_fact rfl rfl hs (by decide +kernel) rfl ⟨Nat.le_of_ble_eq_true rfl, Nat.le_of_ble_eq_true rfl⟩ rfl (Nat.le_of_ble_eq_true rfl) dX3_allBits_3 ⟨(show 0 + 0 ≤ 0 by omega), (show 0 + 0 ≤ 0 by omega)⟩ (fun v1 w2 h3 => ?_)
  obtain ⟨h3, h4⟩ := h3
  cases h3
  subst w2
  refine j_after (st' := [.int (f (e * 14 + 1))]) (k' := 0) (n' := 0) rfl rfl rfl ?_
  refine j_eqi (y := nI np) (hp) ?_
  refine j_istore_n (lv' := [(2, .int (nI np)), (0, .ref sc), (1, .int (nI e))]) dX3_allBits_6 (Nat.le_of_ble_eq_true rfl) rfl ?_
  refine j_iload_n dX3_allBits_7 0 rfl ?_
  refine j_if_gtN 15 (by omega) dX3_allBits_8 (by decide) (fun c8 => ?_) (fun c8 => ?_)
  · skip
    refine j_iconst (v := nI 1) dX3_allBits_15 (by decide) ?_
    refine j_iload_n dX3_allBits_16 0 rfl ?_
    refine j_ishl dX3_allBits_17 ?_
    refine j_eqi (y := nI (2 ^ np)) (sh4 (by omega)) ?_
    have h2 := Nat.two_pow_pos np
    refine j_iconst (v := nI 1) dX3_allBits_18 (by decide) ?_
    refine j_isubN (by omega) dX3_allBits_19 ?_
    exact j_iret rfl ⟨rfl, rfl⟩ (show 0 ≤ 0 by omega) (show 0 ≤ 0 by omega) dX3_allBits_20
  · skip
    refine j_iconst (v := nI 0) dX3_allBits_11 (by decide) ?_
    refine j_goto 20 dX3_allBits_12 (by decide) ?_
    exact j_iret rfl ⟨by rw [c8], rfl⟩ (show 0 ≤ 0 by omega) (show 0 ≤ 0 by omega) dX3_allBits_20
abbrev rX3_closeEvent : Room := { frames := 2, cells := 0, slots := 0, locals := 44 }
theorem flX3_closeEvent_15 : FL wsX3_closeEvent RX3 15 3 1 := ⟨RX3, TX3, 7, rfl, by decide, by decide +kernel, by decide +kernel⟩
theorem flX3_closeEvent_19 : FL wsX3_closeEvent RX3 19 3 2 := ⟨RX3, TX3, 7, rfl, by decide, by decide +kernel, by decide +kernel⟩
theorem fsX3_closeEvent_19 : FS wsX3_closeEvent RX3 19 3 2 false (.int) := ⟨RX3, TX3, 7, tyX3, rfl, by decide, by decide +kernel, by decide +kernel, tyX3_ok, nmX3, rfl, rfl, rfl⟩
theorem flX3_closeEvent_22 : FL wsX3_closeEvent RX3 22 3 3 := ⟨RX3, TX3, 7, rfl, by decide, by decide +kernel, by decide +kernel⟩
theorem fsX3_closeEvent_22 : FS wsX3_closeEvent RX3 22 3 3 false (.int) := ⟨RX3, TX3, 7, tyX3, rfl, by decide, by decide +kernel, by decide +kernel, tyX3_ok, nmX3, rfl, rfl, rfl⟩
theorem flX3_closeEvent_25 : FL wsX3_closeEvent RX3 25 3 4 := ⟨RX3, TX3, 7, rfl, by decide, by decide +kernel, by decide +kernel⟩
theorem fsX3_closeEvent_25 : FS wsX3_closeEvent RX3 25 3 4 false (.int) := ⟨RX3, TX3, 7, tyX3, rfl, by decide, by decide +kernel, by decide +kernel, tyX3_ok, nmX3, rfl, rfl, rfl⟩
theorem fsX3_closeEvent_15 : FS wsX3_closeEvent RX3 15 3 1 false (.int) := ⟨RX3, TX3, 7, tyX3, rfl, by decide, by decide +kernel, by decide +kernel, tyX3_ok, nmX3, rfl, rfl, rfl⟩
set_option maxHeartbeats 4000000 in
set_option maxRecDepth 100000 in
theorem c_closeEvent {w : pW} {sc fa : Nat} {ev be cu st me pa : Nat} {f : Nat → Int32} (hs : w sc = some (.inr (3, [.ref fa, .int (nI ev), .int (nI be), .int (nI cu), .int (nI st), .int (nI me), .int (nI pa)]))) (hf : w fa = some (.inl (0, 1400, .inl f))) {nu np cq : Nat} (hev : ev < 100) (hnp : np ≤ 4) (hp : f (ev * 14 + 1) = nI np) (hq : f (ev * 14 + 7) = nI cq) : Ct yX3_closeEvent wsX3_closeEvent rX3_closeEvent [.ref sc, .int (nI nu)] w (fun o w9 => o = .inl none ∧ w9 = va_up (va_up w fa (some (.inl (0, 1400, .inl (upd f (ev * 14 + 3) (nI nu)))))) sc (some (.inr (3, [.ref fa, .int (nI (ev + 1)), .int (nI (be + nu)), .int (nI (cu + cq)), .int (nI (st + (2 ^ np - 1 + 1))), .int (nI me), .int (nI pa)])))) := by
  refine Ct.of (cc := cX3_closeEvent) (own := RX3) (nm := "closeEvent") (nL := 2) (ret := none) (by decide) rfl rfl rfl (Nat.le_of_ble_eq_true rfl) ?_
  refine j_lvE (lv' := [(0, .ref sc), (1, .int (nI nu))]) rfl ?_
  refine j_aload_n dX3_closeEvent_0 0 rfl ?_
  refine j_callV (rm := rX3_isFull) (As := []) (st := []) (b0 := sc) (ci := 3) (na := 0) (c_isFull hs hf (by omega)) (by intro E w9 h9; first | exact nomatch h9.1 | (obtain ⟨_, h9, _⟩ := h9; exact nomatch h9)) gX3_closeEvent_X3_isFull rfl rfl hs (by decide +kernel) rfl ⟨Nat.le_of_ble_eq_true rfl, Nat.le_of_ble_eq_true rfl⟩ rfl (Nat.le_of_ble_eq_true rfl) dX3_closeEvent_1 ⟨(show 0 + 0 ≤ 0 by omega), (show 0 + 0 ≤ 0 by omega)⟩ (fun v1 w2 h3 => ?_)
  obtain ⟨h3, h4⟩ := h3
  cases h3
  subst w2
  refine j_after (st' := [.int (zb (decide (100 ≤ ev)))]) (k' := 0) (n' := 0) rfl rfl rfl ?_
  refine j_if_eq 8 dX3_closeEvent_4 (by decide) (fun c4 => ?_) (fun c4 => ?_)
  · skip
    refine j_aload_n dX3_closeEvent_8 0 rfl ?_
    refine j_aload_n dX3_closeEvent_9 0 rfl ?_
    refine j_get flX3_closeEvent_15 hs rfl dX3_closeEvent_10 ?_
    refine j_iconst (v := nI 3) dX3_closeEvent_13 (by decide) ?_
    refine j_iload_n dX3_closeEvent_14 1 rfl ?_
    refine j_callV (rm := rX3_write) (As := [.int (nI ev), .int (nI 3), .int (nI nu)]) (st := []) (b0 := sc) (ci := 3) (na := 3) (c_write (e := ev) (c := 3) (v := nI nu) hs hf (by omega) (by omega)) (by intro E w9 h9; first | exact nomatch h9.1 | (obtain ⟨_, h9, _⟩ := h9; exact nomatch h9)) gX3_closeEvent_X3_write rfl rfl hs (by decide +kernel) rfl ⟨Nat.le_of_ble_eq_true rfl, Nat.le_of_ble_eq_true rfl⟩ rfl (Nat.le_of_ble_eq_true rfl) dX3_closeEvent_15 ⟨(show 0 + 0 ≤ 0 by omega), (show 0 + 0 ≤ 0 by omega)⟩ (fun v5 w6 h7 => ?_)
    obtain ⟨h7, h8⟩ := h7
    cases h7
    -- w6
    refine j_after (st' := []) (k' := 0) (n' := 0) rfl rfl rfl ?_
    have f9 : w6 sc = some (.inr (3, [.ref fa, .int (nI ev), .int (nI be), .int (nI cu), .int (nI st), .int (nI me), .int (nI pa)])) := by rw [h8]; exact (va_up_ne _ _ (fk hs hf rfl)).trans (hs)
    have f10 : w6 fa = some (.inl (0, 1400, .inl (upd f (ev * 14 + 3) (nI nu)))) := by rw [h8]; exact va_up_self _ _ _
    refine j_aload_n dX3_closeEvent_18 0 rfl ?_
    refine j_dup dX3_closeEvent_19 rfl ?_
    refine j_get flX3_closeEvent_19 f9 rfl dX3_closeEvent_20 ?_
    refine j_iload_n dX3_closeEvent_23 1 rfl ?_
    refine j_iaddN dX3_closeEvent_24 ?_
    refine j_put (fs9 := [.ref fa, .int (nI ev), .int (nI (be + nu)), .int (nI cu), .int (nI st), .int (nI me), .int (nI pa)]) fsX3_closeEvent_19 f9 rfl rfl (Nat.le_of_ble_eq_true rfl) rfl dX3_closeEvent_25 ?_
    refine j_w (fun w11 hw11 => ?_)
    have f12 : w11 sc = some (.inr (3, [.ref fa, .int (nI ev), .int (nI (be + nu)), .int (nI cu), .int (nI st), .int (nI me), .int (nI pa)])) := up_at hw11
    have f13 := up_ne hw11 (fk f10 f9 rfl) f10
    refine j_aload_n dX3_closeEvent_28 0 rfl ?_
    refine j_dup dX3_closeEvent_29 rfl ?_
    refine j_get flX3_closeEvent_22 f12 rfl dX3_closeEvent_30 ?_
    refine j_aload_n dX3_closeEvent_33 0 rfl ?_
    refine j_aload_n dX3_closeEvent_34 0 rfl ?_
    refine j_get flX3_closeEvent_15 f12 rfl dX3_closeEvent_35 ?_
    refine j_bipush (v := nI 7) dX3_closeEvent_38 (by decide) ?_
    refine j_callV (rm := rX3_fact) (As := [.int (nI ev), .int (nI 7)]) (st := [.int (nI cu), .ref sc]) (b0 := sc) (ci := 3) (na := 2) (c_fact (e := ev) (c := 7) f12 f13 (by omega) (by omega)) (by intro E w9 h9; first | exact nomatch h9.1 | (obtain ⟨_, h9, _⟩ := h9; exact nomatch h9)) gX3_closeEvent_X3_fact rfl rfl f12 (by decide +kernel) rfl ⟨Nat.le_of_ble_eq_true rfl, Nat.le_of_ble_eq_true rfl⟩ rfl (Nat.le_of_ble_eq_true rfl) dX3_closeEvent_40 ⟨(show 0 + 0 ≤ 0 by omega), (show 0 + 0 ≤ 0 by omega)⟩ (fun v14 w15 h16 => ?_)
    obtain ⟨h16, h17⟩ := h16
    cases h16
    subst w15
    refine j_after (st' := [.int ((upd f (ev * 14 + 3) (nI nu)) (ev * 14 + 7)), .int (nI cu), .ref sc]) (k' := 0) (n' := 0) rfl rfl rfl ?_
    refine j_eqi (y := nI cq) (by rw [pk_un (by omega)]; exact hq) ?_
    refine j_iaddN dX3_closeEvent_43 ?_
    refine j_put (fs9 := [.ref fa, .int (nI ev), .int (nI (be + nu)), .int (nI (cu + cq)), .int (nI st), .int (nI me), .int (nI pa)]) fsX3_closeEvent_22 f12 rfl rfl (Nat.le_of_ble_eq_true rfl) rfl dX3_closeEvent_44 ?_
    refine j_w (fun w18 hw18 => ?_)
    have f19 : w18 sc = some (.inr (3, [.ref fa, .int (nI ev), .int (nI (be + nu)), .int (nI (cu + cq)), .int (nI st), .int (nI me), .int (nI pa)])) := up_at hw18
    have f20 := up_ne hw18 (fk f13 f12 rfl) f13
    refine j_aload_n dX3_closeEvent_47 0 rfl ?_
    refine j_dup dX3_closeEvent_48 rfl ?_
    refine j_get flX3_closeEvent_25 f19 rfl dX3_closeEvent_49 ?_
    refine j_aload_n dX3_closeEvent_52 0 rfl ?_
    refine j_aload_n dX3_closeEvent_53 0 rfl ?_
    refine j_get flX3_closeEvent_15 f19 rfl dX3_closeEvent_54 ?_
    refine j_callV (rm := rX3_allBits) (As := [.int (nI ev)]) (st := [.int (nI st), .ref sc]) (b0 := sc) (ci := 3) (na := 1) (c_allBits (e := ev) (np := np) f19 f20 (by omega) (by omega) (by rw [pk_un (by omega)]; exact hp)) (by intro E w9 h9; first | exact nomatch h9.1 | (obtain ⟨_, h9, _⟩ := h9; exact nomatch h9)) gX3_closeEvent_X3_allBits rfl rfl f19 (by decide +kernel) rfl ⟨Nat.le_of_ble_eq_true rfl, Nat.le_of_ble_eq_true rfl⟩ rfl (Nat.le_of_ble_eq_true rfl) dX3_closeEvent_57 ⟨(show 0 + 0 ≤ 0 by omega), (show 0 + 0 ≤ 0 by omega)⟩ (fun v21 w22 h23 => ?_)
    obtain ⟨h23, h24⟩ := h23
    cases h23
    subst w22
    refine j_after (st' := [.int (nI (2 ^ np - 1)), .int (nI st), .ref sc]) (k' := 0) (n' := 0) rfl rfl rfl ?_
    refine j_iconst (v := nI 1) dX3_closeEvent_60 (by decide) ?_
    refine j_iaddN dX3_closeEvent_61 ?_
    refine j_iaddN dX3_closeEvent_62 ?_
    refine j_put (fs9 := [.ref fa, .int (nI ev), .int (nI (be + nu)), .int (nI (cu + cq)), .int (nI (st + ((2 ^ np - 1) + 1))), .int (nI me), .int (nI pa)]) fsX3_closeEvent_25 f19 rfl rfl (Nat.le_of_ble_eq_true rfl) rfl dX3_closeEvent_63 ?_
    refine j_w (fun w25 hw25 => ?_)
    have f26 : w25 sc = some (.inr (3, [.ref fa, .int (nI ev), .int (nI (be + nu)), .int (nI (cu + cq)), .int (nI (st + ((2 ^ np - 1) + 1))), .int (nI me), .int (nI pa)])) := up_at hw25
    have f27 := up_ne hw25 (fk f20 f19 rfl) f20
    refine j_aload_n dX3_closeEvent_66 0 rfl ?_
    refine j_dup dX3_closeEvent_67 rfl ?_
    refine j_get flX3_closeEvent_15 f26 rfl dX3_closeEvent_68 ?_
    refine j_iconst (v := nI 1) dX3_closeEvent_71 (by decide) ?_
    refine j_iaddN dX3_closeEvent_72 ?_
    refine j_put (fs9 := [.ref fa, .int (nI (ev + 1)), .int (nI (be + nu)), .int (nI (cu + cq)), .int (nI (st + ((2 ^ np - 1) + 1))), .int (nI me), .int (nI pa)]) fsX3_closeEvent_15 f26 rfl rfl (Nat.le_of_ble_eq_true rfl) rfl dX3_closeEvent_73 ?_
    refine j_w (fun w28 hw28 => ?_)
    have f29 : w28 sc = some (.inr (3, [.ref fa, .int (nI (ev + 1)), .int (nI (be + nu)), .int (nI (cu + cq)), .int (nI (st + ((2 ^ np - 1) + 1))), .int (nI me), .int (nI pa)])) := up_at hw28
    have f30 := up_ne hw28 (fk f27 f26 rfl) f27
    exact j_vret rfl ⟨rfl, by rw [hw28, hw25, hw18, hw11, h8] <;> (try simp only [bx_uu]) <;> (try rfl)⟩ (show 0 ≤ 0 by omega) (show 0 ≤ 0 by omega) dX3_closeEvent_76
  · skip
    exfalso; have := of_decide_eq_true (zb_n' c4); omega
abbrev rX3_repeatFrom : Room := { frames := 1, cells := 0, slots := 0, locals := 23 }
theorem flX3_repeatFrom_15 : FL wsX3_repeatFrom RX3 15 3 1 := ⟨RX3, TX3, 7, rfl, by decide, by decide +kernel, by decide +kernel⟩
set_option maxHeartbeats 4000000 in
set_option maxRecDepth 100000 in
theorem c_repeatFrom {w : pW} {sc fa : Nat} {ev be cu st me pa : Nat} {f : Nat → Int32} (hs : w sc = some (.inr (3, [.ref fa, .int (nI ev), .int (nI be), .int (nI cu), .int (nI st), .int (nI me), .int (nI pa)]))) (hf : w fa = some (.inl (0, 1400, .inl f))) {v : Int32} (hev : ev ≤ 100) (h1 : 1 ≤ ev) : Ct yX3_repeatFrom wsX3_repeatFrom rX3_repeatFrom [.ref sc, .int v] w (fun o w9 => o = .inl none ∧ w9 = va_up w fa (some (.inl (0, 1400, .inl (upd f ((ev - 1) * 14 + 8) v))))) := by
  refine Ct.of (cc := cX3_repeatFrom) (own := RX3) (nm := "repeatFrom") (nL := 2) (ret := none) (by decide) rfl rfl rfl (Nat.le_of_ble_eq_true rfl) ?_
  refine j_lvE (lv' := [(0, .ref sc), (1, .int v)]) rfl ?_
  refine j_aload_n dX3_repeatFrom_0 0 rfl ?_
  refine j_aload_n dX3_repeatFrom_1 0 rfl ?_
  refine j_get flX3_repeatFrom_15 hs rfl dX3_repeatFrom_2 ?_
  refine j_iconst (v := nI 1) dX3_repeatFrom_5 (by decide) ?_
  refine j_isubN (by omega) dX3_repeatFrom_6 ?_
  refine j_bipush (v := nI 8) dX3_repeatFrom_7 (by decide) ?_
  refine j_iload_n dX3_repeatFrom_9 1 rfl ?_
  refine j_callV (rm := rX3_write) (As := [.int (nI (ev - 1)), .int (nI 8), .int v]) (st := []) (b0 := sc) (ci := 3) (na := 3) (c_write (e := (ev - 1)) (c := 8) (v := v) hs hf (by omega) (by omega)) (by intro E w9 h9; first | exact nomatch h9.1 | (obtain ⟨_, h9, _⟩ := h9; exact nomatch h9)) gX3_repeatFrom_X3_write rfl rfl hs (by decide +kernel) rfl ⟨Nat.le_of_ble_eq_true rfl, Nat.le_of_ble_eq_true rfl⟩ rfl (Nat.le_of_ble_eq_true rfl) dX3_repeatFrom_10 ⟨(show 0 + 0 ≤ 0 by omega), (show 0 + 0 ≤ 0 by omega)⟩ (fun v1 w2 h3 => ?_)
  obtain ⟨h3, h4⟩ := h3
  cases h3
  -- w2
  refine j_after (st' := []) (k' := 0) (n' := 0) rfl rfl rfl ?_
  have f5 : w2 sc = some (.inr (3, [.ref fa, .int (nI ev), .int (nI be), .int (nI cu), .int (nI st), .int (nI me), .int (nI pa)])) := by rw [h4]; exact (va_up_ne _ _ (fk hs hf rfl)).trans (hs)
  have f6 : w2 fa = some (.inl (0, 1400, .inl (upd f ((ev - 1) * 14 + 8) v))) := by rw [h4]; exact va_up_self _ _ _
  exact j_vret rfl ⟨rfl, by rw [h4] <;> (try simp only [bx_uu]) <;> (try rfl)⟩ (show 0 ≤ 0 by omega) (show 0 ≤ 0 by omega) dX3_repeatFrom_13
abbrev rX3_endMeasure : Room := { frames := 0, cells := 0, slots := 0, locals := 0 }
theorem flX3_endMeasure_28 : FL wsX3_endMeasure RX3 28 3 5 := ⟨RX3, TX3, 7, rfl, by decide, by decide +kernel, by decide +kernel⟩
theorem fsX3_endMeasure_28 : FS wsX3_endMeasure RX3 28 3 5 false (.int) := ⟨RX3, TX3, 7, tyX3, rfl, by decide, by decide +kernel, by decide +kernel, tyX3_ok, nmX3, rfl, rfl, rfl⟩
set_option maxHeartbeats 4000000 in
set_option maxRecDepth 100000 in
theorem c_endMeasure {w : pW} {sc fa : Nat} {ev be cu st me pa : Nat} {f : Nat → Int32} (hs : w sc = some (.inr (3, [.ref fa, .int (nI ev), .int (nI be), .int (nI cu), .int (nI st), .int (nI me), .int (nI pa)]))) (hf : w fa = some (.inl (0, 1400, .inl f))) : Ct yX3_endMeasure wsX3_endMeasure rX3_endMeasure [.ref sc] w (fun o w9 => o = .inl none ∧ w9 = va_up w sc (some (.inr (3, [.ref fa, .int (nI ev), .int (nI be), .int (nI cu), .int (nI st), .int (nI (me + 1)), .int (nI pa)])))) := by
  refine Ct.of (cc := cX3_endMeasure) (own := RX3) (nm := "endMeasure") (nL := 1) (ret := none) (by decide) rfl rfl rfl (Nat.le_of_ble_eq_true rfl) ?_
  refine j_lvE (lv' := [(0, .ref sc)]) rfl ?_
  refine j_aload_n dX3_endMeasure_0 0 rfl ?_
  refine j_dup dX3_endMeasure_1 rfl ?_
  refine j_get flX3_endMeasure_28 hs rfl dX3_endMeasure_2 ?_
  refine j_iconst (v := nI 1) dX3_endMeasure_5 (by decide) ?_
  refine j_iaddN dX3_endMeasure_6 ?_
  refine j_put (fs9 := [.ref fa, .int (nI ev), .int (nI be), .int (nI cu), .int (nI st), .int (nI (me + 1)), .int (nI pa)]) fsX3_endMeasure_28 hs rfl rfl (Nat.le_of_ble_eq_true rfl) rfl dX3_endMeasure_7 ?_
  refine j_w (fun w1 hw1 => ?_)
  have f2 : w1 sc = some (.inr (3, [.ref fa, .int (nI ev), .int (nI be), .int (nI cu), .int (nI st), .int (nI (me + 1)), .int (nI pa)])) := up_at hw1
  have f3 := up_ne hw1 (fk hf hs rfl) hf
  exact j_vret rfl ⟨rfl, by rw [hw1] <;> (try simp only [bx_uu]) <;> (try rfl)⟩ (show 0 ≤ 0 by omega) (show 0 ≤ 0 by omega) dX3_endMeasure_10
abbrev rX3_endPage : Room := { frames := 0, cells := 0, slots := 0, locals := 0 }
theorem flX3_endPage_31 : FL wsX3_endPage RX3 31 3 6 := ⟨RX3, TX3, 7, rfl, by decide, by decide +kernel, by decide +kernel⟩
theorem fsX3_endPage_31 : FS wsX3_endPage RX3 31 3 6 false (.int) := ⟨RX3, TX3, 7, tyX3, rfl, by decide, by decide +kernel, by decide +kernel, tyX3_ok, nmX3, rfl, rfl, rfl⟩
set_option maxHeartbeats 4000000 in
set_option maxRecDepth 100000 in
theorem c_endPage {w : pW} {sc fa : Nat} {ev be cu st me pa : Nat} {f : Nat → Int32} (hs : w sc = some (.inr (3, [.ref fa, .int (nI ev), .int (nI be), .int (nI cu), .int (nI st), .int (nI me), .int (nI pa)]))) (hf : w fa = some (.inl (0, 1400, .inl f))) : Ct yX3_endPage wsX3_endPage rX3_endPage [.ref sc] w (fun o w9 => o = .inl none ∧ w9 = va_up w sc (some (.inr (3, [.ref fa, .int (nI ev), .int (nI be), .int (nI cu), .int (nI st), .int (nI me), .int (nI (pa + 1))])))) := by
  refine Ct.of (cc := cX3_endPage) (own := RX3) (nm := "endPage") (nL := 1) (ret := none) (by decide) rfl rfl rfl (Nat.le_of_ble_eq_true rfl) ?_
  refine j_lvE (lv' := [(0, .ref sc)]) rfl ?_
  refine j_aload_n dX3_endPage_0 0 rfl ?_
  refine j_dup dX3_endPage_1 rfl ?_
  refine j_get flX3_endPage_31 hs rfl dX3_endPage_2 ?_
  refine j_iconst (v := nI 1) dX3_endPage_5 (by decide) ?_
  refine j_iaddN dX3_endPage_6 ?_
  refine j_put (fs9 := [.ref fa, .int (nI ev), .int (nI be), .int (nI cu), .int (nI st), .int (nI me), .int (nI (pa + 1))]) fsX3_endPage_31 hs rfl rfl (Nat.le_of_ble_eq_true rfl) rfl dX3_endPage_7 ?_
  refine j_w (fun w1 hw1 => ?_)
  have f2 : w1 sc = some (.inr (3, [.ref fa, .int (nI ev), .int (nI be), .int (nI cu), .int (nI st), .int (nI me), .int (nI (pa + 1))])) := up_at hw1
  have f3 := up_ne hw1 (fk hf hs rfl) hf
  exact j_vret rfl ⟨rfl, by rw [hw1] <;> (try simp only [bx_uu]) <;> (try rfl)⟩ (show 0 ≤ 0 by omega) (show 0 ≤ 0 by omega) dX3_endPage_10
abbrev rX3_measuresWithEvents : Room := { frames := 1, cells := 0, slots := 0, locals := 22 }
theorem flX3_measuresWithEvents_15 : FL wsX3_measuresWithEvents RX3 15 3 1 := ⟨RX3, TX3, 7, rfl, by decide, by decide +kernel, by decide +kernel⟩
set_option maxHeartbeats 4000000 in
set_option maxRecDepth 100000 in
theorem c_measuresWithEvents {w : pW} {sc fa : Nat} {ev be cu st me pa : Nat} {f : Nat → Int32} (hs : w sc = some (.inr (3, [.ref fa, .int (nI ev), .int (nI be), .int (nI cu), .int (nI st), .int (nI me), .int (nI pa)]))) (hf : w fa = some (.inl (0, 1400, .inl f))) (hev : ev ≤ 100) : Ct yX3_measuresWithEvents wsX3_measuresWithEvents rX3_measuresWithEvents [.ref sc] w (fun o w9 => o = .inl (some (.int (if ev = 0 then nI 0 else f ((ev - 1) * 14 + 4) + nI 1))) ∧ w9 = w) := by
  refine Ct.of (cc := cX3_measuresWithEvents) (own := RX3) (nm := "measuresWithEvents") (nL := 1) (ret := (some .int)) (by decide) rfl rfl rfl (Nat.le_of_ble_eq_true rfl) ?_
  refine j_lvE (lv' := [(0, .ref sc)]) rfl ?_
  refine j_aload_n dX3_measuresWithEvents_0 0 rfl ?_
  refine j_get flX3_measuresWithEvents_15 hs rfl dX3_measuresWithEvents_1 ?_
  refine j_if_neN 11 (by omega) dX3_measuresWithEvents_4 (by decide) (fun c4 => ?_) (fun c4 => ?_)
  · skip
    refine j_aload_n dX3_measuresWithEvents_11 0 rfl ?_
    refine j_aload_n dX3_measuresWithEvents_12 0 rfl ?_
    refine j_get flX3_measuresWithEvents_15 hs rfl dX3_measuresWithEvents_13 ?_
    refine j_iconst (v := nI 1) dX3_measuresWithEvents_16 (by decide) ?_
    refine j_isubN (by omega) dX3_measuresWithEvents_17 ?_
    refine j_iconst (v := nI 4) dX3_measuresWithEvents_18 (by decide) ?_
    refine j_callV (rm := rX3_fact) (As := [.int (nI (ev - 1)), .int (nI 4)]) (st := []) (b0 := sc) (ci := 3) (na := 2) (c_fact (e := (ev - 1)) (c := 4) hs hf (by omega) (by omega)) (by intro E w9 h9; first | exact nomatch h9.1 | (obtain ⟨_, h9, _⟩ := h9; exact nomatch h9)) gX3_measuresWithEvents_X3_fact rfl rfl hs (by decide +kernel) rfl ⟨Nat.le_of_ble_eq_true rfl, Nat.le_of_ble_eq_true rfl⟩ rfl (Nat.le_of_ble_eq_true rfl) dX3_measuresWithEvents_19 ⟨(show 0 + 0 ≤ 0 by omega), (show 0 + 0 ≤ 0 by omega)⟩ (fun v1 w2 h3 => ?_)
    obtain ⟨h3, h4⟩ := h3
    cases h3
    subst w2
    refine j_after (st' := [.int (f ((ev - 1) * 14 + 4))]) (k' := 0) (n' := 0) rfl rfl rfl ?_
    refine j_iconst (v := nI 1) dX3_measuresWithEvents_22 (by decide) ?_
    refine j_iadd dX3_measuresWithEvents_23 ?_
    exact j_iret rfl ⟨by rw [if_neg (by omega)], rfl⟩ (show 0 ≤ 0 by omega) (show 0 ≤ 0 by omega) dX3_measuresWithEvents_24
  · skip
    refine j_iconst (v := nI 0) dX3_measuresWithEvents_7 (by decide) ?_
    refine j_goto 24 dX3_measuresWithEvents_8 (by decide) ?_
    exact j_iret rfl ⟨by rw [if_pos (by omega)], rfl⟩ (show 0 ≤ 0 by omega) (show 0 ≤ 0 by omega) dX3_measuresWithEvents_24
abbrev rX3_pagesWithEvents : Room := { frames := 1, cells := 0, slots := 0, locals := 22 }
theorem flX3_pagesWithEvents_15 : FL wsX3_pagesWithEvents RX3 15 3 1 := ⟨RX3, TX3, 7, rfl, by decide, by decide +kernel, by decide +kernel⟩
set_option maxHeartbeats 4000000 in
set_option maxRecDepth 100000 in
theorem c_pagesWithEvents {w : pW} {sc fa : Nat} {ev be cu st me pa : Nat} {f : Nat → Int32} (hs : w sc = some (.inr (3, [.ref fa, .int (nI ev), .int (nI be), .int (nI cu), .int (nI st), .int (nI me), .int (nI pa)]))) (hf : w fa = some (.inl (0, 1400, .inl f))) (hev : ev ≤ 100) : Ct yX3_pagesWithEvents wsX3_pagesWithEvents rX3_pagesWithEvents [.ref sc] w (fun o w9 => o = .inl (some (.int (if ev = 0 then nI 0 else f ((ev - 1) * 14 + 5) + nI 1))) ∧ w9 = w) := by
  refine Ct.of (cc := cX3_pagesWithEvents) (own := RX3) (nm := "pagesWithEvents") (nL := 1) (ret := (some .int)) (by decide) rfl rfl rfl (Nat.le_of_ble_eq_true rfl) ?_
  refine j_lvE (lv' := [(0, .ref sc)]) rfl ?_
  refine j_aload_n dX3_pagesWithEvents_0 0 rfl ?_
  refine j_get flX3_pagesWithEvents_15 hs rfl dX3_pagesWithEvents_1 ?_
  refine j_if_neN 11 (by omega) dX3_pagesWithEvents_4 (by decide) (fun c4 => ?_) (fun c4 => ?_)
  · skip
    refine j_aload_n dX3_pagesWithEvents_11 0 rfl ?_
    refine j_aload_n dX3_pagesWithEvents_12 0 rfl ?_
    refine j_get flX3_pagesWithEvents_15 hs rfl dX3_pagesWithEvents_13 ?_
    refine j_iconst (v := nI 1) dX3_pagesWithEvents_16 (by decide) ?_
    refine j_isubN (by omega) dX3_pagesWithEvents_17 ?_
    refine j_iconst (v := nI 5) dX3_pagesWithEvents_18 (by decide) ?_
    refine j_callV (rm := rX3_fact) (As := [.int (nI (ev - 1)), .int (nI 5)]) (st := []) (b0 := sc) (ci := 3) (na := 2) (c_fact (e := (ev - 1)) (c := 5) hs hf (by omega) (by omega)) (by intro E w9 h9; first | exact nomatch h9.1 | (obtain ⟨_, h9, _⟩ := h9; exact nomatch h9)) gX3_pagesWithEvents_X3_fact rfl rfl hs (by decide +kernel) rfl ⟨Nat.le_of_ble_eq_true rfl, Nat.le_of_ble_eq_true rfl⟩ rfl (Nat.le_of_ble_eq_true rfl) dX3_pagesWithEvents_19 ⟨(show 0 + 0 ≤ 0 by omega), (show 0 + 0 ≤ 0 by omega)⟩ (fun v1 w2 h3 => ?_)
    obtain ⟨h3, h4⟩ := h3
    cases h3
    subst w2
    refine j_after (st' := [.int (f ((ev - 1) * 14 + 5))]) (k' := 0) (n' := 0) rfl rfl rfl ?_
    refine j_iconst (v := nI 1) dX3_pagesWithEvents_22 (by decide) ?_
    refine j_iadd dX3_pagesWithEvents_23 ?_
    exact j_iret rfl ⟨by rw [if_neg (by omega)], rfl⟩ (show 0 ≤ 0 by omega) (show 0 ≤ 0 by omega) dX3_pagesWithEvents_24
  · skip
    refine j_iconst (v := nI 0) dX3_pagesWithEvents_7 (by decide) ?_
    refine j_goto 24 dX3_pagesWithEvents_8 (by decide) ?_
    exact j_iret rfl ⟨by rw [if_pos (by omega)], rfl⟩ (show 0 ≤ 0 by omega) (show 0 ≤ 0 by omega) dX3_pagesWithEvents_24
/-- the first event behind e on another page -/
def nxP (f : Nat → Int32) (ev e : Nat) : Option Nat := fstN (fun j => !(f (j * 14 + 5) == f (e * 14 + 5))) (ev - (e + 1)) (e + 1)
abbrev rX3_firstOfNextPage : Room := { frames := 1, cells := 0, slots := 0, locals := 22 }
theorem flX3_firstOfNextPage_15 : FL wsX3_firstOfNextPage RX3 15 3 1 := ⟨RX3, TX3, 7, rfl, by decide, by decide +kernel, by decide +kernel⟩
set_option maxHeartbeats 4000000 in
set_option maxRecDepth 100000 in
theorem l_firstOfNextPage {w : pW} {sc fa : Nat} {ev be cu st me pa : Nat} {f : Nat → Int32} (hs : w sc = some (.inr (3, [.ref fa, .int (nI ev), .int (nI be), .int (nI cu), .int (nI st), .int (nI me), .int (nI pa)]))) (hf : w fa = some (.inl (0, 1400, .inl f))) {e : Nat} {r : Option Nat} (hev : ev ≤ 100) (he : e < 100) : ∀ (m9 : Nat) (i : Nat), 101 - i < m9 → i ≤ 101 → fstN (fun j => !(f (j * 14 + 5) == f (e * 14 + 5))) (ev - i) i = r → J ((cX3_firstOfNextPage, RX3, 4, wsX3_firstOfNextPage), (rX3_firstOfNextPage, (some .int), "firstOfNextPage", []), fun o w9 => o = .inl (some (.int (on1 r))) ∧ w9 = w, fun _ _ _ => True) 11 [(0, .ref sc), (1, .int (nI e)), (2, .int (f (e * 14 + 5))), (3, .int (nI i))] [] w 0 0 := by
  intro m9
  induction m9 with
  | zero => intro i h9; omega
  | succ m9 ih =>
    intro i hm9 hi hr
    refine j_iload_n dX3_firstOfNextPage_11 3 rfl ?_
    refine j_aload_n dX3_firstOfNextPage_12 0 rfl ?_
    refine j_get flX3_firstOfNextPage_15 hs rfl dX3_firstOfNextPage_13 ?_
    refine j_icmp_geN 37 (by omega) (by omega) dX3_firstOfNextPage_16 (by decide) (fun c16 => ?_) (fun c16 => ?_)
    · skip
      refine j_iconst (v := (-1)) dX3_firstOfNextPage_37 (by decide) ?_
      exact j_iret rfl ⟨by rw [← hr, fstN_end (by omega)]; rfl, rfl⟩ (show 0 ≤ 0 by omega) (show 0 ≤ 0 by omega) dX3_firstOfNextPage_38
    · skip
      refine j_aload_n dX3_firstOfNextPage_19 0 rfl ?_
      refine j_iload_n dX3_firstOfNextPage_20 3 rfl ?_
      refine j_iconst (v := nI 5) dX3_firstOfNextPage_21 (by decide) ?_
      refine j_callV (rm := rX3_fact) (As := [.int (nI i), .int (nI 5)]) (st := []) (b0 := sc) (ci := 3) (na := 2) (c_fact (e := i) (c := 5) hs hf (by omega) (by omega)) (by intro E w9 h9; first | exact nomatch h9.1 | (obtain ⟨_, h9, _⟩ := h9; exact nomatch h9)) gX3_firstOfNextPage_X3_fact rfl rfl hs (by decide +kernel) rfl ⟨Nat.le_of_ble_eq_true rfl, Nat.le_of_ble_eq_true rfl⟩ rfl (Nat.le_of_ble_eq_true rfl) dX3_firstOfNextPage_22 ⟨(show 0 + 0 ≤ 0 by omega), (show 0 + 0 ≤ 0 by omega)⟩ (fun v1 w2 h3 => ?_)
      obtain ⟨h3, h4⟩ := h3
      cases h3
      subst w2
      refine j_after (st' := [.int (f (i * 14 + 5))]) (k' := 0) (n' := 0) rfl rfl rfl ?_
      refine j_iload_n dX3_firstOfNextPage_25 2 rfl ?_
      refine j_icmp_eq 31 dX3_firstOfNextPage_26 (by decide) (fun c26 => ?_) (fun c26 => ?_)
      · skip
        refine j_iinc (q := 3) (v := nI (i + 1)) (lv' := [(3, .int (nI (i + 1))), (0, .ref sc), (1, .int (nI e)), (2, .int (f (e * 14 + 5)))]) dX3_firstOfNextPage_31 rfl (by first | exact nI_1 _ | exact nI_add _ _) (Nat.le_of_ble_eq_true rfl) rfl ?_
        refine j_goto 11 dX3_firstOfNextPage_34 (by decide) ?_
        refine j_lv (lv' := [(0, .ref sc), (1, .int (nI e)), (2, .int (f (e * 14 + 5))), (3, .int (nI (i + 1)))]) [1, 2, 3, 0] rfl ?_
        exact ih (i + 1) (by omega) (by omega) (by rw [← hr]; exact (fstN_miss (by omega) (by simpa using c26)).symm)
      · skip
        refine j_iload_n dX3_firstOfNextPage_29 3 rfl ?_
        exact j_iret rfl ⟨by rw [← hr, fstN_hit (by omega) (by simpa using c26)]; rfl, rfl⟩ (show 0 ≤ 0 by omega) (show 0 ≤ 0 by omega) dX3_firstOfNextPage_30
set_option maxHeartbeats 4000000 in
set_option maxRecDepth 100000 in
theorem c_firstOfNextPage {w : pW} {sc fa : Nat} {ev be cu st me pa : Nat} {f : Nat → Int32} (hs : w sc = some (.inr (3, [.ref fa, .int (nI ev), .int (nI be), .int (nI cu), .int (nI st), .int (nI me), .int (nI pa)]))) (hf : w fa = some (.inl (0, 1400, .inl f))) {e : Nat} (hev : ev ≤ 100) (he : e < 100) : Ct yX3_firstOfNextPage wsX3_firstOfNextPage rX3_firstOfNextPage [.ref sc, .int (nI e)] w (fun o w9 => o = .inl (some (.int (on1 (nxP f ev e)))) ∧ w9 = w) := by
  refine Ct.of (cc := cX3_firstOfNextPage) (own := RX3) (nm := "firstOfNextPage") (nL := 4) (ret := (some .int)) (by decide) rfl rfl rfl (Nat.le_of_ble_eq_true rfl) ?_
  refine j_lvE (lv' := [(0, .ref sc), (1, .int (nI e))]) rfl ?_
  refine j_aload_n dX3_firstOfNextPage_0 0 rfl ?_
  refine j_iload_n dX3_firstOfNextPage_1 1 rfl ?_
  refine j_iconst (v := nI 5) dX3_firstOfNextPage_2 (by decide) ?_
  refine j_callV (rm := rX3_fact) (As := [.int (nI e), .int (nI 5)]) (st := []) (b0 := sc) (ci := 3) (na := 2) (c_fact (e := e) (c := 5) hs hf (by omega) (by omega)) (by intro E w9 h9; first | exact nomatch h9.1 | (obtain ⟨_, h9, _⟩ := h9; exact nomatch h9)) gX3_firstOfNextPage_X3_fact rfl rfl hs (by decide +kernel) rfl ⟨Nat.le_of_ble_eq_true rfl, Nat.le_of_ble_eq_true rfl⟩ rfl (Nat.le_of_ble_eq_true rfl) dX3_firstOfNextPage_3 ⟨(show 0 + 0 ≤ 0 by omega), (show 0 + 0 ≤ 0 by omega)⟩ (fun v1 w2 h3 => ?_)
  obtain ⟨h3, h4⟩ := h3
  cases h3
  subst w2
  refine j_after (st' := [.int (f (e * 14 + 5))]) (k' := 0) (n' := 0) rfl rfl rfl ?_
  refine j_istore_n (lv' := [(2, .int (f (e * 14 + 5))), (0, .ref sc), (1, .int (nI e))]) dX3_firstOfNextPage_6 (Nat.le_of_ble_eq_true rfl) rfl ?_
  refine j_iload_n dX3_firstOfNextPage_7 2 rfl ?_
  refine j_iconst (v := nI 1) dX3_firstOfNextPage_8 (by decide) ?_
  refine j_iaddN dX3_firstOfNextPage_9 ?_
  refine j_istore_n (lv' := [(3, .int (nI (e + 1))), (2, .int (f (e * 14 + 5))), (0, .ref sc), (1, .int (nI e))]) dX3_firstOfNextPage_10 (Nat.le_of_ble_eq_true rfl) rfl ?_
  refine j_lv (lv' := [(0, .ref sc), (1, .int (nI e)), (2, .int (f (e * 14 + 5))), (3, .int (nI (e + 1)))]) [2, 3, 1, 0] rfl ?_
  exact l_firstOfNextPage hs hf hev he 102 (e + 1) (by omega) (by omega) rfl
/-- the first event from e on with a cue -/
def cuF (f : Nat → Int32) (ev e : Nat) : Option Nat := fstN (fun j => f (j * 14 + 7) == nI 1) (ev - e) e
abbrev rX3_cueFrom : Room := { frames := 1, cells := 0, slots := 0, locals := 22 }
theorem flX3_cueFrom_15 : FL wsX3_cueFrom RX3 15 3 1 := ⟨RX3, TX3, 7, rfl, by decide, by decide +kernel, by decide +kernel⟩
set_option maxHeartbeats 4000000 in
set_option maxRecDepth 100000 in
theorem l_cueFrom {w : pW} {sc fa : Nat} {ev be cu st me pa : Nat} {f : Nat → Int32} (hs : w sc = some (.inr (3, [.ref fa, .int (nI ev), .int (nI be), .int (nI cu), .int (nI st), .int (nI me), .int (nI pa)]))) (hf : w fa = some (.inl (0, 1400, .inl f))) {e : Nat} {r : Option Nat} (hev : ev ≤ 100) : ∀ (m9 : Nat) (i : Nat), 101 - i < m9 → i ≤ 101 → fstN (fun j => f (j * 14 + 7) == nI 1) (ev - i) i = r → J ((cX3_cueFrom, RX3, 3, wsX3_cueFrom), (rX3_cueFrom, (some .int), "cueFrom", []), fun o w9 => o = .inl (some (.int (on1 r))) ∧ w9 = w, fun _ _ _ => True) 2 [(0, .ref sc), (1, .int (nI e)), (2, .int (nI i))] [] w 0 0 := by
  intro m9
  induction m9 with
  | zero => intro i h9; omega
  | succ m9 ih =>
    intro i hm9 hi hr
    refine j_iload_n dX3_cueFrom_2 2 rfl ?_
    refine j_aload_n dX3_cueFrom_3 0 rfl ?_
    refine j_get flX3_cueFrom_15 hs rfl dX3_cueFrom_4 ?_
    refine j_icmp_geN 29 (by omega) (by omega) dX3_cueFrom_7 (by decide) (fun c7 => ?_) (fun c7 => ?_)
    · skip
      refine j_iconst (v := (-1)) dX3_cueFrom_29 (by decide) ?_
      exact j_iret rfl ⟨by rw [← hr, fstN_end (by omega)]; rfl, rfl⟩ (show 0 ≤ 0 by omega) (show 0 ≤ 0 by omega) dX3_cueFrom_30
    · skip
      refine j_aload_n dX3_cueFrom_10 0 rfl ?_
      refine j_iload_n dX3_cueFrom_11 2 rfl ?_
      refine j_bipush (v := nI 7) dX3_cueFrom_12 (by decide) ?_
      refine j_callV (rm := rX3_fact) (As := [.int (nI i), .int (nI 7)]) (st := []) (b0 := sc) (ci := 3) (na := 2) (c_fact (e := i) (c := 7) hs hf (by omega) (by omega)) (by intro E w9 h9; first | exact nomatch h9.1 | (obtain ⟨_, h9, _⟩ := h9; exact nomatch h9)) gX3_cueFrom_X3_fact rfl rfl hs (by decide +kernel) rfl ⟨Nat.le_of_ble_eq_true rfl, Nat.le_of_ble_eq_true rfl⟩ rfl (Nat.le_of_ble_eq_true rfl) dX3_cueFrom_14 ⟨(show 0 + 0 ≤ 0 by omega), (show 0 + 0 ≤ 0 by omega)⟩ (fun v1 w2 h3 => ?_)
      obtain ⟨h3, h4⟩ := h3
      cases h3
      subst w2
      refine j_after (st' := [.int (f (i * 14 + 7))]) (k' := 0) (n' := 0) rfl rfl rfl ?_
      refine j_iconst (v := nI 1) dX3_cueFrom_17 (by decide) ?_
      refine j_icmp_ne 23 dX3_cueFrom_18 (by decide) (fun c18 => ?_) (fun c18 => ?_)
      · skip
        refine j_iinc (q := 2) (v := nI (i + 1)) (lv' := [(2, .int (nI (i + 1))), (0, .ref sc), (1, .int (nI e))]) dX3_cueFrom_23 rfl (by first | exact nI_1 _ | exact nI_add _ _) (Nat.le_of_ble_eq_true rfl) rfl ?_
        refine j_goto 2 dX3_cueFrom_26 (by decide) ?_
        refine j_lv (lv' := [(0, .ref sc), (1, .int (nI e)), (2, .int (nI (i + 1)))]) [1, 2, 0] rfl ?_
        exact ih (i + 1) (by omega) (by omega) (by rw [← hr]; exact (fstN_miss (by omega) (by simpa using c18)).symm)
      · skip
        refine j_iload_n dX3_cueFrom_21 2 rfl ?_
        exact j_iret rfl ⟨by rw [← hr, fstN_hit (by omega) (by simpa using c18)]; rfl, rfl⟩ (show 0 ≤ 0 by omega) (show 0 ≤ 0 by omega) dX3_cueFrom_22
set_option maxHeartbeats 4000000 in
set_option maxRecDepth 100000 in
theorem c_cueFrom {w : pW} {sc fa : Nat} {ev be cu st me pa : Nat} {f : Nat → Int32} (hs : w sc = some (.inr (3, [.ref fa, .int (nI ev), .int (nI be), .int (nI cu), .int (nI st), .int (nI me), .int (nI pa)]))) (hf : w fa = some (.inl (0, 1400, .inl f))) {e : Nat} (hev : ev ≤ 100) (he : e ≤ 100) : Ct yX3_cueFrom wsX3_cueFrom rX3_cueFrom [.ref sc, .int (nI e)] w (fun o w9 => o = .inl (some (.int (on1 (cuF f ev e)))) ∧ w9 = w) := by
  refine Ct.of (cc := cX3_cueFrom) (own := RX3) (nm := "cueFrom") (nL := 3) (ret := (some .int)) (by decide) rfl rfl rfl (Nat.le_of_ble_eq_true rfl) ?_
  refine j_lvE (lv' := [(0, .ref sc), (1, .int (nI e))]) rfl ?_
  refine j_iload_n dX3_cueFrom_0 1 rfl ?_
  refine j_istore_n (lv' := [(2, .int (nI e)), (0, .ref sc), (1, .int (nI e))]) dX3_cueFrom_1 (Nat.le_of_ble_eq_true rfl) rfl ?_
  refine j_lv (lv' := [(0, .ref sc), (1, .int (nI e)), (2, .int (nI e))]) [1, 2, 0] rfl ?_
  exact l_cueFrom hs hf hev 102 e (by omega) (by omega) rfl
/-- the first pitch that the note hits -/
def hiQ (f : Nat → Int32) (e no rc : Nat) : Nat → Bool := fun i => decide (ab (nI no - f (e * 14 + (9 + i))) ≤ nI rc)
def rcK (kd : Nat) : Nat := if kd = 2 then 1 else 0
def riB (f : Nat → Int32) (e no kd np : Nat) : Nat := r2 (fstN (hiQ f e no (rcK kd)) np 0)
abbrev rX3_rightBit : Room := { frames := 1, cells := 0, slots := 0, locals := 24 }
set_option maxRecDepth 100000 in
theorem mX3_rightBit_0 : Cond.methodLink RX3 54 Lib.Math.abs.name ∈ wsX3_rightBit := by decide +kernel
set_option maxRecDepth 100000 in
theorem mX3_rightBit_1 : Cond.static Lib.Math.abs.name ∈ wsX3_rightBit := by decide +kernel
set_option maxRecDepth 100000 in
theorem mX3_rightBit_2 : Cond.initialized "java/lang/Math" ∈ wsX3_rightBit := by decide +kernel
set_option maxRecDepth 100000 in
theorem mX3_rightBit_3 : Cond.code Lib.Math.abs.name Lib.Math.abs.code 1 (some .int) ∈ wsX3_rightBit := by decide +kernel
set_option maxHeartbeats 4000000 in
set_option maxRecDepth 100000 in
theorem l_rightBit {w : pW} {sc fa : Nat} {ev be cu st me pa : Nat} {f : Nat → Int32} (hs : w sc = some (.inr (3, [.ref fa, .int (nI ev), .int (nI be), .int (nI cu), .int (nI st), .int (nI me), .int (nI pa)]))) (hf : w fa = some (.inl (0, 1400, .inl f))) {e no rc np : Nat} {r : Option Nat} (he : e < 100) (hnp : np ≤ 4) : ∀ (m9 : Nat) (i : Nat), np - i < m9 → i ≤ np → fstN (hiQ f e no rc) (np - i) i = r → J ((cX3_rightBit, RX3, 6, wsX3_rightBit), (rX3_rightBit, (some .int), "rightBit", []), fun o w9 => o = .inl (some (.int (nI (r2 r)))) ∧ w9 = w, fun _ _ _ => True) 27 [(0, .ref sc), (1, .int (nI e)), (2, .int (nI no)), (3, .int (nI rc)), (4, .int (nI np)), (5, .int (nI i))] [] w 0 0 := by
  intro m9
  induction m9 with
  | zero => intro i h9; omega
  | succ m9 ih =>
    intro i hm9 hi hr
    refine j_iload dX3_rightBit_27 5 rfl ?_
    refine j_iload dX3_rightBit_29 4 rfl ?_
    refine j_icmp_geN 64 (by omega) (by omega) dX3_rightBit_31 (by decide) (fun c31 => ?_) (fun c31 => ?_)
    · skip
      refine j_iconst (v := nI 0) dX3_rightBit_64 (by decide) ?_
      exact j_iret rfl ⟨by rw [← hr, fstN_end (by omega)]; rfl, rfl⟩ (show 0 ≤ 0 by omega) (show 0 ≤ 0 by omega) dX3_rightBit_65
    · skip
      refine j_iload_n dX3_rightBit_34 2 rfl ?_
      refine j_aload_n dX3_rightBit_35 0 rfl ?_
      refine j_iload_n dX3_rightBit_36 1 rfl ?_
      refine j_bipush (v := nI 9) dX3_rightBit_37 (by decide) ?_
      refine j_iload dX3_rightBit_39 5 rfl ?_
      refine j_iaddN dX3_rightBit_41 ?_
      refine j_callV (rm := rX3_fact) (As := [.int (nI e), .int (nI (9 + i))]) (st := [.int (nI no)]) (b0 := sc) (ci := 3) (na := 2) (c_fact (e := e) (c := (9 + i)) hs hf (by omega) (by omega)) (by intro E w9 h9; first | exact nomatch h9.1 | (obtain ⟨_, h9, _⟩ := h9; exact nomatch h9)) gX3_rightBit_X3_fact rfl rfl hs (by decide +kernel) rfl ⟨Nat.le_of_ble_eq_true rfl, Nat.le_of_ble_eq_true rfl⟩ rfl (Nat.le_of_ble_eq_true rfl) dX3_rightBit_42 ⟨(show 0 + 0 ≤ 0 by omega), (show 0 + 0 ≤ 0 by omega)⟩ (fun v1 w2 h3 => ?_)
      obtain ⟨h3, h4⟩ := h3
      cases h3
      subst w2
      refine j_after (st' := [.int (f (e * 14 + (9 + i))), .int (nI no)]) (k' := 0) (n' := 0) rfl rfl rfl ?_
      refine j_isub dX3_rightBit_45 ?_
      refine j_abs mX3_rightBit_0 mX3_rightBit_1 mX3_rightBit_2 mX3_rightBit_3 (Nat.le_of_ble_eq_true rfl) (Nat.le_of_ble_eq_true rfl) ⟨(show 0 ≤ 0 by omega), (show 0 ≤ 0 by omega)⟩ dX3_rightBit_46 ?_
      refine j_iload_n dX3_rightBit_49 3 rfl ?_
      refine j_icmp_gt 58 dX3_rightBit_50 (by decide) (fun c50 => ?_) (fun c50 => ?_)
      · skip
        refine j_iinc (q := 5) (v := nI (i + 1)) (lv' := [(5, .int (nI (i + 1))), (0, .ref sc), (1, .int (nI e)), (2, .int (nI no)), (3, .int (nI rc)), (4, .int (nI np))]) dX3_rightBit_58 rfl (by first | exact nI_1 _ | exact nI_add _ _) (Nat.le_of_ble_eq_true rfl) rfl ?_
        refine j_goto 27 dX3_rightBit_61 (by decide) ?_
        refine j_lv (lv' := [(0, .ref sc), (1, .int (nI e)), (2, .int (nI no)), (3, .int (nI rc)), (4, .int (nI np)), (5, .int (nI (i + 1)))]) [1, 2, 3, 4, 5, 0] rfl ?_
        exact ih (i + 1) (by omega) (by omega) (by rw [← hr]; exact (fstN_miss (by omega) (by simpa [hiQ] using c50)).symm)
      · skip
        refine j_iconst (v := nI 1) dX3_rightBit_53 (by decide) ?_
        refine j_iload dX3_rightBit_54 5 rfl ?_
        refine j_ishl dX3_rightBit_56 ?_
        refine j_eqi (y := nI (2 ^ i)) (sh4 (by omega)) ?_
        exact j_iret rfl ⟨by rw [← hr, fstN_hit (by omega) (by simpa [hiQ] using c50)]; rfl, rfl⟩ (show 0 ≤ 0 by omega) (show 0 ≤ 0 by omega) dX3_rightBit_57
set_option maxHeartbeats 4000000 in
set_option maxRecDepth 100000 in
theorem c_rightBit {w : pW} {sc fa : Nat} {ev be cu st me pa : Nat} {f : Nat → Int32} (hs : w sc = some (.inr (3, [.ref fa, .int (nI ev), .int (nI be), .int (nI cu), .int (nI st), .int (nI me), .int (nI pa)]))) (hf : w fa = some (.inl (0, 1400, .inl f))) {e no kd np : Nat} (he : e < 100) (hkd : kd < 2 ^ 31) (hk : f (e * 14 + 0) = nI kd) (hnp : np ≤ 4) (hp : f (e * 14 + 1) = nI np) : Ct yX3_rightBit wsX3_rightBit rX3_rightBit [.ref sc, .int (nI e), .int (nI no)] w (fun o w9 => o = .inl (some (.int (nI (riB f e no kd np)))) ∧ w9 = w) := by
  refine Ct.of (cc := cX3_rightBit) (own := RX3) (nm := "rightBit") (nL := 6) (ret := (some .int)) (by decide) rfl rfl rfl (Nat.le_of_ble_eq_true rfl) ?_
  refine j_lvE (lv' := [(0, .ref sc), (1, .int (nI e)), (2, .int (nI no))]) rfl ?_
  refine j_aload_n dX3_rightBit_0 0 rfl ?_
  refine j_iload_n dX3_rightBit_1 1 rfl ?_
  refine j_iconst (v := nI 0) dX3_rightBit_2 (by decide) ?_
  refine j_callV (rm := rX3_fact) (As := [.int (nI e), .int (nI 0)]) (st := []) (b0 := sc) (ci := 3) (na := 2) (c_fact (e := e) (c := 0) hs hf (by omega) (by omega)) (by intro E w9 h9; first | exact nomatch h9.1 | (obtain ⟨_, h9, _⟩ := h9; exact nomatch h9)) gX3_rightBit_X3_fact rfl rfl hs (by decide +kernel) rfl ⟨Nat.le_of_ble_eq_true rfl, Nat.le_of_ble_eq_true rfl⟩ rfl (Nat.le_of_ble_eq_true rfl) dX3_rightBit_3 ⟨(show 0 + 0 ≤ 0 by omega), (show 0 + 0 ≤ 0 by omega)⟩ (fun v1 w2 h3 => ?_)
  obtain ⟨h3, h4⟩ := h3
  cases h3
  subst w2
  refine j_after (st' := [.int (f (e * 14 + 0))]) (k' := 0) (n' := 0) rfl rfl rfl ?_
  refine j_eqi (y := nI kd) (hk) ?_
  refine j_iconst (v := nI 2) dX3_rightBit_6 (by decide) ?_
  refine j_icmp_neN 14 (by omega) (by omega) dX3_rightBit_7 (by decide) (fun c7 => ?_) (fun c7 => ?_)
  · skip
    refine j_iconst (v := nI 0) dX3_rightBit_14 (by decide) ?_
    refine j_istore_n (lv' := [(3, .int (nI 0)), (0, .ref sc), (1, .int (nI e)), (2, .int (nI no))]) dX3_rightBit_15 (Nat.le_of_ble_eq_true rfl) rfl ?_
    refine j_aload_n dX3_rightBit_16 1 rfl ?_
    refine j_iload_n dX3_rightBit_17 2 rfl ?_
    refine j_iconst (v := nI 1) dX3_rightBit_18 (by decide) ?_
    refine j_callV (rm := rX3_fact) (As := [.int (nI e), .int (nI 1)]) (st := []) (b0 := sc) (ci := 3) (na := 2) (c_fact (e := e) (c := 1) hs hf (by omega) (by omega)) (by intro E w9 h9; first | exact nomatch h9.1 | (obtain ⟨_, h9, _⟩ := h9; exact nomatch h9)) gX3_rightBit_X3_fact rfl rfl hs (by decide +kernel) rfl ⟨Nat.le_of_ble_eq_true rfl, Nat.le_of_ble_eq_true rfl⟩ rfl (Nat.le_of_ble_eq_true rfl) dX3_rightBit_19 ⟨(show 0 + 0 ≤ 0 by omega), (show 0 + 0 ≤ 0 by omega)⟩ (fun v5 w6 h7 => ?_)
    obtain ⟨h7, h8⟩ := h7
    cases h7
    subst w6
    refine j_after (st' := [.int (f (e * 14 + 1))]) (k' := 0) (n' := 0) rfl rfl rfl ?_
    refine j_eqi (y := nI np) (hp) ?_
    refine j_istore (lv' := [(4, .int (nI np)), (3, .int (nI 0)), (0, .ref sc), (1, .int (nI e)), (2, .int (nI no))]) dX3_rightBit_22 (Nat.le_of_ble_eq_true rfl) rfl ?_
    refine j_iconst (v := nI 0) dX3_rightBit_24 (by decide) ?_
    refine j_istore (lv' := [(5, .int (nI 0)), (4, .int (nI np)), (3, .int (nI 0)), (0, .ref sc), (1, .int (nI e)), (2, .int (nI no))]) dX3_rightBit_25 (Nat.le_of_ble_eq_true rfl) rfl ?_
    refine j_lv (lv' := [(0, .ref sc), (1, .int (nI e)), (2, .int (nI no)), (3, .int (nI 0)), (4, .int (nI np)), (5, .int (nI 0))]) [3, 4, 5, 2, 1, 0] rfl ?_
    exact l_rightBit (rc := 0) hs hf he hnp (np + 1) 0 (by omega) (by omega) (by simp only [rcK]; first | rw [if_pos c7]; rfl | rw [if_neg c7]; rfl)
  · skip
    refine j_iconst (v := nI 1) dX3_rightBit_10 (by decide) ?_
    refine j_goto 15 dX3_rightBit_11 (by decide) ?_
    refine j_istore_n (lv' := [(3, .int (nI 1)), (0, .ref sc), (1, .int (nI e)), (2, .int (nI no))]) dX3_rightBit_15 (Nat.le_of_ble_eq_true rfl) rfl ?_
    refine j_aload_n dX3_rightBit_16 1 rfl ?_
    refine j_iload_n dX3_rightBit_17 2 rfl ?_
    refine j_iconst (v := nI 1) dX3_rightBit_18 (by decide) ?_
    refine j_callV (rm := rX3_fact) (As := [.int (nI e), .int (nI 1)]) (st := []) (b0 := sc) (ci := 3) (na := 2) (c_fact (e := e) (c := 1) hs hf (by omega) (by omega)) (by intro E w9 h9; first | exact nomatch h9.1 | (obtain ⟨_, h9, _⟩ := h9; exact nomatch h9)) gX3_rightBit_X3_fact rfl rfl hs (by decide +kernel) rfl ⟨Nat.le_of_ble_eq_true rfl, Nat.le_of_ble_eq_true rfl⟩ rfl (Nat.le_of_ble_eq_true rfl) dX3_rightBit_19 ⟨(show 0 + 0 ≤ 0 by omega), (show 0 + 0 ≤ 0 by omega)⟩ (fun v9 w10 h11 => ?_)
    obtain ⟨h11, h12⟩ := h11
    cases h11
    subst w10
    refine j_after (st' := [.int (f (e * 14 + 1))]) (k' := 0) (n' := 0) rfl rfl rfl ?_
    refine j_eqi (y := nI np) (hp) ?_
    refine j_istore (lv' := [(4, .int (nI np)), (3, .int (nI 1)), (0, .ref sc), (1, .int (nI e)), (2, .int (nI no))]) dX3_rightBit_22 (Nat.le_of_ble_eq_true rfl) rfl ?_
    refine j_iconst (v := nI 0) dX3_rightBit_24 (by decide) ?_
    refine j_istore (lv' := [(5, .int (nI 0)), (4, .int (nI np)), (3, .int (nI 1)), (0, .ref sc), (1, .int (nI e)), (2, .int (nI no))]) dX3_rightBit_25 (Nat.le_of_ble_eq_true rfl) rfl ?_
    refine j_lv (lv' := [(0, .ref sc), (1, .int (nI e)), (2, .int (nI no)), (3, .int (nI 1)), (4, .int (nI np)), (5, .int (nI 0))]) [3, 4, 5, 2, 1, 0] rfl ?_
    exact l_rightBit (rc := 1) hs hf he hnp (np + 1) 0 (by omega) (by omega) (by simp only [rcK]; first | rw [if_pos c7]; rfl | rw [if_neg c7]; rfl)
abbrev rX3_init : Room := { frames := 1, cells := 1, slots := 1400, locals := 24 }
set_option maxRecDepth 100000 in
theorem mX3_init_0 : Cond.methodLink RX3 5 objectInit ∈ wsX3_init := by decide +kernel
set_option maxRecDepth 100000 in
theorem mX3_init_1 : Cond.instanceMethod objectInit ∈ wsX3_init := by decide +kernel
set_option maxRecDepth 100000 in
theorem mX3_init_2 : Cond.code objectInit ⟨#[0xb1]⟩ 1 none ∈ wsX3_init := by decide +kernel
set_option maxRecDepth 100000 in
theorem mX3_init_3 : Cond.arrayClass .int ∈ wsX3_init := by decide +kernel
theorem fsX3_init_11 : FS wsX3_init RX3 11 3 0 true (.array .int) := ⟨RX3, TX3, 7, tyX3, rfl, by decide, by decide +kernel, by decide +kernel, tyX3_ok, nmX3, rfl, rfl, rfl⟩
set_option maxHeartbeats 4000000 in
set_option maxRecDepth 100000 in
theorem c_Score_init {w : pW} {sc : Nat} (hs : w sc = some (.inr (3, [.null, .int (nI 0), .int (nI 0), .int (nI 0), .int (nI 0), .int (nI 0), .int (nI 0)]))) : Ct yX3_init wsX3_init rX3_init [.ref sc] w (fun o w9 => ∃ fa : Nat, o = .inl none ∧ w fa = none ∧ w9 = va_up (va_up w fa (some (.inl (0, 1400, .inl (fun _ => 0))))) sc (some (.inr (3, [.ref fa, .int (nI 0), .int (nI 0), .int (nI 0), .int (nI 0), .int (nI 0), .int (nI 0)])))) := by
  refine Ct.of (cc := cX3_init) (own := RX3) (nm := "<init>") (nL := 1) (ret := none) (by decide) rfl rfl rfl (Nat.le_of_ble_eq_true rfl) ?_
  refine j_lvE (lv' := [(0, .ref sc)]) rfl ?_
  refine j_aload_n dX3_init_0 0 rfl ?_
  refine j_objInit mX3_init_0 mX3_init_1 mX3_init_2 dX3_init_1 (Nat.le_of_ble_eq_true rfl) (Nat.le_of_ble_eq_true rfl) ?_
  refine j_aload_n dX3_init_4 0 rfl ?_
  refine j_sipush (v := nI 1400) dX3_init_5 (by decide) ?_
  refine j_newi (N := 1400) mX3_init_3 (nI_pos (by omega)) (nI_clamp (by omega)) (by omega) (show 0 + 1 ≤ 1 by omega) (show 0 + 1400 ≤ 1400 by omega) dX3_init_8 (fun q1 hq1 => ?_)
  refine j_after (st' := [.ref q1, .ref sc]) (k' := 1) (n' := 1400) rfl rfl rfl ?_
  refine j_w (fun w2 hw2 => ?_)
  have n4 : sc ≠ q1 := fn hs hq1
  have f3 := up_ne hw2 n4 hs
  have f5 : w2 q1 = some (.inl (0, 1400, .inl ((fun _ => 0)))) := up_at hw2
  refine j_putF (fs9 := [.ref q1, .int (nI 0), .int (nI 0), .int (nI 0), .int (nI 0), .int (nI 0), .int (nI 0)]) fsX3_init_11 f3 rfl (by intro C T N hc; cases hc; rfl) rfl rfl (Nat.le_of_ble_eq_true rfl) rfl dX3_init_10 ?_
  refine j_w (fun w6 hw6 => ?_)
  have f7 : w6 sc = some (.inr (3, [.ref q1, .int (nI 0), .int (nI 0), .int (nI 0), .int (nI 0), .int (nI 0), .int (nI 0)])) := up_at hw6
  have f8 := up_ne hw6 (Ne.symm n4) f5
  exact j_vret rfl ⟨q1, rfl, hq1, by rw [hw6, hw2]⟩ (show 1 ≤ 1 by omega) (show 1400 ≤ 1400 by omega) dX3_init_13
end
section
/-- FAR at the first n places -/
def clr (d : Nat → Nat) (n : Nat) : Nat → Nat := fun j => if j < n then 1000000 else d j
theorem clr_0 (d : Nat → Nat) : clr d 0 = d := by funext j; simp [clr]
theorem clr_s (d : Nat → Nat) (i : Nat) : va_up (clr d i) i 1000000 = clr d (i + 1) := by
  funext j
  by_cases h : j = i
  · subst h; rw [va_up_self]; simp [clr]
  · rw [va_up_ne _ _ h]
    by_cases h2 : j < i
    · simp [clr, h2, Nat.lt_succ_of_lt h2]
    · simp [clr, h2, show ¬ j < i + 1 by omega]
theorem clr_lt {d : Nat → Nat} {n j : Nat} (h : j < n) : clr d n j = 1000000 := by simp [clr, h]
/-- a cost is offered to a place -/
def offN (d : Nat → Nat) (cn s c : Nat) : Nat → Nat := if s < cn then va_up d s (min (d s) c) else d
abbrev rX1_init : Room := { frames := 1, cells := 1, slots := 0, locals := 24 }
set_option maxRecDepth 100000 in
theorem mX1_init_0 : Cond.methodLink RX1 1 objectInit ∈ wsX1_init := by decide +kernel
set_option maxRecDepth 100000 in
theorem mX1_init_1 : Cond.instanceMethod objectInit ∈ wsX1_init := by decide +kernel
set_option maxRecDepth 100000 in
theorem mX1_init_2 : Cond.code objectInit ⟨#[0xb1]⟩ 1 none ∈ wsX1_init := by decide +kernel
set_option maxRecDepth 100000 in
theorem mX1_init_3 : Cond.arrayClass .int ∈ wsX1_init := by decide +kernel
theorem fsX1_init_7 : FS wsX1_init RX1 7 1 2 false (.array .int) := ⟨RX1, TX1, 10, tyX1, rfl, by decide, by decide +kernel, by decide +kernel, tyX1_ok, nmX1, rfl, rfl, rfl⟩
theorem fsX1_init_13 : FS wsX1_init RX1 13 1 0 true (.object "PageTurner$Moment") := ⟨RX1, TX1, 10, tyX1, rfl, by decide, by decide +kernel, by decide +kernel, tyX1_ok, nmX1, rfl, rfl, rfl⟩
set_option maxHeartbeats 4000000 in
set_option maxRecDepth 100000 in
theorem c_Moment_init0 {w : pW} {mo : Nat} (hm : w mo = some (.inr (1, [.null, .null, .null, .int (nI 0), .int (nI 0), .int (nI 0), .int (nI 0), .int (nI 0), .null, .null]))) : Ct yX1_init wsX1_init rX1_init [.ref mo, .null] w (fun o w9 => ∃ q : Nat, o = .inl none ∧ w q = none ∧ w9 = va_up (va_up w q (some (.inl (0, 0, .inl (fun j9 => nI ((fun _ => 0) j9)))))) mo (some (.inr (1, [.null, .null, .ref q, .int (nI 0), .int (nI 0), .int (nI 0), .int (nI 0), .int (nI 0), .null, .null])))) := by
  refine Ct.of (cc := cX1_init) (own := RX1) (nm := "<init>") (nL := 2) (ret := none) (by decide) rfl rfl rfl (Nat.le_of_ble_eq_true rfl) ?_
  refine j_lvE (lv' := [(0, .ref mo), (1, .null)]) rfl ?_
  refine j_aload_n dX1_init_0 0 rfl ?_
  refine j_objInit mX1_init_0 mX1_init_1 mX1_init_2 dX1_init_1 (Nat.le_of_ble_eq_true rfl) (Nat.le_of_ble_eq_true rfl) ?_
  refine j_aload_n dX1_init_4 0 rfl ?_
  refine j_iconst (v := nI 0) dX1_init_5 (by decide) ?_
  refine j_newi (N := 0) mX1_init_3 (nI_pos (by omega)) (nI_clamp (by omega)) (by omega) (show 0 + 1 ≤ 1 by omega) (show 0 + 0 ≤ 0 by omega) dX1_init_6 (fun q1 hq1 => ?_)
  refine j_after (st' := [.ref q1, .ref mo]) (k' := 1) (n' := 0) rfl (by first | rfl | omega) (by first | rfl | omega) ?_
  refine j_w (fun w2 hw2 => ?_)
  have n4 : mo ≠ q1 := fn hm hq1
  have f3 := up_ne hw2 n4 hm
  have f5 : w2 q1 = some (.inl (0, 0, .inl (fun j9 => nI ((fun _ => 0) j9)))) := up_at hw2
  refine j_put (fs9 := [.null, .null, .ref q1, .int (nI 0), .int (nI 0), .int (nI 0), .int (nI 0), .int (nI 0), .null, .null]) fsX1_init_7 f3 rfl rfl (Nat.le_of_ble_eq_true rfl) rfl dX1_init_8 ?_
  refine j_w (fun w6 hw6 => ?_)
  have f7 : w6 mo = some (.inr (1, [.null, .null, .ref q1, .int (nI 0), .int (nI 0), .int (nI 0), .int (nI 0), .int (nI 0), .null, .null])) := up_at hw6
  have f8 := up_ne hw6 (Ne.symm n4) f5
  refine j_aload_n dX1_init_11 0 rfl ?_
  refine j_aload_nN dX1_init_12 1 rfl ?_
  refine j_putF (fs9 := [.null, .null, .ref q1, .int (nI 0), .int (nI 0), .int (nI 0), .int (nI 0), .int (nI 0), .null, .null]) fsX1_init_13 f7 rfl (by intro C T N hc; cases hc; rfl) rfl rfl (Nat.le_of_ble_eq_true rfl) rfl dX1_init_13 ?_
  refine j_w (fun w9 hw9 => ?_)
  have f10 : w9 mo = some (.inr (1, [.null, .null, .ref q1, .int (nI 0), .int (nI 0), .int (nI 0), .int (nI 0), .int (nI 0), .null, .null])) := up_at hw9
  have f11 := up_ne hw9 (Ne.symm n4) f8
  exact j_vret rfl ⟨q1, rfl, hq1, by rw [hw9, hw6, hw2] <;> (try simp only [bx_uu]) <;> (try rfl)⟩ (show 1 ≤ 1 by omega) (show 0 ≤ 0 by omega) dX1_init_16
set_option maxHeartbeats 4000000 in
set_option maxRecDepth 100000 in
theorem c_Moment_init1 {w : pW} {mo : Nat} {b : Nat} (hm : w mo = some (.inr (1, [.null, .null, .null, .int (nI 0), .int (nI 0), .int (nI 0), .int (nI 0), .int (nI 0), .null, .null]))) : Ct yX1_init wsX1_init rX1_init [.ref mo, .ref b] w (fun o w9 => ∃ q : Nat, o = .inl none ∧ w q = none ∧ w9 = va_up (va_up w q (some (.inl (0, 0, .inl (fun j9 => nI ((fun _ => 0) j9)))))) mo (some (.inr (1, [.ref b, .null, .ref q, .int (nI 0), .int (nI 0), .int (nI 0), .int (nI 0), .int (nI 0), .null, .null])))) := by
  refine Ct.of (cc := cX1_init) (own := RX1) (nm := "<init>") (nL := 2) (ret := none) (by decide) rfl rfl rfl (Nat.le_of_ble_eq_true rfl) ?_
  refine j_lvE (lv' := [(0, .ref mo), (1, .ref b)]) rfl ?_
  refine j_aload_n dX1_init_0 0 rfl ?_
  refine j_objInit mX1_init_0 mX1_init_1 mX1_init_2 dX1_init_1 (Nat.le_of_ble_eq_true rfl) (Nat.le_of_ble_eq_true rfl) ?_
  refine j_aload_n dX1_init_4 0 rfl ?_
  refine j_iconst (v := nI 0) dX1_init_5 (by decide) ?_
  refine j_newi (N := 0) mX1_init_3 (nI_pos (by omega)) (nI_clamp (by omega)) (by omega) (show 0 + 1 ≤ 1 by omega) (show 0 + 0 ≤ 0 by omega) dX1_init_6 (fun q1 hq1 => ?_)
  refine j_after (st' := [.ref q1, .ref mo]) (k' := 1) (n' := 0) rfl (by first | rfl | omega) (by first | rfl | omega) ?_
  refine j_w (fun w2 hw2 => ?_)
  have n4 : mo ≠ q1 := fn hm hq1
  have f3 := up_ne hw2 n4 hm
  have f5 : w2 q1 = some (.inl (0, 0, .inl (fun j9 => nI ((fun _ => 0) j9)))) := up_at hw2
  refine j_put (fs9 := [.null, .null, .ref q1, .int (nI 0), .int (nI 0), .int (nI 0), .int (nI 0), .int (nI 0), .null, .null]) fsX1_init_7 f3 rfl rfl (Nat.le_of_ble_eq_true rfl) rfl dX1_init_8 ?_
  refine j_w (fun w6 hw6 => ?_)
  have f7 : w6 mo = some (.inr (1, [.null, .null, .ref q1, .int (nI 0), .int (nI 0), .int (nI 0), .int (nI 0), .int (nI 0), .null, .null])) := up_at hw6
  have f8 := up_ne hw6 (Ne.symm n4) f5
  refine j_aload_n dX1_init_11 0 rfl ?_
  refine j_aload_n dX1_init_12 1 rfl ?_
  refine j_putF (fs9 := [.ref b, .null, .ref q1, .int (nI 0), .int (nI 0), .int (nI 0), .int (nI 0), .int (nI 0), .null, .null]) fsX1_init_13 f7 rfl (by intro C T N hc; cases hc; rfl) rfl rfl (Nat.le_of_ble_eq_true rfl) rfl dX1_init_13 ?_
  refine j_w (fun w9 hw9 => ?_)
  have f10 : w9 mo = some (.inr (1, [.ref b, .null, .ref q1, .int (nI 0), .int (nI 0), .int (nI 0), .int (nI 0), .int (nI 0), .null, .null])) := up_at hw9
  have f11 := up_ne hw9 (Ne.symm n4) f8
  exact j_vret rfl ⟨q1, rfl, hq1, by rw [hw9, hw6, hw2] <;> (try simp only [bx_uu]) <;> (try rfl)⟩ (show 1 ≤ 1 by omega) (show 0 ≤ 0 by omega) dX1_init_16
abbrev rX1_clear : Room := { frames := 0, cells := 1, slots := 1600, locals := 0 }
theorem fsX1_clear_18 : FS wsX1_clear RX1 18 1 4 false (.int) := ⟨RX1, TX1, 10, tyX1, rfl, by decide, by decide +kernel, by decide +kernel, tyX1_ok, nmX1, rfl, rfl, rfl⟩
theorem fsX1_clear_22 : FS wsX1_clear RX1 22 1 5 false (.int) := ⟨RX1, TX1, 10, tyX1, rfl, by decide, by decide +kernel, by decide +kernel, tyX1_ok, nmX1, rfl, rfl, rfl⟩
set_option maxRecDepth 100000 in
theorem mX1_clear_0 : Cond.constant RX1 17 (1000000) ∈ wsX1_clear := by decide +kernel
theorem fsX1_clear_25 : FS wsX1_clear RX1 25 1 6 false (.int) := ⟨RX1, TX1, 10, tyX1, rfl, by decide, by decide +kernel, by decide +kernel, tyX1_ok, nmX1, rfl, rfl, rfl⟩
theorem fsX1_clear_28 : FS wsX1_clear RX1 28 1 7 false (.int) := ⟨RX1, TX1, 10, tyX1, rfl, by decide, by decide +kernel, by decide +kernel, tyX1_ok, nmX1, rfl, rfl, rfl⟩
theorem fsX1_clear_31 : FS wsX1_clear RX1 31 1 8 false (.object "PageTurner$Moment") := ⟨RX1, TX1, 10, tyX1, rfl, by decide, by decide +kernel, by decide +kernel, tyX1_ok, nmX1, rfl, rfl, rfl⟩
theorem fsX1_clear_34 : FS wsX1_clear RX1 34 1 9 false (.object "PageTurner$Moment") := ⟨RX1, TX1, 10, tyX1, rfl, by decide, by decide +kernel, by decide +kernel, tyX1_ok, nmX1, rfl, rfl, rfl⟩
theorem flX1_clear_7 : FL wsX1_clear RX1 7 1 2 := ⟨RX1, TX1, 10, rfl, by decide, by decide +kernel, by decide +kernel⟩
set_option maxHeartbeats 4000000 in
set_option maxRecDepth 100000 in
theorem l_clear {w : pW} {mo q : Nat} {bf nx av ah : Option Nat} {cl pe pb pc an cn st k0 n0 : Nat} {d : Nat → Nat} (hqm : q ≠ mo) (hcn : cn ≤ 100000) (hst : st ≤ cn) (hk0 : k0 ≤ 1) (hn0 : n0 ≤ 1600) : ∀ (m9 : Nat) (i : Nat) (wl : pW), st - i < m9 → i ≤ st → wl = va_up (va_up w q (some (.inl (0, cn, .inl (fun j9 => nI ((clr d i) j9)))))) mo (some (.inr (1, [va_rf bf, va_rf nx, .ref q, .int (nI cl), .int (nI pe), .int (nI pb), .int (nI pc), .int (nI an), va_rf av, va_rf ah]))) → J ((cX1_clear, RX1, 3, wsX1_clear), (rX1_clear, none, "clear", []), fun o w9 => o = .inl none ∧ w9 = va_up (va_up w q (some (.inl (0, cn, .inl (fun j9 => nI ((clr d st) j9)))))) mo (some (.inr (1, [va_rf bf, va_rf nx, .ref q, .int (nI cl), .int (nI 0), .int (nI 0), .int (nI 1000000), .int (nI 0), va_rf none, va_rf none]))), fun _ _ _ => True) 18 [(0, .ref mo), (1, .int (nI st)), (2, .int (nI i))] [] wl k0 n0 := by
  intro m9
  induction m9 with
  | zero => intro i wl h9; omega
  | succ m9 ih =>
    intro i wl hm9 hi hwl
    have g1 : wl mo = some (.inr (1, [va_rf bf, va_rf nx, .ref q, .int (nI cl), .int (nI pe), .int (nI pb), .int (nI pc), .int (nI an), va_rf av, va_rf ah])) := by rw [hwl]; exact va_up_self _ _ _
    have g2 : wl q = some (.inl (0, cn, .inl (fun j9 => nI ((clr d i) j9)))) := by rw [hwl, va_up_ne _ _ hqm]; exact va_up_self _ _ _
    refine j_iload_n dX1_clear_18 2 rfl ?_
    refine j_iload_n dX1_clear_19 1 rfl ?_
    refine j_icmp_geN 46 (by omega) (by omega) dX1_clear_20 (by decide) (fun c20 => ?_) (fun c20 => ?_)
    · skip
      have hi9 : i = st := by omega
      refine j_aload_n dX1_clear_46 0 rfl ?_
      refine j_iconst (v := nI 0) dX1_clear_47 (by decide) ?_
      refine j_put (fs9 := [va_rf bf, va_rf nx, .ref q, .int (nI cl), .int (nI 0), .int (nI pb), .int (nI pc), .int (nI an), va_rf av, va_rf ah]) fsX1_clear_18 g1 rfl rfl (Nat.le_of_ble_eq_true rfl) rfl dX1_clear_48 ?_
      refine j_w (fun w1 hw1 => ?_)
      have f2 : w1 mo = some (.inr (1, [va_rf bf, va_rf nx, .ref q, .int (nI cl), .int (nI 0), .int (nI pb), .int (nI pc), .int (nI an), va_rf av, va_rf ah])) := up_at hw1
      have f3 := up_ne hw1 (fk g2 g1 rfl) g2
      refine j_aload_n dX1_clear_51 0 rfl ?_
      refine j_iconst (v := nI 0) dX1_clear_52 (by decide) ?_
      refine j_put (fs9 := [va_rf bf, va_rf nx, .ref q, .int (nI cl), .int (nI 0), .int (nI 0), .int (nI pc), .int (nI an), va_rf av, va_rf ah]) fsX1_clear_22 f2 rfl rfl (Nat.le_of_ble_eq_true rfl) rfl dX1_clear_53 ?_
      refine j_w (fun w4 hw4 => ?_)
      have f5 : w4 mo = some (.inr (1, [va_rf bf, va_rf nx, .ref q, .int (nI cl), .int (nI 0), .int (nI 0), .int (nI pc), .int (nI an), va_rf av, va_rf ah])) := up_at hw4
      have f6 := up_ne hw4 (fk f3 f2 rfl) f3
      refine j_aload_n dX1_clear_56 0 rfl ?_
      refine j_ldc (v := nI 1000000) dX1_clear_57 mX1_clear_0 ?_
      refine j_put (fs9 := [va_rf bf, va_rf nx, .ref q, .int (nI cl), .int (nI 0), .int (nI 0), .int (nI 1000000), .int (nI an), va_rf av, va_rf ah]) fsX1_clear_25 f5 rfl rfl (Nat.le_of_ble_eq_true rfl) rfl dX1_clear_59 ?_
      refine j_w (fun w7 hw7 => ?_)
      have f8 : w7 mo = some (.inr (1, [va_rf bf, va_rf nx, .ref q, .int (nI cl), .int (nI 0), .int (nI 0), .int (nI 1000000), .int (nI an), va_rf av, va_rf ah])) := up_at hw7
      have f9 := up_ne hw7 (fk f6 f5 rfl) f6
      refine j_aload_n dX1_clear_62 0 rfl ?_
      refine j_iconst (v := nI 0) dX1_clear_63 (by decide) ?_
      refine j_put (fs9 := [va_rf bf, va_rf nx, .ref q, .int (nI cl), .int (nI 0), .int (nI 0), .int (nI 1000000), .int (nI 0), va_rf av, va_rf ah]) fsX1_clear_28 f8 rfl rfl (Nat.le_of_ble_eq_true rfl) rfl dX1_clear_64 ?_
      refine j_w (fun w10 hw10 => ?_)
      have f11 : w10 mo = some (.inr (1, [va_rf bf, va_rf nx, .ref q, .int (nI cl), .int (nI 0), .int (nI 0), .int (nI 1000000), .int (nI 0), va_rf av, va_rf ah])) := up_at hw10
      have f12 := up_ne hw10 (fk f9 f8 rfl) f9
      refine j_aload_n dX1_clear_67 0 rfl ?_
      refine j_null dX1_clear_68 ?_
      refine j_put (fs9 := [va_rf bf, va_rf nx, .ref q, .int (nI cl), .int (nI 0), .int (nI 0), .int (nI 1000000), .int (nI 0), .null, va_rf ah]) fsX1_clear_31 f11 rfl rfl (Nat.le_of_ble_eq_true rfl) rfl dX1_clear_69 ?_
      refine j_w (fun w13 hw13 => ?_)
      have f14 : w13 mo = some (.inr (1, [va_rf bf, va_rf nx, .ref q, .int (nI cl), .int (nI 0), .int (nI 0), .int (nI 1000000), .int (nI 0), .null, va_rf ah])) := up_at hw13
      have f15 := up_ne hw13 (fk f12 f11 rfl) f12
      refine j_aload_n dX1_clear_72 0 rfl ?_
      refine j_null dX1_clear_73 ?_
      refine j_put (fs9 := [va_rf bf, va_rf nx, .ref q, .int (nI cl), .int (nI 0), .int (nI 0), .int (nI 1000000), .int (nI 0), .null, .null]) fsX1_clear_34 f14 rfl rfl (Nat.le_of_ble_eq_true rfl) rfl dX1_clear_74 ?_
      refine j_w (fun w16 hw16 => ?_)
      have f17 : w16 mo = some (.inr (1, [va_rf bf, va_rf nx, .ref q, .int (nI cl), .int (nI 0), .int (nI 0), .int (nI 1000000), .int (nI 0), .null, .null])) := up_at hw16
      have f18 := up_ne hw16 (fk f15 f14 rfl) f15
      exact j_vret rfl ⟨rfl, by rw [hw16, hw13, hw10, hw7, hw4, hw1, hwl]; simp only [bx_uu]; rw [hi9]; try rfl⟩ (show k0 ≤ 1 by omega) (show n0 ≤ 1600 by omega) dX1_clear_77
    · skip
      refine j_iload_n dX1_clear_23 2 rfl ?_
      refine j_aload_n dX1_clear_24 0 rfl ?_
      refine j_get flX1_clear_7 g1 rfl dX1_clear_25 ?_
      refine j_alen (v := nI cn) (by decide) g2 rfl dX1_clear_28 ?_
      refine j_icmp_geN 46 (by omega) (by omega) dX1_clear_29 (by decide) (fun c29 => ?_) (fun c29 => ?_)
      · skip
        exfalso; omega
      · skip
        refine j_aload_n dX1_clear_32 0 rfl ?_
        refine j_get flX1_clear_7 g1 rfl dX1_clear_33 ?_
        refine j_iload_n dX1_clear_36 2 rfl ?_
        refine j_ldc (v := nI 1000000) dX1_clear_37 mX1_clear_0 ?_
        refine j_iastn (j := i) (x := 1000000) g2 rfl (by omega) (by omega) dX1_clear_39 ?_
        refine j_w (fun w19 hw19 => ?_)
        have f20 := up_ne hw19 (fk g1 g2 rfl) g1
        have f21 : w19 q = some (.inl (0, cn, .inl (fun j9 => nI ((va_up (clr d i) i 1000000) j9)))) := up_at hw19
        refine j_iinc (q := 2) (v := nI (i + 1)) (lv' := [(2, .int (nI (i + 1))), (0, .ref mo), (1, .int (nI st))]) dX1_clear_40 rfl (by first | exact nI_1 _ | exact nI_add _ _) (Nat.le_of_ble_eq_true rfl) rfl ?_
        refine j_goto 18 dX1_clear_43 (by decide) ?_
        refine j_lv (lv' := [(0, .ref mo), (1, .int (nI st)), (2, .int (nI (i + 1)))]) [1, 2, 0] rfl ?_
        exact ih (i + 1) _ (by omega) (by omega) (by rw [hw19, hwl, up_sw (Ne.symm hqm)]; rw [bx_uu, clr_s])
set_option maxRecDepth 100000 in
theorem mX1_clear_1 : Cond.arrayClass .int ∈ wsX1_clear := by decide +kernel
theorem fsX1_clear_7 : FS wsX1_clear RX1 7 1 2 false (.array .int) := ⟨RX1, TX1, 10, tyX1, rfl, by decide, by decide +kernel, by decide +kernel, tyX1_ok, nmX1, rfl, rfl, rfl⟩
set_option maxHeartbeats 4000000 in
set_option maxRecDepth 100000 in
theorem c_mclear {w : pW} {mo ca : Nat} {bf nx av ah : Option Nat} {cl pe pb pc an cn : Nat} {d : Nat → Nat} (hm : w mo = some (.inr (1, [va_rf bf, va_rf nx, .ref ca, .int (nI cl), .int (nI pe), .int (nI pb), .int (nI pc), .int (nI an), va_rf av, va_rf ah]))) (hc : w ca = some (.inl (0, cn, .inl (fun j9 => nI (d j9))))) (hcn : cn ≤ 100000) {st : Nat} (hst : st ≤ 1600) : Ct yX1_clear wsX1_clear rX1_clear [.ref mo, .int (nI st)] w (fun o w9 => ∃ (q cn9 : Nat) (d9 : Nat → Nat), o = .inl none ∧ ((q = ca ∧ cn9 = cn ∧ d9 = d) ∨ (w q = none ∧ cn9 = st ∧ d9 = fun _ => 0)) ∧ st ≤ cn9 ∧ w9 = va_up (va_up w q (some (.inl (0, cn9, .inl (fun j9 => nI ((clr d9 st) j9)))))) mo (some (.inr (1, [va_rf bf, va_rf nx, .ref q, .int (nI cl), .int (nI 0), .int (nI 0), .int (nI 1000000), .int (nI 0), va_rf none, va_rf none])))) := by
  refine Ct.of (cc := cX1_clear) (own := RX1) (nm := "clear") (nL := 3) (ret := none) (by decide) rfl rfl rfl (Nat.le_of_ble_eq_true rfl) ?_
  refine j_lvE (lv' := [(0, .ref mo), (1, .int (nI st))]) rfl ?_
  refine j_iload_n dX1_clear_0 1 rfl ?_
  refine j_aload_n dX1_clear_1 0 rfl ?_
  refine j_get flX1_clear_7 hm rfl dX1_clear_2 ?_
  refine j_alen (v := nI cn) (by decide) hc rfl dX1_clear_5 ?_
  refine j_icmp_leN 16 (by omega) (by omega) dX1_clear_6 (by decide) (fun c6 => ?_) (fun c6 => ?_)
  · skip
    refine j_iconst (v := nI 0) dX1_clear_16 (by decide) ?_
    refine j_istore_n (lv' := [(2, .int (nI 0)), (0, .ref mo), (1, .int (nI st))]) dX1_clear_17 (Nat.le_of_ble_eq_true rfl) rfl ?_
    refine j_lv (lv' := [(0, .ref mo), (1, .int (nI st)), (2, .int (nI 0))]) [1, 2, 0] rfl ?_
    refine J.post (fun o w9 h => ?_) (l_clear (w := w) (q := ca) (cn := cn) (d := d) (fk hc hm rfl) (by omega) (by omega) (by omega) (by omega) (st + 1) 0 _ (by omega) (by omega) (by rw [clr_0, up_same hc, up_same hm]))
    exact ⟨ca, cn, d, h.1, Or.inl ⟨rfl, rfl, rfl⟩, by omega, h.2⟩
  · skip
    refine j_aload_n dX1_clear_9 0 rfl ?_
    refine j_iload_n dX1_clear_10 1 rfl ?_
    refine j_newi (N := st) mX1_clear_1 (nI_pos (by omega)) (nI_clamp (by omega)) (by omega) (show 0 + 1 ≤ 1 by omega) (show 0 + st ≤ 1600 by omega) dX1_clear_11 (fun q1 hq1 => ?_)
    refine j_after (st' := [.ref q1, .ref mo]) (k' := 1) (n' := st) rfl (by first | rfl | omega) (by first | rfl | omega) ?_
    refine j_w (fun w2 hw2 => ?_)
    have n4 : mo ≠ q1 := fn hm hq1
    have f3 := up_ne hw2 n4 hm
    have n6 : ca ≠ q1 := fn hc hq1
    have f5 := up_ne hw2 n6 hc
    have f7 : w2 q1 = some (.inl (0, st, .inl (fun j9 => nI ((fun _ => 0) j9)))) := up_at hw2
    refine j_put (fs9 := [va_rf bf, va_rf nx, .ref q1, .int (nI cl), .int (nI pe), .int (nI pb), .int (nI pc), .int (nI an), va_rf av, va_rf ah]) fsX1_clear_7 f3 rfl rfl (Nat.le_of_ble_eq_true rfl) rfl dX1_clear_13 ?_
    refine j_w (fun w8 hw8 => ?_)
    have f9 : w8 mo = some (.inr (1, [va_rf bf, va_rf nx, .ref q1, .int (nI cl), .int (nI pe), .int (nI pb), .int (nI pc), .int (nI an), va_rf av, va_rf ah])) := up_at hw8
    have f10 := up_ne hw8 (fk f5 f3 rfl) f5
    have f11 := up_ne hw8 (Ne.symm n4) f7
    refine j_iconst (v := nI 0) dX1_clear_16 (by decide) ?_
    refine j_istore_n (lv' := [(2, .int (nI 0)), (0, .ref mo), (1, .int (nI st))]) dX1_clear_17 (Nat.le_of_ble_eq_true rfl) rfl ?_
    refine j_lv (lv' := [(0, .ref mo), (1, .int (nI st)), (2, .int (nI 0))]) [1, 2, 0] rfl ?_
    refine J.post (fun o w9 h => ?_) (l_clear (w := w) (q := q1) (bf := bf) (nx := nx) (av := av) (ah := ah) (cl := cl) (pe := pe) (pb := pb) (pc := pc) (an := an) (cn := st) (d := fun _ => 0) (Ne.symm n4) (by omega) (by omega) (by omega) (by omega) (st + 1) 0 _ (by omega) (by omega) (by rw [hw8, hw2, clr_0]; rfl))
    exact ⟨q1, st, fun _ => 0, h.1, Or.inr ⟨hq1, rfl, rfl⟩, by omega, h.2⟩
abbrev rX1_costAt : Room := { frames := 0, cells := 0, slots := 0, locals := 0 }
theorem flX1_costAt_7 : FL wsX1_costAt RX1 7 1 2 := ⟨RX1, TX1, 10, rfl, by decide, by decide +kernel, by decide +kernel⟩
set_option maxHeartbeats 4000000 in
set_option maxRecDepth 100000 in
theorem c_costAt {w : pW} {mo ca : Nat} {bf nx av ah : Option Nat} {cl pe pb pc an cn : Nat} {d : Nat → Nat} (hm : w mo = some (.inr (1, [va_rf bf, va_rf nx, .ref ca, .int (nI cl), .int (nI pe), .int (nI pb), .int (nI pc), .int (nI an), va_rf av, va_rf ah]))) (hc : w ca = some (.inl (0, cn, .inl (fun j9 => nI (d j9))))) (hcn : cn ≤ 100000) {s : Nat} (hs : s < cn) : Ct yX1_costAt wsX1_costAt rX1_costAt [.ref mo, .int (nI s)] w (fun o w9 => o = .inl (some (.int (nI (d s)))) ∧ w9 = w) := by
  refine Ct.of (cc := cX1_costAt) (own := RX1) (nm := "costAt") (nL := 2) (ret := (some .int)) (by decide) rfl rfl rfl (Nat.le_of_ble_eq_true rfl) ?_
  refine j_lvE (lv' := [(0, .ref mo), (1, .int (nI s))]) rfl ?_
  refine j_iload_n dX1_costAt_0 1 rfl ?_
  refine j_if_ltN (by omega) dX1_costAt_1 (by decide : _ = ((22 : Nat) : Int)) ?_
  refine j_iload_n dX1_costAt_4 1 rfl ?_
  refine j_aload_n dX1_costAt_5 0 rfl ?_
  refine j_get flX1_costAt_7 hm rfl dX1_costAt_6 ?_
  refine j_alen (v := nI cn) (by decide) hc rfl dX1_costAt_9 ?_
  refine j_icmp_geN 22 (by omega) (by omega) dX1_costAt_10 (by decide) (fun c10 => ?_) (fun c10 => ?_)
  · skip
    exfalso; omega
  · skip
    refine j_aload_n dX1_costAt_13 0 rfl ?_
    refine j_get flX1_costAt_7 hm rfl dX1_costAt_14 ?_
    refine j_iload_n dX1_costAt_17 1 rfl ?_
    refine j_ialdN (j := s) hc rfl (by omega) (by omega) dX1_costAt_18 ?_
    refine j_goto 24 dX1_costAt_19 (by decide) ?_
    exact j_iret rfl ⟨rfl, rfl⟩ (show 0 ≤ 0 by omega) (show 0 ≤ 0 by omega) dX1_costAt_24
abbrev rX1_offer : Room := { frames := 0, cells := 0, slots := 0, locals := 0 }
theorem flX1_offer_7 : FL wsX1_offer RX1 7 1 2 := ⟨RX1, TX1, 10, rfl, by decide, by decide +kernel, by decide +kernel⟩
set_option maxHeartbeats 4000000 in
set_option maxRecDepth 100000 in
theorem c_offer {w : pW} {mo ca : Nat} {bf nx av ah : Option Nat} {cl pe pb pc an cn : Nat} {d : Nat → Nat} (hm : w mo = some (.inr (1, [va_rf bf, va_rf nx, .ref ca, .int (nI cl), .int (nI pe), .int (nI pb), .int (nI pc), .int (nI an), va_rf av, va_rf ah]))) (hc : w ca = some (.inl (0, cn, .inl (fun j9 => nI (d j9))))) (hcn : cn ≤ 100000) {s c : Nat} (hs : s < 2 ^ 31) (hc2 : c < 2 ^ 31) (hd : ∀ j, d j < 2 ^ 31) : Ct yX1_offer wsX1_offer rX1_offer [.ref mo, .int (nI s), .int (nI c)] w (fun o w9 => o = .inl none ∧ w9 = va_up w ca (some (.inl (0, cn, .inl (fun j9 => nI ((offN d cn s c) j9)))))) := by
  refine Ct.of (cc := cX1_offer) (own := RX1) (nm := "offer") (nL := 3) (ret := none) (by decide) rfl rfl rfl (Nat.le_of_ble_eq_true rfl) ?_
  refine j_lvE (lv' := [(0, .ref mo), (1, .int (nI s)), (2, .int (nI c))]) rfl ?_
  have hds := hd s
  refine j_iload_n dX1_offer_0 1 rfl ?_
  refine j_if_ltN (by omega) dX1_offer_1 (by decide : _ = ((30 : Nat) : Int)) ?_
  refine j_iload_n dX1_offer_4 1 rfl ?_
  refine j_aload_n dX1_offer_5 0 rfl ?_
  refine j_get flX1_offer_7 hm rfl dX1_offer_6 ?_
  refine j_alen (v := nI cn) (by decide) hc rfl dX1_offer_9 ?_
  refine j_icmp_geN 30 (by omega) (by omega) dX1_offer_10 (by decide) (fun c10 => ?_) (fun c10 => ?_)
  · skip
    exact j_vret rfl ⟨rfl, by rw [show offN d cn s c = d by (simp only [offN]; split <;> first | rfl | (rw [Nat.min_eq_left (by omega)]; funext q; by_cases hq : q = s <;> simp [va_up, hq]))]; exact (up_same hc).symm⟩ (show 0 ≤ 0 by omega) (show 0 ≤ 0 by omega) dX1_offer_30
  · skip
    refine j_iload_n dX1_offer_13 2 rfl ?_
    refine j_aload_n dX1_offer_14 0 rfl ?_
    refine j_get flX1_offer_7 hm rfl dX1_offer_15 ?_
    refine j_iload_n dX1_offer_18 1 rfl ?_
    refine j_ialdN (j := s) hc rfl (by omega) (by omega) dX1_offer_19 ?_
    refine j_icmp_geN 30 (by omega) (by omega) dX1_offer_20 (by decide) (fun c20 => ?_) (fun c20 => ?_)
    · skip
      exact j_vret rfl ⟨rfl, by rw [show offN d cn s c = d by (simp only [offN]; split <;> first | rfl | (rw [Nat.min_eq_left (by omega)]; funext q; by_cases hq : q = s <;> simp [va_up, hq]))]; exact (up_same hc).symm⟩ (show 0 ≤ 0 by omega) (show 0 ≤ 0 by omega) dX1_offer_30
    · skip
      refine j_aload_n dX1_offer_23 0 rfl ?_
      refine j_get flX1_offer_7 hm rfl dX1_offer_24 ?_
      refine j_iload_n dX1_offer_27 1 rfl ?_
      refine j_iload_n dX1_offer_28 2 rfl ?_
      refine j_iastn (j := s) (x := c) hc rfl (by omega) (by omega) dX1_offer_29 ?_
      refine j_w (fun w1 hw1 => ?_)
      have f2 := up_ne hw1 (fk hm hc rfl) hm
      have f3 : w1 ca = some (.inl (0, cn, .inl (fun j9 => nI ((va_up d s c) j9)))) := up_at hw1
      exact j_vret rfl ⟨rfl, by rw [hw1]; simp only [offN]; rw [if_pos (by omega), Nat.min_eq_right (by omega)]⟩ (show 0 ≤ 0 by omega) (show 0 ≤ 0 by omega) dX1_offer_30
end
