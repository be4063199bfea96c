section
-- ===== PART A: goes FIRST, ahead of the names: the tables' words, and 'selects' of the private methods out of them =====
/-- a private method of a class that the tables say can be made, by its rows of tables_1 -/
def lw_okq (q : MethodName × Nat) : Prop := (q.1.cls ≠ "java/lang/invoke/MethodHandle" ∧ q.1.cls ≠ "java/lang/invoke/VarHandle") ∧ Cond.instantiable q.1.cls q.2 ∈ tables_1 ∧ Cond.privateMethod q.1 ∈ tables_1 ∧ Cond.instanceMethod q.1 ∈ tables_1
theorem lw_p0 : lw_okq (⟨"TrustedPause", "walkDay", "()I"⟩, 11) := ⟨⟨by decide +kernel, by decide +kernel⟩, List.mem_of_getElem? (i := 16) (by decide +kernel), List.mem_of_getElem? (i := 349) (by decide +kernel), List.mem_of_getElem? (i := 350) (by decide +kernel)⟩
theorem lw_p1 : lw_okq (⟨"TrustedPause$Day", "begin", "(LTrustedPause$Family;)V"⟩, 6) := ⟨⟨by decide +kernel, by decide +kernel⟩, List.mem_of_getElem? (i := 80) (by decide +kernel), List.mem_of_getElem? (i := 357) (by decide +kernel), List.mem_of_getElem? (i := 358) (by decide +kernel)⟩
theorem lw_p2 : lw_okq (⟨"TrustedPause$Day", "tryAct", "(LTrustedPause$Pad;I)I"⟩, 6) := ⟨⟨by decide +kernel, by decide +kernel⟩, List.mem_of_getElem? (i := 80) (by decide +kernel), List.mem_of_getElem? (i := 368) (by decide +kernel), List.mem_of_getElem? (i := 369) (by decide +kernel)⟩
theorem lw_p3 : lw_okq (⟨"TrustedPause$Day", "speakAll", "(LTrustedPause$Pad;II)I"⟩, 6) := ⟨⟨by decide +kernel, by decide +kernel⟩, List.mem_of_getElem? (i := 80) (by decide +kernel), List.mem_of_getElem? (i := 400) (by decide +kernel), List.mem_of_getElem? (i := 401) (by decide +kernel)⟩
theorem lw_p4 : lw_okq (⟨"TrustedPause$Tasks", "isBetter", "(I)Z"⟩, 5) := ⟨⟨by decide +kernel, by decide +kernel⟩, List.mem_of_getElem? (i := 113) (by decide +kernel), List.mem_of_getElem? (i := 475) (by decide +kernel), List.mem_of_getElem? (i := 476) (by decide +kernel)⟩
theorem lw_p5 : lw_okq (⟨"TrustedPause$Tasks", "worthOf", "(I)I"⟩, 5) := ⟨⟨by decide +kernel, by decide +kernel⟩, List.mem_of_getElem? (i := 113) (by decide +kernel), List.mem_of_getElem? (i := 479) (by decide +kernel), List.mem_of_getElem? (i := 480) (by decide +kernel)⟩
theorem lw_p6 : lw_okq (⟨"TrustedPause$Tasks", "canServe", "(ILTrustedPause$Family;)Z"⟩, 5) := ⟨⟨by decide +kernel, by decide +kernel⟩, List.mem_of_getElem? (i := 113) (by decide +kernel), List.mem_of_getElem? (i := 485) (by decide +kernel), List.mem_of_getElem? (i := 486) (by decide +kernel)⟩
theorem lw_p7 : lw_okq (⟨"TrustedPause$Tasks", "earliestOf", "(I)I"⟩, 5) := ⟨⟨by decide +kernel, by decide +kernel⟩, List.mem_of_getElem? (i := 113) (by decide +kernel), List.mem_of_getElem? (i := 489) (by decide +kernel), List.mem_of_getElem? (i := 490) (by decide +kernel)⟩
theorem lw_p8 : lw_okq (⟨"TrustedPause$Sentences", "addLetter", "(II)V"⟩, 4) := ⟨⟨by decide +kernel, by decide +kernel⟩, List.mem_of_getElem? (i := 191) (by decide +kernel), List.mem_of_getElem? (i := 506) (by decide +kernel), List.mem_of_getElem? (i := 507) (by decide +kernel)⟩
theorem lw_p9 : lw_okq (⟨"TrustedPause$Sentences", "openWays", "(I)V"⟩, 4) := ⟨⟨by decide +kernel, by decide +kernel⟩, List.mem_of_getElem? (i := 191) (by decide +kernel), List.mem_of_getElem? (i := 516) (by decide +kernel), List.mem_of_getElem? (i := 517) (by decide +kernel)⟩
theorem lw_p10 : lw_okq (⟨"TrustedPause$Sentences", "leastLetter", "(IIII)I"⟩, 4) := ⟨⟨by decide +kernel, by decide +kernel⟩, List.mem_of_getElem? (i := 191) (by decide +kernel), List.mem_of_getElem? (i := 520) (by decide +kernel), List.mem_of_getElem? (i := 521) (by decide +kernel)⟩
theorem lw_p11 : lw_okq (⟨"TrustedPause$Rounds", "keepIfSeenSo", "(ILTrustedPause$Sights;)V"⟩, 5) := ⟨⟨by decide +kernel, by decide +kernel⟩, List.mem_of_getElem? (i := 165) (by decide +kernel), List.mem_of_getElem? (i := 545) (by decide +kernel), List.mem_of_getElem? (i := 546) (by decide +kernel)⟩
theorem lw_p12 : lw_okq (⟨"TrustedPause$Rounds", "countHolders", "(I)V"⟩, 5) := ⟨⟨by decide +kernel, by decide +kernel⟩, List.mem_of_getElem? (i := 165) (by decide +kernel), List.mem_of_getElem? (i := 561) (by decide +kernel), List.mem_of_getElem? (i := 562) (by decide +kernel)⟩
theorem lw_p13 : lw_okq (⟨"TrustedPause", "leastWinningWait", "(III)I"⟩, 11) := ⟨⟨by decide +kernel, by decide +kernel⟩, List.mem_of_getElem? (i := 16) (by decide +kernel), List.mem_of_getElem? (i := 572) (by decide +kernel), List.mem_of_getElem? (i := 573) (by decide +kernel)⟩
theorem lw_p14 : lw_okq (⟨"TrustedPause", "imageOf", "(I)LTrustedPause$Image;"⟩, 11) := ⟨⟨by decide +kernel, by decide +kernel⟩, List.mem_of_getElem? (i := 16) (by decide +kernel), List.mem_of_getElem? (i := 613) (by decide +kernel), List.mem_of_getElem? (i := 614) (by decide +kernel)⟩
theorem lw_p15 : lw_okq (⟨"TrustedPause", "toldOfAll", "(I)I"⟩, 11) := ⟨⟨by decide +kernel, by decide +kernel⟩, List.mem_of_getElem? (i := 16) (by decide +kernel), List.mem_of_getElem? (i := 634) (by decide +kernel), List.mem_of_getElem? (i := 635) (by decide +kernel)⟩
def lw_privs_1 : List (MethodName × Nat) := [(⟨"TrustedPause", "walkDay", "()I"⟩, 11), (⟨"TrustedPause$Day", "begin", "(LTrustedPause$Family;)V"⟩, 6), (⟨"TrustedPause$Day", "tryAct", "(LTrustedPause$Pad;I)I"⟩, 6), (⟨"TrustedPause$Day", "speakAll", "(LTrustedPause$Pad;II)I"⟩, 6), (⟨"TrustedPause$Tasks", "isBetter", "(I)Z"⟩, 5), (⟨"TrustedPause$Tasks", "worthOf", "(I)I"⟩, 5), (⟨"TrustedPause$Tasks", "canServe", "(ILTrustedPause$Family;)Z"⟩, 5), (⟨"TrustedPause$Tasks", "earliestOf", "(I)I"⟩, 5), (⟨"TrustedPause$Sentences", "addLetter", "(II)V"⟩, 4), (⟨"TrustedPause$Sentences", "openWays", "(I)V"⟩, 4), (⟨"TrustedPause$Sentences", "leastLetter", "(IIII)I"⟩, 4), (⟨"TrustedPause$Rounds", "keepIfSeenSo", "(ILTrustedPause$Sights;)V"⟩, 5), (⟨"TrustedPause$Rounds", "countHolders", "(I)V"⟩, 5), (⟨"TrustedPause", "leastWinningWait", "(III)I"⟩, 11), (⟨"TrustedPause", "imageOf", "(I)LTrustedPause$Image;"⟩, 11), (⟨"TrustedPause", "toldOfAll", "(I)I"⟩, 11)]
theorem lw_r1 : ∀ q ∈ lw_privs_1, lw_okq q := List.forall_mem_cons.mpr ⟨lw_p0, List.forall_mem_cons.mpr ⟨lw_p1, List.forall_mem_cons.mpr ⟨lw_p2, List.forall_mem_cons.mpr ⟨lw_p3, List.forall_mem_cons.mpr ⟨lw_p4, List.forall_mem_cons.mpr ⟨lw_p5, List.forall_mem_cons.mpr ⟨lw_p6, List.forall_mem_cons.mpr ⟨lw_p7, List.forall_mem_cons.mpr ⟨lw_p8, List.forall_mem_cons.mpr ⟨lw_p9, List.forall_mem_cons.mpr ⟨lw_p10, List.forall_mem_cons.mpr ⟨lw_p11, List.forall_mem_cons.mpr ⟨lw_p12, List.forall_mem_cons.mpr ⟨lw_p13, List.forall_mem_cons.mpr ⟨lw_p14, List.forall_mem_cons.mpr ⟨lw_p15, fun _ h => absurd h List.not_mem_nil⟩⟩⟩⟩⟩⟩⟩⟩⟩⟩⟩⟩⟩⟩⟩⟩
theorem lw_p16 : lw_okq (⟨"TrustedPause", "toldOfTask", "(II)I"⟩, 11) := ⟨⟨by decide +kernel, by decide +kernel⟩, List.mem_of_getElem? (i := 16) (by decide +kernel), List.mem_of_getElem? (i := 638) (by decide +kernel), List.mem_of_getElem? (i := 639) (by decide +kernel)⟩
theorem lw_p17 : lw_okq (⟨"TrustedPause", "toldOfKin", "(II)I"⟩, 11) := ⟨⟨by decide +kernel, by decide +kernel⟩, List.mem_of_getElem? (i := 16) (by decide +kernel), List.mem_of_getElem? (i := 642) (by decide +kernel), List.mem_of_getElem? (i := 643) (by decide +kernel)⟩
theorem lw_p18 : lw_okq (⟨"TrustedPauseModel", "readOn", "(III)I"⟩, 37) := ⟨⟨by decide +kernel, by decide +kernel⟩, List.mem_of_getElem? (i := 646) (by decide +kernel), List.mem_of_getElem? (i := 815) (by decide +kernel), List.mem_of_getElem? (i := 816) (by decide +kernel)⟩
theorem lw_p19 : lw_okq (⟨"TrustedPauseModel", "begin", "(I)I"⟩, 37) := ⟨⟨by decide +kernel, by decide +kernel⟩, List.mem_of_getElem? (i := 646) (by decide +kernel), List.mem_of_getElem? (i := 819) (by decide +kernel), List.mem_of_getElem? (i := 820) (by decide +kernel)⟩
theorem lw_p20 : lw_okq (⟨"TrustedPauseModel", "close", "(I)I"⟩, 37) := ⟨⟨by decide +kernel, by decide +kernel⟩, List.mem_of_getElem? (i := 646) (by decide +kernel), List.mem_of_getElem? (i := 828) (by decide +kernel), List.mem_of_getElem? (i := 829) (by decide +kernel)⟩
theorem lw_p21 : lw_okq (⟨"TrustedPauseModel", "deed", "(II)I"⟩, 37) := ⟨⟨by decide +kernel, by decide +kernel⟩, List.mem_of_getElem? (i := 646) (by decide +kernel), List.mem_of_getElem? (i := 832) (by decide +kernel), List.mem_of_getElem? (i := 833) (by decide +kernel)⟩
theorem lw_p22 : lw_okq (⟨"TrustedPauseModel", "lend", "(I)I"⟩, 37) := ⟨⟨by decide +kernel, by decide +kernel⟩, List.mem_of_getElem? (i := 646) (by decide +kernel), List.mem_of_getElem? (i := 836) (by decide +kernel), List.mem_of_getElem? (i := 837) (by decide +kernel)⟩
theorem lw_p23 : lw_okq (⟨"TrustedPauseModel", "letter", "(III)I"⟩, 37) := ⟨⟨by decide +kernel, by decide +kernel⟩, List.mem_of_getElem? (i := 646) (by decide +kernel), List.mem_of_getElem? (i := 840) (by decide +kernel), List.mem_of_getElem? (i := 841) (by decide +kernel)⟩
theorem lw_p24 : lw_okq (⟨"TrustedPauseModel", "oldestOf", "(I)I"⟩, 37) := ⟨⟨by decide +kernel, by decide +kernel⟩, List.mem_of_getElem? (i := 646) (by decide +kernel), List.mem_of_getElem? (i := 853) (by decide +kernel), List.mem_of_getElem? (i := 854) (by decide +kernel)⟩
theorem lw_p25 : lw_okq (⟨"TrustedPauseModel", "refusal", "()I"⟩, 37) := ⟨⟨by decide +kernel, by decide +kernel⟩, List.mem_of_getElem? (i := 646) (by decide +kernel), List.mem_of_getElem? (i := 862) (by decide +kernel), List.mem_of_getElem? (i := 863) (by decide +kernel)⟩
theorem lw_p26 : lw_okq (⟨"TrustedPauseModel", "keepNow", "()V"⟩, 37) := ⟨⟨by decide +kernel, by decide +kernel⟩, List.mem_of_getElem? (i := 646) (by decide +kernel), List.mem_of_getElem? (i := 866) (by decide +kernel), List.mem_of_getElem? (i := 867) (by decide +kernel)⟩
theorem lw_p27 : lw_okq (⟨"TrustedPauseModel", "goDays", "()V"⟩, 37) := ⟨⟨by decide +kernel, by decide +kernel⟩, List.mem_of_getElem? (i := 646) (by decide +kernel), List.mem_of_getElem? (i := 871) (by decide +kernel), List.mem_of_getElem? (i := 872) (by decide +kernel)⟩
theorem lw_p28 : lw_okq (⟨"TrustedPauseModel", "whyNot", "(III)I"⟩, 37) := ⟨⟨by decide +kernel, by decide +kernel⟩, List.mem_of_getElem? (i := 646) (by decide +kernel), List.mem_of_getElem? (i := 875) (by decide +kernel), List.mem_of_getElem? (i := 876) (by decide +kernel)⟩
theorem lw_p29 : lw_okq (⟨"TrustedPauseModel", "whyNoLoan", "(II)I"⟩, 37) := ⟨⟨by decide +kernel, by decide +kernel⟩, List.mem_of_getElem? (i := 646) (by decide +kernel), List.mem_of_getElem? (i := 880) (by decide +kernel), List.mem_of_getElem? (i := 881) (by decide +kernel)⟩
theorem lw_p30 : lw_okq (⟨"TrustedPauseModel", "goOne", "(I)V"⟩, 37) := ⟨⟨by decide +kernel, by decide +kernel⟩, List.mem_of_getElem? (i := 646) (by decide +kernel), List.mem_of_getElem? (i := 884) (by decide +kernel), List.mem_of_getElem? (i := 885) (by decide +kernel)⟩
theorem lw_p31 : lw_okq (⟨"TrustedPauseModel", "sayOne", "(II)V"⟩, 37) := ⟨⟨by decide +kernel, by decide +kernel⟩, List.mem_of_getElem? (i := 646) (by decide +kernel), List.mem_of_getElem? (i := 888) (by decide +kernel), List.mem_of_getElem? (i := 889) (by decide +kernel)⟩
def lw_privs_2 : List (MethodName × Nat) := [(⟨"TrustedPause", "toldOfTask", "(II)I"⟩, 11), (⟨"TrustedPause", "toldOfKin", "(II)I"⟩, 11), (⟨"TrustedPauseModel", "readOn", "(III)I"⟩, 37), (⟨"TrustedPauseModel", "begin", "(I)I"⟩, 37), (⟨"TrustedPauseModel", "close", "(I)I"⟩, 37), (⟨"TrustedPauseModel", "deed", "(II)I"⟩, 37), (⟨"TrustedPauseModel", "lend", "(I)I"⟩, 37), (⟨"TrustedPauseModel", "letter", "(III)I"⟩, 37), (⟨"TrustedPauseModel", "oldestOf", "(I)I"⟩, 37), (⟨"TrustedPauseModel", "refusal", "()I"⟩, 37), (⟨"TrustedPauseModel", "keepNow", "()V"⟩, 37), (⟨"TrustedPauseModel", "goDays", "()V"⟩, 37), (⟨"TrustedPauseModel", "whyNot", "(III)I"⟩, 37), (⟨"TrustedPauseModel", "whyNoLoan", "(II)I"⟩, 37), (⟨"TrustedPauseModel", "goOne", "(I)V"⟩, 37), (⟨"TrustedPauseModel", "sayOne", "(II)V"⟩, 37)]
theorem lw_r2 : ∀ q ∈ lw_privs_2, lw_okq q := List.forall_mem_cons.mpr ⟨lw_p16, List.forall_mem_cons.mpr ⟨lw_p17, List.forall_mem_cons.mpr ⟨lw_p18, List.forall_mem_cons.mpr ⟨lw_p19, List.forall_mem_cons.mpr ⟨lw_p20, List.forall_mem_cons.mpr ⟨lw_p21, List.forall_mem_cons.mpr ⟨lw_p22, List.forall_mem_cons.mpr ⟨lw_p23, List.forall_mem_cons.mpr ⟨lw_p24, List.forall_mem_cons.mpr ⟨lw_p25, List.forall_mem_cons.mpr ⟨lw_p26, List.forall_mem_cons.mpr ⟨lw_p27, List.forall_mem_cons.mpr ⟨lw_p28, List.forall_mem_cons.mpr ⟨lw_p29, List.forall_mem_cons.mpr ⟨lw_p30, List.forall_mem_cons.mpr ⟨lw_p31, fun _ h => absurd h List.not_mem_nil⟩⟩⟩⟩⟩⟩⟩⟩⟩⟩⟩⟩⟩⟩⟩⟩
theorem lw_p32 : lw_okq (⟨"TrustedPauseModel", "happen", "(III)V"⟩, 37) := ⟨⟨by decide +kernel, by decide +kernel⟩, List.mem_of_getElem? (i := 646) (by decide +kernel), List.mem_of_getElem? (i := 892) (by decide +kernel), List.mem_of_getElem? (i := 893) (by decide +kernel)⟩
theorem lw_p33 : lw_okq (⟨"TrustedPauseModel", "rest", "(I)V"⟩, 37) := ⟨⟨by decide +kernel, by decide +kernel⟩, List.mem_of_getElem? (i := 646) (by decide +kernel), List.mem_of_getElem? (i := 896) (by decide +kernel), List.mem_of_getElem? (i := 897) (by decide +kernel)⟩
theorem lw_p34 : lw_okq (⟨"TrustedPauseModel", "die", "(I)V"⟩, 37) := ⟨⟨by decide +kernel, by decide +kernel⟩, List.mem_of_getElem? (i := 646) (by decide +kernel), List.mem_of_getElem? (i := 900) (by decide +kernel), List.mem_of_getElem? (i := 901) (by decide +kernel)⟩
theorem lw_p35 : lw_okq (⟨"TrustedPauseModel", "back", "(I)I"⟩, 37) := ⟨⟨by decide +kernel, by decide +kernel⟩, List.mem_of_getElem? (i := 646) (by decide +kernel), List.mem_of_getElem? (i := 904) (by decide +kernel), List.mem_of_getElem? (i := 905) (by decide +kernel)⟩
theorem lw_p36 : lw_okq (⟨"TrustedPauseModel", "far", "(II)I"⟩, 37) := ⟨⟨by decide +kernel, by decide +kernel⟩, List.mem_of_getElem? (i := 646) (by decide +kernel), List.mem_of_getElem? (i := 933) (by decide +kernel), List.mem_of_getElem? (i := 934) (by decide +kernel)⟩
theorem lw_p37 : lw_okq (⟨"TrustedPauseModel", "reach", "(II)I"⟩, 37) := ⟨⟨by decide +kernel, by decide +kernel⟩, List.mem_of_getElem? (i := 646) (by decide +kernel), List.mem_of_getElem? (i := 937) (by decide +kernel), List.mem_of_getElem? (i := 938) (by decide +kernel)⟩
theorem lw_p38 : lw_okq (⟨"TrustedPauseModel", "worthOf", "(I)I"⟩, 37) := ⟨⟨by decide +kernel, by decide +kernel⟩, List.mem_of_getElem? (i := 646) (by decide +kernel), List.mem_of_getElem? (i := 945) (by decide +kernel), List.mem_of_getElem? (i := 946) (by decide +kernel)⟩
theorem lw_p39 : lw_okq (⟨"TrustedPauseModel", "canServe", "(I)Z"⟩, 37) := ⟨⟨by decide +kernel, by decide +kernel⟩, List.mem_of_getElem? (i := 646) (by decide +kernel), List.mem_of_getElem? (i := 949) (by decide +kernel), List.mem_of_getElem? (i := 950) (by decide +kernel)⟩
theorem lw_p40 : lw_okq (⟨"TrustedPauseModel", "nextOf", "(I)I"⟩, 37) := ⟨⟨by decide +kernel, by decide +kernel⟩, List.mem_of_getElem? (i := 646) (by decide +kernel), List.mem_of_getElem? (i := 953) (by decide +kernel), List.mem_of_getElem? (i := 954) (by decide +kernel)⟩
theorem lw_p41 : lw_okq (⟨"TrustedPauseModel", "countOf", "(III)I"⟩, 37) := ⟨⟨by decide +kernel, by decide +kernel⟩, List.mem_of_getElem? (i := 646) (by decide +kernel), List.mem_of_getElem? (i := 962) (by decide +kernel), List.mem_of_getElem? (i := 963) (by decide +kernel)⟩
theorem lw_p42 : lw_okq (⟨"TrustedPauseModel", "oneLetter", "(I)V"⟩, 37) := ⟨⟨by decide +kernel, by decide +kernel⟩, List.mem_of_getElem? (i := 646) (by decide +kernel), List.mem_of_getElem? (i := 966) (by decide +kernel), List.mem_of_getElem? (i := 967) (by decide +kernel)⟩
theorem lw_p43 : lw_okq (⟨"TrustedPauseModel", "firstOf", "(III)I"⟩, 37) := ⟨⟨by decide +kernel, by decide +kernel⟩, List.mem_of_getElem? (i := 646) (by decide +kernel), List.mem_of_getElem? (i := 972) (by decide +kernel), List.mem_of_getElem? (i := 973) (by decide +kernel)⟩
theorem lw_p44 : lw_okq (⟨"TrustedPauseModel", "canFollow", "(IIII)Z"⟩, 37) := ⟨⟨by decide +kernel, by decide +kernel⟩, List.mem_of_getElem? (i := 646) (by decide +kernel), List.mem_of_getElem? (i := 976) (by decide +kernel), List.mem_of_getElem? (i := 977) (by decide +kernel)⟩
theorem lw_p45 : lw_okq (⟨"TrustedPauseModel", "isFit", "(I)Z"⟩, 37) := ⟨⟨by decide +kernel, by decide +kernel⟩, List.mem_of_getElem? (i := 646) (by decide +kernel), List.mem_of_getElem? (i := 993) (by decide +kernel), List.mem_of_getElem? (i := 994) (by decide +kernel)⟩
theorem lw_p46 : lw_okq (⟨"TrustedPauseModel", "bestTake", "(III)I"⟩, 37) := ⟨⟨by decide +kernel, by decide +kernel⟩, List.mem_of_getElem? (i := 646) (by decide +kernel), List.mem_of_getElem? (i := 1010) (by decide +kernel), List.mem_of_getElem? (i := 1011) (by decide +kernel)⟩
theorem lw_p47 : lw_okq (⟨"TrustedPauseModel", "yearOne", "(III)V"⟩, 37) := ⟨⟨by decide +kernel, by decide +kernel⟩, List.mem_of_getElem? (i := 646) (by decide +kernel), List.mem_of_getElem? (i := 1035) (by decide +kernel), List.mem_of_getElem? (i := 1036) (by decide +kernel)⟩
def lw_privs_3 : List (MethodName × Nat) := [(⟨"TrustedPauseModel", "happen", "(III)V"⟩, 37), (⟨"TrustedPauseModel", "rest", "(I)V"⟩, 37), (⟨"TrustedPauseModel", "die", "(I)V"⟩, 37), (⟨"TrustedPauseModel", "back", "(I)I"⟩, 37), (⟨"TrustedPauseModel", "far", "(II)I"⟩, 37), (⟨"TrustedPauseModel", "reach", "(II)I"⟩, 37), (⟨"TrustedPauseModel", "worthOf", "(I)I"⟩, 37), (⟨"TrustedPauseModel", "canServe", "(I)Z"⟩, 37), (⟨"TrustedPauseModel", "nextOf", "(I)I"⟩, 37), (⟨"TrustedPauseModel", "countOf", "(III)I"⟩, 37), (⟨"TrustedPauseModel", "oneLetter", "(I)V"⟩, 37), (⟨"TrustedPauseModel", "firstOf", "(III)I"⟩, 37), (⟨"TrustedPauseModel", "canFollow", "(IIII)Z"⟩, 37), (⟨"TrustedPauseModel", "isFit", "(I)Z"⟩, 37), (⟨"TrustedPauseModel", "bestTake", "(III)I"⟩, 37), (⟨"TrustedPauseModel", "yearOne", "(III)V"⟩, 37)]
theorem lw_r3 : ∀ q ∈ lw_privs_3, lw_okq q := List.forall_mem_cons.mpr ⟨lw_p32, List.forall_mem_cons.mpr ⟨lw_p33, List.forall_mem_cons.mpr ⟨lw_p34, List.forall_mem_cons.mpr ⟨lw_p35, List.forall_mem_cons.mpr ⟨lw_p36, List.forall_mem_cons.mpr ⟨lw_p37, List.forall_mem_cons.mpr ⟨lw_p38, List.forall_mem_cons.mpr ⟨lw_p39, List.forall_mem_cons.mpr ⟨lw_p40, List.forall_mem_cons.mpr ⟨lw_p41, List.forall_mem_cons.mpr ⟨lw_p42, List.forall_mem_cons.mpr ⟨lw_p43, List.forall_mem_cons.mpr ⟨lw_p44, List.forall_mem_cons.mpr ⟨lw_p45, List.forall_mem_cons.mpr ⟨lw_p46, List.forall_mem_cons.mpr ⟨lw_p47, fun _ h => absurd h List.not_mem_nil⟩⟩⟩⟩⟩⟩⟩⟩⟩⟩⟩⟩⟩⟩⟩⟩
theorem lw_p48 : lw_okq (⟨"TrustedPauseModel", "passAll", "()V"⟩, 37) := ⟨⟨by decide +kernel, by decide +kernel⟩, List.mem_of_getElem? (i := 646) (by decide +kernel), List.mem_of_getElem? (i := 1043) (by decide +kernel), List.mem_of_getElem? (i := 1044) (by decide +kernel)⟩
theorem lw_p49 : lw_okq (⟨"TrustedPauseModel", "pass", "(I)I"⟩, 37) := ⟨⟨by decide +kernel, by decide +kernel⟩, List.mem_of_getElem? (i := 646) (by decide +kernel), List.mem_of_getElem? (i := 1047) (by decide +kernel), List.mem_of_getElem? (i := 1048) (by decide +kernel)⟩
theorem lw_p50 : lw_okq (⟨"TrustedPauseModel", "passRow", "([II)V"⟩, 37) := ⟨⟨by decide +kernel, by decide +kernel⟩, List.mem_of_getElem? (i := 646) (by decide +kernel), List.mem_of_getElem? (i := 1051) (by decide +kernel), List.mem_of_getElem? (i := 1052) (by decide +kernel)⟩
theorem lw_p51 : lw_okq (⟨"TrustedPauseModel", "ofKin", "(II)I"⟩, 37) := ⟨⟨by decide +kernel, by decide +kernel⟩, List.mem_of_getElem? (i := 646) (by decide +kernel), List.mem_of_getElem? (i := 1065) (by decide +kernel), List.mem_of_getElem? (i := 1066) (by decide +kernel)⟩
theorem lw_p52 : lw_okq (⟨"TrustedPauseModel", "ofTask", "(II)I"⟩, 37) := ⟨⟨by decide +kernel, by decide +kernel⟩, List.mem_of_getElem? (i := 646) (by decide +kernel), List.mem_of_getElem? (i := 1070) (by decide +kernel), List.mem_of_getElem? (i := 1071) (by decide +kernel)⟩
def lw_privs_4 : List (MethodName × Nat) := [(⟨"TrustedPauseModel", "passAll", "()V"⟩, 37), (⟨"TrustedPauseModel", "pass", "(I)I"⟩, 37), (⟨"TrustedPauseModel", "passRow", "([II)V"⟩, 37), (⟨"TrustedPauseModel", "ofKin", "(II)I"⟩, 37), (⟨"TrustedPauseModel", "ofTask", "(II)I"⟩, 37)]
theorem lw_r4 : ∀ q ∈ lw_privs_4, lw_okq q := List.forall_mem_cons.mpr ⟨lw_p48, List.forall_mem_cons.mpr ⟨lw_p49, List.forall_mem_cons.mpr ⟨lw_p50, List.forall_mem_cons.mpr ⟨lw_p51, List.forall_mem_cons.mpr ⟨lw_p52, fun _ h => absurd h List.not_mem_nil⟩⟩⟩⟩⟩
def lw_privs : List (MethodName × Nat) := lw_privs_1 ++ (lw_privs_2 ++ (lw_privs_3 ++ (lw_privs_4)))
def lw_tbl : List Cond := k2_sels lw_privs ++ tables_1
theorem lw_privs_ok : ∀ q ∈ lw_privs, lw_okq q := by
  show ∀ q ∈ lw_privs_1 ++ (lw_privs_2 ++ (lw_privs_3 ++ (lw_privs_4))), lw_okq q
  exact List.forall_mem_append.mpr ⟨lw_r1, List.forall_mem_append.mpr ⟨lw_r2, List.forall_mem_append.mpr ⟨lw_r3, lw_r4⟩⟩⟩
end
section
def RX0 : String := "TrustedPause$Day"
def TX0 : u_T := fun k => match k with
  | 0 => ("TrustedPause$Day", "family", "LTrustedPause$Family;", true)
  | 1 => ("TrustedPause$Day", "acts", "I", false)
  | 2 => ("TrustedPause$Day", "stuckAct", "I", false)
  | 3 => ("TrustedPause$Day", "stuckReason", "I", false)
  | 4 => ("TrustedPause$Day", "firstAct", "I", false)
  | _ => ("TrustedPause$Day", "firstKin", "I", false)
def tyX0 : Nat → FieldType := fun k => match k with
  | 0 => .object "TrustedPause$Family"
  | 1 => .int
  | 2 => .int
  | 3 => .int
  | 4 => .int
  | _ => .int
abbrev wsX00 : List Cond := u_ws RX0 TX0 6
theorem nmX0 : ∀ a, a < 6 → ∀ b, b < 6 → a ≠ b → (TX0 a).2.1 ≠ (TX0 b).2.1 := by decide +kernel
theorem tyX0_ok : ∀ k, k < 6 → parseFieldDescriptor (TX0 k).2.2.1 = some (tyX0 k) := by decide +kernel
def RX1 : String := "TrustedPause$Family"
def TX1 : u_T := fun k => match k with
  | 0 => ("TrustedPause$Family", "ages", "[I", true)
  | 1 => ("TrustedPause$Family", "breaths", "[I", true)
  | 2 => ("TrustedPause$Family", "letters", "[I", true)
  | 3 => ("TrustedPause$Family", "ties", "[I", true)
  | 4 => ("TrustedPause$Family", "living", "I", false)
  | 5 => ("TrustedPause$Family", "holder", "I", false)
  | _ => ("TrustedPause$Family", "saved", "I", false)
def tyX1 : Nat → FieldType := fun k => match k with
  | 0 => .array .int
  | 1 => .array .int
  | 2 => .array .int
  | 3 => .array .int
  | 4 => .int
  | 5 => .int
  | _ => .int
abbrev wsX10 : List Cond := u_ws RX1 TX1 7
theorem nmX1 : ∀ a, a < 7 → ∀ b, b < 7 → a ≠ b → (TX1 a).2.1 ≠ (TX1 b).2.1 := by decide +kernel
theorem tyX1_ok : ∀ k, k < 7 → parseFieldDescriptor (TX1 k).2.2.1 = some (tyX1 k) := by decide +kernel
def RX2 : String := "TrustedPause$Image"
def TX2 : u_T := fun k => match k with
  | 0 => ("TrustedPause$Image", "family", "LTrustedPause$Family;", true)
  | 1 => ("TrustedPause$Image", "tasks", "LTrustedPause$Tasks;", true)
  | 2 => ("TrustedPause$Image", "sights", "LTrustedPause$Sights;", true)
  | _ => ("TrustedPause$Image", "isKept", "Z", false)
def tyX2 : Nat → FieldType := fun k => match k with
  | 0 => .object "TrustedPause$Family"
  | 1 => .object "TrustedPause$Tasks"
  | 2 => .object "TrustedPause$Sights"
  | _ => .boolean
abbrev wsX20 : List Cond := u_ws RX2 TX2 4
theorem nmX2 : ∀ a, a < 4 → ∀ b, b < 4 → a ≠ b → (TX2 a).2.1 ≠ (TX2 b).2.1 := by decide +kernel
theorem tyX2_ok : ∀ k, k < 4 → parseFieldDescriptor (TX2 k).2.2.1 = some (tyX2 k) := by decide +kernel
def RX3 : String := "TrustedPause$Pad"
def TX3 : u_T := fun k => match k with
  | 0 => ("TrustedPause$Pad", "signs", "[I", true)
  | _ => ("TrustedPause$Pad", "count", "I", false)
def tyX3 : Nat → FieldType := fun k => match k with
  | 0 => .array .int
  | _ => .int
abbrev wsX30 : List Cond := u_ws RX3 TX3 2
theorem nmX3 : ∀ a, a < 2 → ∀ b, b < 2 → a ≠ b → (TX3 a).2.1 ≠ (TX3 b).2.1 := by decide +kernel
theorem tyX3_ok : ∀ k, k < 2 → parseFieldDescriptor (TX3 k).2.2.1 = some (tyX3 k) := by decide +kernel
def RX4 : String := "TrustedPause$Rounds"
def TX4 : u_T := fun k => match k with
  | 0 => ("TrustedPause$Rounds", "codes", "[I", true)
  | 1 => ("TrustedPause$Rounds", "tally", "[I", true)
  | 2 => ("TrustedPause$Rounds", "count", "I", false)
  | 3 => ("TrustedPause$Rounds", "question", "I", false)
  | _ => ("TrustedPause$Rounds", "leftAtMost", "I", false)
def tyX4 : Nat → FieldType := fun k => match k with
  | 0 => .array .int
  | 1 => .array .int
  | 2 => .int
  | 3 => .int
  | _ => .int
abbrev wsX40 : List Cond := u_ws RX4 TX4 5
theorem nmX4 : ∀ a, a < 5 → ∀ b, b < 5 → a ≠ b → (TX4 a).2.1 ≠ (TX4 b).2.1 := by decide +kernel
theorem tyX4_ok : ∀ k, k < 5 → parseFieldDescriptor (TX4 k).2.2.1 = some (tyX4 k) := by decide +kernel
def RX5 : String := "TrustedPause$Sentences"
def TX5 : u_T := fun k => match k with
  | 0 => ("TrustedPause$Sentences", "endIn", "[I", true)
  | 1 => ("TrustedPause$Sentences", "endOut", "[I", true)
  | 2 => ("TrustedPause$Sentences", "openIn", "[I", true)
  | _ => ("TrustedPause$Sentences", "openOut", "[I", true)
def tyX5 : Nat → FieldType := fun k => match k with
  | 0 => .array .int
  | 1 => .array .int
  | 2 => .array .int
  | _ => .array .int
abbrev wsX50 : List Cond := u_ws RX5 TX5 4
theorem nmX5 : ∀ a, a < 4 → ∀ b, b < 4 → a ≠ b → (TX5 a).2.1 ≠ (TX5 b).2.1 := by decide +kernel
theorem tyX5_ok : ∀ k, k < 4 → parseFieldDescriptor (TX5 k).2.2.1 = some (tyX5 k) := by decide +kernel
def RX6 : String := "TrustedPause$Sights"
def TX6 : u_T := fun k => match k with
  | 0 => ("TrustedPause$Sights", "minutes", "[I", true)
  | 1 => ("TrustedPause$Sights", "kins", "[I", true)
  | 2 => ("TrustedPause$Sights", "silences", "[Z", true)
  | _ => ("TrustedPause$Sights", "count", "I", false)
def tyX6 : Nat → FieldType := fun k => match k with
  | 0 => .array .int
  | 1 => .array .int
  | 2 => .array .boolean
  | _ => .int
abbrev wsX60 : List Cond := u_ws RX6 TX6 4
theorem nmX6 : ∀ a, a < 4 → ∀ b, b < 4 → a ≠ b → (TX6 a).2.1 ≠ (TX6 b).2.1 := by decide +kernel
theorem tyX6_ok : ∀ k, k < 4 → parseFieldDescriptor (TX6 k).2.2.1 = some (tyX6 k) := by decide +kernel
def RX7 : String := "TrustedPause$Tasks"
def TX7 : u_T := fun k => match k with
  | 0 => ("TrustedPause$Tasks", "kins", "[I", true)
  | 1 => ("TrustedPause$Tasks", "minutes", "[I", true)
  | 2 => ("TrustedPause$Tasks", "worths", "[I", true)
  | 3 => ("TrustedPause$Tasks", "mostWorth", "I", false)
  | _ => ("TrustedPause$Tasks", "fewestServed", "I", false)
def tyX7 : Nat → FieldType := fun k => match k with
  | 0 => .array .int
  | 1 => .array .int
  | 2 => .array .int
  | 3 => .int
  | _ => .int
abbrev wsX70 : List Cond := u_ws RX7 TX7 5
theorem nmX7 : ∀ a, a < 5 → ∀ b, b < 5 → a ≠ b → (TX7 a).2.1 ≠ (TX7 b).2.1 := by decide +kernel
theorem tyX7_ok : ∀ k, k < 5 → parseFieldDescriptor (TX7 k).2.2.1 = some (tyX7 k) := by decide +kernel
def RX8 : String := "TrustedPause"
def TX8 : u_T := fun k => match k with
  | 0 => ("TrustedPause", "family", "LTrustedPause$Family;", true)
  | 1 => ("TrustedPause", "trial", "LTrustedPause$Family;", true)
  | 2 => ("TrustedPause", "pad", "LTrustedPause$Pad;", true)
  | 3 => ("TrustedPause", "day", "LTrustedPause$Day;", true)
  | 4 => ("TrustedPause", "tasks", "LTrustedPause$Tasks;", true)
  | 5 => ("TrustedPause", "sights", "LTrustedPause$Sights;", true)
  | 6 => ("TrustedPause", "rounds", "LTrustedPause$Rounds;", true)
  | 7 => ("TrustedPause", "phrases", "LTrustedPause$Sentences;", true)
  | 8 => ("TrustedPause", "winningWaits", "[I", true)
  | 9 => ("TrustedPause", "image0", "LTrustedPause$Image;", true)
  | _ => ("TrustedPause", "image1", "LTrustedPause$Image;", true)
def tyX8 : Nat → FieldType := fun k => match k with
  | 0 => .object "TrustedPause$Family"
  | 1 => .object "TrustedPause$Family"
  | 2 => .object "TrustedPause$Pad"
  | 3 => .object "TrustedPause$Day"
  | 4 => .object "TrustedPause$Tasks"
  | 5 => .object "TrustedPause$Sights"
  | 6 => .object "TrustedPause$Rounds"
  | 7 => .object "TrustedPause$Sentences"
  | 8 => .array .int
  | 9 => .object "TrustedPause$Image"
  | _ => .object "TrustedPause$Image"
abbrev wsX80 : List Cond := u_ws RX8 TX8 11
theorem nmX8 : ∀ a, a < 11 → ∀ b, b < 11 → a ≠ b → (TX8 a).2.1 ≠ (TX8 b).2.1 := by decide +kernel
theorem tyX8_ok : ∀ k, k < 11 → parseFieldDescriptor (TX8 k).2.2.1 = some (tyX8 k) := by decide +kernel
def RX9 : String := "TrustedPauseModel"
def TX9 : u_T := fun k => match k with
  | 0 => ("TrustedPauseModel", "living", "I", false)
  | 1 => ("TrustedPauseModel", "age", "[I", true)
  | 2 => ("TrustedPauseModel", "breath", "[I", true)
  | 3 => ("TrustedPauseModel", "letters", "[I", true)
  | 4 => ("TrustedPauseModel", "ties", "[I", true)
  | 5 => ("TrustedPauseModel", "holder", "I", false)
  | 6 => ("TrustedPauseModel", "saved", "I", false)
  | 7 => ("TrustedPauseModel", "taskKin", "[I", true)
  | 8 => ("TrustedPauseModel", "taskMinute", "[I", true)
  | 9 => ("TrustedPauseModel", "taskWorth", "[I", true)
  | 10 => ("TrustedPauseModel", "sightMinute", "[I", true)
  | 11 => ("TrustedPauseModel", "sightKin", "[I", true)
  | 12 => ("TrustedPauseModel", "sightSilent", "[I", true)
  | 13 => ("TrustedPauseModel", "sights", "I", false)
  | 14 => ("TrustedPauseModel", "pad", "[I", true)
  | 15 => ("TrustedPauseModel", "padMany", "I", false)
  | 16 => ("TrustedPauseModel", "act", "[I", true)
  | 17 => ("TrustedPauseModel", "who", "[I", true)
  | 18 => ("TrustedPauseModel", "whom", "[I", true)
  | 19 => ("TrustedPauseModel", "begins", "[I", true)
  | 20 => ("TrustedPauseModel", "ends", "[I", true)
  | 21 => ("TrustedPauseModel", "acts", "I", false)
  | 22 => ("TrustedPauseModel", "had", "[I", true)
  | 23 => ("TrustedPauseModel", "badAct", "I", false)
  | 24 => ("TrustedPauseModel", "badWhy", "I", false)
  | 25 => ("TrustedPauseModel", "savedThen", "I", false)
  | 26 => ("TrustedPauseModel", "firstAct", "I", false)
  | 27 => ("TrustedPauseModel", "firstWho", "I", false)
  | 28 => ("TrustedPauseModel", "ways", "[J", true)
  | 29 => ("TrustedPauseModel", "waysThen", "[J", true)
  | 30 => ("TrustedPauseModel", "can", "[Z", true)
  | 31 => ("TrustedPauseModel", "byKin", "[I", true)
  | 32 => ("TrustedPauseModel", "takes", "[I", true)
  | 33 => ("TrustedPauseModel", "kept", "[I", true)
  | 34 => ("TrustedPauseModel", "isKept", "[Z", true)
  | 35 => ("TrustedPauseModel", "keptAt", "I", false)
  | _ => ("TrustedPauseModel", "isWriting", "Z", false)
def tyX9 : Nat → FieldType := fun k => match k with
  | 0 => .int
  | 1 => .array .int
  | 2 => .array .int
  | 3 => .array .int
  | 4 => .array .int
  | 5 => .int
  | 6 => .int
  | 7 => .array .int
  | 8 => .array .int
  | 9 => .array .int
  | 10 => .array .int
  | 11 => .array .int
  | 12 => .array .int
  | 13 => .int
  | 14 => .array .int
  | 15 => .int
  | 16 => .array .int
  | 17 => .array .int
  | 18 => .array .int
  | 19 => .array .int
  | 20 => .array .int
  | 21 => .int
  | 22 => .array .int
  | 23 => .int
  | 24 => .int
  | 25 => .int
  | 26 => .int
  | 27 => .int
  | 28 => .array .long
  | 29 => .array .long
  | 30 => .array .boolean
  | 31 => .array .int
  | 32 => .array .int
  | 33 => .array .int
  | 34 => .array .boolean
  | 35 => .int
  | _ => .boolean
abbrev wsX90 : List Cond := u_ws RX9 TX9 37
theorem nmX9 : ∀ a, a < 37 → ∀ b, b < 37 → a ≠ b → (TX9 a).2.1 ≠ (TX9 b).2.1 := by decide +kernel
theorem tyX9_ok : ∀ k, k < 37 → parseFieldDescriptor (TX9 k).2.2.1 = some (tyX9 k) := by decide +kernel
abbrev vwCl : List vw_C := [(RX0, TX0, 6), (RX1, TX1, 7), (RX2, TX2, 4), (RX3, TX3, 2), (RX4, TX4, 5), (RX5, TX5, 4), (RX6, TX6, 4), (RX7, TX7, 5), (RX8, TX8, 11), (RX9, TX9, 37)]
end
section
/-! Tables, printed by wip/whole/gen.py: a method has a number; its rows: place, instruction, length, and what the pool says (a, b, the word's place in lw_tbl, a constant) -/
abbrev kE : Type := Nat × Instr × Nat × Nat × Nat × Nat × Int
-- 0: T.new ()V
def kL_0 : List kE := [(0, .aload_n 0, 1, 0, 0, 0, 0), (1, .invokespecial 3, 3, 6, 0, 73, 0), (4, .aload_n 0, 1, 0, 0, 0, 0), (5, .new 9, 3, 1, 0, 76, 0), (8, .dup, 1, 0, 0, 0, 0), (9, .invokespecial 11, 3, 2, 1, 78, 0), (12, .putfield 12, 3, 8, 0, 291, 0), (15, .aload_n 0, 1, 0, 0, 0, 0), (16, .new 9, 3, 1, 0, 76, 0), (19, .dup, 1, 0, 0, 0, 0), (20, .invokespecial 11, 3, 2, 1, 78, 0), (23, .putfield 16, 3, 8, 1, 292, 0), (26, .aload_n 0, 1, 0, 0, 0, 0), (27, .new 19, 3, 3, 0, 117, 0), (30, .dup, 1, 0, 0, 0, 0), (31, .invokespecial 21, 3, 5, 3, 119, 0), (34, .putfield 22, 3, 8, 2, 293, 0), (37, .aload_n 0, 1, 0, 0, 0, 0), (38, .new 26, 3, 0, 0, 132, 0), (41, .dup, 1, 0, 0, 0, 0), (42, .invokespecial 28, 3, 5, 4, 134, 0), (45, .putfield 29, 3, 8, 3, 294, 0), (48, .aload_n 0, 1, 0, 0, 0, 0), (49, .new 33, 3, 7, 0, 165, 0), (52, .dup, 1, 0, 0, 0, 0), (53, .invokespecial 35, 3, 5, 5, 167, 0), (56, .putfield 36, 3, 8, 4, 295, 0), (59, .aload_n 0, 1, 0, 0, 0, 0), (60, .new 40, 3, 6, 0, 192, 0), (63, .dup, 1, 0, 0, 0, 0), (64, .invokespecial 42, 3, 5, 6, 194, 0), (67, .putfield 43, 3, 8, 5, 296, 0), (70, .aload_n 0, 1, 0, 0, 0, 0), (71, .new 47, 3, 4, 0, 217, 0), (74, .dup, 1, 0, 0, 0, 0), (75, .invokespecial 49, 3, 5, 7, 219, 0), (78, .putfield 50, 3, 8, 6, 297, 0), (81, .aload_n 0, 1, 0, 0, 0, 0), (82, .new 54, 3, 5, 0, 243, 0), (85, .dup, 1, 0, 0, 0, 0), (86, .invokespecial 56, 3, 5, 8, 245, 0), (89, .putfield 57, 3, 8, 7, 298, 0), (92, .aload_n 0, 1, 0, 0, 0, 0), (93, .bipush 100, 2, 0, 0, 0, 0), (95, .newarray .int, 2, 0, 0, 0, 0), (97, .putfield 61, 3, 8, 8, 299, 0), (100, .aload_n 0, 1, 0, 0, 0, 0), (101, .new 65, 3, 2, 0, 262, 0), (104, .dup, 1, 0, 0, 0, 0), (105, .invokespecial 67, 3, 5, 9, 264, 0), (108, .putfield 68, 3, 8, 9, 300, 0), (111, .aload_n 0, 1, 0, 0, 0, 0), (112, .new 65, 3, 2, 0, 262, 0), (115, .dup, 1, 0, 0, 0, 0), (116, .invokespecial 67, 3, 5, 9, 264, 0), (119, .putfield 72, 3, 8, 10, 301, 0), (122, .return_, 1, 0, 0, 0, 0)]
-- 1: Family.new ()V
def kL_1 : List kE := [(0, .aload_n 0, 1, 0, 0, 0, 0), (1, .invokespecial 3, 3, 6, 0, 81, 0), (4, .aload_n 0, 1, 0, 0, 0, 0), (5, .bipush 8, 2, 0, 0, 0, 0), (7, .newarray .int, 2, 0, 0, 0, 0), (9, .putfield 9, 3, 1, 0, 85, 0), (12, .aload_n 0, 1, 0, 0, 0, 0), (13, .bipush 8, 2, 0, 0, 0, 0), (15, .newarray .int, 2, 0, 0, 0, 0), (17, .putfield 15, 3, 1, 1, 87, 0), (20, .aload_n 0, 1, 0, 0, 0, 0), (21, .bipush 8, 2, 0, 0, 0, 0), (23, .newarray .int, 2, 0, 0, 0, 0), (25, .putfield 18, 3, 1, 2, 89, 0), (28, .aload_n 0, 1, 0, 0, 0, 0), (29, .bipush 8, 2, 0, 0, 0, 0), (31, .newarray .int, 2, 0, 0, 0, 0), (33, .putfield 21, 3, 1, 3, 91, 0), (36, .aload_n 0, 1, 0, 0, 0, 0), (37, .sipush 255, 3, 0, 0, 0, 0), (40, .putfield 24, 3, 1, 4, 93, 0), (43, .aload_n 0, 1, 0, 0, 0, 0), (44, .iconst 0, 1, 0, 0, 0, 0), (45, .putfield 28, 3, 1, 5, 95, 0), (48, .aload_n 0, 1, 0, 0, 0, 0), (49, .iconst 0, 1, 0, 0, 0, 0), (50, .putfield 31, 3, 1, 6, 98, 0), (53, .aload_n 0, 1, 0, 0, 0, 0), (54, .getfield 9, 3, 1, 0, 85, 0), (57, .bipush 50, 2, 0, 0, 0, 0), (59, .invokestatic 34, 3, 1, 2, 82, 0), (62, .aload_n 0, 1, 0, 0, 0, 0), (63, .getfield 15, 3, 1, 1, 87, 0), (66, .bipush 30, 2, 0, 0, 0, 0), (68, .invokestatic 34, 3, 1, 2, 82, 0), (71, .aload_n 0, 1, 0, 0, 0, 0), (72, .getfield 18, 3, 1, 2, 89, 0), (75, .bipush 8, 2, 0, 0, 0, 0), (77, .invokestatic 34, 3, 1, 2, 82, 0), (80, .return_, 1, 0, 0, 0, 0)]
-- 2: Arrays.fill ([II)V
def kL_2 : List kE := [(0, .iconst 0, 1, 0, 0, 0, 0), (1, .istore_n 2, 1, 0, 0, 0, 0), (2, .aload_n 0, 1, 0, 0, 0, 0), (3, .arraylength, 1, 0, 0, 0, 0), (4, .istore_n 3, 1, 0, 0, 0, 0), (5, .iload_n 2, 1, 0, 0, 0, 0), (6, .iload_n 3, 1, 0, 0, 0, 0), (7, .if_icmp .ge 13, 3, 0, 0, 0, 0), (10, .aload_n 0, 1, 0, 0, 0, 0), (11, .iload_n 2, 1, 0, 0, 0, 0), (12, .iload_n 1, 1, 0, 0, 0, 0), (13, .iastore, 1, 0, 0, 0, 0), (14, .iinc 2 1, 3, 0, 0, 0, 0), (17, .goto (-12), 3, 0, 0, 0, 0), (20, .return_, 1, 0, 0, 0, 0)]
-- 3: Pad.new ()V
def kL_3 : List kE := [(0, .aload_n 0, 1, 0, 0, 0, 0), (1, .invokespecial 3, 3, 6, 0, 122, 0), (4, .aload_n 0, 1, 0, 0, 0, 0), (5, .bipush 60, 2, 0, 0, 0, 0), (7, .newarray .int, 2, 0, 0, 0, 0), (9, .putfield 9, 3, 3, 0, 123, 0), (12, .aload_n 0, 1, 0, 0, 0, 0), (13, .iconst 0, 1, 0, 0, 0, 0), (14, .putfield 15, 3, 3, 1, 124, 0), (17, .return_, 1, 0, 0, 0, 0)]
-- 4: Day.new ()V
def kL_4 : List kE := [(0, .aload_n 0, 1, 0, 0, 0, 0), (1, .invokespecial 3, 3, 6, 0, 137, 0), (4, .aload_n 0, 1, 0, 0, 0, 0), (5, .new 9, 3, 1, 0, 138, 0), (8, .dup, 1, 0, 0, 0, 0), (9, .invokespecial 11, 3, 2, 1, 139, 0), (12, .putfield 12, 3, 0, 0, 140, 0), (15, .aload_n 0, 1, 0, 0, 0, 0), (16, .iconst 0, 1, 0, 0, 0, 0), (17, .putfield 18, 3, 0, 1, 142, 0), (20, .aload_n 0, 1, 0, 0, 0, 0), (21, .bipush (-6), 2, 0, 0, 0, 0), (23, .putfield 22, 3, 0, 2, 144, 0), (26, .aload_n 0, 1, 0, 0, 0, 0), (27, .bipush (-6), 2, 0, 0, 0, 0), (29, .putfield 25, 3, 0, 3, 146, 0), (32, .aload_n 0, 1, 0, 0, 0, 0), (33, .bipush (-6), 2, 0, 0, 0, 0), (35, .putfield 28, 3, 0, 4, 148, 0), (38, .aload_n 0, 1, 0, 0, 0, 0), (39, .bipush (-6), 2, 0, 0, 0, 0), (41, .putfield 31, 3, 0, 5, 150, 0), (44, .return_, 1, 0, 0, 0, 0)]
-- 5: Tasks.new ()V
def kL_5 : List kE := [(0, .aload_n 0, 1, 0, 0, 0, 0), (1, .invokespecial 3, 3, 6, 0, 170, 0), (4, .aload_n 0, 1, 0, 0, 0, 0), (5, .bipush 6, 2, 0, 0, 0, 0), (7, .newarray .int, 2, 0, 0, 0, 0), (9, .putfield 9, 3, 7, 0, 171, 0), (12, .aload_n 0, 1, 0, 0, 0, 0), (13, .bipush 6, 2, 0, 0, 0, 0), (15, .newarray .int, 2, 0, 0, 0, 0), (17, .putfield 15, 3, 7, 1, 173, 0), (20, .aload_n 0, 1, 0, 0, 0, 0), (21, .bipush 6, 2, 0, 0, 0, 0), (23, .newarray .int, 2, 0, 0, 0, 0), (25, .putfield 18, 3, 7, 2, 175, 0), (28, .aload_n 0, 1, 0, 0, 0, 0), (29, .iconst 0, 1, 0, 0, 0, 0), (30, .putfield 21, 3, 7, 3, 177, 0), (33, .aload_n 0, 1, 0, 0, 0, 0), (34, .iconst 0, 1, 0, 0, 0, 0), (35, .putfield 25, 3, 7, 4, 179, 0), (38, .return_, 1, 0, 0, 0, 0)]
-- 6: Sights.new ()V
def kL_6 : List kE := [(0, .aload_n 0, 1, 0, 0, 0, 0), (1, .invokespecial 3, 3, 6, 0, 197, 0), (4, .aload_n 0, 1, 0, 0, 0, 0), (5, .bipush 8, 2, 0, 0, 0, 0), (7, .newarray .int, 2, 0, 0, 0, 0), (9, .putfield 9, 3, 6, 0, 198, 0), (12, .aload_n 0, 1, 0, 0, 0, 0), (13, .bipush 8, 2, 0, 0, 0, 0), (15, .newarray .int, 2, 0, 0, 0, 0), (17, .putfield 15, 3, 6, 1, 200, 0), (20, .aload_n 0, 1, 0, 0, 0, 0), (21, .bipush 8, 2, 0, 0, 0, 0), (23, .newarray .boolean, 2, 0, 0, 0, 0), (25, .putfield 18, 3, 6, 2, 202, 0), (28, .aload_n 0, 1, 0, 0, 0, 0), (29, .iconst 0, 1, 0, 0, 0, 0), (30, .putfield 22, 3, 6, 3, 204, 0), (33, .return_, 1, 0, 0, 0, 0)]
-- 7: Rounds.new ()V
def kL_7 : List kE := [(0, .aload_n 0, 1, 0, 0, 0, 0), (1, .invokespecial 3, 3, 6, 0, 222, 0), (4, .aload_n 0, 1, 0, 0, 0, 0), (5, .sipush 336, 3, 0, 0, 0, 0), (8, .newarray .int, 2, 0, 0, 0, 0), (10, .putfield 9, 3, 4, 0, 223, 0), (13, .aload_n 0, 1, 0, 0, 0, 0), (14, .bipush 8, 2, 0, 0, 0, 0), (16, .newarray .int, 2, 0, 0, 0, 0), (18, .putfield 15, 3, 4, 1, 225, 0), (21, .aload_n 0, 1, 0, 0, 0, 0), (22, .iconst 0, 1, 0, 0, 0, 0), (23, .putfield 18, 3, 4, 2, 226, 0), (26, .aload_n 0, 1, 0, 0, 0, 0), (27, .bipush (-6), 2, 0, 0, 0, 0), (29, .putfield 22, 3, 4, 3, 228, 0), (32, .aload_n 0, 1, 0, 0, 0, 0), (33, .iconst 0, 1, 0, 0, 0, 0), (34, .putfield 25, 3, 4, 4, 230, 0), (37, .return_, 1, 0, 0, 0, 0)]
-- 8: Sentences.new ()V
def kL_8 : List kE := [(0, .aload_n 0, 1, 0, 0, 0, 0), (1, .invokespecial 3, 3, 6, 0, 248, 0), (4, .aload_n 0, 1, 0, 0, 0, 0), (5, .bipush 31, 2, 0, 0, 0, 0), (7, .newarray .int, 2, 0, 0, 0, 0), (9, .putfield 9, 3, 5, 0, 249, 0), (12, .aload_n 0, 1, 0, 0, 0, 0), (13, .bipush 31, 2, 0, 0, 0, 0), (15, .newarray .int, 2, 0, 0, 0, 0), (17, .putfield 15, 3, 5, 1, 250, 0), (20, .aload_n 0, 1, 0, 0, 0, 0), (21, .bipush 10, 2, 0, 0, 0, 0), (23, .newarray .int, 2, 0, 0, 0, 0), (25, .putfield 18, 3, 5, 2, 251, 0), (28, .aload_n 0, 1, 0, 0, 0, 0), (29, .bipush 10, 2, 0, 0, 0, 0), (31, .newarray .int, 2, 0, 0, 0, 0), (33, .putfield 21, 3, 5, 3, 252, 0), (36, .return_, 1, 0, 0, 0, 0)]
-- 9: Image.new ()V
def kL_9 : List kE := [(0, .aload_n 0, 1, 0, 0, 0, 0), (1, .invokespecial 1, 3, 6, 0, 267, 0), (4, .aload_n 0, 1, 0, 0, 0, 0), (5, .new 7, 3, 1, 0, 268, 0), (8, .dup, 1, 0, 0, 0, 0), (9, .invokespecial 9, 3, 2, 1, 269, 0), (12, .putfield 10, 3, 2, 0, 274, 0), (15, .aload_n 0, 1, 0, 0, 0, 0), (16, .new 16, 3, 7, 0, 270, 0), (19, .dup, 1, 0, 0, 0, 0), (20, .invokespecial 18, 3, 5, 5, 271, 0), (23, .putfield 19, 3, 2, 1, 276, 0), (26, .aload_n 0, 1, 0, 0, 0, 0), (27, .new 23, 3, 6, 0, 272, 0), (30, .dup, 1, 0, 0, 0, 0), (31, .invokespecial 25, 3, 5, 6, 273, 0), (34, .putfield 26, 3, 2, 2, 278, 0), (37, .aload_n 0, 1, 0, 0, 0, 0), (38, .iconst 0, 1, 0, 0, 0, 0), (39, .putfield 30, 3, 2, 3, 280, 0), (42, .return_, 1, 0, 0, 0, 0)]
-- 10: T.kin (IIII)I
def kL_10 : List kE := [(0, .iload_n 1, 1, 0, 0, 0, 0), (1, .invokestatic 75, 3, 1, 11, 329, 0), (4, .ifCond .ne 5, 3, 0, 0, 0, 0), (7, .iconst (-1), 1, 0, 0, 0, 0), (8, .ireturn, 1, 0, 0, 0, 0), (9, .iload_n 2, 1, 0, 0, 0, 0), (10, .iconst 0, 1, 0, 0, 0, 0), (11, .bipush 99, 2, 0, 0, 0, 0), (13, .invokestatic 79, 3, 1, 12, 332, 0), (16, .ifCond .eq 13, 3, 0, 0, 0, 0), (19, .iload_n 3, 1, 0, 0, 0, 0), (20, .iconst 0, 1, 0, 0, 0, 0), (21, .bipush 99, 2, 0, 0, 0, 0), (23, .invokestatic 79, 3, 1, 12, 332, 0), (26, .ifCond .ne 6, 3, 0, 0, 0, 0), (29, .bipush (-2), 2, 0, 0, 0, 0), (31, .ireturn, 1, 0, 0, 0, 0), (32, .iload 4, 2, 0, 0, 0, 0), (34, .iconst 0, 1, 0, 0, 0, 0), (35, .sipush 1023, 3, 0, 0, 0, 0), (38, .invokestatic 79, 3, 1, 12, 332, 0), (41, .ifCond .ne 6, 3, 0, 0, 0, 0), (44, .bipush (-2), 2, 0, 0, 0, 0), (46, .ireturn, 1, 0, 0, 0, 0), (47, .aload_n 0, 1, 0, 0, 0, 0), (48, .getfield 12, 3, 8, 0, 291, 0), (51, .getfield 83, 3, 1, 0, 86, 0), (54, .iload_n 1, 1, 0, 0, 0, 0), (55, .iaload, 1, 0, 0, 0, 0), (56, .istore 5, 2, 0, 0, 0, 0), (58, .aload_n 0, 1, 0, 0, 0, 0), (59, .getfield 12, 3, 8, 0, 291, 0), (62, .getfield 83, 3, 1, 0, 86, 0), (65, .iload_n 1, 1, 0, 0, 0, 0), (66, .iload_n 2, 1, 0, 0, 0, 0), (67, .iastore, 1, 0, 0, 0, 0), (68, .aload_n 0, 1, 0, 0, 0, 0), (69, .getfield 12, 3, 8, 0, 291, 0), (72, .getfield 86, 3, 1, 1, 88, 0), (75, .iload_n 1, 1, 0, 0, 0, 0), (76, .iload_n 3, 1, 0, 0, 0, 0), (77, .iastore, 1, 0, 0, 0, 0), (78, .aload_n 0, 1, 0, 0, 0, 0), (79, .getfield 12, 3, 8, 0, 291, 0), (82, .getfield 89, 3, 1, 2, 90, 0), (85, .iload_n 1, 1, 0, 0, 0, 0), (86, .iload 4, 2, 0, 0, 0, 0), (88, .iastore, 1, 0, 0, 0, 0), (89, .aload_n 0, 1, 0, 0, 0, 0), (90, .getfield 12, 3, 8, 0, 291, 0), (93, .dup, 1, 0, 0, 0, 0), (94, .getfield 92, 3, 1, 4, 94, 0), (97, .iconst 1, 1, 0, 0, 0, 0), (98, .iload_n 1, 1, 0, 0, 0, 0), (99, .ishl, 1, 0, 0, 0, 0), (100, .ior, 1, 0, 0, 0, 0), (101, .putfield 92, 3, 1, 4, 94, 0), (104, .iload 5, 2, 0, 0, 0, 0), (106, .ireturn, 1, 0, 0, 0, 0)]
-- 11: T.isKin (I)Z
def kL_11 : List kE := [(0, .iload_n 0, 1, 0, 0, 0, 0), (1, .ifCond .lt 13, 3, 0, 0, 0, 0), (4, .iload_n 0, 1, 0, 0, 0, 0), (5, .bipush 8, 2, 0, 0, 0, 0), (7, .if_icmp .ge 7, 3, 0, 0, 0, 0), (10, .iconst 1, 1, 0, 0, 0, 0), (11, .goto 4, 3, 0, 0, 0, 0), (14, .iconst 0, 1, 0, 0, 0, 0), (15, .ireturn, 1, 0, 0, 0, 0)]
-- 12: T.isIn (III)Z
def kL_12 : List kE := [(0, .iload_n 0, 1, 0, 0, 0, 0), (1, .iload_n 1, 1, 0, 0, 0, 0), (2, .if_icmp .lt 12, 3, 0, 0, 0, 0), (5, .iload_n 0, 1, 0, 0, 0, 0), (6, .iload_n 2, 1, 0, 0, 0, 0), (7, .if_icmp .gt 7, 3, 0, 0, 0, 0), (10, .iconst 1, 1, 0, 0, 0, 0), (11, .goto 4, 3, 0, 0, 0, 0), (14, .iconst 0, 1, 0, 0, 0, 0), (15, .ireturn, 1, 0, 0, 0, 0)]
-- 13: T.tie (IIZ)I
def kL_13 : List kE := [(0, .iload_n 1, 1, 0, 0, 0, 0), (1, .invokestatic 75, 3, 1, 11, 329, 0), (4, .ifCond .eq 15, 3, 0, 0, 0, 0), (7, .iload_n 2, 1, 0, 0, 0, 0), (8, .invokestatic 75, 3, 1, 11, 329, 0), (11, .ifCond .eq 8, 3, 0, 0, 0, 0), (14, .iload_n 1, 1, 0, 0, 0, 0), (15, .iload_n 2, 1, 0, 0, 0, 0), (16, .if_icmp .ne 5, 3, 0, 0, 0, 0), (19, .iconst (-1), 1, 0, 0, 0, 0), (20, .ireturn, 1, 0, 0, 0, 0), (21, .aload_n 0, 1, 0, 0, 0, 0), (22, .getfield 12, 3, 8, 0, 291, 0), (25, .iload_n 1, 1, 0, 0, 0, 0), (26, .iload_n 2, 1, 0, 0, 0, 0), (27, .iload_n 3, 1, 0, 0, 0, 0), (28, .invokevirtual 96, 3, 0, 14, 339, 0), (31, .aload_n 0, 1, 0, 0, 0, 0), (32, .getfield 12, 3, 8, 0, 291, 0), (35, .invokevirtual 100, 3, 0, 15, 344, 0), (38, .ireturn, 1, 0, 0, 0, 0)]
-- 14: Family.setTie (IIZ)V
def kL_14 : List kE := [(0, .iload_n 1, 1, 0, 0, 0, 0), (1, .invokestatic 46, 3, 4, 11, 343, 0), (4, .ifCond .eq 10, 3, 0, 0, 0, 0), (7, .iload_n 2, 1, 0, 0, 0, 0), (8, .invokestatic 46, 3, 4, 11, 343, 0), (11, .ifCond .ne 4, 3, 0, 0, 0, 0), (14, .return_, 1, 0, 0, 0, 0), (15, .iload_n 3, 1, 0, 0, 0, 0), (16, .ifCond .eq 30, 3, 0, 0, 0, 0), (19, .aload_n 0, 1, 0, 0, 0, 0), (20, .getfield 21, 3, 1, 3, 91, 0), (23, .iload_n 1, 1, 0, 0, 0, 0), (24, .dup2, 1, 0, 0, 0, 0), (25, .iaload, 1, 0, 0, 0, 0), (26, .iconst 1, 1, 0, 0, 0, 0), (27, .iload_n 2, 1, 0, 0, 0, 0), (28, .ishl, 1, 0, 0, 0, 0), (29, .ior, 1, 0, 0, 0, 0), (30, .iastore, 1, 0, 0, 0, 0), (31, .aload_n 0, 1, 0, 0, 0, 0), (32, .getfield 21, 3, 1, 3, 91, 0), (35, .iload_n 2, 1, 0, 0, 0, 0), (36, .dup2, 1, 0, 0, 0, 0), (37, .iaload, 1, 0, 0, 0, 0), (38, .iconst 1, 1, 0, 0, 0, 0), (39, .iload_n 1, 1, 0, 0, 0, 0), (40, .ishl, 1, 0, 0, 0, 0), (41, .ior, 1, 0, 0, 0, 0), (42, .iastore, 1, 0, 0, 0, 0), (43, .goto 31, 3, 0, 0, 0, 0), (46, .aload_n 0, 1, 0, 0, 0, 0), (47, .getfield 21, 3, 1, 3, 91, 0), (50, .iload_n 1, 1, 0, 0, 0, 0), (51, .dup2, 1, 0, 0, 0, 0), (52, .iaload, 1, 0, 0, 0, 0), (53, .iconst 1, 1, 0, 0, 0, 0), (54, .iload_n 2, 1, 0, 0, 0, 0), (55, .ishl, 1, 0, 0, 0, 0), (56, .iconst (-1), 1, 0, 0, 0, 0), (57, .ixor, 1, 0, 0, 0, 0), (58, .iand, 1, 0, 0, 0, 0), (59, .iastore, 1, 0, 0, 0, 0), (60, .aload_n 0, 1, 0, 0, 0, 0), (61, .getfield 21, 3, 1, 3, 91, 0), (64, .iload_n 2, 1, 0, 0, 0, 0), (65, .dup2, 1, 0, 0, 0, 0), (66, .iaload, 1, 0, 0, 0, 0), (67, .iconst 1, 1, 0, 0, 0, 0), (68, .iload_n 1, 1, 0, 0, 0, 0), (69, .ishl, 1, 0, 0, 0, 0), (70, .iconst (-1), 1, 0, 0, 0, 0), (71, .ixor, 1, 0, 0, 0, 0), (72, .iand, 1, 0, 0, 0, 0), (73, .iastore, 1, 0, 0, 0, 0), (74, .return_, 1, 0, 0, 0, 0)]
-- 15: Family.countTies ()I
def kL_15 : List kE := [(0, .iconst 0, 1, 0, 0, 0, 0), (1, .istore_n 1, 1, 0, 0, 0, 0), (2, .iconst 0, 1, 0, 0, 0, 0), (3, .istore_n 2, 1, 0, 0, 0, 0), (4, .iload_n 2, 1, 0, 0, 0, 0), (5, .bipush 8, 2, 0, 0, 0, 0), (7, .if_icmp .ge 21, 3, 0, 0, 0, 0), (10, .iload_n 1, 1, 0, 0, 0, 0), (11, .aload_n 0, 1, 0, 0, 0, 0), (12, .getfield 21, 3, 1, 3, 91, 0), (15, .iload_n 2, 1, 0, 0, 0, 0), (16, .iaload, 1, 0, 0, 0, 0), (17, .invokestatic 50, 3, 1, 16, 348, 0), (20, .iadd, 1, 0, 0, 0, 0), (21, .istore_n 1, 1, 0, 0, 0, 0), (22, .iinc 2 1, 3, 0, 0, 0, 0), (25, .goto (-21), 3, 0, 0, 0, 0), (28, .iload_n 1, 1, 0, 0, 0, 0), (29, .iconst 2, 1, 0, 0, 0, 0), (30, .idiv, 1, 0, 0, 0, 0), (31, .ireturn, 1, 0, 0, 0, 0)]
-- 16: Integer.bitCount (I)I
def kL_16 : List kE := [(0, .iload_n 0, 1, 0, 0, 0, 0), (1, .iload_n 0, 1, 0, 0, 0, 0), (2, .iconst 1, 1, 0, 0, 0, 0), (3, .iushr, 1, 0, 0, 0, 0), (4, .ldc_w 265, 3, 0, 0, 351, 1431655765), (7, .iand, 1, 0, 0, 0, 0), (8, .isub, 1, 0, 0, 0, 0), (9, .istore_n 0, 1, 0, 0, 0, 0), (10, .iload_n 0, 1, 0, 0, 0, 0), (11, .ldc_w 266, 3, 0, 0, 352, 858993459), (14, .iand, 1, 0, 0, 0, 0), (15, .iload_n 0, 1, 0, 0, 0, 0), (16, .iconst 2, 1, 0, 0, 0, 0), (17, .iushr, 1, 0, 0, 0, 0), (18, .ldc_w 266, 3, 0, 0, 352, 858993459), (21, .iand, 1, 0, 0, 0, 0), (22, .iadd, 1, 0, 0, 0, 0), (23, .istore_n 0, 1, 0, 0, 0, 0), (24, .iload_n 0, 1, 0, 0, 0, 0), (25, .iload_n 0, 1, 0, 0, 0, 0), (26, .iconst 4, 1, 0, 0, 0, 0), (27, .iushr, 1, 0, 0, 0, 0), (28, .iadd, 1, 0, 0, 0, 0), (29, .ldc_w 267, 3, 0, 0, 353, 252645135), (32, .iand, 1, 0, 0, 0, 0), (33, .istore_n 0, 1, 0, 0, 0, 0), (34, .iload_n 0, 1, 0, 0, 0, 0), (35, .iload_n 0, 1, 0, 0, 0, 0), (36, .bipush 8, 2, 0, 0, 0, 0), (38, .iushr, 1, 0, 0, 0, 0), (39, .iadd, 1, 0, 0, 0, 0), (40, .istore_n 0, 1, 0, 0, 0, 0), (41, .iload_n 0, 1, 0, 0, 0, 0), (42, .iload_n 0, 1, 0, 0, 0, 0), (43, .bipush 16, 2, 0, 0, 0, 0), (45, .iushr, 1, 0, 0, 0, 0), (46, .iadd, 1, 0, 0, 0, 0), (47, .istore_n 0, 1, 0, 0, 0, 0), (48, .iload_n 0, 1, 0, 0, 0, 0), (49, .bipush 63, 2, 0, 0, 0, 0), (51, .iand, 1, 0, 0, 0, 0), (52, .ireturn, 1, 0, 0, 0, 0)]
-- 17: T.pause (I)I
def kL_17 : List kE := [(0, .iload_n 1, 1, 0, 0, 0, 0), (1, .iconst (-1), 1, 0, 0, 0, 0), (2, .if_icmp .eq 12, 3, 0, 0, 0, 0), (5, .iload_n 1, 1, 0, 0, 0, 0), (6, .invokestatic 75, 3, 1, 11, 329, 0), (9, .ifCond .ne 5, 3, 0, 0, 0, 0), (12, .iconst (-1), 1, 0, 0, 0, 0), (13, .ireturn, 1, 0, 0, 0, 0), (14, .iload_n 1, 1, 0, 0, 0, 0), (15, .iconst (-1), 1, 0, 0, 0, 0), (16, .if_icmp .eq 17, 3, 0, 0, 0, 0), (19, .aload_n 0, 1, 0, 0, 0, 0), (20, .getfield 12, 3, 8, 0, 291, 0), (23, .iload_n 1, 1, 0, 0, 0, 0), (24, .invokevirtual 104, 3, 0, 18, 358, 0), (27, .ifCond .ne 6, 3, 0, 0, 0, 0), (30, .bipush (-3), 2, 0, 0, 0, 0), (32, .ireturn, 1, 0, 0, 0, 0), (33, .aload_n 0, 1, 0, 0, 0, 0), (34, .getfield 12, 3, 8, 0, 291, 0), (37, .getfield 107, 3, 1, 5, 96, 0), (40, .istore_n 2, 1, 0, 0, 0, 0), (41, .aload_n 0, 1, 0, 0, 0, 0), (42, .getfield 12, 3, 8, 0, 291, 0), (45, .iload_n 1, 1, 0, 0, 0, 0), (46, .iconst (-1), 1, 0, 0, 0, 0), (47, .if_icmp .ne 8, 3, 0, 0, 0, 0), (50, .bipush (-6), 2, 0, 0, 0, 0), (52, .goto 4, 3, 0, 0, 0, 0), (55, .iload_n 1, 1, 0, 0, 0, 0), (56, .putfield 107, 3, 1, 5, 96, 0), (59, .iload_n 2, 1, 0, 0, 0, 0), (60, .ireturn, 1, 0, 0, 0, 0)]
-- 18: Family.lives (I)Z
def kL_18 : List kE := [(0, .iload_n 1, 1, 0, 0, 0, 0), (1, .ifCond .lt 25, 3, 0, 0, 0, 0), (4, .iload_n 1, 1, 0, 0, 0, 0), (5, .bipush 8, 2, 0, 0, 0, 0), (7, .if_icmp .ge 19, 3, 0, 0, 0, 0), (10, .aload_n 0, 1, 0, 0, 0, 0), (11, .getfield 24, 3, 1, 4, 93, 0), (14, .iload_n 1, 1, 0, 0, 0, 0), (15, .ishr, 1, 0, 0, 0, 0), (16, .iconst 1, 1, 0, 0, 0, 0), (17, .iand, 1, 0, 0, 0, 0), (18, .iconst 1, 1, 0, 0, 0, 0), (19, .if_icmp .ne 7, 3, 0, 0, 0, 0), (22, .iconst 1, 1, 0, 0, 0, 0), (23, .goto 4, 3, 0, 0, 0, 0), (26, .iconst 0, 1, 0, 0, 0, 0), (27, .ireturn, 1, 0, 0, 0, 0)]
-- 19: T.task (IIII)I
def kL_19 : List kE := [(0, .iload_n 1, 1, 0, 0, 0, 0), (1, .iconst 0, 1, 0, 0, 0, 0), (2, .iconst 5, 1, 0, 0, 0, 0), (3, .invokestatic 79, 3, 1, 12, 332, 0), (6, .ifCond .eq 10, 3, 0, 0, 0, 0), (9, .iload_n 2, 1, 0, 0, 0, 0), (10, .invokestatic 75, 3, 1, 11, 329, 0), (13, .ifCond .ne 5, 3, 0, 0, 0, 0), (16, .iconst (-1), 1, 0, 0, 0, 0), (17, .ireturn, 1, 0, 0, 0, 0), (18, .iload_n 3, 1, 0, 0, 0, 0), (19, .iconst 0, 1, 0, 0, 0, 0), (20, .bipush 99, 2, 0, 0, 0, 0), (22, .invokestatic 79, 3, 1, 12, 332, 0), (25, .ifCond .eq 14, 3, 0, 0, 0, 0), (28, .iload 4, 2, 0, 0, 0, 0), (30, .iconst 0, 1, 0, 0, 0, 0), (31, .bipush 99, 2, 0, 0, 0, 0), (33, .invokestatic 79, 3, 1, 12, 332, 0), (36, .ifCond .ne 6, 3, 0, 0, 0, 0), (39, .bipush (-2), 2, 0, 0, 0, 0), (41, .ireturn, 1, 0, 0, 0, 0), (42, .aload_n 0, 1, 0, 0, 0, 0), (43, .getfield 36, 3, 8, 4, 295, 0), (46, .getfield 110, 3, 7, 2, 176, 0), (49, .iload_n 1, 1, 0, 0, 0, 0), (50, .iaload, 1, 0, 0, 0, 0), (51, .istore 5, 2, 0, 0, 0, 0), (53, .aload_n 0, 1, 0, 0, 0, 0), (54, .getfield 36, 3, 8, 4, 295, 0), (57, .getfield 113, 3, 7, 0, 172, 0), (60, .iload_n 1, 1, 0, 0, 0, 0), (61, .iload_n 2, 1, 0, 0, 0, 0), (62, .iastore, 1, 0, 0, 0, 0), (63, .aload_n 0, 1, 0, 0, 0, 0), (64, .getfield 36, 3, 8, 4, 295, 0), (67, .getfield 116, 3, 7, 1, 174, 0), (70, .iload_n 1, 1, 0, 0, 0, 0), (71, .iload_n 3, 1, 0, 0, 0, 0), (72, .iastore, 1, 0, 0, 0, 0), (73, .aload_n 0, 1, 0, 0, 0, 0), (74, .getfield 36, 3, 8, 4, 295, 0), (77, .getfield 110, 3, 7, 2, 176, 0), (80, .iload_n 1, 1, 0, 0, 0, 0), (81, .iload 4, 2, 0, 0, 0, 0), (83, .iastore, 1, 0, 0, 0, 0), (84, .iload 5, 2, 0, 0, 0, 0), (86, .ireturn, 1, 0, 0, 0, 0)]
-- 20: T.say (I)I
def kL_20 : List kE := [(0, .iload_n 1, 1, 0, 0, 0, 0), (1, .bipush 33, 2, 0, 0, 0, 0), (3, .bipush 126, 2, 0, 0, 0, 0), (5, .invokestatic 79, 3, 1, 12, 332, 0), (8, .ifCond .ne 6, 3, 0, 0, 0, 0), (11, .bipush (-2), 2, 0, 0, 0, 0), (13, .ireturn, 1, 0, 0, 0, 0), (14, .aload_n 0, 1, 0, 0, 0, 0), (15, .getfield 22, 3, 8, 2, 293, 0), (18, .iload_n 1, 1, 0, 0, 0, 0), (19, .invokevirtual 119, 3, 0, 21, 370, 0), (22, .ireturn, 1, 0, 0, 0, 0)]
-- 21: Pad.append (I)I
def kL_21 : List kE := [(0, .aload_n 0, 1, 0, 0, 0, 0), (1, .getfield 15, 3, 3, 1, 124, 0), (4, .bipush 60, 2, 0, 0, 0, 0), (6, .if_icmp .ge 10, 3, 0, 0, 0, 0), (9, .aload_n 0, 1, 0, 0, 0, 0), (10, .getfield 15, 3, 3, 1, 124, 0), (13, .ifCond .ge 6, 3, 0, 0, 0, 0), (16, .bipush (-4), 2, 0, 0, 0, 0), (18, .ireturn, 1, 0, 0, 0, 0), (19, .aload_n 0, 1, 0, 0, 0, 0), (20, .getfield 9, 3, 3, 0, 123, 0), (23, .aload_n 0, 1, 0, 0, 0, 0), (24, .getfield 15, 3, 3, 1, 124, 0), (27, .iload_n 1, 1, 0, 0, 0, 0), (28, .iastore, 1, 0, 0, 0, 0), (29, .aload_n 0, 1, 0, 0, 0, 0), (30, .dup, 1, 0, 0, 0, 0), (31, .getfield 15, 3, 3, 1, 124, 0), (34, .iconst 1, 1, 0, 0, 0, 0), (35, .iadd, 1, 0, 0, 0, 0), (36, .putfield 15, 3, 3, 1, 124, 0), (39, .aload_n 0, 1, 0, 0, 0, 0), (40, .getfield 15, 3, 3, 1, 124, 0), (43, .ireturn, 1, 0, 0, 0, 0)]
-- 22: T.wipe ()I
def kL_22 : List kE := [(0, .aload_n 0, 1, 0, 0, 0, 0), (1, .getfield 22, 3, 8, 2, 293, 0), (4, .getfield 123, 3, 3, 1, 126, 0), (7, .istore_n 1, 1, 0, 0, 0, 0), (8, .aload_n 0, 1, 0, 0, 0, 0), (9, .getfield 22, 3, 8, 2, 293, 0), (12, .iconst 0, 1, 0, 0, 0, 0), (13, .putfield 123, 3, 3, 1, 126, 0), (16, .iload_n 1, 1, 0, 0, 0, 0), (17, .ireturn, 1, 0, 0, 0, 0)]
-- 23: T.fault ()I
def kL_23 : List kE := [(0, .aload_n 0, 1, 0, 0, 0, 0), (1, .getfield 22, 3, 8, 2, 293, 0), (4, .invokevirtual 126, 3, 0, 24, 382, 0), (7, .ireturn, 1, 0, 0, 0, 0)]
-- 24: Pad.faultyPlace ()I
def kL_24 : List kE := [(0, .iconst 0, 1, 0, 0, 0, 0), (1, .istore_n 1, 1, 0, 0, 0, 0), (2, .iconst 0, 1, 0, 0, 0, 0), (3, .istore_n 2, 1, 0, 0, 0, 0), (4, .iload_n 2, 1, 0, 0, 0, 0), (5, .aload_n 0, 1, 0, 0, 0, 0), (6, .getfield 15, 3, 3, 1, 124, 0), (9, .if_icmp .ge 26, 3, 0, 0, 0, 0), (12, .iload_n 1, 1, 0, 0, 0, 0), (13, .aload_n 0, 1, 0, 0, 0, 0), (14, .iload_n 2, 1, 0, 0, 0, 0), (15, .invokevirtual 23, 3, 0, 25, 386, 0), (18, .invokestatic 27, 3, 1, 26, 391, 0), (21, .istore_n 1, 1, 0, 0, 0, 0), (22, .iload_n 1, 1, 0, 0, 0, 0), (23, .iconst 5, 1, 0, 0, 0, 0), (24, .if_icmp .ne 5, 3, 0, 0, 0, 0), (27, .iload_n 2, 1, 0, 0, 0, 0), (28, .ireturn, 1, 0, 0, 0, 0), (29, .iinc 2 1, 3, 0, 0, 0, 0), (32, .goto (-28), 3, 0, 0, 0, 0), (35, .iload_n 1, 1, 0, 0, 0, 0), (36, .ifCond .ne 8, 3, 0, 0, 0, 0), (39, .bipush (-6), 2, 0, 0, 0, 0), (41, .goto 7, 3, 0, 0, 0, 0), (44, .aload_n 0, 1, 0, 0, 0, 0), (45, .getfield 15, 3, 3, 1, 124, 0), (48, .ireturn, 1, 0, 0, 0, 0)]
-- 25: Pad.signAt (I)I
def kL_25 : List kE := [(0, .iload_n 1, 1, 0, 0, 0, 0), (1, .aload_n 0, 1, 0, 0, 0, 0), (2, .getfield 15, 3, 3, 1, 124, 0), (5, .if_icmp .ge 22, 3, 0, 0, 0, 0), (8, .iload_n 1, 1, 0, 0, 0, 0), (9, .iconst 0, 1, 0, 0, 0, 0), (10, .bipush 59, 2, 0, 0, 0, 0), (12, .invokestatic 19, 3, 4, 12, 390, 0), (15, .ifCond .eq 12, 3, 0, 0, 0, 0), (18, .aload_n 0, 1, 0, 0, 0, 0), (19, .getfield 9, 3, 3, 0, 123, 0), (22, .iload_n 1, 1, 0, 0, 0, 0), (23, .iaload, 1, 0, 0, 0, 0), (24, .goto 4, 3, 0, 0, 0, 0), (27, .iconst 0, 1, 0, 0, 0, 0), (28, .ireturn, 1, 0, 0, 0, 0)]
-- 26: Pad.dueBehind (II)I
def kL_26 : List kE := [(0, .iload_n 1, 1, 0, 0, 0, 0), (1, .bipush 65, 2, 0, 0, 0, 0), (3, .bipush 72, 2, 0, 0, 0, 0), (5, .invokestatic 19, 3, 4, 12, 390, 0), (8, .istore_n 2, 1, 0, 0, 0, 0), (9, .iload_n 1, 1, 0, 0, 0, 0), (10, .bipush 97, 2, 0, 0, 0, 0), (12, .bipush 106, 2, 0, 0, 0, 0), (14, .invokestatic 19, 3, 4, 12, 390, 0), (17, .istore_n 3, 1, 0, 0, 0, 0), (18, .iload_n 0, 1, 0, 0, 0, 0), (19, .tableswitch 98 0 4 #[33, 53, 58, 68, 78], 33, 0, 0, 0, 0), (52, .iload_n 1, 1, 0, 0, 0, 0), (53, .bipush 33, 2, 0, 0, 0, 0), (55, .if_icmp .ne 7, 3, 0, 0, 0, 0), (58, .iconst 0, 1, 0, 0, 0, 0), (59, .goto 12, 3, 0, 0, 0, 0), (62, .iload_n 2, 1, 0, 0, 0, 0), (63, .ifCond .eq 7, 3, 0, 0, 0, 0), (66, .iconst 1, 1, 0, 0, 0, 0), (67, .goto 4, 3, 0, 0, 0, 0), (70, .iconst 5, 1, 0, 0, 0, 0), (71, .ireturn, 1, 0, 0, 0, 0), (72, .iload_n 1, 1, 0, 0, 0, 0), (73, .invokestatic 31, 3, 1, 27, 394, 0), (76, .ireturn, 1, 0, 0, 0, 0), (77, .iload_n 2, 1, 0, 0, 0, 0), (78, .ifCond .eq 7, 3, 0, 0, 0, 0), (81, .iconst 0, 1, 0, 0, 0, 0), (82, .goto 4, 3, 0, 0, 0, 0), (85, .iconst 5, 1, 0, 0, 0, 0), (86, .ireturn, 1, 0, 0, 0, 0), (87, .iload_n 3, 1, 0, 0, 0, 0), (88, .ifCond .eq 7, 3, 0, 0, 0, 0), (91, .iconst 4, 1, 0, 0, 0, 0), (92, .goto 4, 3, 0, 0, 0, 0), (95, .iconst 5, 1, 0, 0, 0, 0), (96, .ireturn, 1, 0, 0, 0, 0), (97, .iload_n 3, 1, 0, 0, 0, 0), (98, .ifCond .eq 7, 3, 0, 0, 0, 0), (101, .iconst 4, 1, 0, 0, 0, 0), (102, .goto 14, 3, 0, 0, 0, 0), (105, .iload_n 1, 1, 0, 0, 0, 0), (106, .bipush 34, 2, 0, 0, 0, 0), (108, .if_icmp .ne 7, 3, 0, 0, 0, 0), (111, .iconst 0, 1, 0, 0, 0, 0), (112, .goto 4, 3, 0, 0, 0, 0), (115, .iconst 5, 1, 0, 0, 0, 0), (116, .ireturn, 1, 0, 0, 0, 0), (117, .iconst 5, 1, 0, 0, 0, 0), (118, .ireturn, 1, 0, 0, 0, 0)]
-- 27: Pad.dueBehindVerb (I)I
def kL_27 : List kE := [(0, .iload_n 0, 1, 0, 0, 0, 0), (1, .lookupswitch 49 #[(34, 45), (43, 47), (61, 47), (62, 43)], 43, 0, 0, 0, 0), (44, .iconst 2, 1, 0, 0, 0, 0), (45, .ireturn, 1, 0, 0, 0, 0), (46, .iconst 3, 1, 0, 0, 0, 0), (47, .ireturn, 1, 0, 0, 0, 0), (48, .iconst 0, 1, 0, 0, 0, 0), (49, .ireturn, 1, 0, 0, 0, 0), (50, .iconst 5, 1, 0, 0, 0, 0), (51, .ireturn, 1, 0, 0, 0, 0)]
-- 28: T.judge (I)I
def kL_28 : List kE := [(0, .iload_n 1, 1, 0, 0, 0, 0), (1, .iconst 0, 1, 0, 0, 0, 0), (2, .iconst 2, 1, 0, 0, 0, 0), (3, .invokestatic 79, 3, 1, 12, 332, 0), (6, .ifCond .ne 6, 3, 0, 0, 0, 0), (9, .bipush (-2), 2, 0, 0, 0, 0), (11, .ireturn, 1, 0, 0, 0, 0), (12, .aload_n 0, 1, 0, 0, 0, 0), (13, .invokevirtual 129, 3, 0, 29, 401, 0), (16, .istore_n 2, 1, 0, 0, 0, 0), (17, .iload_n 2, 1, 0, 0, 0, 0), (18, .bipush (-5), 2, 0, 0, 0, 0), (20, .if_icmp .ne 6, 3, 0, 0, 0, 0), (23, .bipush (-5), 2, 0, 0, 0, 0), (25, .ireturn, 1, 0, 0, 0, 0), (26, .iload_n 1, 1, 0, 0, 0, 0), (27, .ifCond .ne 11, 3, 0, 0, 0, 0), (30, .aload_n 0, 1, 0, 0, 0, 0), (31, .getfield 29, 3, 8, 3, 294, 0), (34, .getfield 132, 3, 0, 2, 145, 0), (37, .ireturn, 1, 0, 0, 0, 0), (38, .iload_n 1, 1, 0, 0, 0, 0), (39, .iconst 1, 1, 0, 0, 0, 0), (40, .if_icmp .ne 11, 3, 0, 0, 0, 0), (43, .aload_n 0, 1, 0, 0, 0, 0), (44, .getfield 29, 3, 8, 3, 294, 0), (47, .getfield 135, 3, 0, 3, 147, 0), (50, .ireturn, 1, 0, 0, 0, 0), (51, .iload_n 2, 1, 0, 0, 0, 0), (52, .bipush (-3), 2, 0, 0, 0, 0), (54, .if_icmp .ne 8, 3, 0, 0, 0, 0), (57, .bipush (-3), 2, 0, 0, 0, 0), (59, .goto 21, 3, 0, 0, 0, 0), (62, .aload_n 0, 1, 0, 0, 0, 0), (63, .getfield 29, 3, 8, 3, 294, 0), (66, .getfield 138, 3, 0, 0, 141, 0), (69, .getfield 139, 3, 1, 6, 100, 0), (72, .aload_n 0, 1, 0, 0, 0, 0), (73, .getfield 12, 3, 8, 0, 291, 0), (76, .getfield 139, 3, 1, 6, 100, 0), (79, .isub, 1, 0, 0, 0, 0), (80, .ireturn, 1, 0, 0, 0, 0)]
-- 29: T.walkDay ()I
def kL_29 : List kE := [(0, .aload_n 0, 1, 0, 0, 0, 0), (1, .getfield 22, 3, 8, 2, 293, 0), (4, .invokevirtual 126, 3, 0, 24, 382, 0), (7, .bipush (-6), 2, 0, 0, 0, 0), (9, .if_icmp .eq 6, 3, 0, 0, 0, 0), (12, .bipush (-5), 2, 0, 0, 0, 0), (14, .ireturn, 1, 0, 0, 0, 0), (15, .aload_n 0, 1, 0, 0, 0, 0), (16, .getfield 29, 3, 8, 3, 294, 0), (19, .aload_n 0, 1, 0, 0, 0, 0), (20, .getfield 22, 3, 8, 2, 293, 0), (23, .aload_n 0, 1, 0, 0, 0, 0), (24, .getfield 12, 3, 8, 0, 291, 0), (27, .invokevirtual 264, 3, 0, 30, 405, 0), (30, .aload_n 0, 1, 0, 0, 0, 0), (31, .getfield 29, 3, 8, 3, 294, 0), (34, .getfield 132, 3, 0, 2, 145, 0), (37, .bipush (-6), 2, 0, 0, 0, 0), (39, .if_icmp .ne 7, 3, 0, 0, 0, 0), (42, .iconst 0, 1, 0, 0, 0, 0), (43, .goto 5, 3, 0, 0, 0, 0), (46, .bipush (-3), 2, 0, 0, 0, 0), (48, .ireturn, 1, 0, 0, 0, 0)]
-- 30: Day.walk (LTrustedPause$Pad;LTrustedPause$Family;)V
def kL_30_0 : List kE := [(0, .aload_n 0, 1, 0, 0, 0, 0), (1, .aload_n 2, 1, 0, 0, 0, 0), (2, .invokevirtual 34, 3, 0, 31, 409, 0), (5, .iconst 0, 1, 0, 0, 0, 0), (6, .istore_n 3, 1, 0, 0, 0, 0), (7, .iconst 0, 1, 0, 0, 0, 0), (8, .istore 4, 2, 0, 0, 0, 0), (10, .iload 4, 2, 0, 0, 0, 0), (12, .bipush 60, 2, 0, 0, 0, 0), (14, .if_icmp .ge 118, 3, 0, 0, 0, 0), (17, .iload_n 3, 1, 0, 0, 0, 0), (18, .aload_n 1, 1, 0, 0, 0, 0), (19, .getfield 38, 3, 3, 1, 125, 0), (22, .if_icmp .ge 110, 3, 0, 0, 0, 0), (25, .aload_n 0, 1, 0, 0, 0, 0), (26, .getfield 22, 3, 0, 2, 144, 0), (29, .bipush (-6), 2, 0, 0, 0, 0), (31, .if_icmp .ne 101, 3, 0, 0, 0, 0), (34, .aload_n 0, 1, 0, 0, 0, 0), (35, .getfield 12, 3, 0, 0, 140, 0), (38, .getfield 43, 3, 1, 6, 99, 0), (41, .istore 5, 2, 0, 0, 0, 0), (43, .aload_n 0, 1, 0, 0, 0, 0), (44, .aload_n 1, 1, 0, 0, 0, 0), (45, .iload_n 3, 1, 0, 0, 0, 0), (46, .invokevirtual 46, 3, 0, 33, 420, 0), (49, .istore 6, 2, 0, 0, 0, 0), (51, .iload 6, 2, 0, 0, 0, 0), (53, .ifCond .eq 18, 3, 0, 0, 0, 0), (56, .aload_n 0, 1, 0, 0, 0, 0), (57, .iload 4, 2, 0, 0, 0, 0), (59, .putfield 22, 3, 0, 2, 144, 0), (62, .aload_n 0, 1, 0, 0, 0, 0), (63, .iload 6, 2, 0, 0, 0, 0), (65, .putfield 25, 3, 0, 3, 146, 0), (68, .goto 58, 3, 0, 0, 0, 0), (71, .aload_n 0, 1, 0, 0, 0, 0), (72, .getfield 28, 3, 0, 4, 148, 0), (75, .bipush (-6), 2, 0, 0, 0, 0), (77, .if_icmp .ne 33, 3, 0, 0, 0, 0), (80, .aload_n 0, 1, 0, 0, 0, 0), (81, .getfield 12, 3, 0, 0, 140, 0), (84, .getfield 43, 3, 1, 6, 99, 0), (87, .iload 5, 2, 0, 0, 0, 0), (89, .if_icmp .le 21, 3, 0, 0, 0, 0), (92, .aload_n 0, 1, 0, 0, 0, 0), (93, .iload 4, 2, 0, 0, 0, 0), (95, .putfield 28, 3, 0, 4, 148, 0), (98, .aload_n 0, 1, 0, 0, 0, 0), (99, .aload_n 1, 1, 0, 0, 0, 0), (100, .iload_n 3, 1, 0, 0, 0, 0), (101, .invokevirtual 50, 3, 0, 25, 424, 0), (104, .bipush 65, 2, 0, 0, 0, 0), (106, .isub, 1, 0, 0, 0, 0), (107, .putfield 31, 3, 0, 5, 150, 0), (110, .iload_n 3, 1, 0, 0, 0, 0), (111, .aload_n 1, 1, 0, 0, 0, 0), (112, .iload_n 3, 1, 0, 0, 0, 0), (113, .invokevirtual 54, 3, 0, 44, 470, 0), (116, .iadd, 1, 0, 0, 0, 0)]
def kL_30_1 : List kE := [(117, .istore_n 3, 1, 0, 0, 0, 0), (118, .aload_n 0, 1, 0, 0, 0, 0), (119, .iload 4, 2, 0, 0, 0, 0), (121, .iconst 1, 1, 0, 0, 0, 0), (122, .iadd, 1, 0, 0, 0, 0), (123, .putfield 18, 3, 0, 1, 142, 0), (126, .iinc 4 1, 3, 0, 0, 0, 0), (129, .goto (-119), 3, 0, 0, 0, 0), (132, .return_, 1, 0, 0, 0, 0)]
def kL_30 : List kE := kL_30_0 ++ kL_30_1
-- 31: Day.begin (LTrustedPause$Family;)V
def kL_31 : List kE := [(0, .aload_n 0, 1, 0, 0, 0, 0), (1, .getfield 12, 3, 0, 0, 140, 0), (4, .aload_n 1, 1, 0, 0, 0, 0), (5, .invokevirtual 57, 3, 0, 32, 413, 0), (8, .aload_n 0, 1, 0, 0, 0, 0), (9, .iconst 0, 1, 0, 0, 0, 0), (10, .putfield 18, 3, 0, 1, 142, 0), (13, .aload_n 0, 1, 0, 0, 0, 0), (14, .bipush (-6), 2, 0, 0, 0, 0), (16, .putfield 22, 3, 0, 2, 144, 0), (19, .aload_n 0, 1, 0, 0, 0, 0), (20, .bipush (-6), 2, 0, 0, 0, 0), (22, .putfield 25, 3, 0, 3, 146, 0), (25, .aload_n 0, 1, 0, 0, 0, 0), (26, .bipush (-6), 2, 0, 0, 0, 0), (28, .putfield 28, 3, 0, 4, 148, 0), (31, .aload_n 0, 1, 0, 0, 0, 0), (32, .bipush (-6), 2, 0, 0, 0, 0), (34, .putfield 31, 3, 0, 5, 150, 0), (37, .return_, 1, 0, 0, 0, 0)]
-- 32: Family.copyFrom (LTrustedPause$Family;)V
def kL_32 : List kE := [(0, .aload_n 1, 1, 0, 0, 0, 0), (1, .getfield 9, 3, 1, 0, 85, 0), (4, .iconst 0, 1, 0, 0, 0, 0), (5, .aload_n 0, 1, 0, 0, 0, 0), (6, .getfield 9, 3, 1, 0, 85, 0), (9, .iconst 0, 1, 0, 0, 0, 0), (10, .bipush 8, 2, 0, 0, 0, 0), (12, .invokestatic 40, 3, 7, 0, 417, 0), (15, .aload_n 1, 1, 0, 0, 0, 0), (16, .getfield 15, 3, 1, 1, 87, 0), (19, .iconst 0, 1, 0, 0, 0, 0), (20, .aload_n 0, 1, 0, 0, 0, 0), (21, .getfield 15, 3, 1, 1, 87, 0), (24, .iconst 0, 1, 0, 0, 0, 0), (25, .bipush 8, 2, 0, 0, 0, 0), (27, .invokestatic 40, 3, 7, 0, 417, 0), (30, .aload_n 1, 1, 0, 0, 0, 0), (31, .getfield 18, 3, 1, 2, 89, 0), (34, .iconst 0, 1, 0, 0, 0, 0), (35, .aload_n 0, 1, 0, 0, 0, 0), (36, .getfield 18, 3, 1, 2, 89, 0), (39, .iconst 0, 1, 0, 0, 0, 0), (40, .bipush 8, 2, 0, 0, 0, 0), (42, .invokestatic 40, 3, 7, 0, 417, 0), (45, .aload_n 1, 1, 0, 0, 0, 0), (46, .getfield 21, 3, 1, 3, 91, 0), (49, .iconst 0, 1, 0, 0, 0, 0), (50, .aload_n 0, 1, 0, 0, 0, 0), (51, .getfield 21, 3, 1, 3, 91, 0), (54, .iconst 0, 1, 0, 0, 0, 0), (55, .bipush 8, 2, 0, 0, 0, 0), (57, .invokestatic 40, 3, 7, 0, 417, 0), (60, .aload_n 0, 1, 0, 0, 0, 0), (61, .aload_n 1, 1, 0, 0, 0, 0), (62, .getfield 24, 3, 1, 4, 93, 0), (65, .putfield 24, 3, 1, 4, 93, 0), (68, .aload_n 0, 1, 0, 0, 0, 0), (69, .aload_n 1, 1, 0, 0, 0, 0), (70, .getfield 28, 3, 1, 5, 95, 0), (73, .putfield 28, 3, 1, 5, 95, 0), (76, .aload_n 0, 1, 0, 0, 0, 0), (77, .aload_n 1, 1, 0, 0, 0, 0), (78, .getfield 31, 3, 1, 6, 98, 0), (81, .putfield 31, 3, 1, 6, 98, 0), (84, .return_, 1, 0, 0, 0, 0)]
-- 33: Day.tryAct (LTrustedPause$Pad;I)I
def kL_33 : List kE := [(0, .aload_n 1, 1, 0, 0, 0, 0), (1, .iload_n 2, 1, 0, 0, 0, 0), (2, .invokevirtual 50, 3, 0, 25, 424, 0), (5, .bipush 33, 2, 0, 0, 0, 0), (7, .if_icmp .ne 11, 3, 0, 0, 0, 0), (10, .aload_n 0, 1, 0, 0, 0, 0), (11, .getfield 12, 3, 0, 0, 140, 0), (14, .invokevirtual 60, 3, 0, 34, 425, 0), (17, .ireturn, 1, 0, 0, 0, 0), (18, .aload_n 1, 1, 0, 0, 0, 0), (19, .iload_n 2, 1, 0, 0, 0, 0), (20, .invokevirtual 50, 3, 0, 25, 424, 0), (23, .bipush 65, 2, 0, 0, 0, 0), (25, .isub, 1, 0, 0, 0, 0), (26, .istore_n 3, 1, 0, 0, 0, 0), (27, .aload_n 1, 1, 0, 0, 0, 0), (28, .iload_n 2, 1, 0, 0, 0, 0), (29, .iconst 1, 1, 0, 0, 0, 0), (30, .iadd, 1, 0, 0, 0, 0), (31, .invokevirtual 50, 3, 0, 25, 424, 0), (34, .lookupswitch 71 #[(43, 62), (61, 53), (62, 34)], 34, 0, 0, 0, 0), (68, .aload_n 0, 1, 0, 0, 0, 0), (69, .getfield 12, 3, 0, 0, 140, 0), (72, .iload_n 3, 1, 0, 0, 0, 0), (73, .aload_n 1, 1, 0, 0, 0, 0), (74, .iload_n 2, 1, 0, 0, 0, 0), (75, .iconst 2, 1, 0, 0, 0, 0), (76, .iadd, 1, 0, 0, 0, 0), (77, .invokevirtual 50, 3, 0, 25, 424, 0), (80, .bipush 65, 2, 0, 0, 0, 0), (82, .isub, 1, 0, 0, 0, 0), (83, .invokevirtual 64, 3, 0, 37, 436, 0), (86, .ireturn, 1, 0, 0, 0, 0), (87, .aload_n 0, 1, 0, 0, 0, 0), (88, .getfield 12, 3, 0, 0, 140, 0), (91, .iload_n 3, 1, 0, 0, 0, 0), (92, .invokevirtual 68, 3, 0, 38, 441, 0), (95, .ireturn, 1, 0, 0, 0, 0), (96, .aload_n 0, 1, 0, 0, 0, 0), (97, .getfield 12, 3, 0, 0, 140, 0), (100, .iload_n 3, 1, 0, 0, 0, 0), (101, .invokevirtual 71, 3, 0, 39, 448, 0), (104, .ireturn, 1, 0, 0, 0, 0), (105, .aload_n 0, 1, 0, 0, 0, 0), (106, .aload_n 1, 1, 0, 0, 0, 0), (107, .iload_n 2, 1, 0, 0, 0, 0), (108, .iconst 2, 1, 0, 0, 0, 0), (109, .iadd, 1, 0, 0, 0, 0), (110, .iload_n 3, 1, 0, 0, 0, 0), (111, .invokevirtual 74, 3, 0, 40, 452, 0), (114, .ireturn, 1, 0, 0, 0, 0)]
-- 34: Family.fallBack ()I
def kL_34 : List kE := [(0, .aload_n 0, 1, 0, 0, 0, 0), (1, .aload_n 0, 1, 0, 0, 0, 0), (2, .getfield 24, 3, 1, 4, 93, 0), (5, .invokevirtual 72, 3, 0, 35, 429, 0), (8, .istore_n 1, 1, 0, 0, 0, 0), (9, .iload_n 1, 1, 0, 0, 0, 0), (10, .bipush (-6), 2, 0, 0, 0, 0), (12, .if_icmp .eq 11, 3, 0, 0, 0, 0), (15, .iload_n 1, 1, 0, 0, 0, 0), (16, .aload_n 0, 1, 0, 0, 0, 0), (17, .getfield 28, 3, 1, 5, 95, 0), (20, .if_icmp .ne 5, 3, 0, 0, 0, 0), (23, .iconst 5, 1, 0, 0, 0, 0), (24, .ireturn, 1, 0, 0, 0, 0), (25, .aload_n 0, 1, 0, 0, 0, 0), (26, .iload_n 1, 1, 0, 0, 0, 0), (27, .putfield 28, 3, 1, 5, 95, 0), (30, .iconst 0, 1, 0, 0, 0, 0), (31, .ireturn, 1, 0, 0, 0, 0)]
-- 35: Family.oldestOf (I)I
def kL_35 : List kE := [(0, .bipush (-6), 2, 0, 0, 0, 0), (2, .istore_n 2, 1, 0, 0, 0, 0), (3, .iconst (-1), 1, 0, 0, 0, 0), (4, .istore_n 3, 1, 0, 0, 0, 0), (5, .iconst 0, 1, 0, 0, 0, 0), (6, .istore 4, 2, 0, 0, 0, 0), (8, .iload 4, 2, 0, 0, 0, 0), (10, .bipush 8, 2, 0, 0, 0, 0), (12, .if_icmp .ge 40, 3, 0, 0, 0, 0), (15, .iload_n 1, 1, 0, 0, 0, 0), (16, .iload 4, 2, 0, 0, 0, 0), (18, .invokestatic 56, 3, 4, 36, 433, 0), (21, .ifCond .eq 25, 3, 0, 0, 0, 0), (24, .aload_n 0, 1, 0, 0, 0, 0), (25, .getfield 9, 3, 1, 0, 85, 0), (28, .iload 4, 2, 0, 0, 0, 0), (30, .iaload, 1, 0, 0, 0, 0), (31, .iload_n 3, 1, 0, 0, 0, 0), (32, .if_icmp .le 14, 3, 0, 0, 0, 0), (35, .iload 4, 2, 0, 0, 0, 0), (37, .istore_n 2, 1, 0, 0, 0, 0), (38, .aload_n 0, 1, 0, 0, 0, 0), (39, .getfield 9, 3, 1, 0, 85, 0), (42, .iload 4, 2, 0, 0, 0, 0), (44, .iaload, 1, 0, 0, 0, 0), (45, .istore_n 3, 1, 0, 0, 0, 0), (46, .iinc 4 1, 3, 0, 0, 0, 0), (49, .goto (-41), 3, 0, 0, 0, 0), (52, .iload_n 2, 1, 0, 0, 0, 0), (53, .ireturn, 1, 0, 0, 0, 0)]
-- 36: T.isOf (II)Z
def kL_36 : List kE := [(0, .iload_n 1, 1, 0, 0, 0, 0), (1, .ifCond .lt 22, 3, 0, 0, 0, 0), (4, .iload_n 1, 1, 0, 0, 0, 0), (5, .bipush 30, 2, 0, 0, 0, 0), (7, .if_icmp .gt 16, 3, 0, 0, 0, 0), (10, .iload_n 0, 1, 0, 0, 0, 0), (11, .iload_n 1, 1, 0, 0, 0, 0), (12, .ishr, 1, 0, 0, 0, 0), (13, .iconst 1, 1, 0, 0, 0, 0), (14, .iand, 1, 0, 0, 0, 0), (15, .iconst 1, 1, 0, 0, 0, 0), (16, .if_icmp .ne 7, 3, 0, 0, 0, 0), (19, .iconst 1, 1, 0, 0, 0, 0), (20, .goto 4, 3, 0, 0, 0, 0), (23, .iconst 0, 1, 0, 0, 0, 0), (24, .ireturn, 1, 0, 0, 0, 0)]
-- 37: Family.lend (II)I
def kL_37 : List kE := [(0, .aload_n 0, 1, 0, 0, 0, 0), (1, .iload_n 1, 1, 0, 0, 0, 0), (2, .invokevirtual 60, 3, 0, 18, 440, 0), (5, .ifCond .eq 11, 3, 0, 0, 0, 0), (8, .aload_n 0, 1, 0, 0, 0, 0), (9, .iload_n 2, 1, 0, 0, 0, 0), (10, .invokevirtual 60, 3, 0, 18, 440, 0), (13, .ifCond .ne 5, 3, 0, 0, 0, 0), (16, .iconst 1, 1, 0, 0, 0, 0), (17, .ireturn, 1, 0, 0, 0, 0), (18, .aload_n 0, 1, 0, 0, 0, 0), (19, .getfield 28, 3, 1, 5, 95, 0), (22, .iload_n 1, 1, 0, 0, 0, 0), (23, .if_icmp .eq 5, 3, 0, 0, 0, 0), (26, .iconst 2, 1, 0, 0, 0, 0), (27, .ireturn, 1, 0, 0, 0, 0), (28, .aload_n 0, 1, 0, 0, 0, 0), (29, .getfield 21, 3, 1, 3, 91, 0), (32, .iload_n 1, 1, 0, 0, 0, 0), (33, .iaload, 1, 0, 0, 0, 0), (34, .iload_n 2, 1, 0, 0, 0, 0), (35, .invokestatic 56, 3, 4, 36, 433, 0), (38, .ifCond .ne 5, 3, 0, 0, 0, 0), (41, .iconst 3, 1, 0, 0, 0, 0), (42, .ireturn, 1, 0, 0, 0, 0), (43, .aload_n 0, 1, 0, 0, 0, 0), (44, .iload_n 2, 1, 0, 0, 0, 0), (45, .putfield 28, 3, 1, 5, 95, 0), (48, .iconst 0, 1, 0, 0, 0, 0), (49, .ireturn, 1, 0, 0, 0, 0)]
-- 38: Family.rest (I)I
def kL_38 : List kE := [(0, .aload_n 0, 1, 0, 0, 0, 0), (1, .iload_n 1, 1, 0, 0, 0, 0), (2, .invokevirtual 60, 3, 0, 18, 440, 0), (5, .ifCond .ne 5, 3, 0, 0, 0, 0), (8, .iconst 1, 1, 0, 0, 0, 0), (9, .ireturn, 1, 0, 0, 0, 0), (10, .aload_n 0, 1, 0, 0, 0, 0), (11, .getfield 15, 3, 1, 1, 87, 0), (14, .iload_n 1, 1, 0, 0, 0, 0), (15, .iaload, 1, 0, 0, 0, 0), (16, .bipush 99, 2, 0, 0, 0, 0), (18, .if_icmp .lt 5, 3, 0, 0, 0, 0), (21, .iconst 4, 1, 0, 0, 0, 0), (22, .ireturn, 1, 0, 0, 0, 0), (23, .aload_n 0, 1, 0, 0, 0, 0), (24, .getfield 15, 3, 1, 1, 87, 0), (27, .iload_n 1, 1, 0, 0, 0, 0), (28, .bipush 99, 2, 0, 0, 0, 0), (30, .aload_n 0, 1, 0, 0, 0, 0), (31, .getfield 15, 3, 1, 1, 87, 0), (34, .iload_n 1, 1, 0, 0, 0, 0), (35, .iaload, 1, 0, 0, 0, 0), (36, .bipush 20, 2, 0, 0, 0, 0), (38, .iadd, 1, 0, 0, 0, 0), (39, .invokestatic 66, 3, 9, 0, 445, 0), (42, .iastore, 1, 0, 0, 0, 0), (43, .iconst 0, 1, 0, 0, 0, 0), (44, .ireturn, 1, 0, 0, 0, 0)]
-- 39: Family.die (I)I
def kL_39 : List kE := [(0, .aload_n 0, 1, 0, 0, 0, 0), (1, .iload_n 1, 1, 0, 0, 0, 0), (2, .invokevirtual 60, 3, 0, 18, 440, 0), (5, .ifCond .ne 5, 3, 0, 0, 0, 0), (8, .iconst 1, 1, 0, 0, 0, 0), (9, .ireturn, 1, 0, 0, 0, 0), (10, .aload_n 0, 1, 0, 0, 0, 0), (11, .dup, 1, 0, 0, 0, 0), (12, .getfield 24, 3, 1, 4, 93, 0), (15, .iconst 1, 1, 0, 0, 0, 0), (16, .iload_n 1, 1, 0, 0, 0, 0), (17, .ishl, 1, 0, 0, 0, 0), (18, .iconst (-1), 1, 0, 0, 0, 0), (19, .ixor, 1, 0, 0, 0, 0), (20, .iand, 1, 0, 0, 0, 0), (21, .putfield 24, 3, 1, 4, 93, 0), (24, .aload_n 0, 1, 0, 0, 0, 0), (25, .getfield 28, 3, 1, 5, 95, 0), (28, .iload_n 1, 1, 0, 0, 0, 0), (29, .if_icmp .ne 41, 3, 0, 0, 0, 0), (32, .aload_n 0, 1, 0, 0, 0, 0), (33, .aload_n 0, 1, 0, 0, 0, 0), (34, .getfield 24, 3, 1, 4, 93, 0), (37, .aload_n 0, 1, 0, 0, 0, 0), (38, .getfield 21, 3, 1, 3, 91, 0), (41, .iload_n 1, 1, 0, 0, 0, 0), (42, .iaload, 1, 0, 0, 0, 0), (43, .iand, 1, 0, 0, 0, 0), (44, .invokevirtual 72, 3, 0, 35, 429, 0), (47, .istore_n 2, 1, 0, 0, 0, 0), (48, .aload_n 0, 1, 0, 0, 0, 0), (49, .iload_n 2, 1, 0, 0, 0, 0), (50, .bipush (-6), 2, 0, 0, 0, 0), (52, .if_icmp .eq 7, 3, 0, 0, 0, 0), (55, .iload_n 2, 1, 0, 0, 0, 0), (56, .goto 11, 3, 0, 0, 0, 0), (59, .aload_n 0, 1, 0, 0, 0, 0), (60, .aload_n 0, 1, 0, 0, 0, 0), (61, .getfield 24, 3, 1, 4, 93, 0), (64, .invokevirtual 72, 3, 0, 35, 429, 0), (67, .putfield 28, 3, 1, 5, 95, 0), (70, .iconst 0, 1, 0, 0, 0, 0), (71, .ireturn, 1, 0, 0, 0, 0)]
-- 40: Day.speakAll (LTrustedPause$Pad;II)I
def kL_40 : List kE := [(0, .iconst 0, 1, 0, 0, 0, 0), (1, .istore 4, 2, 0, 0, 0, 0), (3, .aload_n 1, 1, 0, 0, 0, 0), (4, .iload_n 2, 1, 0, 0, 0, 0), (5, .invokevirtual 78, 3, 0, 41, 456, 0), (8, .istore 5, 2, 0, 0, 0, 0), (10, .iconst 0, 1, 0, 0, 0, 0), (11, .istore 6, 2, 0, 0, 0, 0), (13, .iload 6, 2, 0, 0, 0, 0), (15, .iload 5, 2, 0, 0, 0, 0), (17, .if_icmp .ge 30, 3, 0, 0, 0, 0), (20, .aload_n 0, 1, 0, 0, 0, 0), (21, .getfield 12, 3, 0, 0, 140, 0), (24, .iload_n 3, 1, 0, 0, 0, 0), (25, .aload_n 1, 1, 0, 0, 0, 0), (26, .iload_n 2, 1, 0, 0, 0, 0), (27, .iload 6, 2, 0, 0, 0, 0), (29, .iadd, 1, 0, 0, 0, 0), (30, .invokevirtual 50, 3, 0, 25, 424, 0), (33, .bipush 97, 2, 0, 0, 0, 0), (35, .isub, 1, 0, 0, 0, 0), (36, .invokevirtual 81, 3, 0, 42, 460, 0), (39, .istore 4, 2, 0, 0, 0, 0), (41, .iinc 6 1, 3, 0, 0, 0, 0), (44, .goto (-31), 3, 0, 0, 0, 0), (47, .iload 4, 2, 0, 0, 0, 0), (49, .ireturn, 1, 0, 0, 0, 0)]
-- 41: Pad.lettersFrom (I)I
def kL_41 : List kE := [(0, .iconst 0, 1, 0, 0, 0, 0), (1, .istore_n 2, 1, 0, 0, 0, 0), (2, .iload_n 2, 1, 0, 0, 0, 0), (3, .bipush 60, 2, 0, 0, 0, 0), (5, .if_icmp .ge 26, 3, 0, 0, 0, 0), (8, .aload_n 0, 1, 0, 0, 0, 0), (9, .iload_n 1, 1, 0, 0, 0, 0), (10, .iload_n 2, 1, 0, 0, 0, 0), (11, .iadd, 1, 0, 0, 0, 0), (12, .invokevirtual 23, 3, 0, 25, 386, 0), (15, .bipush 97, 2, 0, 0, 0, 0), (17, .bipush 106, 2, 0, 0, 0, 0), (19, .invokestatic 19, 3, 4, 12, 390, 0), (22, .ifCond .eq 9, 3, 0, 0, 0, 0), (25, .iinc 2 1, 3, 0, 0, 0, 0), (28, .goto (-26), 3, 0, 0, 0, 0), (31, .iload_n 2, 1, 0, 0, 0, 0), (32, .ireturn, 1, 0, 0, 0, 0)]
-- 42: Family.speak (II)I
def kL_42 : List kE := [(0, .aload_n 0, 1, 0, 0, 0, 0), (1, .iload_n 1, 1, 0, 0, 0, 0), (2, .invokevirtual 60, 3, 0, 18, 440, 0), (5, .ifCond .ne 5, 3, 0, 0, 0, 0), (8, .iconst 1, 1, 0, 0, 0, 0), (9, .ireturn, 1, 0, 0, 0, 0), (10, .aload_n 0, 1, 0, 0, 0, 0), (11, .getfield 28, 3, 1, 5, 95, 0), (14, .iload_n 1, 1, 0, 0, 0, 0), (15, .if_icmp .ne 46, 3, 0, 0, 0, 0), (18, .aload_n 0, 1, 0, 0, 0, 0), (19, .getfield 18, 3, 1, 2, 89, 0), (22, .iload_n 1, 1, 0, 0, 0, 0), (23, .iaload, 1, 0, 0, 0, 0), (24, .iload_n 2, 1, 0, 0, 0, 0), (25, .invokestatic 56, 3, 4, 36, 433, 0), (28, .ifCond .eq 33, 3, 0, 0, 0, 0), (31, .aload_n 0, 1, 0, 0, 0, 0), (32, .dup, 1, 0, 0, 0, 0), (33, .getfield 31, 3, 1, 6, 98, 0), (36, .aload_n 0, 1, 0, 0, 0, 0), (37, .getfield 15, 3, 1, 1, 87, 0), (40, .iload_n 1, 1, 0, 0, 0, 0), (41, .iaload, 1, 0, 0, 0, 0), (42, .iadd, 1, 0, 0, 0, 0), (43, .putfield 31, 3, 1, 6, 98, 0), (46, .aload_n 0, 1, 0, 0, 0, 0), (47, .getfield 15, 3, 1, 1, 87, 0), (50, .iload_n 1, 1, 0, 0, 0, 0), (51, .aload_n 0, 1, 0, 0, 0, 0), (52, .getfield 15, 3, 1, 1, 87, 0), (55, .iload_n 1, 1, 0, 0, 0, 0), (56, .iaload, 1, 0, 0, 0, 0), (57, .invokestatic 63, 3, 4, 43, 464, 0), (60, .iastore, 1, 0, 0, 0, 0), (61, .iconst 0, 1, 0, 0, 0, 0), (62, .ireturn, 1, 0, 0, 0, 0)]
-- 43: T.breathAfterLetter (I)I
def kL_43 : List kE := [(0, .iconst 0, 1, 0, 0, 0, 0), (1, .iload_n 0, 1, 0, 0, 0, 0), (2, .bipush 10, 2, 0, 0, 0, 0), (4, .isub, 1, 0, 0, 0, 0), (5, .invokestatic 259, 3, 8, 0, 467, 0), (8, .ireturn, 1, 0, 0, 0, 0)]
-- 44: Pad.lengthOfAct (I)I
def kL_44 : List kE := [(0, .aload_n 0, 1, 0, 0, 0, 0), (1, .iload_n 1, 1, 0, 0, 0, 0), (2, .invokevirtual 23, 3, 0, 25, 386, 0), (5, .bipush 33, 2, 0, 0, 0, 0), (7, .if_icmp .ne 5, 3, 0, 0, 0, 0), (10, .iconst 1, 1, 0, 0, 0, 0), (11, .ireturn, 1, 0, 0, 0, 0), (12, .aload_n 0, 1, 0, 0, 0, 0), (13, .iload_n 1, 1, 0, 0, 0, 0), (14, .iconst 1, 1, 0, 0, 0, 0), (15, .iadd, 1, 0, 0, 0, 0), (16, .invokevirtual 23, 3, 0, 25, 386, 0), (19, .lookupswitch 37 #[(34, 27), (62, 25)], 25, 0, 0, 0, 0), (44, .iconst 3, 1, 0, 0, 0, 0), (45, .ireturn, 1, 0, 0, 0, 0), (46, .iconst 3, 1, 0, 0, 0, 0), (47, .aload_n 0, 1, 0, 0, 0, 0), (48, .iload_n 1, 1, 0, 0, 0, 0), (49, .iconst 2, 1, 0, 0, 0, 0), (50, .iadd, 1, 0, 0, 0, 0), (51, .invokevirtual 34, 3, 0, 41, 474, 0), (54, .iadd, 1, 0, 0, 0, 0), (55, .ireturn, 1, 0, 0, 0, 0), (56, .iconst 2, 1, 0, 0, 0, 0), (57, .ireturn, 1, 0, 0, 0, 0)]
-- 45: T.behind (II)I
def kL_45 : List kE := [(0, .iload_n 1, 1, 0, 0, 0, 0), (1, .invokestatic 75, 3, 1, 11, 329, 0), (4, .ifCond .ne 5, 3, 0, 0, 0, 0), (7, .iconst (-1), 1, 0, 0, 0, 0), (8, .ireturn, 1, 0, 0, 0, 0), (9, .iload_n 2, 1, 0, 0, 0, 0), (10, .iconst 0, 1, 0, 0, 0, 0), (11, .iconst 2, 1, 0, 0, 0, 0), (12, .invokestatic 79, 3, 1, 12, 332, 0), (15, .ifCond .ne 6, 3, 0, 0, 0, 0), (18, .bipush (-2), 2, 0, 0, 0, 0), (20, .ireturn, 1, 0, 0, 0, 0), (21, .aload_n 0, 1, 0, 0, 0, 0), (22, .invokevirtual 129, 3, 0, 29, 401, 0), (25, .istore_n 3, 1, 0, 0, 0, 0), (26, .iload_n 3, 1, 0, 0, 0, 0), (27, .ifCond .eq 5, 3, 0, 0, 0, 0), (30, .iload_n 3, 1, 0, 0, 0, 0), (31, .ireturn, 1, 0, 0, 0, 0), (32, .iload_n 2, 1, 0, 0, 0, 0), (33, .ifCond .ne 23, 3, 0, 0, 0, 0), (36, .aload_n 0, 1, 0, 0, 0, 0), (37, .getfield 29, 3, 8, 3, 294, 0), (40, .getfield 138, 3, 0, 0, 141, 0), (43, .iload_n 1, 1, 0, 0, 0, 0), (44, .invokevirtual 104, 3, 0, 18, 358, 0), (47, .ifCond .eq 7, 3, 0, 0, 0, 0), (50, .iconst 1, 1, 0, 0, 0, 0), (51, .goto 4, 3, 0, 0, 0, 0), (54, .iconst 0, 1, 0, 0, 0, 0), (55, .ireturn, 1, 0, 0, 0, 0), (56, .iload_n 2, 1, 0, 0, 0, 0), (57, .iconst 1, 1, 0, 0, 0, 0), (58, .if_icmp .ne 16, 3, 0, 0, 0, 0), (61, .aload_n 0, 1, 0, 0, 0, 0), (62, .getfield 29, 3, 8, 3, 294, 0), (65, .getfield 138, 3, 0, 0, 141, 0), (68, .getfield 86, 3, 1, 1, 88, 0), (71, .iload_n 1, 1, 0, 0, 0, 0), (72, .iaload, 1, 0, 0, 0, 0), (73, .ireturn, 1, 0, 0, 0, 0), (74, .aload_n 0, 1, 0, 0, 0, 0), (75, .getfield 29, 3, 8, 3, 294, 0), (78, .getfield 138, 3, 0, 0, 141, 0), (81, .getfield 107, 3, 1, 5, 96, 0), (84, .iload_n 1, 1, 0, 0, 0, 0), (85, .if_icmp .ne 7, 3, 0, 0, 0, 0), (88, .iconst 1, 1, 0, 0, 0, 0), (89, .goto 4, 3, 0, 0, 0, 0), (92, .iconst 0, 1, 0, 0, 0, 0), (93, .ireturn, 1, 0, 0, 0, 0)]
-- 46: T.trust (I)I
def kL_46 : List kE := [(0, .iload_n 1, 1, 0, 0, 0, 0), (1, .iconst 0, 1, 0, 0, 0, 0), (2, .iconst 2, 1, 0, 0, 0, 0), (3, .invokestatic 79, 3, 1, 12, 332, 0), (6, .ifCond .ne 6, 3, 0, 0, 0, 0), (9, .bipush (-2), 2, 0, 0, 0, 0), (11, .ireturn, 1, 0, 0, 0, 0), (12, .aload_n 0, 1, 0, 0, 0, 0), (13, .invokevirtual 129, 3, 0, 29, 401, 0), (16, .istore_n 2, 1, 0, 0, 0, 0), (17, .iload_n 2, 1, 0, 0, 0, 0), (18, .ifCond .eq 5, 3, 0, 0, 0, 0), (21, .iload_n 2, 1, 0, 0, 0, 0), (22, .ireturn, 1, 0, 0, 0, 0), (23, .iload_n 1, 1, 0, 0, 0, 0), (24, .ifCond .ne 14, 3, 0, 0, 0, 0), (27, .aload_n 0, 1, 0, 0, 0, 0), (28, .getfield 29, 3, 8, 3, 294, 0), (31, .getfield 138, 3, 0, 0, 141, 0), (34, .getfield 107, 3, 1, 5, 96, 0), (37, .ireturn, 1, 0, 0, 0, 0), (38, .iload_n 1, 1, 0, 0, 0, 0), (39, .iconst 1, 1, 0, 0, 0, 0), (40, .if_icmp .ne 16, 3, 0, 0, 0, 0), (43, .aload_n 0, 1, 0, 0, 0, 0), (44, .getfield 29, 3, 8, 3, 294, 0), (47, .getfield 138, 3, 0, 0, 141, 0), (50, .getfield 139, 3, 1, 6, 100, 0), (53, .goto 13, 3, 0, 0, 0, 0), (56, .aload_n 0, 1, 0, 0, 0, 0), (57, .getfield 29, 3, 8, 3, 294, 0), (60, .getfield 138, 3, 0, 0, 141, 0), (63, .getfield 92, 3, 1, 4, 94, 0), (66, .ireturn, 1, 0, 0, 0, 0)]
-- 47: T.first (I)I
def kL_47 : List kE := [(0, .iload_n 1, 1, 0, 0, 0, 0), (1, .iconst 0, 1, 0, 0, 0, 0), (2, .iconst 1, 1, 0, 0, 0, 0), (3, .invokestatic 79, 3, 1, 12, 332, 0), (6, .ifCond .ne 6, 3, 0, 0, 0, 0), (9, .bipush (-2), 2, 0, 0, 0, 0), (11, .ireturn, 1, 0, 0, 0, 0), (12, .aload_n 0, 1, 0, 0, 0, 0), (13, .invokevirtual 129, 3, 0, 29, 401, 0), (16, .istore_n 2, 1, 0, 0, 0, 0), (17, .iload_n 2, 1, 0, 0, 0, 0), (18, .ifCond .eq 5, 3, 0, 0, 0, 0), (21, .iload_n 2, 1, 0, 0, 0, 0), (22, .ireturn, 1, 0, 0, 0, 0), (23, .iload_n 1, 1, 0, 0, 0, 0), (24, .ifCond .ne 13, 3, 0, 0, 0, 0), (27, .aload_n 0, 1, 0, 0, 0, 0), (28, .getfield 29, 3, 8, 3, 294, 0), (31, .getfield 142, 3, 0, 4, 149, 0), (34, .goto 10, 3, 0, 0, 0, 0), (37, .aload_n 0, 1, 0, 0, 0, 0), (38, .getfield 29, 3, 8, 3, 294, 0), (41, .getfield 145, 3, 0, 5, 151, 0), (44, .ireturn, 1, 0, 0, 0, 0)]
-- 48: T.done ()I
def kL_48 : List kE := [(0, .aload_n 0, 1, 0, 0, 0, 0), (1, .invokevirtual 129, 3, 0, 29, 401, 0), (4, .istore_n 1, 1, 0, 0, 0, 0), (5, .iload_n 1, 1, 0, 0, 0, 0), (6, .ifCond .eq 5, 3, 0, 0, 0, 0), (9, .iload_n 1, 1, 0, 0, 0, 0), (10, .ireturn, 1, 0, 0, 0, 0), (11, .aload_n 0, 1, 0, 0, 0, 0), (12, .getfield 12, 3, 8, 0, 291, 0), (15, .aload_n 0, 1, 0, 0, 0, 0), (16, .getfield 29, 3, 8, 3, 294, 0), (19, .getfield 138, 3, 0, 0, 141, 0), (22, .invokevirtual 148, 3, 0, 32, 491, 0), (25, .aload_n 0, 1, 0, 0, 0, 0), (26, .getfield 22, 3, 8, 2, 293, 0), (29, .iconst 0, 1, 0, 0, 0, 0), (30, .putfield 123, 3, 3, 1, 126, 0), (33, .aload_n 0, 1, 0, 0, 0, 0), (34, .getfield 29, 3, 8, 3, 294, 0), (37, .getfield 152, 3, 0, 1, 143, 0), (40, .ireturn, 1, 0, 0, 0, 0)]
-- 49: T.holds (II)I
def kL_49 : List kE := [(0, .iload_n 1, 1, 0, 0, 0, 0), (1, .invokestatic 75, 3, 1, 11, 329, 0), (4, .ifCond .ne 5, 3, 0, 0, 0, 0), (7, .iconst (-1), 1, 0, 0, 0, 0), (8, .ireturn, 1, 0, 0, 0, 0), (9, .iload_n 2, 1, 0, 0, 0, 0), (10, .iconst 1, 1, 0, 0, 0, 0), (11, .bipush 20, 2, 0, 0, 0, 0), (13, .invokestatic 79, 3, 1, 12, 332, 0), (16, .ifCond .ne 6, 3, 0, 0, 0, 0), (19, .bipush (-2), 2, 0, 0, 0, 0), (21, .ireturn, 1, 0, 0, 0, 0), (22, .iconst 0, 1, 0, 0, 0, 0), (23, .istore_n 3, 1, 0, 0, 0, 0), (24, .aload_n 0, 1, 0, 0, 0, 0), (25, .getfield 12, 3, 8, 0, 291, 0), (28, .getfield 86, 3, 1, 1, 88, 0), (31, .iload_n 1, 1, 0, 0, 0, 0), (32, .iaload, 1, 0, 0, 0, 0), (33, .istore 4, 2, 0, 0, 0, 0), (35, .iconst 0, 1, 0, 0, 0, 0), (36, .istore 5, 2, 0, 0, 0, 0), (38, .iload 5, 2, 0, 0, 0, 0), (40, .iload_n 2, 1, 0, 0, 0, 0), (41, .if_icmp .ge 21, 3, 0, 0, 0, 0), (44, .iload_n 3, 1, 0, 0, 0, 0), (45, .iload 4, 2, 0, 0, 0, 0), (47, .iadd, 1, 0, 0, 0, 0), (48, .istore_n 3, 1, 0, 0, 0, 0), (49, .iload 4, 2, 0, 0, 0, 0), (51, .invokestatic 155, 3, 1, 43, 496, 0), (54, .istore 4, 2, 0, 0, 0, 0), (56, .iinc 5 1, 3, 0, 0, 0, 0), (59, .goto (-21), 3, 0, 0, 0, 0), (62, .iload_n 3, 1, 0, 0, 0, 0), (63, .ireturn, 1, 0, 0, 0, 0)]
-- 50: T.oldest ()I
def kL_50 : List kE := [(0, .aload_n 0, 1, 0, 0, 0, 0), (1, .getfield 12, 3, 8, 0, 291, 0), (4, .aload_n 0, 1, 0, 0, 0, 0), (5, .getfield 12, 3, 8, 0, 291, 0), (8, .getfield 92, 3, 1, 4, 94, 0), (11, .invokevirtual 158, 3, 0, 35, 501, 0), (14, .ireturn, 1, 0, 0, 0, 0)]
-- 51: T.lent (III)I
def kL_51 : List kE := [(0, .iload_n 1, 1, 0, 0, 0, 0), (1, .invokestatic 75, 3, 1, 11, 329, 0), (4, .ifCond .eq 10, 3, 0, 0, 0, 0), (7, .iload_n 2, 1, 0, 0, 0, 0), (8, .invokestatic 75, 3, 1, 11, 329, 0), (11, .ifCond .ne 5, 3, 0, 0, 0, 0), (14, .iconst (-1), 1, 0, 0, 0, 0), (15, .ireturn, 1, 0, 0, 0, 0), (16, .iload_n 3, 1, 0, 0, 0, 0), (17, .iconst 0, 1, 0, 0, 0, 0), (18, .iconst 1, 1, 0, 0, 0, 0), (19, .invokestatic 79, 3, 1, 12, 332, 0), (22, .ifCond .ne 6, 3, 0, 0, 0, 0), (25, .bipush (-2), 2, 0, 0, 0, 0), (27, .ireturn, 1, 0, 0, 0, 0), (28, .aload_n 0, 1, 0, 0, 0, 0), (29, .getfield 12, 3, 8, 0, 291, 0), (32, .iload_n 1, 1, 0, 0, 0, 0), (33, .invokevirtual 104, 3, 0, 18, 358, 0), (36, .ifCond .eq 14, 3, 0, 0, 0, 0), (39, .aload_n 0, 1, 0, 0, 0, 0), (40, .getfield 12, 3, 8, 0, 291, 0), (43, .iload_n 2, 1, 0, 0, 0, 0), (44, .invokevirtual 104, 3, 0, 18, 358, 0), (47, .ifCond .ne 6, 3, 0, 0, 0, 0), (50, .bipush (-3), 2, 0, 0, 0, 0), (52, .ireturn, 1, 0, 0, 0, 0), (53, .iload_n 3, 1, 0, 0, 0, 0), (54, .ifCond .ne 15, 3, 0, 0, 0, 0), (57, .aload_n 0, 1, 0, 0, 0, 0), (58, .getfield 12, 3, 8, 0, 291, 0), (61, .iload_n 1, 1, 0, 0, 0, 0), (62, .iload_n 2, 1, 0, 0, 0, 0), (63, .invokevirtual 161, 3, 0, 52, 506, 0), (66, .goto 12, 3, 0, 0, 0, 0), (69, .aload_n 0, 1, 0, 0, 0, 0), (70, .getfield 12, 3, 8, 0, 291, 0), (73, .iload_n 1, 1, 0, 0, 0, 0), (74, .iload_n 2, 1, 0, 0, 0, 0), (75, .invokevirtual 165, 3, 0, 54, 514, 0), (78, .ireturn, 1, 0, 0, 0, 0)]
-- 52: Family.fewestTies (II)I
def kL_52 : List kE := [(0, .iconst 1, 1, 0, 0, 0, 0), (1, .iload_n 1, 1, 0, 0, 0, 0), (2, .ishl, 1, 0, 0, 0, 0), (3, .istore_n 3, 1, 0, 0, 0, 0), (4, .iconst 0, 1, 0, 0, 0, 0), (5, .istore 4, 2, 0, 0, 0, 0), (7, .iload 4, 2, 0, 0, 0, 0), (9, .bipush 8, 2, 0, 0, 0, 0), (11, .if_icmp .ge 28, 3, 0, 0, 0, 0), (14, .iload_n 3, 1, 0, 0, 0, 0), (15, .iload_n 2, 1, 0, 0, 0, 0), (16, .invokestatic 56, 3, 4, 36, 433, 0), (19, .ifCond .eq 6, 3, 0, 0, 0, 0), (22, .iload 4, 2, 0, 0, 0, 0), (24, .ireturn, 1, 0, 0, 0, 0), (25, .iload_n 3, 1, 0, 0, 0, 0), (26, .aload_n 0, 1, 0, 0, 0, 0), (27, .iload_n 3, 1, 0, 0, 0, 0), (28, .invokevirtual 91, 3, 0, 53, 510, 0), (31, .ior, 1, 0, 0, 0, 0), (32, .istore_n 3, 1, 0, 0, 0, 0), (33, .iinc 4 1, 3, 0, 0, 0, 0), (36, .goto (-29), 3, 0, 0, 0, 0), (39, .bipush (-6), 2, 0, 0, 0, 0), (41, .ireturn, 1, 0, 0, 0, 0)]
-- 53: Family.neighboursOf (I)I
def kL_53 : List kE := [(0, .iconst 0, 1, 0, 0, 0, 0), (1, .istore_n 2, 1, 0, 0, 0, 0), (2, .iconst 0, 1, 0, 0, 0, 0), (3, .istore_n 3, 1, 0, 0, 0, 0), (4, .iload_n 3, 1, 0, 0, 0, 0), (5, .bipush 8, 2, 0, 0, 0, 0), (7, .if_icmp .ge 26, 3, 0, 0, 0, 0), (10, .iload_n 1, 1, 0, 0, 0, 0), (11, .iload_n 3, 1, 0, 0, 0, 0), (12, .invokestatic 56, 3, 4, 36, 433, 0), (15, .ifCond .eq 12, 3, 0, 0, 0, 0), (18, .iload_n 2, 1, 0, 0, 0, 0), (19, .aload_n 0, 1, 0, 0, 0, 0), (20, .getfield 21, 3, 1, 3, 91, 0), (23, .iload_n 3, 1, 0, 0, 0, 0), (24, .iaload, 1, 0, 0, 0, 0), (25, .ior, 1, 0, 0, 0, 0), (26, .istore_n 2, 1, 0, 0, 0, 0), (27, .iinc 3 1, 3, 0, 0, 0, 0), (30, .goto (-26), 3, 0, 0, 0, 0), (33, .iload_n 2, 1, 0, 0, 0, 0), (34, .aload_n 0, 1, 0, 0, 0, 0), (35, .getfield 24, 3, 1, 4, 93, 0), (38, .iand, 1, 0, 0, 0, 0), (39, .ireturn, 1, 0, 0, 0, 0)]
-- 54: Family.firstOnWay (II)I
def kL_54 : List kE := [(0, .aload_n 0, 1, 0, 0, 0, 0), (1, .iload_n 1, 1, 0, 0, 0, 0), (2, .iload_n 2, 1, 0, 0, 0, 0), (3, .invokevirtual 94, 3, 0, 52, 518, 0), (6, .istore_n 3, 1, 0, 0, 0, 0), (7, .iload_n 3, 1, 0, 0, 0, 0), (8, .bipush (-6), 2, 0, 0, 0, 0), (10, .if_icmp .eq 7, 3, 0, 0, 0, 0), (13, .iload_n 3, 1, 0, 0, 0, 0), (14, .ifCond .ne 6, 3, 0, 0, 0, 0), (17, .bipush (-6), 2, 0, 0, 0, 0), (19, .ireturn, 1, 0, 0, 0, 0), (20, .aload_n 0, 1, 0, 0, 0, 0), (21, .iconst 1, 1, 0, 0, 0, 0), (22, .iload_n 1, 1, 0, 0, 0, 0), (23, .ishl, 1, 0, 0, 0, 0), (24, .invokevirtual 91, 3, 0, 53, 510, 0), (27, .istore 4, 2, 0, 0, 0, 0), (29, .iconst 0, 1, 0, 0, 0, 0), (30, .istore 5, 2, 0, 0, 0, 0), (32, .iload 5, 2, 0, 0, 0, 0), (34, .bipush 8, 2, 0, 0, 0, 0), (36, .if_icmp .ge 35, 3, 0, 0, 0, 0), (39, .iload 4, 2, 0, 0, 0, 0), (41, .iload 5, 2, 0, 0, 0, 0), (43, .invokestatic 56, 3, 4, 36, 433, 0), (46, .ifCond .eq 19, 3, 0, 0, 0, 0), (49, .aload_n 0, 1, 0, 0, 0, 0), (50, .iload 5, 2, 0, 0, 0, 0), (52, .iload_n 2, 1, 0, 0, 0, 0), (53, .invokevirtual 94, 3, 0, 52, 518, 0), (56, .iload_n 3, 1, 0, 0, 0, 0), (57, .iconst 1, 1, 0, 0, 0, 0), (58, .isub, 1, 0, 0, 0, 0), (59, .if_icmp .ne 6, 3, 0, 0, 0, 0), (62, .iload 5, 2, 0, 0, 0, 0), (64, .ireturn, 1, 0, 0, 0, 0), (65, .iinc 5 1, 3, 0, 0, 0, 0), (68, .goto (-36), 3, 0, 0, 0, 0), (71, .bipush (-6), 2, 0, 0, 0, 0), (73, .ireturn, 1, 0, 0, 0, 0)]
-- 55: T.stay (I)I
def kL_55 : List kE := [(0, .iload_n 1, 1, 0, 0, 0, 0), (1, .iconst 0, 1, 0, 0, 0, 0), (2, .iconst 1, 1, 0, 0, 0, 0), (3, .invokestatic 79, 3, 1, 12, 332, 0), (6, .ifCond .ne 6, 3, 0, 0, 0, 0), (9, .bipush (-2), 2, 0, 0, 0, 0), (11, .ireturn, 1, 0, 0, 0, 0), (12, .aload_n 0, 1, 0, 0, 0, 0), (13, .getfield 36, 3, 8, 4, 295, 0), (16, .aload_n 0, 1, 0, 0, 0, 0), (17, .getfield 12, 3, 8, 0, 291, 0), (20, .invokevirtual 168, 3, 0, 56, 523, 0), (23, .iload_n 1, 1, 0, 0, 0, 0), (24, .ifCond .ne 13, 3, 0, 0, 0, 0), (27, .aload_n 0, 1, 0, 0, 0, 0), (28, .getfield 36, 3, 8, 4, 295, 0), (31, .getfield 171, 3, 7, 3, 178, 0), (34, .goto 10, 3, 0, 0, 0, 0), (37, .aload_n 0, 1, 0, 0, 0, 0), (38, .getfield 36, 3, 8, 4, 295, 0), (41, .getfield 174, 3, 7, 4, 180, 0), (44, .ireturn, 1, 0, 0, 0, 0)]
-- 56: Tasks.plan (LTrustedPause$Family;)V
def kL_56 : List kE := [(0, .aload_n 0, 1, 0, 0, 0, 0), (1, .iconst 0, 1, 0, 0, 0, 0), (2, .putfield 21, 3, 7, 3, 177, 0), (5, .aload_n 0, 1, 0, 0, 0, 0), (6, .iconst 0, 1, 0, 0, 0, 0), (7, .putfield 25, 3, 7, 4, 179, 0), (10, .iconst 1, 1, 0, 0, 0, 0), (11, .istore_n 2, 1, 0, 0, 0, 0), (12, .iload_n 2, 1, 0, 0, 0, 0), (13, .bipush 64, 2, 0, 0, 0, 0), (15, .if_icmp .ge 43, 3, 0, 0, 0, 0), (18, .aload_n 0, 1, 0, 0, 0, 0), (19, .iload_n 2, 1, 0, 0, 0, 0), (20, .invokevirtual 34, 3, 0, 57, 527, 0), (23, .ifCond .eq 29, 3, 0, 0, 0, 0), (26, .aload_n 0, 1, 0, 0, 0, 0), (27, .iload_n 2, 1, 0, 0, 0, 0), (28, .aload_n 1, 1, 0, 0, 0, 0), (29, .invokevirtual 38, 3, 0, 59, 537, 0), (32, .ifCond .eq 20, 3, 0, 0, 0, 0), (35, .aload_n 0, 1, 0, 0, 0, 0), (36, .aload_n 0, 1, 0, 0, 0, 0), (37, .iload_n 2, 1, 0, 0, 0, 0), (38, .invokevirtual 42, 3, 0, 58, 531, 0), (41, .putfield 21, 3, 7, 3, 177, 0), (44, .aload_n 0, 1, 0, 0, 0, 0), (45, .iload_n 2, 1, 0, 0, 0, 0), (46, .invokestatic 46, 3, 1, 16, 536, 0), (49, .putfield 25, 3, 7, 4, 179, 0), (52, .iinc 2 1, 3, 0, 0, 0, 0), (55, .goto (-43), 3, 0, 0, 0, 0), (58, .return_, 1, 0, 0, 0, 0)]
-- 57: Tasks.isBetter (I)Z
def kL_57 : List kE := [(0, .aload_n 0, 1, 0, 0, 0, 0), (1, .iload_n 1, 1, 0, 0, 0, 0), (2, .invokevirtual 42, 3, 0, 58, 531, 0), (5, .istore_n 2, 1, 0, 0, 0, 0), (6, .iload_n 2, 1, 0, 0, 0, 0), (7, .aload_n 0, 1, 0, 0, 0, 0), (8, .getfield 21, 3, 7, 3, 177, 0), (11, .if_icmp .gt 22, 3, 0, 0, 0, 0), (14, .iload_n 2, 1, 0, 0, 0, 0), (15, .aload_n 0, 1, 0, 0, 0, 0), (16, .getfield 21, 3, 7, 3, 177, 0), (19, .if_icmp .ne 18, 3, 0, 0, 0, 0), (22, .iload_n 1, 1, 0, 0, 0, 0), (23, .invokestatic 46, 3, 1, 16, 536, 0), (26, .aload_n 0, 1, 0, 0, 0, 0), (27, .getfield 25, 3, 7, 4, 179, 0), (30, .if_icmp .ge 7, 3, 0, 0, 0, 0), (33, .iconst 1, 1, 0, 0, 0, 0), (34, .goto 4, 3, 0, 0, 0, 0), (37, .iconst 0, 1, 0, 0, 0, 0), (38, .ireturn, 1, 0, 0, 0, 0)]
-- 58: Tasks.worthOf (I)I
def kL_58 : List kE := [(0, .iconst 0, 1, 0, 0, 0, 0), (1, .istore_n 2, 1, 0, 0, 0, 0), (2, .iconst 0, 1, 0, 0, 0, 0), (3, .istore_n 3, 1, 0, 0, 0, 0), (4, .iload_n 3, 1, 0, 0, 0, 0), (5, .bipush 6, 2, 0, 0, 0, 0), (7, .if_icmp .ge 26, 3, 0, 0, 0, 0), (10, .iload_n 1, 1, 0, 0, 0, 0), (11, .iload_n 3, 1, 0, 0, 0, 0), (12, .invokestatic 51, 3, 4, 36, 535, 0), (15, .ifCond .eq 12, 3, 0, 0, 0, 0), (18, .iload_n 2, 1, 0, 0, 0, 0), (19, .aload_n 0, 1, 0, 0, 0, 0), (20, .getfield 18, 3, 7, 2, 175, 0), (23, .iload_n 3, 1, 0, 0, 0, 0), (24, .iaload, 1, 0, 0, 0, 0), (25, .iadd, 1, 0, 0, 0, 0), (26, .istore_n 2, 1, 0, 0, 0, 0), (27, .iinc 3 1, 3, 0, 0, 0, 0), (30, .goto (-26), 3, 0, 0, 0, 0), (33, .iload_n 2, 1, 0, 0, 0, 0), (34, .ireturn, 1, 0, 0, 0, 0)]
-- 59: Tasks.canServe (ILTrustedPause$Family;)Z
def kL_59_0 : List kE := [(0, .aload_n 2, 1, 0, 0, 0, 0), (1, .getfield 55, 3, 1, 5, 97, 0), (4, .istore_n 3, 1, 0, 0, 0, 0), (5, .iconst 0, 1, 0, 0, 0, 0), (6, .istore 4, 2, 0, 0, 0, 0), (8, .iload_n 1, 1, 0, 0, 0, 0), (9, .istore 5, 2, 0, 0, 0, 0), (11, .iconst 0, 1, 0, 0, 0, 0), (12, .istore 6, 2, 0, 0, 0, 0), (14, .iload 6, 2, 0, 0, 0, 0), (16, .bipush 6, 2, 0, 0, 0, 0), (18, .if_icmp .ge 112, 3, 0, 0, 0, 0), (21, .iload 5, 2, 0, 0, 0, 0), (23, .ifCond .eq 107, 3, 0, 0, 0, 0), (26, .aload_n 0, 1, 0, 0, 0, 0), (27, .iload 5, 2, 0, 0, 0, 0), (29, .invokevirtual 60, 3, 0, 60, 541, 0), (32, .istore 7, 2, 0, 0, 0, 0), (34, .aload_n 2, 1, 0, 0, 0, 0), (35, .iload_n 3, 1, 0, 0, 0, 0), (36, .invokevirtual 63, 3, 0, 18, 545, 0), (39, .ifCond .eq 17, 3, 0, 0, 0, 0), (42, .aload_n 2, 1, 0, 0, 0, 0), (43, .aload_n 0, 1, 0, 0, 0, 0), (44, .getfield 9, 3, 7, 0, 171, 0), (47, .iload 7, 2, 0, 0, 0, 0), (49, .iaload, 1, 0, 0, 0, 0), (50, .invokevirtual 63, 3, 0, 18, 545, 0), (53, .ifCond .ne 5, 3, 0, 0, 0, 0), (56, .iconst 0, 1, 0, 0, 0, 0), (57, .ireturn, 1, 0, 0, 0, 0), (58, .aload_n 2, 1, 0, 0, 0, 0), (59, .iload_n 3, 1, 0, 0, 0, 0), (60, .aload_n 0, 1, 0, 0, 0, 0), (61, .getfield 9, 3, 7, 0, 171, 0), (64, .iload 7, 2, 0, 0, 0, 0), (66, .iaload, 1, 0, 0, 0, 0), (67, .invokevirtual 66, 3, 0, 52, 546, 0), (70, .istore 8, 2, 0, 0, 0, 0), (72, .iload 8, 2, 0, 0, 0, 0), (74, .bipush (-6), 2, 0, 0, 0, 0), (76, .if_icmp .eq 18, 3, 0, 0, 0, 0), (79, .iload 8, 2, 0, 0, 0, 0), (81, .aload_n 0, 1, 0, 0, 0, 0), (82, .getfield 15, 3, 7, 1, 173, 0), (85, .iload 7, 2, 0, 0, 0, 0), (87, .iaload, 1, 0, 0, 0, 0), (88, .iload 4, 2, 0, 0, 0, 0), (90, .isub, 1, 0, 0, 0, 0), (91, .if_icmp .le 5, 3, 0, 0, 0, 0), (94, .iconst 0, 1, 0, 0, 0, 0), (95, .ireturn, 1, 0, 0, 0, 0), (96, .aload_n 0, 1, 0, 0, 0, 0), (97, .getfield 9, 3, 7, 0, 171, 0), (100, .iload 7, 2, 0, 0, 0, 0), (102, .iaload, 1, 0, 0, 0, 0), (103, .istore_n 3, 1, 0, 0, 0, 0), (104, .aload_n 0, 1, 0, 0, 0, 0), (105, .getfield 15, 3, 7, 1, 173, 0), (108, .iload 7, 2, 0, 0, 0, 0)]
def kL_59_1 : List kE := [(110, .iaload, 1, 0, 0, 0, 0), (111, .istore 4, 2, 0, 0, 0, 0), (113, .iload 5, 2, 0, 0, 0, 0), (115, .iconst 1, 1, 0, 0, 0, 0), (116, .iload 7, 2, 0, 0, 0, 0), (118, .ishl, 1, 0, 0, 0, 0), (119, .iconst (-1), 1, 0, 0, 0, 0), (120, .ixor, 1, 0, 0, 0, 0), (121, .iand, 1, 0, 0, 0, 0), (122, .istore 5, 2, 0, 0, 0, 0), (124, .iinc 6 1, 3, 0, 0, 0, 0), (127, .goto (-113), 3, 0, 0, 0, 0), (130, .iconst 1, 1, 0, 0, 0, 0), (131, .ireturn, 1, 0, 0, 0, 0)]
def kL_59 : List kE := kL_59_0 ++ kL_59_1
-- 60: Tasks.earliestOf (I)I
def kL_60 : List kE := [(0, .iconst 0, 1, 0, 0, 0, 0), (1, .istore_n 2, 1, 0, 0, 0, 0), (2, .bipush 100, 2, 0, 0, 0, 0), (4, .istore_n 3, 1, 0, 0, 0, 0), (5, .iconst 0, 1, 0, 0, 0, 0), (6, .istore 4, 2, 0, 0, 0, 0), (8, .iload 4, 2, 0, 0, 0, 0), (10, .bipush 6, 2, 0, 0, 0, 0), (12, .if_icmp .ge 40, 3, 0, 0, 0, 0), (15, .iload_n 1, 1, 0, 0, 0, 0), (16, .iload 4, 2, 0, 0, 0, 0), (18, .invokestatic 51, 3, 4, 36, 535, 0), (21, .ifCond .eq 25, 3, 0, 0, 0, 0), (24, .aload_n 0, 1, 0, 0, 0, 0), (25, .getfield 15, 3, 7, 1, 173, 0), (28, .iload 4, 2, 0, 0, 0, 0), (30, .iaload, 1, 0, 0, 0, 0), (31, .iload_n 3, 1, 0, 0, 0, 0), (32, .if_icmp .ge 14, 3, 0, 0, 0, 0), (35, .iload 4, 2, 0, 0, 0, 0), (37, .istore_n 2, 1, 0, 0, 0, 0), (38, .aload_n 0, 1, 0, 0, 0, 0), (39, .getfield 15, 3, 7, 1, 173, 0), (42, .iload 4, 2, 0, 0, 0, 0), (44, .iaload, 1, 0, 0, 0, 0), (45, .istore_n 3, 1, 0, 0, 0, 0), (46, .iinc 4 1, 3, 0, 0, 0, 0), (49, .goto (-41), 3, 0, 0, 0, 0), (52, .iload_n 2, 1, 0, 0, 0, 0), (53, .ireturn, 1, 0, 0, 0, 0)]
-- 61: T.sentences (IIII)I
def kL_61 : List kE := [(0, .iload_n 1, 1, 0, 0, 0, 0), (1, .invokestatic 75, 3, 1, 11, 329, 0), (4, .ifCond .ne 5, 3, 0, 0, 0, 0), (7, .iconst (-1), 1, 0, 0, 0, 0), (8, .ireturn, 1, 0, 0, 0, 0), (9, .iload_n 2, 1, 0, 0, 0, 0), (10, .iconst 0, 1, 0, 0, 0, 0), (11, .bipush 30, 2, 0, 0, 0, 0), (13, .invokestatic 79, 3, 1, 12, 332, 0), (16, .ifCond .eq 22, 3, 0, 0, 0, 0), (19, .iload_n 3, 1, 0, 0, 0, 0), (20, .iconst 0, 1, 0, 0, 0, 0), (21, .iload_n 2, 1, 0, 0, 0, 0), (22, .invokestatic 79, 3, 1, 12, 332, 0), (25, .ifCond .eq 13, 3, 0, 0, 0, 0), (28, .iload 4, 2, 0, 0, 0, 0), (30, .iconst 0, 1, 0, 0, 0, 0), (31, .iconst 1, 1, 0, 0, 0, 0), (32, .invokestatic 79, 3, 1, 12, 332, 0), (35, .ifCond .ne 6, 3, 0, 0, 0, 0), (38, .bipush (-2), 2, 0, 0, 0, 0), (40, .ireturn, 1, 0, 0, 0, 0), (41, .iload 4, 2, 0, 0, 0, 0), (43, .ifCond .ne 22, 3, 0, 0, 0, 0), (46, .aload_n 0, 1, 0, 0, 0, 0), (47, .getfield 57, 3, 8, 7, 298, 0), (50, .aload_n 0, 1, 0, 0, 0, 0), (51, .getfield 12, 3, 8, 0, 291, 0), (54, .getfield 89, 3, 1, 2, 90, 0), (57, .iload_n 1, 1, 0, 0, 0, 0), (58, .iaload, 1, 0, 0, 0, 0), (59, .iload_n 2, 1, 0, 0, 0, 0), (60, .iload_n 3, 1, 0, 0, 0, 0), (61, .invokevirtual 177, 3, 0, 62, 551, 0), (64, .ireturn, 1, 0, 0, 0, 0), (65, .iload_n 2, 1, 0, 0, 0, 0), (66, .iconst 1, 1, 0, 0, 0, 0), (67, .bipush 9, 2, 0, 0, 0, 0), (69, .invokestatic 79, 3, 1, 12, 332, 0), (72, .ifCond .ne 6, 3, 0, 0, 0, 0), (75, .bipush (-2), 2, 0, 0, 0, 0), (77, .ireturn, 1, 0, 0, 0, 0), (78, .aload_n 0, 1, 0, 0, 0, 0), (79, .getfield 57, 3, 8, 7, 298, 0), (82, .aload_n 0, 1, 0, 0, 0, 0), (83, .getfield 12, 3, 8, 0, 291, 0), (86, .getfield 89, 3, 1, 2, 90, 0), (89, .iload_n 1, 1, 0, 0, 0, 0), (90, .iaload, 1, 0, 0, 0, 0), (91, .iload_n 2, 1, 0, 0, 0, 0), (92, .iload_n 3, 1, 0, 0, 0, 0), (93, .invokevirtual 181, 3, 0, 64, 564, 0), (96, .ireturn, 1, 0, 0, 0, 0)]
-- 62: Sentences.countAll (III)I
def kL_62 : List kE := [(0, .iload_n 2, 1, 0, 0, 0, 0), (1, .ifCond .ne 5, 3, 0, 0, 0, 0), (4, .iconst 1, 1, 0, 0, 0, 0), (5, .ireturn, 1, 0, 0, 0, 0), (6, .iload_n 3, 1, 0, 0, 0, 0), (7, .iconst 0, 1, 0, 0, 0, 0), (8, .bipush 30, 2, 0, 0, 0, 0), (10, .invokestatic 24, 3, 4, 12, 555, 0), (13, .ifCond .ne 5, 3, 0, 0, 0, 0), (16, .iconst 0, 1, 0, 0, 0, 0), (17, .ireturn, 1, 0, 0, 0, 0), (18, .iload_n 1, 1, 0, 0, 0, 0), (19, .invokestatic 28, 3, 1, 16, 556, 0), (22, .istore 4, 2, 0, 0, 0, 0), (24, .bipush 10, 2, 0, 0, 0, 0), (26, .iload 4, 2, 0, 0, 0, 0), (28, .isub, 1, 0, 0, 0, 0), (29, .istore 5, 2, 0, 0, 0, 0), (31, .aload_n 0, 1, 0, 0, 0, 0), (32, .getfield 9, 3, 5, 0, 249, 0), (35, .iconst 0, 1, 0, 0, 0, 0), (36, .invokestatic 34, 3, 1, 2, 557, 0), (39, .aload_n 0, 1, 0, 0, 0, 0), (40, .getfield 15, 3, 5, 1, 250, 0), (43, .iconst 0, 1, 0, 0, 0, 0), (44, .invokestatic 34, 3, 1, 2, 557, 0), (47, .aload_n 0, 1, 0, 0, 0, 0), (48, .getfield 9, 3, 5, 0, 249, 0), (51, .iconst 1, 1, 0, 0, 0, 0), (52, .iload 4, 2, 0, 0, 0, 0), (54, .iastore, 1, 0, 0, 0, 0), (55, .aload_n 0, 1, 0, 0, 0, 0), (56, .getfield 15, 3, 5, 1, 250, 0), (59, .iconst 0, 1, 0, 0, 0, 0), (60, .iload 5, 2, 0, 0, 0, 0), (62, .iastore, 1, 0, 0, 0, 0), (63, .iconst 2, 1, 0, 0, 0, 0), (64, .istore 6, 2, 0, 0, 0, 0), (66, .iload 6, 2, 0, 0, 0, 0), (68, .iload_n 2, 1, 0, 0, 0, 0), (69, .if_icmp .gt 17, 3, 0, 0, 0, 0), (72, .aload_n 0, 1, 0, 0, 0, 0), (73, .iload 4, 2, 0, 0, 0, 0), (75, .iload 5, 2, 0, 0, 0, 0), (77, .invokevirtual 40, 3, 0, 63, 558, 0), (80, .iinc 6 1, 3, 0, 0, 0, 0), (83, .goto (-17), 3, 0, 0, 0, 0), (86, .aload_n 0, 1, 0, 0, 0, 0), (87, .getfield 9, 3, 5, 0, 249, 0), (90, .iload_n 3, 1, 0, 0, 0, 0), (91, .iaload, 1, 0, 0, 0, 0), (92, .aload_n 0, 1, 0, 0, 0, 0), (93, .getfield 15, 3, 5, 1, 250, 0), (96, .iload_n 3, 1, 0, 0, 0, 0), (97, .iaload, 1, 0, 0, 0, 0), (98, .iadd, 1, 0, 0, 0, 0), (99, .ldc 44, 2, 0, 0, 563, 1000007), (101, .irem, 1, 0, 0, 0, 0), (102, .ireturn, 1, 0, 0, 0, 0)]
-- 63: Sentences.addLetter (II)V
def kL_63_0 : List kE := [(0, .bipush 30, 2, 0, 0, 0, 0), (2, .istore_n 3, 1, 0, 0, 0, 0), (3, .iload_n 3, 1, 0, 0, 0, 0), (4, .ifCond .lt 93, 3, 0, 0, 0, 0), (7, .aload_n 0, 1, 0, 0, 0, 0), (8, .getfield 9, 3, 5, 0, 249, 0), (11, .iload_n 3, 1, 0, 0, 0, 0), (12, .iaload, 1, 0, 0, 0, 0), (13, .iload_n 2, 1, 0, 0, 0, 0), (14, .imul, 1, 0, 0, 0, 0), (15, .aload_n 0, 1, 0, 0, 0, 0), (16, .getfield 15, 3, 5, 1, 250, 0), (19, .iload_n 3, 1, 0, 0, 0, 0), (20, .iaload, 1, 0, 0, 0, 0), (21, .iconst 0, 1, 0, 0, 0, 0), (22, .iload_n 2, 1, 0, 0, 0, 0), (23, .iconst 1, 1, 0, 0, 0, 0), (24, .isub, 1, 0, 0, 0, 0), (25, .invokestatic 45, 3, 8, 0, 562, 0), (28, .imul, 1, 0, 0, 0, 0), (29, .iadd, 1, 0, 0, 0, 0), (30, .istore 4, 2, 0, 0, 0, 0), (32, .iload_n 3, 1, 0, 0, 0, 0), (33, .ifCond .ne 7, 3, 0, 0, 0, 0), (36, .iconst 0, 1, 0, 0, 0, 0), (37, .goto 30, 3, 0, 0, 0, 0), (40, .aload_n 0, 1, 0, 0, 0, 0), (41, .getfield 9, 3, 5, 0, 249, 0), (44, .iload_n 3, 1, 0, 0, 0, 0), (45, .iconst 1, 1, 0, 0, 0, 0), (46, .isub, 1, 0, 0, 0, 0), (47, .iaload, 1, 0, 0, 0, 0), (48, .iconst 0, 1, 0, 0, 0, 0), (49, .iload_n 1, 1, 0, 0, 0, 0), (50, .iconst 1, 1, 0, 0, 0, 0), (51, .isub, 1, 0, 0, 0, 0), (52, .invokestatic 45, 3, 8, 0, 562, 0), (55, .imul, 1, 0, 0, 0, 0), (56, .aload_n 0, 1, 0, 0, 0, 0), (57, .getfield 15, 3, 5, 1, 250, 0), (60, .iload_n 3, 1, 0, 0, 0, 0), (61, .iconst 1, 1, 0, 0, 0, 0), (62, .isub, 1, 0, 0, 0, 0), (63, .iaload, 1, 0, 0, 0, 0), (64, .iload_n 1, 1, 0, 0, 0, 0), (65, .imul, 1, 0, 0, 0, 0), (66, .iadd, 1, 0, 0, 0, 0), (67, .istore 5, 2, 0, 0, 0, 0), (69, .aload_n 0, 1, 0, 0, 0, 0), (70, .getfield 15, 3, 5, 1, 250, 0), (73, .iload_n 3, 1, 0, 0, 0, 0), (74, .iload 4, 2, 0, 0, 0, 0), (76, .ldc 44, 2, 0, 0, 563, 1000007), (78, .irem, 1, 0, 0, 0, 0), (79, .iastore, 1, 0, 0, 0, 0), (80, .aload_n 0, 1, 0, 0, 0, 0), (81, .getfield 9, 3, 5, 0, 249, 0), (84, .iload_n 3, 1, 0, 0, 0, 0), (85, .iload 5, 2, 0, 0, 0, 0), (87, .ldc 44, 2, 0, 0, 563, 1000007)]
def kL_63_1 : List kE := [(89, .irem, 1, 0, 0, 0, 0), (90, .iastore, 1, 0, 0, 0, 0), (91, .iinc 3 (-1), 3, 0, 0, 0, 0), (94, .goto (-91), 3, 0, 0, 0, 0), (97, .return_, 1, 0, 0, 0, 0)]
def kL_63 : List kE := kL_63_0 ++ kL_63_1
-- 64: Sentences.leastOne (III)I
def kL_64 : List kE := [(0, .iload_n 2, 1, 0, 0, 0, 0), (1, .iconst 1, 1, 0, 0, 0, 0), (2, .bipush 9, 2, 0, 0, 0, 0), (4, .invokestatic 24, 3, 4, 12, 555, 0), (7, .ifCond .ne 6, 3, 0, 0, 0, 0), (10, .bipush (-6), 2, 0, 0, 0, 0), (12, .ireturn, 1, 0, 0, 0, 0), (13, .aload_n 0, 1, 0, 0, 0, 0), (14, .iload_n 1, 1, 0, 0, 0, 0), (15, .invokestatic 28, 3, 1, 16, 556, 0), (18, .invokevirtual 51, 3, 0, 65, 568, 0), (21, .iconst 0, 1, 0, 0, 0, 0), (22, .istore 4, 2, 0, 0, 0, 0), (24, .bipush (-6), 2, 0, 0, 0, 0), (26, .istore 5, 2, 0, 0, 0, 0), (28, .iload_n 3, 1, 0, 0, 0, 0), (29, .istore 6, 2, 0, 0, 0, 0), (31, .iload_n 2, 1, 0, 0, 0, 0), (32, .iconst 1, 1, 0, 0, 0, 0), (33, .isub, 1, 0, 0, 0, 0), (34, .istore 7, 2, 0, 0, 0, 0), (36, .iload 7, 2, 0, 0, 0, 0), (38, .ifCond .lt 54, 3, 0, 0, 0, 0), (41, .aload_n 0, 1, 0, 0, 0, 0), (42, .iload_n 1, 1, 0, 0, 0, 0), (43, .iload 5, 2, 0, 0, 0, 0), (45, .iload 6, 2, 0, 0, 0, 0), (47, .iload 7, 2, 0, 0, 0, 0), (49, .invokevirtual 55, 3, 0, 66, 572, 0), (52, .istore 5, 2, 0, 0, 0, 0), (54, .iload 5, 2, 0, 0, 0, 0), (56, .bipush (-6), 2, 0, 0, 0, 0), (58, .if_icmp .ne 6, 3, 0, 0, 0, 0), (61, .bipush (-6), 2, 0, 0, 0, 0), (63, .ireturn, 1, 0, 0, 0, 0), (64, .iload_n 1, 1, 0, 0, 0, 0), (65, .iload 5, 2, 0, 0, 0, 0), (67, .invokestatic 59, 3, 4, 36, 576, 0), (70, .ifCond .eq 6, 3, 0, 0, 0, 0), (73, .iinc 6 (-1), 3, 0, 0, 0, 0), (76, .bipush 10, 2, 0, 0, 0, 0), (78, .iload 4, 2, 0, 0, 0, 0), (80, .imul, 1, 0, 0, 0, 0), (81, .iload 5, 2, 0, 0, 0, 0), (83, .iadd, 1, 0, 0, 0, 0), (84, .istore 4, 2, 0, 0, 0, 0), (86, .iinc 7 (-1), 3, 0, 0, 0, 0), (89, .goto (-53), 3, 0, 0, 0, 0), (92, .iload 4, 2, 0, 0, 0, 0), (94, .ireturn, 1, 0, 0, 0, 0)]
-- 65: Sentences.openWays (I)V
def kL_65_0 : List kE := [(0, .bipush 10, 2, 0, 0, 0, 0), (2, .iload_n 1, 1, 0, 0, 0, 0), (3, .isub, 1, 0, 0, 0, 0), (4, .istore_n 2, 1, 0, 0, 0, 0), (5, .aload_n 0, 1, 0, 0, 0, 0), (6, .getfield 18, 3, 5, 2, 251, 0), (9, .iconst 0, 1, 0, 0, 0, 0), (10, .iconst 1, 1, 0, 0, 0, 0), (11, .iastore, 1, 0, 0, 0, 0), (12, .aload_n 0, 1, 0, 0, 0, 0), (13, .getfield 21, 3, 5, 3, 252, 0), (16, .iconst 0, 1, 0, 0, 0, 0), (17, .iconst 1, 1, 0, 0, 0, 0), (18, .iastore, 1, 0, 0, 0, 0), (19, .iconst 1, 1, 0, 0, 0, 0), (20, .istore_n 3, 1, 0, 0, 0, 0), (21, .iload_n 3, 1, 0, 0, 0, 0), (22, .bipush 9, 2, 0, 0, 0, 0), (24, .if_icmp .gt 87, 3, 0, 0, 0, 0), (27, .aload_n 0, 1, 0, 0, 0, 0), (28, .getfield 18, 3, 5, 2, 251, 0), (31, .iload_n 3, 1, 0, 0, 0, 0), (32, .iconst 1, 1, 0, 0, 0, 0), (33, .isub, 1, 0, 0, 0, 0), (34, .iaload, 1, 0, 0, 0, 0), (35, .iconst 1, 1, 0, 0, 0, 0), (36, .ishl, 1, 0, 0, 0, 0), (37, .istore 4, 2, 0, 0, 0, 0), (39, .aload_n 0, 1, 0, 0, 0, 0), (40, .getfield 21, 3, 5, 3, 252, 0), (43, .iload_n 3, 1, 0, 0, 0, 0), (44, .iconst 1, 1, 0, 0, 0, 0), (45, .isub, 1, 0, 0, 0, 0), (46, .iaload, 1, 0, 0, 0, 0), (47, .istore 5, 2, 0, 0, 0, 0), (49, .aload_n 0, 1, 0, 0, 0, 0), (50, .getfield 18, 3, 5, 2, 251, 0), (53, .iload_n 3, 1, 0, 0, 0, 0), (54, .iload_n 1, 1, 0, 0, 0, 0), (55, .iconst 1, 1, 0, 0, 0, 0), (56, .if_icmp .le 8, 3, 0, 0, 0, 0), (59, .iload 4, 2, 0, 0, 0, 0), (61, .goto 4, 3, 0, 0, 0, 0), (64, .iconst 0, 1, 0, 0, 0, 0), (65, .iload_n 2, 1, 0, 0, 0, 0), (66, .ifCond .le 8, 3, 0, 0, 0, 0), (69, .iload 5, 2, 0, 0, 0, 0), (71, .goto 4, 3, 0, 0, 0, 0), (74, .iconst 0, 1, 0, 0, 0, 0), (75, .ior, 1, 0, 0, 0, 0), (76, .iastore, 1, 0, 0, 0, 0), (77, .aload_n 0, 1, 0, 0, 0, 0), (78, .getfield 21, 3, 5, 3, 252, 0), (81, .iload_n 3, 1, 0, 0, 0, 0), (82, .iload_n 1, 1, 0, 0, 0, 0), (83, .ifCond .le 8, 3, 0, 0, 0, 0), (86, .iload 4, 2, 0, 0, 0, 0), (88, .goto 4, 3, 0, 0, 0, 0), (91, .iconst 0, 1, 0, 0, 0, 0), (92, .iload_n 2, 1, 0, 0, 0, 0)]
def kL_65_1 : List kE := [(93, .iconst 1, 1, 0, 0, 0, 0), (94, .if_icmp .le 8, 3, 0, 0, 0, 0), (97, .iload 5, 2, 0, 0, 0, 0), (99, .goto 4, 3, 0, 0, 0, 0), (102, .iconst 0, 1, 0, 0, 0, 0), (103, .ior, 1, 0, 0, 0, 0), (104, .iastore, 1, 0, 0, 0, 0), (105, .iinc 3 1, 3, 0, 0, 0, 0), (108, .goto (-87), 3, 0, 0, 0, 0), (111, .return_, 1, 0, 0, 0, 0)]
def kL_65 : List kE := kL_65_0 ++ kL_65_1
-- 66: Sentences.leastLetter (IIII)I
def kL_66 : List kE := [(0, .iload 4, 2, 0, 0, 0, 0), (2, .iconst 0, 1, 0, 0, 0, 0), (3, .bipush 9, 2, 0, 0, 0, 0), (5, .invokestatic 24, 3, 4, 12, 555, 0), (8, .ifCond .ne 6, 3, 0, 0, 0, 0), (11, .bipush (-6), 2, 0, 0, 0, 0), (13, .ireturn, 1, 0, 0, 0, 0), (14, .iconst 0, 1, 0, 0, 0, 0), (15, .istore 5, 2, 0, 0, 0, 0), (17, .iload 5, 2, 0, 0, 0, 0), (19, .bipush 10, 2, 0, 0, 0, 0), (21, .if_icmp .ge 70, 3, 0, 0, 0, 0), (24, .iload_n 1, 1, 0, 0, 0, 0), (25, .iload 5, 2, 0, 0, 0, 0), (27, .invokestatic 59, 3, 4, 36, 576, 0), (30, .istore 6, 2, 0, 0, 0, 0), (32, .iload 6, 2, 0, 0, 0, 0), (34, .ifCond .eq 13, 3, 0, 0, 0, 0), (37, .aload_n 0, 1, 0, 0, 0, 0), (38, .getfield 18, 3, 5, 2, 251, 0), (41, .iload 4, 2, 0, 0, 0, 0), (43, .iaload, 1, 0, 0, 0, 0), (44, .goto 10, 3, 0, 0, 0, 0), (47, .aload_n 0, 1, 0, 0, 0, 0), (48, .getfield 21, 3, 5, 3, 252, 0), (51, .iload 4, 2, 0, 0, 0, 0), (53, .iaload, 1, 0, 0, 0, 0), (54, .istore 7, 2, 0, 0, 0, 0), (56, .iload 5, 2, 0, 0, 0, 0), (58, .iload_n 2, 1, 0, 0, 0, 0), (59, .if_icmp .eq 26, 3, 0, 0, 0, 0), (62, .iload 7, 2, 0, 0, 0, 0), (64, .iload 6, 2, 0, 0, 0, 0), (66, .ifCond .eq 9, 3, 0, 0, 0, 0), (69, .iload_n 3, 1, 0, 0, 0, 0), (70, .iconst 1, 1, 0, 0, 0, 0), (71, .isub, 1, 0, 0, 0, 0), (72, .goto 4, 3, 0, 0, 0, 0), (75, .iload_n 3, 1, 0, 0, 0, 0), (76, .invokestatic 59, 3, 4, 36, 576, 0), (79, .ifCond .eq 6, 3, 0, 0, 0, 0), (82, .iload 5, 2, 0, 0, 0, 0), (84, .ireturn, 1, 0, 0, 0, 0), (85, .iinc 5 1, 3, 0, 0, 0, 0), (88, .goto (-71), 3, 0, 0, 0, 0), (91, .bipush (-6), 2, 0, 0, 0, 0), (93, .ireturn, 1, 0, 0, 0, 0)]
-- 67: T.seen (IIZ)I
def kL_67 : List kE := [(0, .iload_n 2, 1, 0, 0, 0, 0), (1, .invokestatic 75, 3, 1, 11, 329, 0), (4, .ifCond .ne 5, 3, 0, 0, 0, 0), (7, .iconst (-1), 1, 0, 0, 0, 0), (8, .ireturn, 1, 0, 0, 0, 0), (9, .iload_n 1, 1, 0, 0, 0, 0), (10, .iconst 0, 1, 0, 0, 0, 0), (11, .bipush 60, 2, 0, 0, 0, 0), (13, .invokestatic 79, 3, 1, 12, 332, 0), (16, .ifCond .ne 6, 3, 0, 0, 0, 0), (19, .bipush (-2), 2, 0, 0, 0, 0), (21, .ireturn, 1, 0, 0, 0, 0), (22, .aload_n 0, 1, 0, 0, 0, 0), (23, .getfield 43, 3, 8, 5, 296, 0), (26, .iload_n 1, 1, 0, 0, 0, 0), (27, .iload_n 2, 1, 0, 0, 0, 0), (28, .iload_n 3, 1, 0, 0, 0, 0), (29, .invokevirtual 184, 3, 0, 68, 581, 0), (32, .ireturn, 1, 0, 0, 0, 0)]
-- 68: Sights.append (IIZ)I
def kL_68 : List kE := [(0, .aload_n 0, 1, 0, 0, 0, 0), (1, .getfield 22, 3, 6, 3, 204, 0), (4, .bipush 8, 2, 0, 0, 0, 0), (6, .if_icmp .ge 10, 3, 0, 0, 0, 0), (9, .aload_n 0, 1, 0, 0, 0, 0), (10, .getfield 22, 3, 6, 3, 204, 0), (13, .ifCond .ge 6, 3, 0, 0, 0, 0), (16, .bipush (-4), 2, 0, 0, 0, 0), (18, .ireturn, 1, 0, 0, 0, 0), (19, .aload_n 0, 1, 0, 0, 0, 0), (20, .getfield 9, 3, 6, 0, 198, 0), (23, .aload_n 0, 1, 0, 0, 0, 0), (24, .getfield 22, 3, 6, 3, 204, 0), (27, .iload_n 1, 1, 0, 0, 0, 0), (28, .iastore, 1, 0, 0, 0, 0), (29, .aload_n 0, 1, 0, 0, 0, 0), (30, .getfield 15, 3, 6, 1, 200, 0), (33, .aload_n 0, 1, 0, 0, 0, 0), (34, .getfield 22, 3, 6, 3, 204, 0), (37, .iload_n 2, 1, 0, 0, 0, 0), (38, .iastore, 1, 0, 0, 0, 0), (39, .aload_n 0, 1, 0, 0, 0, 0), (40, .getfield 18, 3, 6, 2, 202, 0), (43, .aload_n 0, 1, 0, 0, 0, 0), (44, .getfield 22, 3, 6, 3, 204, 0), (47, .iload_n 3, 1, 0, 0, 0, 0), (48, .bastore, 1, 0, 0, 0, 0), (49, .aload_n 0, 1, 0, 0, 0, 0), (50, .dup, 1, 0, 0, 0, 0), (51, .getfield 22, 3, 6, 3, 204, 0), (54, .iconst 1, 1, 0, 0, 0, 0), (55, .iadd, 1, 0, 0, 0, 0), (56, .putfield 22, 3, 6, 3, 204, 0), (59, .aload_n 0, 1, 0, 0, 0, 0), (60, .getfield 22, 3, 6, 3, 204, 0), (63, .ireturn, 1, 0, 0, 0, 0)]
-- 69: T.forget ()I
def kL_69 : List kE := [(0, .aload_n 0, 1, 0, 0, 0, 0), (1, .getfield 43, 3, 8, 5, 296, 0), (4, .getfield 187, 3, 6, 3, 206, 0), (7, .istore_n 1, 1, 0, 0, 0, 0), (8, .aload_n 0, 1, 0, 0, 0, 0), (9, .getfield 43, 3, 8, 5, 296, 0), (12, .iconst 0, 1, 0, 0, 0, 0), (13, .putfield 187, 3, 6, 3, 206, 0), (16, .iload_n 1, 1, 0, 0, 0, 0), (17, .ireturn, 1, 0, 0, 0, 0)]
-- 70: T.fits (I)I
def kL_70 : List kE := [(0, .aload_n 0, 1, 0, 0, 0, 0), (1, .getfield 50, 3, 8, 6, 297, 0), (4, .aload_n 0, 1, 0, 0, 0, 0), (5, .getfield 43, 3, 8, 5, 296, 0), (8, .invokevirtual 188, 3, 0, 71, 593, 0), (11, .iload_n 1, 1, 0, 0, 0, 0), (12, .iconst (-1), 1, 0, 0, 0, 0), (13, .if_icmp .ne 11, 3, 0, 0, 0, 0), (16, .aload_n 0, 1, 0, 0, 0, 0), (17, .getfield 50, 3, 8, 6, 297, 0), (20, .getfield 192, 3, 4, 2, 227, 0), (23, .ireturn, 1, 0, 0, 0, 0), (24, .iload_n 1, 1, 0, 0, 0, 0), (25, .iconst 0, 1, 0, 0, 0, 0), (26, .aload_n 0, 1, 0, 0, 0, 0), (27, .getfield 50, 3, 8, 6, 297, 0), (30, .getfield 192, 3, 4, 2, 227, 0), (33, .iconst 1, 1, 0, 0, 0, 0), (34, .isub, 1, 0, 0, 0, 0), (35, .invokestatic 79, 3, 1, 12, 332, 0), (38, .ifCond .eq 22, 3, 0, 0, 0, 0), (41, .iload_n 1, 1, 0, 0, 0, 0), (42, .sipush 336, 3, 0, 0, 0, 0), (45, .if_icmp .ge 15, 3, 0, 0, 0, 0), (48, .aload_n 0, 1, 0, 0, 0, 0), (49, .getfield 50, 3, 8, 6, 297, 0), (52, .getfield 193, 3, 4, 0, 224, 0), (55, .iload_n 1, 1, 0, 0, 0, 0), (56, .iaload, 1, 0, 0, 0, 0), (57, .goto 5, 3, 0, 0, 0, 0), (60, .bipush (-6), 2, 0, 0, 0, 0), (62, .ireturn, 1, 0, 0, 0, 0)]
-- 71: Rounds.collect (LTrustedPause$Sights;)V
def kL_71 : List kE := [(0, .aload_n 0, 1, 0, 0, 0, 0), (1, .iconst 0, 1, 0, 0, 0, 0), (2, .putfield 18, 3, 4, 2, 226, 0), (5, .iconst 0, 1, 0, 0, 0, 0), (6, .istore_n 2, 1, 0, 0, 0, 0), (7, .iload_n 2, 1, 0, 0, 0, 0), (8, .bipush 8, 2, 0, 0, 0, 0), (10, .if_icmp .ge 56, 3, 0, 0, 0, 0), (13, .iconst 1, 1, 0, 0, 0, 0), (14, .istore_n 3, 1, 0, 0, 0, 0), (15, .iload_n 3, 1, 0, 0, 0, 0), (16, .bipush 7, 2, 0, 0, 0, 0), (18, .if_icmp .gt 42, 3, 0, 0, 0, 0), (21, .iconst 1, 1, 0, 0, 0, 0), (22, .istore 4, 2, 0, 0, 0, 0), (24, .iload 4, 2, 0, 0, 0, 0), (26, .bipush 6, 2, 0, 0, 0, 0), (28, .if_icmp .gt 26, 3, 0, 0, 0, 0), (31, .aload_n 0, 1, 0, 0, 0, 0), (32, .bipush 100, 2, 0, 0, 0, 0), (34, .iload_n 2, 1, 0, 0, 0, 0), (35, .imul, 1, 0, 0, 0, 0), (36, .bipush 10, 2, 0, 0, 0, 0), (38, .iload_n 3, 1, 0, 0, 0, 0), (39, .imul, 1, 0, 0, 0, 0), (40, .iadd, 1, 0, 0, 0, 0), (41, .iload 4, 2, 0, 0, 0, 0), (43, .iadd, 1, 0, 0, 0, 0), (44, .aload_n 1, 1, 0, 0, 0, 0), (45, .invokevirtual 28, 3, 0, 72, 597, 0), (48, .iinc 4 1, 3, 0, 0, 0, 0), (51, .goto (-27), 3, 0, 0, 0, 0), (54, .iinc 3 1, 3, 0, 0, 0, 0), (57, .goto (-42), 3, 0, 0, 0, 0), (60, .iinc 2 1, 3, 0, 0, 0, 0), (63, .goto (-56), 3, 0, 0, 0, 0), (66, .return_, 1, 0, 0, 0, 0)]
-- 72: Rounds.keepIfSeenSo (ILTrustedPause$Sights;)V
def kL_72 : List kE := [(0, .iconst 0, 1, 0, 0, 0, 0), (1, .istore_n 3, 1, 0, 0, 0, 0), (2, .iload_n 3, 1, 0, 0, 0, 0), (3, .aload_n 2, 1, 0, 0, 0, 0), (4, .getfield 32, 3, 6, 3, 205, 0), (7, .if_icmp .ge 53, 3, 0, 0, 0, 0), (10, .iload_n 3, 1, 0, 0, 0, 0), (11, .bipush 8, 2, 0, 0, 0, 0), (13, .if_icmp .ge 47, 3, 0, 0, 0, 0), (16, .iload_n 1, 1, 0, 0, 0, 0), (17, .aload_n 2, 1, 0, 0, 0, 0), (18, .getfield 35, 3, 6, 0, 199, 0), (21, .iload_n 3, 1, 0, 0, 0, 0), (22, .iaload, 1, 0, 0, 0, 0), (23, .invokestatic 38, 3, 1, 73, 601, 0), (26, .aload_n 2, 1, 0, 0, 0, 0), (27, .getfield 42, 3, 6, 1, 201, 0), (30, .iload_n 3, 1, 0, 0, 0, 0), (31, .iaload, 1, 0, 0, 0, 0), (32, .if_icmp .ne 7, 3, 0, 0, 0, 0), (35, .iconst 1, 1, 0, 0, 0, 0), (36, .goto 4, 3, 0, 0, 0, 0), (39, .iconst 0, 1, 0, 0, 0, 0), (40, .istore 4, 2, 0, 0, 0, 0), (42, .iload 4, 2, 0, 0, 0, 0), (44, .aload_n 2, 1, 0, 0, 0, 0), (45, .getfield 45, 3, 6, 2, 203, 0), (48, .iload_n 3, 1, 0, 0, 0, 0), (49, .baload, 1, 0, 0, 0, 0), (50, .if_icmp .eq 4, 3, 0, 0, 0, 0), (53, .return_, 1, 0, 0, 0, 0), (54, .iinc 3 1, 3, 0, 0, 0, 0), (57, .goto (-55), 3, 0, 0, 0, 0), (60, .aload_n 0, 1, 0, 0, 0, 0), (61, .getfield 18, 3, 4, 2, 226, 0), (64, .iconst 0, 1, 0, 0, 0, 0), (65, .sipush 335, 3, 0, 0, 0, 0), (68, .invokestatic 49, 3, 4, 12, 604, 0), (71, .ifCond .eq 23, 3, 0, 0, 0, 0), (74, .aload_n 0, 1, 0, 0, 0, 0), (75, .getfield 9, 3, 4, 0, 223, 0), (78, .aload_n 0, 1, 0, 0, 0, 0), (79, .getfield 18, 3, 4, 2, 226, 0), (82, .iload_n 1, 1, 0, 0, 0, 0), (83, .iastore, 1, 0, 0, 0, 0), (84, .aload_n 0, 1, 0, 0, 0, 0), (85, .dup, 1, 0, 0, 0, 0), (86, .getfield 18, 3, 4, 2, 226, 0), (89, .iconst 1, 1, 0, 0, 0, 0), (90, .iadd, 1, 0, 0, 0, 0), (91, .putfield 18, 3, 4, 2, 226, 0), (94, .return_, 1, 0, 0, 0, 0)]
-- 73: Rounds.holderAt (II)I
def kL_73 : List kE := [(0, .iload_n 0, 1, 0, 0, 0, 0), (1, .bipush 10, 2, 0, 0, 0, 0), (3, .irem, 1, 0, 0, 0, 0), (4, .istore_n 2, 1, 0, 0, 0, 0), (5, .iload_n 2, 1, 0, 0, 0, 0), (6, .iconst 1, 1, 0, 0, 0, 0), (7, .if_icmp .ge 6, 3, 0, 0, 0, 0), (10, .bipush (-6), 2, 0, 0, 0, 0), (12, .ireturn, 1, 0, 0, 0, 0), (13, .iload_n 0, 1, 0, 0, 0, 0), (14, .bipush 100, 2, 0, 0, 0, 0), (16, .idiv, 1, 0, 0, 0, 0), (17, .iload_n 0, 1, 0, 0, 0, 0), (18, .bipush 10, 2, 0, 0, 0, 0), (20, .idiv, 1, 0, 0, 0, 0), (21, .bipush 10, 2, 0, 0, 0, 0), (23, .irem, 1, 0, 0, 0, 0), (24, .iload_n 1, 1, 0, 0, 0, 0), (25, .iload_n 2, 1, 0, 0, 0, 0), (26, .idiv, 1, 0, 0, 0, 0), (27, .imul, 1, 0, 0, 0, 0), (28, .iadd, 1, 0, 0, 0, 0), (29, .bipush 8, 2, 0, 0, 0, 0), (31, .irem, 1, 0, 0, 0, 0), (32, .ireturn, 1, 0, 0, 0, 0)]
-- 74: T.ask (I)I
def kL_74 : List kE := [(0, .iload_n 1, 1, 0, 0, 0, 0), (1, .iconst 0, 1, 0, 0, 0, 0), (2, .iconst 1, 1, 0, 0, 0, 0), (3, .invokestatic 79, 3, 1, 12, 332, 0), (6, .ifCond .ne 6, 3, 0, 0, 0, 0), (9, .bipush (-2), 2, 0, 0, 0, 0), (11, .ireturn, 1, 0, 0, 0, 0), (12, .aload_n 0, 1, 0, 0, 0, 0), (13, .getfield 50, 3, 8, 6, 297, 0), (16, .aload_n 0, 1, 0, 0, 0, 0), (17, .getfield 43, 3, 8, 5, 296, 0), (20, .invokevirtual 188, 3, 0, 71, 593, 0), (23, .aload_n 0, 1, 0, 0, 0, 0), (24, .getfield 50, 3, 8, 6, 297, 0), (27, .getfield 192, 3, 4, 2, 227, 0), (30, .ifCond .ne 6, 3, 0, 0, 0, 0), (33, .bipush (-6), 2, 0, 0, 0, 0), (35, .ireturn, 1, 0, 0, 0, 0), (36, .aload_n 0, 1, 0, 0, 0, 0), (37, .getfield 50, 3, 8, 6, 297, 0), (40, .invokevirtual 196, 3, 0, 75, 609, 0), (43, .iload_n 1, 1, 0, 0, 0, 0), (44, .ifCond .ne 13, 3, 0, 0, 0, 0), (47, .aload_n 0, 1, 0, 0, 0, 0), (48, .getfield 50, 3, 8, 6, 297, 0), (51, .getfield 199, 3, 4, 3, 229, 0), (54, .goto 10, 3, 0, 0, 0, 0), (57, .aload_n 0, 1, 0, 0, 0, 0), (58, .getfield 50, 3, 8, 6, 297, 0), (61, .getfield 202, 3, 4, 4, 231, 0), (64, .ireturn, 1, 0, 0, 0, 0)]
-- 75: Rounds.chooseQuestion ()V
def kL_75 : List kE := [(0, .aload_n 0, 1, 0, 0, 0, 0), (1, .bipush (-6), 2, 0, 0, 0, 0), (3, .putfield 22, 3, 4, 3, 228, 0), (6, .aload_n 0, 1, 0, 0, 0, 0), (7, .aload_n 0, 1, 0, 0, 0, 0), (8, .getfield 18, 3, 4, 2, 226, 0), (11, .iconst 1, 1, 0, 0, 0, 0), (12, .iadd, 1, 0, 0, 0, 0), (13, .putfield 25, 3, 4, 4, 230, 0), (16, .iconst 0, 1, 0, 0, 0, 0), (17, .istore_n 1, 1, 0, 0, 0, 0), (18, .iload_n 1, 1, 0, 0, 0, 0), (19, .bipush 60, 2, 0, 0, 0, 0), (21, .if_icmp .gt 72, 3, 0, 0, 0, 0), (24, .aload_n 0, 1, 0, 0, 0, 0), (25, .iload_n 1, 1, 0, 0, 0, 0), (26, .invokevirtual 53, 3, 0, 76, 613, 0), (29, .iconst 0, 1, 0, 0, 0, 0), (30, .istore_n 2, 1, 0, 0, 0, 0), (31, .iload_n 2, 1, 0, 0, 0, 0), (32, .bipush 8, 2, 0, 0, 0, 0), (34, .if_icmp .ge 53, 3, 0, 0, 0, 0), (37, .aload_n 0, 1, 0, 0, 0, 0), (38, .getfield 15, 3, 4, 1, 225, 0), (41, .iload_n 2, 1, 0, 0, 0, 0), (42, .iaload, 1, 0, 0, 0, 0), (43, .aload_n 0, 1, 0, 0, 0, 0), (44, .getfield 18, 3, 4, 2, 226, 0), (47, .aload_n 0, 1, 0, 0, 0, 0), (48, .getfield 15, 3, 4, 1, 225, 0), (51, .iload_n 2, 1, 0, 0, 0, 0), (52, .iaload, 1, 0, 0, 0, 0), (53, .isub, 1, 0, 0, 0, 0), (54, .invokestatic 57, 3, 8, 0, 619, 0), (57, .istore_n 3, 1, 0, 0, 0, 0), (58, .iload_n 3, 1, 0, 0, 0, 0), (59, .aload_n 0, 1, 0, 0, 0, 0), (60, .getfield 25, 3, 4, 4, 230, 0), (63, .if_icmp .ge 18, 3, 0, 0, 0, 0), (66, .aload_n 0, 1, 0, 0, 0, 0), (67, .bipush 10, 2, 0, 0, 0, 0), (69, .iload_n 1, 1, 0, 0, 0, 0), (70, .imul, 1, 0, 0, 0, 0), (71, .iload_n 2, 1, 0, 0, 0, 0), (72, .iadd, 1, 0, 0, 0, 0), (73, .putfield 22, 3, 4, 3, 228, 0), (76, .aload_n 0, 1, 0, 0, 0, 0), (77, .iload_n 3, 1, 0, 0, 0, 0), (78, .putfield 25, 3, 4, 4, 230, 0), (81, .iinc 2 1, 3, 0, 0, 0, 0), (84, .goto (-53), 3, 0, 0, 0, 0), (87, .iinc 1 1, 3, 0, 0, 0, 0), (90, .goto (-72), 3, 0, 0, 0, 0), (93, .return_, 1, 0, 0, 0, 0)]
-- 76: Rounds.countHolders (I)V
def kL_76 : List kE := [(0, .aload_n 0, 1, 0, 0, 0, 0), (1, .getfield 15, 3, 4, 1, 225, 0), (4, .iconst 0, 1, 0, 0, 0, 0), (5, .invokestatic 62, 3, 1, 2, 617, 0), (8, .iconst 0, 1, 0, 0, 0, 0), (9, .istore_n 2, 1, 0, 0, 0, 0), (10, .iload_n 2, 1, 0, 0, 0, 0), (11, .aload_n 0, 1, 0, 0, 0, 0), (12, .getfield 18, 3, 4, 2, 226, 0), (15, .if_icmp .ge 44, 3, 0, 0, 0, 0), (18, .iload_n 2, 1, 0, 0, 0, 0), (19, .sipush 336, 3, 0, 0, 0, 0), (22, .if_icmp .ge 37, 3, 0, 0, 0, 0), (25, .aload_n 0, 1, 0, 0, 0, 0), (26, .getfield 9, 3, 4, 0, 223, 0), (29, .iload_n 2, 1, 0, 0, 0, 0), (30, .iaload, 1, 0, 0, 0, 0), (31, .iload_n 1, 1, 0, 0, 0, 0), (32, .invokestatic 38, 3, 1, 73, 601, 0), (35, .istore_n 3, 1, 0, 0, 0, 0), (36, .iload_n 3, 1, 0, 0, 0, 0), (37, .invokestatic 68, 3, 4, 11, 618, 0), (40, .ifCond .eq 13, 3, 0, 0, 0, 0), (43, .aload_n 0, 1, 0, 0, 0, 0), (44, .getfield 15, 3, 4, 1, 225, 0), (47, .iload_n 3, 1, 0, 0, 0, 0), (48, .dup2, 1, 0, 0, 0, 0), (49, .iaload, 1, 0, 0, 0, 0), (50, .iconst 1, 1, 0, 0, 0, 0), (51, .iadd, 1, 0, 0, 0, 0), (52, .iastore, 1, 0, 0, 0, 0), (53, .iinc 2 1, 3, 0, 0, 0, 0), (56, .goto (-46), 3, 0, 0, 0, 0), (59, .return_, 1, 0, 0, 0, 0)]
-- 77: T.waits (IIII)I
def kL_77 : List kE := [(0, .iload_n 1, 1, 0, 0, 0, 0), (1, .iconst 0, 1, 0, 0, 0, 0), (2, .bipush 99, 2, 0, 0, 0, 0), (4, .invokestatic 79, 3, 1, 12, 332, 0), (7, .ifCond .eq 13, 3, 0, 0, 0, 0), (10, .iload_n 2, 1, 0, 0, 0, 0), (11, .iconst 1, 1, 0, 0, 0, 0), (12, .bipush 9, 2, 0, 0, 0, 0), (14, .invokestatic 79, 3, 1, 12, 332, 0), (17, .ifCond .ne 6, 3, 0, 0, 0, 0), (20, .bipush (-2), 2, 0, 0, 0, 0), (22, .ireturn, 1, 0, 0, 0, 0), (23, .iload_n 3, 1, 0, 0, 0, 0), (24, .iconst 0, 1, 0, 0, 0, 0), (25, .bipush 9, 2, 0, 0, 0, 0), (27, .invokestatic 79, 3, 1, 12, 332, 0), (30, .ifCond .eq 13, 3, 0, 0, 0, 0), (33, .iload 4, 2, 0, 0, 0, 0), (35, .iconst 0, 1, 0, 0, 0, 0), (36, .iconst 1, 1, 0, 0, 0, 0), (37, .invokestatic 79, 3, 1, 12, 332, 0), (40, .ifCond .ne 6, 3, 0, 0, 0, 0), (43, .bipush (-2), 2, 0, 0, 0, 0), (45, .ireturn, 1, 0, 0, 0, 0), (46, .iconst 0, 1, 0, 0, 0, 0), (47, .istore 5, 2, 0, 0, 0, 0), (49, .iload 5, 2, 0, 0, 0, 0), (51, .iload_n 1, 1, 0, 0, 0, 0), (52, .if_icmp .gt 24, 3, 0, 0, 0, 0), (55, .aload_n 0, 1, 0, 0, 0, 0), (56, .getfield 61, 3, 8, 8, 299, 0), (59, .iload 5, 2, 0, 0, 0, 0), (61, .aload_n 0, 1, 0, 0, 0, 0), (62, .iload 5, 2, 0, 0, 0, 0), (64, .iload_n 2, 1, 0, 0, 0, 0), (65, .iload_n 3, 1, 0, 0, 0, 0), (66, .invokevirtual 205, 3, 0, 78, 624, 0), (69, .iastore, 1, 0, 0, 0, 0), (70, .iinc 5 1, 3, 0, 0, 0, 0), (73, .goto (-24), 3, 0, 0, 0, 0), (76, .iload 4, 2, 0, 0, 0, 0), (78, .iconst 1, 1, 0, 0, 0, 0), (79, .if_icmp .ne 10, 3, 0, 0, 0, 0), (82, .aload_n 0, 1, 0, 0, 0, 0), (83, .getfield 61, 3, 8, 8, 299, 0), (86, .iload_n 1, 1, 0, 0, 0, 0), (87, .iaload, 1, 0, 0, 0, 0), (88, .ireturn, 1, 0, 0, 0, 0), (89, .aload_n 0, 1, 0, 0, 0, 0), (90, .getfield 61, 3, 8, 8, 299, 0), (93, .iload_n 1, 1, 0, 0, 0, 0), (94, .iaload, 1, 0, 0, 0, 0), (95, .bipush (-6), 2, 0, 0, 0, 0), (97, .if_icmp .ne 7, 3, 0, 0, 0, 0), (100, .iconst 0, 1, 0, 0, 0, 0), (101, .goto 4, 3, 0, 0, 0, 0), (104, .iconst 1, 1, 0, 0, 0, 0), (105, .ireturn, 1, 0, 0, 0, 0)]
-- 78: T.leastWinningWait (III)I
def kL_78 : List kE := [(0, .iconst 1, 1, 0, 0, 0, 0), (1, .istore 4, 2, 0, 0, 0, 0), (3, .iload 4, 2, 0, 0, 0, 0), (5, .iload_n 2, 1, 0, 0, 0, 0), (6, .if_icmp .gt 52, 3, 0, 0, 0, 0), (9, .iload 4, 2, 0, 0, 0, 0), (11, .iload_n 1, 1, 0, 0, 0, 0), (12, .if_icmp .gt 46, 3, 0, 0, 0, 0), (15, .iload_n 1, 1, 0, 0, 0, 0), (16, .iload 4, 2, 0, 0, 0, 0), (18, .isub, 1, 0, 0, 0, 0), (19, .istore 5, 2, 0, 0, 0, 0), (21, .iload 5, 2, 0, 0, 0, 0), (23, .bipush 99, 2, 0, 0, 0, 0), (25, .if_icmp .gt 27, 3, 0, 0, 0, 0), (28, .iload 5, 2, 0, 0, 0, 0), (30, .bipush 10, 2, 0, 0, 0, 0), (32, .irem, 1, 0, 0, 0, 0), (33, .iload_n 3, 1, 0, 0, 0, 0), (34, .if_icmp .eq 18, 3, 0, 0, 0, 0), (37, .aload_n 0, 1, 0, 0, 0, 0), (38, .getfield 61, 3, 8, 8, 299, 0), (41, .iload 5, 2, 0, 0, 0, 0), (43, .iaload, 1, 0, 0, 0, 0), (44, .bipush (-6), 2, 0, 0, 0, 0), (46, .if_icmp .ne 6, 3, 0, 0, 0, 0), (49, .iload 4, 2, 0, 0, 0, 0), (51, .ireturn, 1, 0, 0, 0, 0), (52, .iinc 4 1, 3, 0, 0, 0, 0), (55, .goto (-52), 3, 0, 0, 0, 0), (58, .bipush (-6), 2, 0, 0, 0, 0), (60, .ireturn, 1, 0, 0, 0, 0)]
-- 79: T.door (IIIII)J
def kL_79 : List kE := [(0, .iload_n 1, 1, 0, 0, 0, 0), (1, .iconst 0, 1, 0, 0, 0, 0), (2, .bipush 15, 2, 0, 0, 0, 0), (4, .invokestatic 79, 3, 1, 12, 332, 0), (7, .ifCond .eq 22, 3, 0, 0, 0, 0), (10, .iload_n 2, 1, 0, 0, 0, 0), (11, .iconst 0, 1, 0, 0, 0, 0), (12, .bipush 10, 2, 0, 0, 0, 0), (14, .invokestatic 79, 3, 1, 12, 332, 0), (17, .ifCond .eq 12, 3, 0, 0, 0, 0), (20, .iload_n 3, 1, 0, 0, 0, 0), (21, .iconst 0, 1, 0, 0, 0, 0), (22, .iload_n 1, 1, 0, 0, 0, 0), (23, .invokestatic 79, 3, 1, 12, 332, 0), (26, .ifCond .ne 7, 3, 0, 0, 0, 0), (29, .ldc2_w 208, 3, 0, 0, 632, -1000000000000000002), (32, .lreturn, 1, 0, 0, 0, 0), (33, .iload 4, 2, 0, 0, 0, 0), (35, .iconst 0, 1, 0, 0, 0, 0), (36, .iconst 1, 1, 0, 0, 0, 0), (37, .invokestatic 79, 3, 1, 12, 332, 0), (40, .ifCond .eq 13, 3, 0, 0, 0, 0), (43, .iload 5, 2, 0, 0, 0, 0), (45, .iconst 0, 1, 0, 0, 0, 0), (46, .iconst 1, 1, 0, 0, 0, 0), (47, .invokestatic 79, 3, 1, 12, 332, 0), (50, .ifCond .ne 7, 3, 0, 0, 0, 0), (53, .ldc2_w 208, 3, 0, 0, 632, -1000000000000000002), (56, .lreturn, 1, 0, 0, 0, 0), (57, .bipush 10, 2, 0, 0, 0, 0), (59, .iload_n 2, 1, 0, 0, 0, 0), (60, .isub, 1, 0, 0, 0, 0), (61, .istore 6, 2, 0, 0, 0, 0), (63, .iload 4, 2, 0, 0, 0, 0), (65, .ifCond .ne 21, 3, 0, 0, 0, 0), (68, .iload 6, 2, 0, 0, 0, 0), (70, .iload_n 3, 1, 0, 0, 0, 0), (71, .invokestatic 210, 3, 1, 80, 633, 0), (74, .bipush 10, 2, 0, 0, 0, 0), (76, .iload_n 3, 1, 0, 0, 0, 0), (77, .invokestatic 210, 3, 1, 80, 633, 0), (80, .iload 5, 2, 0, 0, 0, 0), (82, .invokestatic 214, 3, 1, 81, 636, 0), (85, .lreturn, 1, 0, 0, 0, 0), (86, .iload 6, 2, 0, 0, 0, 0), (88, .iload_n 1, 1, 0, 0, 0, 0), (89, .invokestatic 218, 3, 1, 83, 642, 0), (92, .bipush 10, 2, 0, 0, 0, 0), (94, .iload_n 1, 1, 0, 0, 0, 0), (95, .invokestatic 210, 3, 1, 80, 633, 0), (98, .iload 5, 2, 0, 0, 0, 0), (100, .invokestatic 214, 3, 1, 81, 636, 0), (103, .lreturn, 1, 0, 0, 0, 0)]
-- 80: T.power (II)J
def kL_80 : List kE := [(0, .lconst 1, 1, 0, 0, 0, 0), (1, .lstore_n 2, 1, 0, 0, 0, 0), (2, .iconst 0, 1, 0, 0, 0, 0), (3, .istore 4, 2, 0, 0, 0, 0), (5, .iload 4, 2, 0, 0, 0, 0), (7, .iload_n 1, 1, 0, 0, 0, 0), (8, .if_icmp .ge 14, 3, 0, 0, 0, 0), (11, .lload_n 2, 1, 0, 0, 0, 0), (12, .iload_n 0, 1, 0, 0, 0, 0), (13, .i2l, 1, 0, 0, 0, 0), (14, .lmul, 1, 0, 0, 0, 0), (15, .lstore_n 2, 1, 0, 0, 0, 0), (16, .iinc 4 1, 3, 0, 0, 0, 0), (19, .goto (-14), 3, 0, 0, 0, 0), (22, .lload_n 2, 1, 0, 0, 0, 0), (23, .lreturn, 1, 0, 0, 0, 0)]
-- 81: T.inLowestTerms (JJI)J
def kL_81 : List kE := [(0, .lload_n 0, 1, 0, 0, 0, 0), (1, .lload_n 2, 1, 0, 0, 0, 0), (2, .invokestatic 270, 3, 1, 82, 639, 0), (5, .lstore 5, 2, 0, 0, 0, 0), (7, .iload 4, 2, 0, 0, 0, 0), (9, .ifCond .ne 7, 3, 0, 0, 0, 0), (12, .lload_n 0, 1, 0, 0, 0, 0), (13, .goto 4, 3, 0, 0, 0, 0), (16, .lload_n 2, 1, 0, 0, 0, 0), (17, .lstore 7, 2, 0, 0, 0, 0), (19, .lload 5, 2, 0, 0, 0, 0), (21, .lconst 1, 1, 0, 0, 0, 0), (22, .lcmp, 1, 0, 0, 0, 0), (23, .ifCond .le 11, 3, 0, 0, 0, 0), (26, .lload 7, 2, 0, 0, 0, 0), (28, .lload 5, 2, 0, 0, 0, 0), (30, .ldiv, 1, 0, 0, 0, 0), (31, .goto 5, 3, 0, 0, 0, 0), (34, .lload 7, 2, 0, 0, 0, 0), (36, .lreturn, 1, 0, 0, 0, 0)]
-- 82: T.commonDivisor (JJ)J
def kL_82 : List kE := [(0, .iconst 0, 1, 0, 0, 0, 0), (1, .istore 4, 2, 0, 0, 0, 0), (3, .iload 4, 2, 0, 0, 0, 0), (5, .bipush 100, 2, 0, 0, 0, 0), (7, .if_icmp .ge 25, 3, 0, 0, 0, 0), (10, .lload_n 2, 1, 0, 0, 0, 0), (11, .lconst 0, 1, 0, 0, 0, 0), (12, .lcmp, 1, 0, 0, 0, 0), (13, .ifCond .eq 19, 3, 0, 0, 0, 0), (16, .lload_n 0, 1, 0, 0, 0, 0), (17, .lload_n 2, 1, 0, 0, 0, 0), (18, .lrem, 1, 0, 0, 0, 0), (19, .lstore 5, 2, 0, 0, 0, 0), (21, .lload_n 2, 1, 0, 0, 0, 0), (22, .lstore_n 0, 1, 0, 0, 0, 0), (23, .lload 5, 2, 0, 0, 0, 0), (25, .lstore_n 2, 1, 0, 0, 0, 0), (26, .iinc 4 1, 3, 0, 0, 0, 0), (29, .goto (-26), 3, 0, 0, 0, 0), (32, .lload_n 0, 1, 0, 0, 0, 0), (33, .lreturn, 1, 0, 0, 0, 0)]
-- 83: T.meanUpper (II)J
def kL_83 : List kE := [(0, .lconst 0, 1, 0, 0, 0, 0), (1, .lstore_n 2, 1, 0, 0, 0, 0), (2, .lconst 1, 1, 0, 0, 0, 0), (3, .lstore 4, 2, 0, 0, 0, 0), (5, .iconst 0, 1, 0, 0, 0, 0), (6, .istore 6, 2, 0, 0, 0, 0), (8, .iload 6, 2, 0, 0, 0, 0), (10, .iload_n 1, 1, 0, 0, 0, 0), (11, .if_icmp .ge 25, 3, 0, 0, 0, 0), (14, .iload_n 0, 1, 0, 0, 0, 0), (15, .i2l, 1, 0, 0, 0, 0), (16, .lload 4, 2, 0, 0, 0, 0), (18, .lload_n 2, 1, 0, 0, 0, 0), (19, .ladd, 1, 0, 0, 0, 0), (20, .lmul, 1, 0, 0, 0, 0), (21, .lstore_n 2, 1, 0, 0, 0, 0), (22, .lload 4, 2, 0, 0, 0, 0), (24, .ldc2_w 268, 3, 0, 0, 645, 10), (27, .lmul, 1, 0, 0, 0, 0), (28, .lstore 4, 2, 0, 0, 0, 0), (30, .iinc 6 1, 3, 0, 0, 0, 0), (33, .goto (-25), 3, 0, 0, 0, 0), (36, .lload_n 2, 1, 0, 0, 0, 0), (37, .lreturn, 1, 0, 0, 0, 0)]
-- 84: T.year (III)I
def kL_84_0 : List kE := [(0, .iload_n 1, 1, 0, 0, 0, 0), (1, .iconst 0, 1, 0, 0, 0, 0), (2, .sipush 9999, 3, 0, 0, 0, 0), (5, .invokestatic 79, 3, 1, 12, 332, 0), (8, .ifCond .eq 22, 3, 0, 0, 0, 0), (11, .iload_n 2, 1, 0, 0, 0, 0), (12, .iconst 1, 1, 0, 0, 0, 0), (13, .bipush 99, 2, 0, 0, 0, 0), (15, .invokestatic 79, 3, 1, 12, 332, 0), (18, .ifCond .eq 12, 3, 0, 0, 0, 0), (21, .iload_n 3, 1, 0, 0, 0, 0), (22, .iconst 0, 1, 0, 0, 0, 0), (23, .iconst 2, 1, 0, 0, 0, 0), (24, .invokestatic 79, 3, 1, 12, 332, 0), (27, .ifCond .ne 6, 3, 0, 0, 0, 0), (30, .bipush (-2), 2, 0, 0, 0, 0), (32, .ireturn, 1, 0, 0, 0, 0), (33, .aload_n 0, 1, 0, 0, 0, 0), (34, .getfield 16, 3, 8, 1, 292, 0), (37, .aload_n 0, 1, 0, 0, 0, 0), (38, .getfield 12, 3, 8, 0, 291, 0), (41, .invokevirtual 148, 3, 0, 32, 491, 0), (44, .iload_n 1, 1, 0, 0, 0, 0), (45, .istore 4, 2, 0, 0, 0, 0), (47, .iconst 0, 1, 0, 0, 0, 0), (48, .istore 5, 2, 0, 0, 0, 0), (50, .iload 5, 2, 0, 0, 0, 0), (52, .iload_n 2, 1, 0, 0, 0, 0), (53, .if_icmp .ge 31, 3, 0, 0, 0, 0), (56, .bipush 75, 2, 0, 0, 0, 0), (58, .iload 4, 2, 0, 0, 0, 0), (60, .imul, 1, 0, 0, 0, 0), (61, .bipush 74, 2, 0, 0, 0, 0), (63, .iadd, 1, 0, 0, 0, 0), (64, .ldc 221, 2, 0, 0, 650, 65537), (66, .irem, 1, 0, 0, 0, 0), (67, .istore 4, 2, 0, 0, 0, 0), (69, .aload_n 0, 1, 0, 0, 0, 0), (70, .getfield 16, 3, 8, 1, 292, 0), (73, .iload 4, 2, 0, 0, 0, 0), (75, .invokevirtual 222, 3, 0, 85, 651, 0), (78, .iinc 5 1, 3, 0, 0, 0, 0), (81, .goto (-31), 3, 0, 0, 0, 0), (84, .iload_n 3, 1, 0, 0, 0, 0), (85, .ifCond .ne 11, 3, 0, 0, 0, 0), (88, .aload_n 0, 1, 0, 0, 0, 0), (89, .getfield 16, 3, 8, 1, 292, 0), (92, .getfield 139, 3, 1, 6, 100, 0), (95, .ireturn, 1, 0, 0, 0, 0), (96, .iload_n 3, 1, 0, 0, 0, 0), (97, .iconst 1, 1, 0, 0, 0, 0), (98, .if_icmp .ne 13, 3, 0, 0, 0, 0), (101, .aload_n 0, 1, 0, 0, 0, 0), (102, .getfield 16, 3, 8, 1, 292, 0), (105, .getfield 107, 3, 1, 5, 96, 0), (108, .goto 13, 3, 0, 0, 0, 0), (111, .aload_n 0, 1, 0, 0, 0, 0), (112, .getfield 16, 3, 8, 1, 292, 0), (115, .getfield 92, 3, 1, 4, 94, 0), (118, .invokestatic 226, 3, 1, 16, 660, 0)]
def kL_84_1 : List kE := [(121, .ireturn, 1, 0, 0, 0, 0)]
def kL_84 : List kE := kL_84_0 ++ kL_84_1
-- 85: Family.actByDraw (I)V
def kL_85 : List kE := [(0, .iload_n 1, 1, 0, 0, 0, 0), (1, .bipush 8, 2, 0, 0, 0, 0), (3, .irem, 1, 0, 0, 0, 0), (4, .istore_n 2, 1, 0, 0, 0, 0), (5, .iload_n 1, 1, 0, 0, 0, 0), (6, .bipush 64, 2, 0, 0, 0, 0), (8, .idiv, 1, 0, 0, 0, 0), (9, .istore_n 3, 1, 0, 0, 0, 0), (10, .iload_n 1, 1, 0, 0, 0, 0), (11, .bipush 8, 2, 0, 0, 0, 0), (13, .idiv, 1, 0, 0, 0, 0), (14, .bipush 8, 2, 0, 0, 0, 0), (16, .irem, 1, 0, 0, 0, 0), (17, .tableswitch 86 0 6 #[43, 43, 43, 56, 56, 69, 78], 43, 0, 0, 0, 0), (60, .aload_n 0, 1, 0, 0, 0, 0), (61, .iload_n 2, 1, 0, 0, 0, 0), (62, .iload_n 3, 1, 0, 0, 0, 0), (63, .bipush 8, 2, 0, 0, 0, 0), (65, .irem, 1, 0, 0, 0, 0), (66, .invokevirtual 75, 3, 0, 37, 655, 0), (69, .pop, 1, 0, 0, 0, 0), (70, .goto 46, 3, 0, 0, 0, 0), (73, .aload_n 0, 1, 0, 0, 0, 0), (74, .iload_n 2, 1, 0, 0, 0, 0), (75, .iload_n 3, 1, 0, 0, 0, 0), (76, .bipush 10, 2, 0, 0, 0, 0), (78, .irem, 1, 0, 0, 0, 0), (79, .invokevirtual 78, 3, 0, 42, 656, 0), (82, .pop, 1, 0, 0, 0, 0), (83, .goto 33, 3, 0, 0, 0, 0), (86, .aload_n 0, 1, 0, 0, 0, 0), (87, .iload_n 2, 1, 0, 0, 0, 0), (88, .invokevirtual 81, 3, 0, 38, 657, 0), (91, .pop, 1, 0, 0, 0, 0), (92, .goto 24, 3, 0, 0, 0, 0), (95, .aload_n 0, 1, 0, 0, 0, 0), (96, .invokevirtual 84, 3, 0, 34, 658, 0), (99, .pop, 1, 0, 0, 0, 0), (100, .goto 16, 3, 0, 0, 0, 0), (103, .iload_n 3, 1, 0, 0, 0, 0), (104, .bipush 16, 2, 0, 0, 0, 0), (106, .irem, 1, 0, 0, 0, 0), (107, .ifCond .ne 9, 3, 0, 0, 0, 0), (110, .aload_n 0, 1, 0, 0, 0, 0), (111, .iload_n 2, 1, 0, 0, 0, 0), (112, .invokevirtual 88, 3, 0, 39, 659, 0), (115, .pop, 1, 0, 0, 0, 0), (116, .return_, 1, 0, 0, 0, 0)]
-- 86: T.image (I)I
def kL_86 : List kE := [(0, .iload_n 1, 1, 0, 0, 0, 0), (1, .iconst 0, 1, 0, 0, 0, 0), (2, .iconst 1, 1, 0, 0, 0, 0), (3, .invokestatic 79, 3, 1, 12, 332, 0), (6, .ifCond .ne 6, 3, 0, 0, 0, 0), (9, .bipush (-2), 2, 0, 0, 0, 0), (11, .ireturn, 1, 0, 0, 0, 0), (12, .aload_n 0, 1, 0, 0, 0, 0), (13, .iload_n 1, 1, 0, 0, 0, 0), (14, .invokevirtual 231, 3, 0, 87, 665, 0), (17, .astore_n 2, 1, 0, 0, 0, 0), (18, .aload_n 2, 1, 0, 0, 0, 0), (19, .getfield 235, 3, 2, 0, 275, 0), (22, .aload_n 0, 1, 0, 0, 0, 0), (23, .getfield 12, 3, 8, 0, 291, 0), (26, .invokevirtual 148, 3, 0, 32, 491, 0), (29, .aload_n 2, 1, 0, 0, 0, 0), (30, .getfield 236, 3, 2, 1, 277, 0), (33, .aload_n 0, 1, 0, 0, 0, 0), (34, .getfield 36, 3, 8, 4, 295, 0), (37, .invokevirtual 237, 3, 0, 88, 669, 0), (40, .aload_n 2, 1, 0, 0, 0, 0), (41, .getfield 240, 3, 2, 2, 279, 0), (44, .aload_n 0, 1, 0, 0, 0, 0), (45, .getfield 43, 3, 8, 5, 296, 0), (48, .invokevirtual 241, 3, 0, 89, 674, 0), (51, .aload_n 2, 1, 0, 0, 0, 0), (52, .iconst 1, 1, 0, 0, 0, 0), (53, .putfield 243, 3, 2, 3, 281, 0), (56, .iconst 1, 1, 0, 0, 0, 0), (57, .ireturn, 1, 0, 0, 0, 0)]
-- 87: T.imageOf (I)LTrustedPause$Image;
def kL_87 : List kE := [(0, .iload_n 1, 1, 0, 0, 0, 0), (1, .ifCond .ne 10, 3, 0, 0, 0, 0), (4, .aload_n 0, 1, 0, 0, 0, 0), (5, .getfield 68, 3, 8, 9, 300, 0), (8, .goto 7, 3, 0, 0, 0, 0), (11, .aload_n 0, 1, 0, 0, 0, 0), (12, .getfield 72, 3, 8, 10, 301, 0), (15, .areturn, 1, 0, 0, 0, 0)]
-- 88: Tasks.copyFrom (LTrustedPause$Tasks;)V
def kL_88 : List kE := [(0, .aload_n 1, 1, 0, 0, 0, 0), (1, .getfield 9, 3, 7, 0, 171, 0), (4, .iconst 0, 1, 0, 0, 0, 0), (5, .aload_n 0, 1, 0, 0, 0, 0), (6, .getfield 9, 3, 7, 0, 171, 0), (9, .iconst 0, 1, 0, 0, 0, 0), (10, .bipush 6, 2, 0, 0, 0, 0), (12, .invokestatic 28, 3, 7, 0, 673, 0), (15, .aload_n 1, 1, 0, 0, 0, 0), (16, .getfield 15, 3, 7, 1, 173, 0), (19, .iconst 0, 1, 0, 0, 0, 0), (20, .aload_n 0, 1, 0, 0, 0, 0), (21, .getfield 15, 3, 7, 1, 173, 0), (24, .iconst 0, 1, 0, 0, 0, 0), (25, .bipush 6, 2, 0, 0, 0, 0), (27, .invokestatic 28, 3, 7, 0, 673, 0), (30, .aload_n 1, 1, 0, 0, 0, 0), (31, .getfield 18, 3, 7, 2, 175, 0), (34, .iconst 0, 1, 0, 0, 0, 0), (35, .aload_n 0, 1, 0, 0, 0, 0), (36, .getfield 18, 3, 7, 2, 175, 0), (39, .iconst 0, 1, 0, 0, 0, 0), (40, .bipush 6, 2, 0, 0, 0, 0), (42, .invokestatic 28, 3, 7, 0, 673, 0), (45, .return_, 1, 0, 0, 0, 0)]
-- 89: Sights.copyFrom (LTrustedPause$Sights;)V
def kL_89 : List kE := [(0, .iconst 0, 1, 0, 0, 0, 0), (1, .istore_n 2, 1, 0, 0, 0, 0), (2, .iload_n 2, 1, 0, 0, 0, 0), (3, .bipush 8, 2, 0, 0, 0, 0), (5, .if_icmp .ge 45, 3, 0, 0, 0, 0), (8, .aload_n 0, 1, 0, 0, 0, 0), (9, .getfield 9, 3, 6, 0, 198, 0), (12, .iload_n 2, 1, 0, 0, 0, 0), (13, .aload_n 1, 1, 0, 0, 0, 0), (14, .getfield 9, 3, 6, 0, 198, 0), (17, .iload_n 2, 1, 0, 0, 0, 0), (18, .iaload, 1, 0, 0, 0, 0), (19, .iastore, 1, 0, 0, 0, 0), (20, .aload_n 0, 1, 0, 0, 0, 0), (21, .getfield 15, 3, 6, 1, 200, 0), (24, .iload_n 2, 1, 0, 0, 0, 0), (25, .aload_n 1, 1, 0, 0, 0, 0), (26, .getfield 15, 3, 6, 1, 200, 0), (29, .iload_n 2, 1, 0, 0, 0, 0), (30, .iaload, 1, 0, 0, 0, 0), (31, .iastore, 1, 0, 0, 0, 0), (32, .aload_n 0, 1, 0, 0, 0, 0), (33, .getfield 18, 3, 6, 2, 202, 0), (36, .iload_n 2, 1, 0, 0, 0, 0), (37, .aload_n 1, 1, 0, 0, 0, 0), (38, .getfield 18, 3, 6, 2, 202, 0), (41, .iload_n 2, 1, 0, 0, 0, 0), (42, .baload, 1, 0, 0, 0, 0), (43, .bastore, 1, 0, 0, 0, 0), (44, .iinc 2 1, 3, 0, 0, 0, 0), (47, .goto (-45), 3, 0, 0, 0, 0), (50, .aload_n 0, 1, 0, 0, 0, 0), (51, .aload_n 1, 1, 0, 0, 0, 0), (52, .getfield 22, 3, 6, 3, 204, 0), (55, .putfield 22, 3, 6, 3, 204, 0), (58, .return_, 1, 0, 0, 0, 0)]
-- 90: T.restore (I)I
def kL_90 : List kE := [(0, .iload_n 1, 1, 0, 0, 0, 0), (1, .iconst 0, 1, 0, 0, 0, 0), (2, .iconst 1, 1, 0, 0, 0, 0), (3, .invokestatic 79, 3, 1, 12, 332, 0), (6, .ifCond .ne 6, 3, 0, 0, 0, 0), (9, .bipush (-2), 2, 0, 0, 0, 0), (11, .ireturn, 1, 0, 0, 0, 0), (12, .aload_n 0, 1, 0, 0, 0, 0), (13, .iload_n 1, 1, 0, 0, 0, 0), (14, .invokevirtual 231, 3, 0, 87, 665, 0), (17, .astore_n 2, 1, 0, 0, 0, 0), (18, .aload_n 2, 1, 0, 0, 0, 0), (19, .getfield 243, 3, 2, 3, 281, 0), (22, .ifCond .ne 6, 3, 0, 0, 0, 0), (25, .bipush (-3), 2, 0, 0, 0, 0), (27, .ireturn, 1, 0, 0, 0, 0), (28, .aload_n 0, 1, 0, 0, 0, 0), (29, .getfield 12, 3, 8, 0, 291, 0), (32, .aload_n 2, 1, 0, 0, 0, 0), (33, .getfield 235, 3, 2, 0, 275, 0), (36, .invokevirtual 148, 3, 0, 32, 491, 0), (39, .aload_n 0, 1, 0, 0, 0, 0), (40, .getfield 36, 3, 8, 4, 295, 0), (43, .aload_n 2, 1, 0, 0, 0, 0), (44, .getfield 236, 3, 2, 1, 277, 0), (47, .invokevirtual 237, 3, 0, 88, 669, 0), (50, .aload_n 0, 1, 0, 0, 0, 0), (51, .getfield 43, 3, 8, 5, 296, 0), (54, .aload_n 2, 1, 0, 0, 0, 0), (55, .getfield 240, 3, 2, 2, 279, 0), (58, .invokevirtual 241, 3, 0, 89, 674, 0), (61, .iconst 1, 1, 0, 0, 0, 0), (62, .ireturn, 1, 0, 0, 0, 0)]
-- 91: T.told (I)I
def kL_91 : List kE := [(0, .iload_n 1, 1, 0, 0, 0, 0), (1, .iconst 0, 1, 0, 0, 0, 0), (2, .iconst 4, 1, 0, 0, 0, 0), (3, .invokestatic 79, 3, 1, 12, 332, 0), (6, .ifCond .eq 9, 3, 0, 0, 0, 0), (9, .aload_n 0, 1, 0, 0, 0, 0), (10, .iload_n 1, 1, 0, 0, 0, 0), (11, .invokevirtual 247, 3, 0, 92, 686, 0), (14, .ireturn, 1, 0, 0, 0, 0), (15, .iload_n 1, 1, 0, 0, 0, 0), (16, .bipush 10, 2, 0, 0, 0, 0), (18, .bipush 17, 2, 0, 0, 0, 0), (20, .invokestatic 79, 3, 1, 12, 332, 0), (23, .ifCond .eq 16, 3, 0, 0, 0, 0), (26, .aload_n 0, 1, 0, 0, 0, 0), (27, .getfield 12, 3, 8, 0, 291, 0), (30, .getfield 250, 3, 1, 3, 92, 0), (33, .iload_n 1, 1, 0, 0, 0, 0), (34, .bipush 10, 2, 0, 0, 0, 0), (36, .isub, 1, 0, 0, 0, 0), (37, .iaload, 1, 0, 0, 0, 0), (38, .ireturn, 1, 0, 0, 0, 0), (39, .iload_n 1, 1, 0, 0, 0, 0), (40, .bipush 20, 2, 0, 0, 0, 0), (42, .bipush 79, 2, 0, 0, 0, 0), (44, .invokestatic 79, 3, 1, 12, 332, 0), (47, .ifCond .eq 19, 3, 0, 0, 0, 0), (50, .aload_n 0, 1, 0, 0, 0, 0), (51, .iload_n 1, 1, 0, 0, 0, 0), (52, .bipush 20, 2, 0, 0, 0, 0), (54, .isub, 1, 0, 0, 0, 0), (55, .bipush 10, 2, 0, 0, 0, 0), (57, .idiv, 1, 0, 0, 0, 0), (58, .iload_n 1, 1, 0, 0, 0, 0), (59, .bipush 10, 2, 0, 0, 0, 0), (61, .irem, 1, 0, 0, 0, 0), (62, .invokevirtual 253, 3, 0, 93, 690, 0), (65, .ireturn, 1, 0, 0, 0, 0), (66, .iload_n 1, 1, 0, 0, 0, 0), (67, .bipush 100, 2, 0, 0, 0, 0), (69, .sipush 179, 3, 0, 0, 0, 0), (72, .invokestatic 79, 3, 1, 12, 332, 0), (75, .ifCond .eq 19, 3, 0, 0, 0, 0), (78, .aload_n 0, 1, 0, 0, 0, 0), (79, .iload_n 1, 1, 0, 0, 0, 0), (80, .bipush 100, 2, 0, 0, 0, 0), (82, .isub, 1, 0, 0, 0, 0), (83, .bipush 10, 2, 0, 0, 0, 0), (85, .idiv, 1, 0, 0, 0, 0), (86, .iload_n 1, 1, 0, 0, 0, 0), (87, .bipush 10, 2, 0, 0, 0, 0), (89, .irem, 1, 0, 0, 0, 0), (90, .invokevirtual 256, 3, 0, 94, 694, 0), (93, .ireturn, 1, 0, 0, 0, 0), (94, .bipush (-2), 2, 0, 0, 0, 0), (96, .ireturn, 1, 0, 0, 0, 0)]
-- 92: T.toldOfAll (I)I
def kL_92 : List kE := [(0, .iload_n 1, 1, 0, 0, 0, 0), (1, .tableswitch 63 0 3 #[31, 39, 47, 55], 31, 0, 0, 0, 0), (32, .aload_n 0, 1, 0, 0, 0, 0), (33, .getfield 22, 3, 8, 2, 293, 0), (36, .getfield 123, 3, 3, 1, 126, 0), (39, .ireturn, 1, 0, 0, 0, 0), (40, .aload_n 0, 1, 0, 0, 0, 0), (41, .getfield 12, 3, 8, 0, 291, 0), (44, .getfield 92, 3, 1, 4, 94, 0), (47, .ireturn, 1, 0, 0, 0, 0), (48, .aload_n 0, 1, 0, 0, 0, 0), (49, .getfield 12, 3, 8, 0, 291, 0), (52, .getfield 107, 3, 1, 5, 96, 0), (55, .ireturn, 1, 0, 0, 0, 0), (56, .aload_n 0, 1, 0, 0, 0, 0), (57, .getfield 12, 3, 8, 0, 291, 0), (60, .getfield 139, 3, 1, 6, 100, 0), (63, .ireturn, 1, 0, 0, 0, 0), (64, .aload_n 0, 1, 0, 0, 0, 0), (65, .getfield 43, 3, 8, 5, 296, 0), (68, .getfield 187, 3, 6, 3, 206, 0), (71, .ireturn, 1, 0, 0, 0, 0)]
-- 93: T.toldOfTask (II)I
def kL_93 : List kE := [(0, .iload_n 1, 1, 0, 0, 0, 0), (1, .iconst 0, 1, 0, 0, 0, 0), (2, .iconst 5, 1, 0, 0, 0, 0), (3, .invokestatic 79, 3, 1, 12, 332, 0), (6, .ifCond .ne 6, 3, 0, 0, 0, 0), (9, .bipush (-2), 2, 0, 0, 0, 0), (11, .ireturn, 1, 0, 0, 0, 0), (12, .iload_n 2, 1, 0, 0, 0, 0), (13, .tableswitch 57 0 2 #[27, 37, 47], 27, 0, 0, 0, 0), (40, .aload_n 0, 1, 0, 0, 0, 0), (41, .getfield 36, 3, 8, 4, 295, 0), (44, .getfield 113, 3, 7, 0, 172, 0), (47, .iload_n 1, 1, 0, 0, 0, 0), (48, .iaload, 1, 0, 0, 0, 0), (49, .ireturn, 1, 0, 0, 0, 0), (50, .aload_n 0, 1, 0, 0, 0, 0), (51, .getfield 36, 3, 8, 4, 295, 0), (54, .getfield 116, 3, 7, 1, 174, 0), (57, .iload_n 1, 1, 0, 0, 0, 0), (58, .iaload, 1, 0, 0, 0, 0), (59, .ireturn, 1, 0, 0, 0, 0), (60, .aload_n 0, 1, 0, 0, 0, 0), (61, .getfield 36, 3, 8, 4, 295, 0), (64, .getfield 110, 3, 7, 2, 176, 0), (67, .iload_n 1, 1, 0, 0, 0, 0), (68, .iaload, 1, 0, 0, 0, 0), (69, .ireturn, 1, 0, 0, 0, 0), (70, .bipush (-2), 2, 0, 0, 0, 0), (72, .ireturn, 1, 0, 0, 0, 0)]
-- 94: T.toldOfKin (II)I
def kL_94 : List kE := [(0, .iload_n 1, 1, 0, 0, 0, 0), (1, .invokestatic 75, 3, 1, 11, 329, 0), (4, .ifCond .ne 6, 3, 0, 0, 0, 0), (7, .bipush (-2), 2, 0, 0, 0, 0), (9, .ireturn, 1, 0, 0, 0, 0), (10, .iload_n 2, 1, 0, 0, 0, 0), (11, .tableswitch 55 0 2 #[25, 35, 45], 25, 0, 0, 0, 0), (36, .aload_n 0, 1, 0, 0, 0, 0), (37, .getfield 12, 3, 8, 0, 291, 0), (40, .getfield 83, 3, 1, 0, 86, 0), (43, .iload_n 1, 1, 0, 0, 0, 0), (44, .iaload, 1, 0, 0, 0, 0), (45, .ireturn, 1, 0, 0, 0, 0), (46, .aload_n 0, 1, 0, 0, 0, 0), (47, .getfield 12, 3, 8, 0, 291, 0), (50, .getfield 86, 3, 1, 1, 88, 0), (53, .iload_n 1, 1, 0, 0, 0, 0), (54, .iaload, 1, 0, 0, 0, 0), (55, .ireturn, 1, 0, 0, 0, 0), (56, .aload_n 0, 1, 0, 0, 0, 0), (57, .getfield 12, 3, 8, 0, 291, 0), (60, .getfield 89, 3, 1, 2, 90, 0), (63, .iload_n 1, 1, 0, 0, 0, 0), (64, .iaload, 1, 0, 0, 0, 0), (65, .ireturn, 1, 0, 0, 0, 0), (66, .bipush (-2), 2, 0, 0, 0, 0), (68, .ireturn, 1, 0, 0, 0, 0)]
-- 95: M.new ()V
def kL_95_0 : List kE := [(0, .aload_n 0, 1, 0, 0, 0, 0), (1, .invokespecial 1, 3, 6, 0, 703, 0), (4, .aload_n 0, 1, 0, 0, 0, 0), (5, .bipush 8, 2, 0, 0, 0, 0), (7, .newarray .int, 2, 0, 0, 0, 0), (9, .putfield 7, 3, 9, 1, 705, 0), (12, .aload_n 0, 1, 0, 0, 0, 0), (13, .bipush 8, 2, 0, 0, 0, 0), (15, .newarray .int, 2, 0, 0, 0, 0), (17, .putfield 13, 3, 9, 2, 706, 0), (20, .aload_n 0, 1, 0, 0, 0, 0), (21, .bipush 8, 2, 0, 0, 0, 0), (23, .newarray .int, 2, 0, 0, 0, 0), (25, .putfield 16, 3, 9, 3, 707, 0), (28, .aload_n 0, 1, 0, 0, 0, 0), (29, .bipush 8, 2, 0, 0, 0, 0), (31, .newarray .int, 2, 0, 0, 0, 0), (33, .putfield 19, 3, 9, 4, 708, 0), (36, .aload_n 0, 1, 0, 0, 0, 0), (37, .bipush 6, 2, 0, 0, 0, 0), (39, .newarray .int, 2, 0, 0, 0, 0), (41, .putfield 22, 3, 9, 7, 711, 0), (44, .aload_n 0, 1, 0, 0, 0, 0), (45, .bipush 6, 2, 0, 0, 0, 0), (47, .newarray .int, 2, 0, 0, 0, 0), (49, .putfield 25, 3, 9, 8, 712, 0), (52, .aload_n 0, 1, 0, 0, 0, 0), (53, .bipush 6, 2, 0, 0, 0, 0), (55, .newarray .int, 2, 0, 0, 0, 0), (57, .putfield 28, 3, 9, 9, 713, 0), (60, .aload_n 0, 1, 0, 0, 0, 0), (61, .bipush 8, 2, 0, 0, 0, 0), (63, .newarray .int, 2, 0, 0, 0, 0), (65, .putfield 31, 3, 9, 10, 714, 0), (68, .aload_n 0, 1, 0, 0, 0, 0), (69, .bipush 8, 2, 0, 0, 0, 0), (71, .newarray .int, 2, 0, 0, 0, 0), (73, .putfield 34, 3, 9, 11, 715, 0), (76, .aload_n 0, 1, 0, 0, 0, 0), (77, .bipush 8, 2, 0, 0, 0, 0), (79, .newarray .int, 2, 0, 0, 0, 0), (81, .putfield 37, 3, 9, 12, 716, 0), (84, .aload_n 0, 1, 0, 0, 0, 0), (85, .bipush 60, 2, 0, 0, 0, 0), (87, .newarray .int, 2, 0, 0, 0, 0), (89, .putfield 40, 3, 9, 14, 718, 0), (92, .aload_n 0, 1, 0, 0, 0, 0), (93, .bipush 60, 2, 0, 0, 0, 0), (95, .newarray .int, 2, 0, 0, 0, 0), (97, .putfield 43, 3, 9, 16, 720, 0), (100, .aload_n 0, 1, 0, 0, 0, 0), (101, .bipush 60, 2, 0, 0, 0, 0), (103, .newarray .int, 2, 0, 0, 0, 0), (105, .putfield 46, 3, 9, 17, 721, 0), (108, .aload_n 0, 1, 0, 0, 0, 0), (109, .bipush 60, 2, 0, 0, 0, 0), (111, .newarray .int, 2, 0, 0, 0, 0), (113, .putfield 49, 3, 9, 18, 722, 0), (116, .aload_n 0, 1, 0, 0, 0, 0), (117, .bipush 60, 2, 0, 0, 0, 0)]
def kL_95_1 : List kE := [(119, .newarray .int, 2, 0, 0, 0, 0), (121, .putfield 52, 3, 9, 19, 723, 0), (124, .aload_n 0, 1, 0, 0, 0, 0), (125, .bipush 60, 2, 0, 0, 0, 0), (127, .newarray .int, 2, 0, 0, 0, 0), (129, .putfield 55, 3, 9, 20, 724, 0), (132, .aload_n 0, 1, 0, 0, 0, 0), (133, .bipush 11, 2, 0, 0, 0, 0), (135, .newarray .int, 2, 0, 0, 0, 0), (137, .putfield 58, 3, 9, 22, 726, 0), (140, .aload_n 0, 1, 0, 0, 0, 0), (141, .bipush 64, 2, 0, 0, 0, 0), (143, .newarray .long, 2, 0, 0, 0, 0), (145, .putfield 61, 3, 9, 28, 732, 0), (148, .aload_n 0, 1, 0, 0, 0, 0), (149, .bipush 64, 2, 0, 0, 0, 0), (151, .newarray .long, 2, 0, 0, 0, 0), (153, .putfield 65, 3, 9, 29, 733, 0), (156, .aload_n 0, 1, 0, 0, 0, 0), (157, .sipush 1000, 3, 0, 0, 0, 0), (160, .newarray .boolean, 2, 0, 0, 0, 0), (162, .putfield 68, 3, 9, 30, 734, 0), (165, .aload_n 0, 1, 0, 0, 0, 0), (166, .bipush 8, 2, 0, 0, 0, 0), (168, .newarray .int, 2, 0, 0, 0, 0), (170, .putfield 72, 3, 9, 31, 735, 0), (173, .aload_n 0, 1, 0, 0, 0, 0), (174, .bipush 100, 2, 0, 0, 0, 0), (176, .newarray .int, 2, 0, 0, 0, 0), (178, .putfield 75, 3, 9, 32, 736, 0), (181, .aload_n 0, 1, 0, 0, 0, 0), (182, .sipush 180, 3, 0, 0, 0, 0), (185, .newarray .int, 2, 0, 0, 0, 0), (187, .putfield 78, 3, 9, 33, 737, 0), (190, .aload_n 0, 1, 0, 0, 0, 0), (191, .iconst 2, 1, 0, 0, 0, 0), (192, .newarray .boolean, 2, 0, 0, 0, 0), (194, .putfield 81, 3, 9, 34, 738, 0), (197, .aload_n 0, 1, 0, 0, 0, 0), (198, .sipush 255, 3, 0, 0, 0, 0), (201, .putfield 84, 3, 9, 0, 704, 0), (204, .iconst 0, 1, 0, 0, 0, 0), (205, .istore_n 1, 1, 0, 0, 0, 0), (206, .iload_n 1, 1, 0, 0, 0, 0), (207, .bipush 8, 2, 0, 0, 0, 0), (209, .if_icmp .ge 33, 3, 0, 0, 0, 0), (212, .aload_n 0, 1, 0, 0, 0, 0), (213, .getfield 7, 3, 9, 1, 705, 0), (216, .iload_n 1, 1, 0, 0, 0, 0), (217, .bipush 50, 2, 0, 0, 0, 0), (219, .iastore, 1, 0, 0, 0, 0), (220, .aload_n 0, 1, 0, 0, 0, 0), (221, .getfield 13, 3, 9, 2, 706, 0), (224, .iload_n 1, 1, 0, 0, 0, 0), (225, .bipush 30, 2, 0, 0, 0, 0), (227, .iastore, 1, 0, 0, 0, 0), (228, .aload_n 0, 1, 0, 0, 0, 0), (229, .getfield 16, 3, 9, 3, 707, 0), (232, .iload_n 1, 1, 0, 0, 0, 0), (233, .bipush 8, 2, 0, 0, 0, 0)]
def kL_95_2 : List kE := [(235, .iastore, 1, 0, 0, 0, 0), (236, .iinc 1 1, 3, 0, 0, 0, 0), (239, .goto (-33), 3, 0, 0, 0, 0), (242, .return_, 1, 0, 0, 0, 0)]
def kL_95 : List kE := kL_95_0 ++ kL_95_1 ++ kL_95_2
-- 96: M.kin (IIII)I
def kL_96 : List kE := [(0, .iload_n 1, 1, 0, 0, 0, 0), (1, .invokestatic 94, 3, 1, 97, 821, 0), (4, .ifCond .ne 5, 3, 0, 0, 0, 0), (7, .iconst (-1), 1, 0, 0, 0, 0), (8, .ireturn, 1, 0, 0, 0, 0), (9, .iload_n 2, 1, 0, 0, 0, 0), (10, .i2l, 1, 0, 0, 0, 0), (11, .lconst 0, 1, 0, 0, 0, 0), (12, .ldc2_w 98, 3, 0, 0, 828, 99), (15, .invokestatic 90, 3, 1, 98, 825, 0), (18, .ifCond .eq 28, 3, 0, 0, 0, 0), (21, .iload_n 3, 1, 0, 0, 0, 0), (22, .i2l, 1, 0, 0, 0, 0), (23, .lconst 0, 1, 0, 0, 0, 0), (24, .ldc2_w 98, 3, 0, 0, 828, 99), (27, .invokestatic 90, 3, 1, 98, 825, 0), (30, .ifCond .eq 16, 3, 0, 0, 0, 0), (33, .iload 4, 2, 0, 0, 0, 0), (35, .i2l, 1, 0, 0, 0, 0), (36, .lconst 0, 1, 0, 0, 0, 0), (37, .ldc2_w 100, 3, 0, 0, 829, 1023), (40, .invokestatic 90, 3, 1, 98, 825, 0), (43, .ifCond .ne 6, 3, 0, 0, 0, 0), (46, .bipush (-2), 2, 0, 0, 0, 0), (48, .ireturn, 1, 0, 0, 0, 0), (49, .aload_n 0, 1, 0, 0, 0, 0), (50, .getfield 7, 3, 9, 1, 705, 0), (53, .iload_n 1, 1, 0, 0, 0, 0), (54, .iaload, 1, 0, 0, 0, 0), (55, .istore 5, 2, 0, 0, 0, 0), (57, .aload_n 0, 1, 0, 0, 0, 0), (58, .getfield 7, 3, 9, 1, 705, 0), (61, .iload_n 1, 1, 0, 0, 0, 0), (62, .iload_n 2, 1, 0, 0, 0, 0), (63, .iastore, 1, 0, 0, 0, 0), (64, .aload_n 0, 1, 0, 0, 0, 0), (65, .getfield 13, 3, 9, 2, 706, 0), (68, .iload_n 1, 1, 0, 0, 0, 0), (69, .iload_n 3, 1, 0, 0, 0, 0), (70, .iastore, 1, 0, 0, 0, 0), (71, .aload_n 0, 1, 0, 0, 0, 0), (72, .getfield 16, 3, 9, 3, 707, 0), (75, .iload_n 1, 1, 0, 0, 0, 0), (76, .iload 4, 2, 0, 0, 0, 0), (78, .iastore, 1, 0, 0, 0, 0), (79, .aload_n 0, 1, 0, 0, 0, 0), (80, .dup, 1, 0, 0, 0, 0), (81, .getfield 84, 3, 9, 0, 704, 0), (84, .iconst 1, 1, 0, 0, 0, 0), (85, .iload_n 1, 1, 0, 0, 0, 0), (86, .ishl, 1, 0, 0, 0, 0), (87, .ior, 1, 0, 0, 0, 0), (88, .putfield 84, 3, 9, 0, 704, 0), (91, .iload 5, 2, 0, 0, 0, 0), (93, .ireturn, 1, 0, 0, 0, 0)]
-- 97: M.isKin (I)Z
def kL_97 : List kE := [(0, .iload_n 0, 1, 0, 0, 0, 0), (1, .i2l, 1, 0, 0, 0, 0), (2, .lconst 0, 1, 0, 0, 0, 0), (3, .ldc2_w 88, 3, 0, 0, 824, 7), (6, .invokestatic 90, 3, 1, 98, 825, 0), (9, .ireturn, 1, 0, 0, 0, 0)]
-- 98: M.in (JJJ)Z
def kL_98 : List kE := [(0, .lload_n 0, 1, 0, 0, 0, 0), (1, .lload_n 2, 1, 0, 0, 0, 0), (2, .lcmp, 1, 0, 0, 0, 0), (3, .ifCond .lt 14, 3, 0, 0, 0, 0), (6, .lload_n 0, 1, 0, 0, 0, 0), (7, .lload 4, 2, 0, 0, 0, 0), (9, .lcmp, 1, 0, 0, 0, 0), (10, .ifCond .gt 7, 3, 0, 0, 0, 0), (13, .iconst 1, 1, 0, 0, 0, 0), (14, .goto 4, 3, 0, 0, 0, 0), (17, .iconst 0, 1, 0, 0, 0, 0), (18, .ireturn, 1, 0, 0, 0, 0)]
-- 99: M.tie (IIZ)I
def kL_99 : List kE := [(0, .iload_n 1, 1, 0, 0, 0, 0), (1, .invokestatic 94, 3, 1, 97, 821, 0), (4, .ifCond .eq 15, 3, 0, 0, 0, 0), (7, .iload_n 2, 1, 0, 0, 0, 0), (8, .invokestatic 94, 3, 1, 97, 821, 0), (11, .ifCond .eq 8, 3, 0, 0, 0, 0), (14, .iload_n 1, 1, 0, 0, 0, 0), (15, .iload_n 2, 1, 0, 0, 0, 0), (16, .if_icmp .ne 5, 3, 0, 0, 0, 0), (19, .iconst (-1), 1, 0, 0, 0, 0), (20, .ireturn, 1, 0, 0, 0, 0), (21, .aload_n 0, 1, 0, 0, 0, 0), (22, .getfield 19, 3, 9, 4, 708, 0), (25, .iload_n 1, 1, 0, 0, 0, 0), (26, .aload_n 0, 1, 0, 0, 0, 0), (27, .getfield 19, 3, 9, 4, 708, 0), (30, .iload_n 1, 1, 0, 0, 0, 0), (31, .iaload, 1, 0, 0, 0, 0), (32, .iload_n 2, 1, 0, 0, 0, 0), (33, .iload_n 3, 1, 0, 0, 0, 0), (34, .invokestatic 102, 3, 1, 100, 834, 0), (37, .iastore, 1, 0, 0, 0, 0), (38, .aload_n 0, 1, 0, 0, 0, 0), (39, .getfield 19, 3, 9, 4, 708, 0), (42, .iload_n 2, 1, 0, 0, 0, 0), (43, .aload_n 0, 1, 0, 0, 0, 0), (44, .getfield 19, 3, 9, 4, 708, 0), (47, .iload_n 2, 1, 0, 0, 0, 0), (48, .iaload, 1, 0, 0, 0, 0), (49, .iload_n 1, 1, 0, 0, 0, 0), (50, .iload_n 3, 1, 0, 0, 0, 0), (51, .invokestatic 102, 3, 1, 100, 834, 0), (54, .iastore, 1, 0, 0, 0, 0), (55, .iconst 0, 1, 0, 0, 0, 0), (56, .istore 4, 2, 0, 0, 0, 0), (58, .iconst 0, 1, 0, 0, 0, 0), (59, .istore 5, 2, 0, 0, 0, 0), (61, .iload 5, 2, 0, 0, 0, 0), (63, .bipush 8, 2, 0, 0, 0, 0), (65, .if_icmp .ge 24, 3, 0, 0, 0, 0), (68, .iload 4, 2, 0, 0, 0, 0), (70, .aload_n 0, 1, 0, 0, 0, 0), (71, .getfield 19, 3, 9, 4, 708, 0), (74, .iload 5, 2, 0, 0, 0, 0), (76, .iaload, 1, 0, 0, 0, 0), (77, .invokestatic 106, 3, 1, 101, 837, 0), (80, .iadd, 1, 0, 0, 0, 0), (81, .istore 4, 2, 0, 0, 0, 0), (83, .iinc 5 1, 3, 0, 0, 0, 0), (86, .goto (-25), 3, 0, 0, 0, 0), (89, .iload 4, 2, 0, 0, 0, 0), (91, .iconst 2, 1, 0, 0, 0, 0), (92, .idiv, 1, 0, 0, 0, 0), (93, .ireturn, 1, 0, 0, 0, 0)]
-- 100: M.with (IIZ)I
def kL_100 : List kE := [(0, .iload_n 2, 1, 0, 0, 0, 0), (1, .ifCond .eq 11, 3, 0, 0, 0, 0), (4, .iload_n 0, 1, 0, 0, 0, 0), (5, .iconst 1, 1, 0, 0, 0, 0), (6, .iload_n 1, 1, 0, 0, 0, 0), (7, .ishl, 1, 0, 0, 0, 0), (8, .ior, 1, 0, 0, 0, 0), (9, .goto 10, 3, 0, 0, 0, 0), (12, .iload_n 0, 1, 0, 0, 0, 0), (13, .iconst 1, 1, 0, 0, 0, 0), (14, .iload_n 1, 1, 0, 0, 0, 0), (15, .ishl, 1, 0, 0, 0, 0), (16, .iconst (-1), 1, 0, 0, 0, 0), (17, .ixor, 1, 0, 0, 0, 0), (18, .iand, 1, 0, 0, 0, 0), (19, .ireturn, 1, 0, 0, 0, 0)]
-- 101: M.ones (I)I
def kL_101 : List kE := [(0, .iconst 0, 1, 0, 0, 0, 0), (1, .istore_n 1, 1, 0, 0, 0, 0), (2, .iload_n 0, 1, 0, 0, 0, 0), (3, .istore_n 2, 1, 0, 0, 0, 0), (4, .iload_n 2, 1, 0, 0, 0, 0), (5, .ifCond .eq 15, 3, 0, 0, 0, 0), (8, .iinc 1 1, 3, 0, 0, 0, 0), (11, .iload_n 2, 1, 0, 0, 0, 0), (12, .iload_n 2, 1, 0, 0, 0, 0), (13, .iconst 1, 1, 0, 0, 0, 0), (14, .isub, 1, 0, 0, 0, 0), (15, .iand, 1, 0, 0, 0, 0), (16, .istore_n 2, 1, 0, 0, 0, 0), (17, .goto (-13), 3, 0, 0, 0, 0), (20, .iload_n 1, 1, 0, 0, 0, 0), (21, .ireturn, 1, 0, 0, 0, 0)]
-- 102: M.pause (I)I
def kL_102 : List kE := [(0, .iload_n 1, 1, 0, 0, 0, 0), (1, .i2l, 1, 0, 0, 0, 0), (2, .ldc2_w 110, 3, 0, 0, 844, -1), (5, .ldc2_w 88, 3, 0, 0, 824, 7), (8, .invokestatic 90, 3, 1, 98, 825, 0), (11, .ifCond .ne 5, 3, 0, 0, 0, 0), (14, .iconst (-1), 1, 0, 0, 0, 0), (15, .ireturn, 1, 0, 0, 0, 0), (16, .iload_n 1, 1, 0, 0, 0, 0), (17, .ifCond .lt 17, 3, 0, 0, 0, 0), (20, .aload_n 0, 1, 0, 0, 0, 0), (21, .getfield 84, 3, 9, 0, 704, 0), (24, .iload_n 1, 1, 0, 0, 0, 0), (25, .invokestatic 112, 3, 1, 103, 845, 0), (28, .ifCond .ne 6, 3, 0, 0, 0, 0), (31, .bipush (-3), 2, 0, 0, 0, 0), (33, .ireturn, 1, 0, 0, 0, 0), (34, .aload_n 0, 1, 0, 0, 0, 0), (35, .getfield 116, 3, 9, 5, 709, 0), (38, .istore_n 2, 1, 0, 0, 0, 0), (39, .aload_n 0, 1, 0, 0, 0, 0), (40, .iload_n 1, 1, 0, 0, 0, 0), (41, .ifCond .ge 8, 3, 0, 0, 0, 0), (44, .bipush (-6), 2, 0, 0, 0, 0), (46, .goto 4, 3, 0, 0, 0, 0), (49, .iload_n 1, 1, 0, 0, 0, 0), (50, .putfield 116, 3, 9, 5, 709, 0), (53, .iload_n 2, 1, 0, 0, 0, 0), (54, .ireturn, 1, 0, 0, 0, 0)]
-- 103: M.has (II)Z
def kL_103 : List kE := [(0, .iload_n 0, 1, 0, 0, 0, 0), (1, .iload_n 1, 1, 0, 0, 0, 0), (2, .ishr, 1, 0, 0, 0, 0), (3, .iconst 1, 1, 0, 0, 0, 0), (4, .iand, 1, 0, 0, 0, 0), (5, .iconst 1, 1, 0, 0, 0, 0), (6, .if_icmp .ne 7, 3, 0, 0, 0, 0), (9, .iconst 1, 1, 0, 0, 0, 0), (10, .goto 4, 3, 0, 0, 0, 0), (13, .iconst 0, 1, 0, 0, 0, 0), (14, .ireturn, 1, 0, 0, 0, 0)]
-- 104: M.task (IIII)I
def kL_104 : List kE := [(0, .iload_n 1, 1, 0, 0, 0, 0), (1, .i2l, 1, 0, 0, 0, 0), (2, .lconst 0, 1, 0, 0, 0, 0), (3, .ldc2_w 119, 3, 0, 0, 852, 5), (6, .invokestatic 90, 3, 1, 98, 825, 0), (9, .ifCond .eq 10, 3, 0, 0, 0, 0), (12, .iload_n 2, 1, 0, 0, 0, 0), (13, .invokestatic 94, 3, 1, 97, 821, 0), (16, .ifCond .ne 5, 3, 0, 0, 0, 0), (19, .iconst (-1), 1, 0, 0, 0, 0), (20, .ireturn, 1, 0, 0, 0, 0), (21, .iload_n 3, 1, 0, 0, 0, 0), (22, .i2l, 1, 0, 0, 0, 0), (23, .lconst 0, 1, 0, 0, 0, 0), (24, .ldc2_w 98, 3, 0, 0, 828, 99), (27, .invokestatic 90, 3, 1, 98, 825, 0), (30, .ifCond .eq 16, 3, 0, 0, 0, 0), (33, .iload 4, 2, 0, 0, 0, 0), (35, .i2l, 1, 0, 0, 0, 0), (36, .lconst 0, 1, 0, 0, 0, 0), (37, .ldc2_w 98, 3, 0, 0, 828, 99), (40, .invokestatic 90, 3, 1, 98, 825, 0), (43, .ifCond .ne 6, 3, 0, 0, 0, 0), (46, .bipush (-2), 2, 0, 0, 0, 0), (48, .ireturn, 1, 0, 0, 0, 0), (49, .aload_n 0, 1, 0, 0, 0, 0), (50, .getfield 28, 3, 9, 9, 713, 0), (53, .iload_n 1, 1, 0, 0, 0, 0), (54, .iaload, 1, 0, 0, 0, 0), (55, .istore 5, 2, 0, 0, 0, 0), (57, .aload_n 0, 1, 0, 0, 0, 0), (58, .getfield 22, 3, 9, 7, 711, 0), (61, .iload_n 1, 1, 0, 0, 0, 0), (62, .iload_n 2, 1, 0, 0, 0, 0), (63, .iastore, 1, 0, 0, 0, 0), (64, .aload_n 0, 1, 0, 0, 0, 0), (65, .getfield 25, 3, 9, 8, 712, 0), (68, .iload_n 1, 1, 0, 0, 0, 0), (69, .iload_n 3, 1, 0, 0, 0, 0), (70, .iastore, 1, 0, 0, 0, 0), (71, .aload_n 0, 1, 0, 0, 0, 0), (72, .getfield 28, 3, 9, 9, 713, 0), (75, .iload_n 1, 1, 0, 0, 0, 0), (76, .iload 4, 2, 0, 0, 0, 0), (78, .iastore, 1, 0, 0, 0, 0), (79, .iload 5, 2, 0, 0, 0, 0), (81, .ireturn, 1, 0, 0, 0, 0)]
-- 105: M.say (I)I
def kL_105 : List kE := [(0, .iload_n 1, 1, 0, 0, 0, 0), (1, .i2l, 1, 0, 0, 0, 0), (2, .ldc2_w 121, 3, 0, 0, 857, 33), (5, .ldc2_w 123, 3, 0, 0, 858, 126), (8, .invokestatic 90, 3, 1, 98, 825, 0), (11, .ifCond .ne 6, 3, 0, 0, 0, 0), (14, .bipush (-2), 2, 0, 0, 0, 0), (16, .ireturn, 1, 0, 0, 0, 0), (17, .aload_n 0, 1, 0, 0, 0, 0), (18, .getfield 125, 3, 9, 15, 719, 0), (21, .bipush 60, 2, 0, 0, 0, 0), (23, .if_icmp .ne 6, 3, 0, 0, 0, 0), (26, .bipush (-4), 2, 0, 0, 0, 0), (28, .ireturn, 1, 0, 0, 0, 0), (29, .aload_n 0, 1, 0, 0, 0, 0), (30, .getfield 40, 3, 9, 14, 718, 0), (33, .aload_n 0, 1, 0, 0, 0, 0), (34, .getfield 125, 3, 9, 15, 719, 0), (37, .iload_n 1, 1, 0, 0, 0, 0), (38, .iastore, 1, 0, 0, 0, 0), (39, .aload_n 0, 1, 0, 0, 0, 0), (40, .dup, 1, 0, 0, 0, 0), (41, .getfield 125, 3, 9, 15, 719, 0), (44, .iconst 1, 1, 0, 0, 0, 0), (45, .iadd, 1, 0, 0, 0, 0), (46, .putfield 125, 3, 9, 15, 719, 0), (49, .aload_n 0, 1, 0, 0, 0, 0), (50, .getfield 125, 3, 9, 15, 719, 0), (53, .ireturn, 1, 0, 0, 0, 0)]
-- 106: M.wipe ()I
def kL_106 : List kE := [(0, .aload_n 0, 1, 0, 0, 0, 0), (1, .getfield 125, 3, 9, 15, 719, 0), (4, .istore_n 1, 1, 0, 0, 0, 0), (5, .aload_n 0, 1, 0, 0, 0, 0), (6, .iconst 0, 1, 0, 0, 0, 0), (7, .putfield 125, 3, 9, 15, 719, 0), (10, .iload_n 1, 1, 0, 0, 0, 0), (11, .ireturn, 1, 0, 0, 0, 0)]
-- 107: M.fault ()I
def kL_107 : List kE := [(0, .aload_n 0, 1, 0, 0, 0, 0), (1, .iconst 0, 1, 0, 0, 0, 0), (2, .putfield 128, 3, 9, 21, 725, 0), (5, .iconst 0, 1, 0, 0, 0, 0), (6, .istore_n 1, 1, 0, 0, 0, 0), (7, .iconst 0, 1, 0, 0, 0, 0), (8, .istore_n 2, 1, 0, 0, 0, 0), (9, .iload_n 2, 1, 0, 0, 0, 0), (10, .aload_n 0, 1, 0, 0, 0, 0), (11, .getfield 125, 3, 9, 15, 719, 0), (14, .if_icmp .ge 28, 3, 0, 0, 0, 0), (17, .aload_n 0, 1, 0, 0, 0, 0), (18, .iload_n 1, 1, 0, 0, 0, 0), (19, .aload_n 0, 1, 0, 0, 0, 0), (20, .getfield 40, 3, 9, 14, 718, 0), (23, .iload_n 2, 1, 0, 0, 0, 0), (24, .iaload, 1, 0, 0, 0, 0), (25, .iload_n 2, 1, 0, 0, 0, 0), (26, .invokevirtual 162, 3, 0, 108, 867, 0), (29, .istore_n 1, 1, 0, 0, 0, 0), (30, .iload_n 1, 1, 0, 0, 0, 0), (31, .ifCond .ge 5, 3, 0, 0, 0, 0), (34, .iload_n 2, 1, 0, 0, 0, 0), (35, .ireturn, 1, 0, 0, 0, 0), (36, .iinc 2 1, 3, 0, 0, 0, 0), (39, .goto (-30), 3, 0, 0, 0, 0), (42, .iload_n 1, 1, 0, 0, 0, 0), (43, .ifCond .ne 8, 3, 0, 0, 0, 0), (46, .bipush (-6), 2, 0, 0, 0, 0), (48, .goto 7, 3, 0, 0, 0, 0), (51, .aload_n 0, 1, 0, 0, 0, 0), (52, .getfield 125, 3, 9, 15, 719, 0), (55, .ireturn, 1, 0, 0, 0, 0)]
-- 108: M.readOn (III)I
def kL_108 : List kE := [(0, .iload_n 1, 1, 0, 0, 0, 0), (1, .tableswitch 46 0 2 #[27, 33, 40], 27, 0, 0, 0, 0), (28, .aload_n 0, 1, 0, 0, 0, 0), (29, .iload_n 2, 1, 0, 0, 0, 0), (30, .invokevirtual 148, 3, 0, 109, 871, 0), (33, .ireturn, 1, 0, 0, 0, 0), (34, .aload_n 0, 1, 0, 0, 0, 0), (35, .iload_n 2, 1, 0, 0, 0, 0), (36, .iload_n 3, 1, 0, 0, 0, 0), (37, .invokevirtual 151, 3, 0, 112, 884, 0), (40, .ireturn, 1, 0, 0, 0, 0), (41, .aload_n 0, 1, 0, 0, 0, 0), (42, .iload_n 2, 1, 0, 0, 0, 0), (43, .invokevirtual 155, 3, 0, 113, 888, 0), (46, .ireturn, 1, 0, 0, 0, 0), (47, .aload_n 0, 1, 0, 0, 0, 0), (48, .iload_n 1, 1, 0, 0, 0, 0), (49, .iload_n 2, 1, 0, 0, 0, 0), (50, .iload_n 3, 1, 0, 0, 0, 0), (51, .invokevirtual 158, 3, 0, 114, 892, 0), (54, .ireturn, 1, 0, 0, 0, 0)]
-- 109: M.begin (I)I
def kL_109 : List kE := [(0, .aload_n 0, 1, 0, 0, 0, 0), (1, .getfield 46, 3, 9, 17, 721, 0), (4, .aload_n 0, 1, 0, 0, 0, 0), (5, .getfield 128, 3, 9, 21, 725, 0), (8, .iload_n 1, 1, 0, 0, 0, 0), (9, .invokestatic 139, 3, 1, 110, 875, 0), (12, .ifCond .eq 10, 3, 0, 0, 0, 0), (15, .iload_n 1, 1, 0, 0, 0, 0), (16, .bipush 65, 2, 0, 0, 0, 0), (18, .isub, 1, 0, 0, 0, 0), (19, .goto 4, 3, 0, 0, 0, 0), (22, .iconst 0, 1, 0, 0, 0, 0), (23, .iastore, 1, 0, 0, 0, 0), (24, .aload_n 0, 1, 0, 0, 0, 0), (25, .getfield 49, 3, 9, 18, 722, 0), (28, .aload_n 0, 1, 0, 0, 0, 0), (29, .getfield 128, 3, 9, 21, 725, 0), (32, .iconst 0, 1, 0, 0, 0, 0), (33, .iastore, 1, 0, 0, 0, 0), (34, .iload_n 1, 1, 0, 0, 0, 0), (35, .invokestatic 139, 3, 1, 110, 875, 0), (38, .ifCond .eq 7, 3, 0, 0, 0, 0), (41, .iconst 1, 1, 0, 0, 0, 0), (42, .goto 19, 3, 0, 0, 0, 0), (45, .iload_n 1, 1, 0, 0, 0, 0), (46, .bipush 33, 2, 0, 0, 0, 0), (48, .if_icmp .ne 11, 3, 0, 0, 0, 0), (51, .aload_n 0, 1, 0, 0, 0, 0), (52, .iconst 4, 1, 0, 0, 0, 0), (53, .invokevirtual 142, 3, 0, 111, 880, 0), (56, .goto 5, 3, 0, 0, 0, 0), (59, .bipush (-6), 2, 0, 0, 0, 0), (61, .ireturn, 1, 0, 0, 0, 0)]
-- 110: M.isName (I)Z
def kL_110 : List kE := [(0, .iload_n 0, 1, 0, 0, 0, 0), (1, .i2l, 1, 0, 0, 0, 0), (2, .ldc2_w 131, 3, 0, 0, 878, 65), (5, .ldc2_w 133, 3, 0, 0, 879, 72), (8, .invokestatic 90, 3, 1, 98, 825, 0), (11, .ireturn, 1, 0, 0, 0, 0)]
-- 111: M.close (I)I
def kL_111 : List kE := [(0, .aload_n 0, 1, 0, 0, 0, 0), (1, .getfield 43, 3, 9, 16, 720, 0), (4, .aload_n 0, 1, 0, 0, 0, 0), (5, .getfield 128, 3, 9, 21, 725, 0), (8, .iload_n 1, 1, 0, 0, 0, 0), (9, .iastore, 1, 0, 0, 0, 0), (10, .aload_n 0, 1, 0, 0, 0, 0), (11, .dup, 1, 0, 0, 0, 0), (12, .getfield 128, 3, 9, 21, 725, 0), (15, .iconst 1, 1, 0, 0, 0, 0), (16, .iadd, 1, 0, 0, 0, 0), (17, .putfield 128, 3, 9, 21, 725, 0), (20, .iconst 0, 1, 0, 0, 0, 0), (21, .ireturn, 1, 0, 0, 0, 0)]
-- 112: M.deed (II)I
def kL_112 : List kE := [(0, .iload_n 1, 1, 0, 0, 0, 0), (1, .lookupswitch 71 #[(34, 45), (43, 65), (61, 59), (62, 43)], 43, 0, 0, 0, 0), (44, .iconst 2, 1, 0, 0, 0, 0), (45, .ireturn, 1, 0, 0, 0, 0), (46, .aload_n 0, 1, 0, 0, 0, 0), (47, .getfield 52, 3, 9, 19, 723, 0), (50, .aload_n 0, 1, 0, 0, 0, 0), (51, .getfield 128, 3, 9, 21, 725, 0), (54, .iload_n 2, 1, 0, 0, 0, 0), (55, .iconst 1, 1, 0, 0, 0, 0), (56, .iadd, 1, 0, 0, 0, 0), (57, .iastore, 1, 0, 0, 0, 0), (58, .iconst 3, 1, 0, 0, 0, 0), (59, .ireturn, 1, 0, 0, 0, 0), (60, .aload_n 0, 1, 0, 0, 0, 0), (61, .iconst 2, 1, 0, 0, 0, 0), (62, .invokevirtual 142, 3, 0, 111, 880, 0), (65, .ireturn, 1, 0, 0, 0, 0), (66, .aload_n 0, 1, 0, 0, 0, 0), (67, .iconst 3, 1, 0, 0, 0, 0), (68, .invokevirtual 142, 3, 0, 111, 880, 0), (71, .ireturn, 1, 0, 0, 0, 0), (72, .bipush (-6), 2, 0, 0, 0, 0), (74, .ireturn, 1, 0, 0, 0, 0)]
-- 113: M.lend (I)I
def kL_113 : List kE := [(0, .aload_n 0, 1, 0, 0, 0, 0), (1, .getfield 49, 3, 9, 18, 722, 0), (4, .aload_n 0, 1, 0, 0, 0, 0), (5, .getfield 128, 3, 9, 21, 725, 0), (8, .iload_n 1, 1, 0, 0, 0, 0), (9, .bipush 65, 2, 0, 0, 0, 0), (11, .isub, 1, 0, 0, 0, 0), (12, .iastore, 1, 0, 0, 0, 0), (13, .iload_n 1, 1, 0, 0, 0, 0), (14, .invokestatic 139, 3, 1, 110, 875, 0), (17, .ifCond .eq 11, 3, 0, 0, 0, 0), (20, .aload_n 0, 1, 0, 0, 0, 0), (21, .iconst 0, 1, 0, 0, 0, 0), (22, .invokevirtual 142, 3, 0, 111, 880, 0), (25, .goto 5, 3, 0, 0, 0, 0), (28, .bipush (-6), 2, 0, 0, 0, 0), (30, .ireturn, 1, 0, 0, 0, 0)]
-- 114: M.letter (III)I
def kL_114 : List kE := [(0, .iload_n 2, 1, 0, 0, 0, 0), (1, .invokestatic 145, 3, 1, 115, 896, 0), (4, .ifCond .eq 5, 3, 0, 0, 0, 0), (7, .iconst 4, 1, 0, 0, 0, 0), (8, .ireturn, 1, 0, 0, 0, 0), (9, .aload_n 0, 1, 0, 0, 0, 0), (10, .getfield 55, 3, 9, 20, 724, 0), (13, .aload_n 0, 1, 0, 0, 0, 0), (14, .getfield 128, 3, 9, 21, 725, 0), (17, .iload_n 3, 1, 0, 0, 0, 0), (18, .iastore, 1, 0, 0, 0, 0), (19, .iload_n 1, 1, 0, 0, 0, 0), (20, .iconst 4, 1, 0, 0, 0, 0), (21, .if_icmp .ne 17, 3, 0, 0, 0, 0), (24, .iload_n 2, 1, 0, 0, 0, 0), (25, .bipush 34, 2, 0, 0, 0, 0), (27, .if_icmp .ne 11, 3, 0, 0, 0, 0), (30, .aload_n 0, 1, 0, 0, 0, 0), (31, .iconst 1, 1, 0, 0, 0, 0), (32, .invokevirtual 142, 3, 0, 111, 880, 0), (35, .goto 5, 3, 0, 0, 0, 0), (38, .bipush (-6), 2, 0, 0, 0, 0), (40, .ireturn, 1, 0, 0, 0, 0)]
-- 115: M.isLetter (I)Z
def kL_115 : List kE := [(0, .iload_n 0, 1, 0, 0, 0, 0), (1, .i2l, 1, 0, 0, 0, 0), (2, .ldc2_w 135, 3, 0, 0, 899, 97), (5, .ldc2_w 137, 3, 0, 0, 900, 106), (8, .invokestatic 90, 3, 1, 98, 825, 0), (11, .ireturn, 1, 0, 0, 0, 0)]
-- 116: M.oldest ()I
def kL_116 : List kE := [(0, .aload_n 0, 1, 0, 0, 0, 0), (1, .aload_n 0, 1, 0, 0, 0, 0), (2, .getfield 84, 3, 9, 0, 704, 0), (5, .invokevirtual 165, 3, 0, 117, 905, 0), (8, .ireturn, 1, 0, 0, 0, 0)]
-- 117: M.oldestOf (I)I
def kL_117 : List kE := [(0, .bipush (-6), 2, 0, 0, 0, 0), (2, .istore_n 2, 1, 0, 0, 0, 0), (3, .bipush 7, 2, 0, 0, 0, 0), (5, .istore_n 3, 1, 0, 0, 0, 0), (6, .iload_n 3, 1, 0, 0, 0, 0), (7, .ifCond .lt 42, 3, 0, 0, 0, 0), (10, .iload_n 1, 1, 0, 0, 0, 0), (11, .iload_n 3, 1, 0, 0, 0, 0), (12, .invokestatic 112, 3, 1, 103, 845, 0), (15, .ifCond .eq 26, 3, 0, 0, 0, 0), (18, .iload_n 2, 1, 0, 0, 0, 0), (19, .ifCond .lt 18, 3, 0, 0, 0, 0), (22, .aload_n 0, 1, 0, 0, 0, 0), (23, .getfield 7, 3, 9, 1, 705, 0), (26, .iload_n 3, 1, 0, 0, 0, 0), (27, .iaload, 1, 0, 0, 0, 0), (28, .aload_n 0, 1, 0, 0, 0, 0), (29, .getfield 7, 3, 9, 1, 705, 0), (32, .iload_n 2, 1, 0, 0, 0, 0), (33, .iaload, 1, 0, 0, 0, 0), (34, .if_icmp .lt 7, 3, 0, 0, 0, 0), (37, .iload_n 3, 1, 0, 0, 0, 0), (38, .goto 4, 3, 0, 0, 0, 0), (41, .iload_n 2, 1, 0, 0, 0, 0), (42, .istore_n 2, 1, 0, 0, 0, 0), (43, .iinc 3 (-1), 3, 0, 0, 0, 0), (46, .goto (-40), 3, 0, 0, 0, 0), (49, .iload_n 2, 1, 0, 0, 0, 0), (50, .ireturn, 1, 0, 0, 0, 0)]
-- 118: M.judge (I)I
def kL_118 : List kE := [(0, .iload_n 1, 1, 0, 0, 0, 0), (1, .i2l, 1, 0, 0, 0, 0), (2, .lconst 0, 1, 0, 0, 0, 0), (3, .ldc2_w 223, 3, 0, 0, 913, 2), (6, .invokestatic 90, 3, 1, 98, 825, 0), (9, .ifCond .ne 6, 3, 0, 0, 0, 0), (12, .bipush (-2), 2, 0, 0, 0, 0), (14, .ireturn, 1, 0, 0, 0, 0), (15, .aload_n 0, 1, 0, 0, 0, 0), (16, .aload_n 0, 1, 0, 0, 0, 0), (17, .invokevirtual 225, 3, 0, 119, 914, 0), (20, .invokevirtual 228, 3, 0, 129, 956, 0), (23, .istore_n 2, 1, 0, 0, 0, 0), (24, .iload_n 2, 1, 0, 0, 0, 0), (25, .bipush (-5), 2, 0, 0, 0, 0), (27, .if_icmp .eq 14, 3, 0, 0, 0, 0), (30, .iload_n 1, 1, 0, 0, 0, 0), (31, .iconst 1, 1, 0, 0, 0, 0), (32, .if_icmp .le 11, 3, 0, 0, 0, 0), (35, .iload_n 2, 1, 0, 0, 0, 0), (36, .bipush (-3), 2, 0, 0, 0, 0), (38, .if_icmp .ne 5, 3, 0, 0, 0, 0), (41, .iload_n 2, 1, 0, 0, 0, 0), (42, .ireturn, 1, 0, 0, 0, 0), (43, .iload_n 1, 1, 0, 0, 0, 0), (44, .ifCond .ne 10, 3, 0, 0, 0, 0), (47, .aload_n 0, 1, 0, 0, 0, 0), (48, .getfield 199, 3, 9, 23, 727, 0), (51, .goto 19, 3, 0, 0, 0, 0), (54, .iload_n 1, 1, 0, 0, 0, 0), (55, .iconst 1, 1, 0, 0, 0, 0), (56, .if_icmp .ne 10, 3, 0, 0, 0, 0), (59, .aload_n 0, 1, 0, 0, 0, 0), (60, .getfield 202, 3, 9, 24, 728, 0), (63, .goto 7, 3, 0, 0, 0, 0), (66, .aload_n 0, 1, 0, 0, 0, 0), (67, .getfield 211, 3, 9, 25, 729, 0), (70, .ireturn, 1, 0, 0, 0, 0)]
-- 119: M.refusal ()I
def kL_119 : List kE := [(0, .aload_n 0, 1, 0, 0, 0, 0), (1, .invokevirtual 214, 3, 0, 120, 918, 0), (4, .aload_n 0, 1, 0, 0, 0, 0), (5, .invokevirtual 217, 3, 0, 107, 922, 0), (8, .ifCond .lt 6, 3, 0, 0, 0, 0), (11, .bipush (-5), 2, 0, 0, 0, 0), (13, .ireturn, 1, 0, 0, 0, 0), (14, .aload_n 0, 1, 0, 0, 0, 0), (15, .invokevirtual 220, 3, 0, 121, 923, 0), (18, .aload_n 0, 1, 0, 0, 0, 0), (19, .getfield 199, 3, 9, 23, 727, 0), (22, .ifCond .lt 8, 3, 0, 0, 0, 0), (25, .bipush (-3), 2, 0, 0, 0, 0), (27, .goto 5, 3, 0, 0, 0, 0), (30, .bipush (-6), 2, 0, 0, 0, 0), (32, .ireturn, 1, 0, 0, 0, 0)]
-- 120: M.keepNow ()V
def kL_120 : List kE := [(0, .iconst 0, 1, 0, 0, 0, 0), (1, .istore_n 1, 1, 0, 0, 0, 0), (2, .iload_n 1, 1, 0, 0, 0, 0), (3, .bipush 8, 2, 0, 0, 0, 0), (5, .if_icmp .ge 21, 3, 0, 0, 0, 0), (8, .aload_n 0, 1, 0, 0, 0, 0), (9, .getfield 58, 3, 9, 22, 726, 0), (12, .iload_n 1, 1, 0, 0, 0, 0), (13, .aload_n 0, 1, 0, 0, 0, 0), (14, .getfield 13, 3, 9, 2, 706, 0), (17, .iload_n 1, 1, 0, 0, 0, 0), (18, .iaload, 1, 0, 0, 0, 0), (19, .iastore, 1, 0, 0, 0, 0), (20, .iinc 1 1, 3, 0, 0, 0, 0), (23, .goto (-21), 3, 0, 0, 0, 0), (26, .aload_n 0, 1, 0, 0, 0, 0), (27, .getfield 58, 3, 9, 22, 726, 0), (30, .bipush 8, 2, 0, 0, 0, 0), (32, .aload_n 0, 1, 0, 0, 0, 0), (33, .getfield 84, 3, 9, 0, 704, 0), (36, .iastore, 1, 0, 0, 0, 0), (37, .aload_n 0, 1, 0, 0, 0, 0), (38, .getfield 58, 3, 9, 22, 726, 0), (41, .bipush 9, 2, 0, 0, 0, 0), (43, .aload_n 0, 1, 0, 0, 0, 0), (44, .getfield 116, 3, 9, 5, 709, 0), (47, .iastore, 1, 0, 0, 0, 0), (48, .aload_n 0, 1, 0, 0, 0, 0), (49, .getfield 58, 3, 9, 22, 726, 0), (52, .bipush 10, 2, 0, 0, 0, 0), (54, .aload_n 0, 1, 0, 0, 0, 0), (55, .getfield 175, 3, 9, 6, 710, 0), (58, .iastore, 1, 0, 0, 0, 0), (59, .return_, 1, 0, 0, 0, 0)]
-- 121: M.goDays ()V
def kL_121_0 : List kE := [(0, .aload_n 0, 1, 0, 0, 0, 0), (1, .bipush (-6), 2, 0, 0, 0, 0), (3, .putfield 199, 3, 9, 23, 727, 0), (6, .aload_n 0, 1, 0, 0, 0, 0), (7, .bipush (-6), 2, 0, 0, 0, 0), (9, .putfield 202, 3, 9, 24, 728, 0), (12, .aload_n 0, 1, 0, 0, 0, 0), (13, .bipush (-6), 2, 0, 0, 0, 0), (15, .putfield 193, 3, 9, 26, 730, 0), (18, .aload_n 0, 1, 0, 0, 0, 0), (19, .bipush (-6), 2, 0, 0, 0, 0), (21, .putfield 196, 3, 9, 27, 731, 0), (24, .iconst 0, 1, 0, 0, 0, 0), (25, .istore_n 1, 1, 0, 0, 0, 0), (26, .iload_n 1, 1, 0, 0, 0, 0), (27, .aload_n 0, 1, 0, 0, 0, 0), (28, .getfield 128, 3, 9, 21, 725, 0), (31, .if_icmp .ge 76, 3, 0, 0, 0, 0), (34, .aload_n 0, 1, 0, 0, 0, 0), (35, .getfield 199, 3, 9, 23, 727, 0), (38, .ifCond .ge 69, 3, 0, 0, 0, 0), (41, .aload_n 0, 1, 0, 0, 0, 0), (42, .aload_n 0, 1, 0, 0, 0, 0), (43, .getfield 43, 3, 9, 16, 720, 0), (46, .iload_n 1, 1, 0, 0, 0, 0), (47, .iaload, 1, 0, 0, 0, 0), (48, .aload_n 0, 1, 0, 0, 0, 0), (49, .getfield 46, 3, 9, 17, 721, 0), (52, .iload_n 1, 1, 0, 0, 0, 0), (53, .iaload, 1, 0, 0, 0, 0), (54, .aload_n 0, 1, 0, 0, 0, 0), (55, .getfield 49, 3, 9, 18, 722, 0), (58, .iload_n 1, 1, 0, 0, 0, 0), (59, .iaload, 1, 0, 0, 0, 0), (60, .invokevirtual 205, 3, 0, 122, 927, 0), (63, .istore_n 2, 1, 0, 0, 0, 0), (64, .aload_n 0, 1, 0, 0, 0, 0), (65, .iload_n 2, 1, 0, 0, 0, 0), (66, .ifCond .le 7, 3, 0, 0, 0, 0), (69, .iload_n 1, 1, 0, 0, 0, 0), (70, .goto 5, 3, 0, 0, 0, 0), (73, .bipush (-6), 2, 0, 0, 0, 0), (75, .putfield 199, 3, 9, 23, 727, 0), (78, .aload_n 0, 1, 0, 0, 0, 0), (79, .iload_n 2, 1, 0, 0, 0, 0), (80, .ifCond .le 7, 3, 0, 0, 0, 0), (83, .iload_n 2, 1, 0, 0, 0, 0), (84, .goto 5, 3, 0, 0, 0, 0), (87, .bipush (-6), 2, 0, 0, 0, 0), (89, .putfield 202, 3, 9, 24, 728, 0), (92, .iload_n 2, 1, 0, 0, 0, 0), (93, .ifCond .ne 8, 3, 0, 0, 0, 0), (96, .aload_n 0, 1, 0, 0, 0, 0), (97, .iload_n 1, 1, 0, 0, 0, 0), (98, .invokevirtual 208, 3, 0, 124, 936, 0), (101, .iinc 1 1, 3, 0, 0, 0, 0), (104, .goto (-78), 3, 0, 0, 0, 0), (107, .aload_n 0, 1, 0, 0, 0, 0), (108, .aload_n 0, 1, 0, 0, 0, 0), (109, .getfield 175, 3, 9, 6, 710, 0)]
def kL_121_1 : List kE := [(112, .aload_n 0, 1, 0, 0, 0, 0), (113, .getfield 58, 3, 9, 22, 726, 0), (116, .bipush 10, 2, 0, 0, 0, 0), (118, .iaload, 1, 0, 0, 0, 0), (119, .isub, 1, 0, 0, 0, 0), (120, .putfield 211, 3, 9, 25, 729, 0), (123, .return_, 1, 0, 0, 0, 0)]
def kL_121 : List kE := kL_121_0 ++ kL_121_1
-- 122: M.whyNot (III)I
def kL_122 : List kE := [(0, .iload_n 1, 1, 0, 0, 0, 0), (1, .iconst 4, 1, 0, 0, 0, 0), (2, .if_icmp .ne 27, 3, 0, 0, 0, 0), (5, .aload_n 0, 1, 0, 0, 0, 0), (6, .getfield 84, 3, 9, 0, 704, 0), (9, .ifCond .eq 14, 3, 0, 0, 0, 0), (12, .aload_n 0, 1, 0, 0, 0, 0), (13, .getfield 116, 3, 9, 5, 709, 0), (16, .aload_n 0, 1, 0, 0, 0, 0), (17, .invokevirtual 168, 3, 0, 116, 931, 0), (20, .if_icmp .ne 7, 3, 0, 0, 0, 0), (23, .iconst 5, 1, 0, 0, 0, 0), (24, .goto 4, 3, 0, 0, 0, 0), (27, .iconst 0, 1, 0, 0, 0, 0), (28, .ireturn, 1, 0, 0, 0, 0), (29, .aload_n 0, 1, 0, 0, 0, 0), (30, .getfield 84, 3, 9, 0, 704, 0), (33, .iload_n 2, 1, 0, 0, 0, 0), (34, .invokestatic 112, 3, 1, 103, 845, 0), (37, .ifCond .ne 5, 3, 0, 0, 0, 0), (40, .iconst 1, 1, 0, 0, 0, 0), (41, .ireturn, 1, 0, 0, 0, 0), (42, .iload_n 1, 1, 0, 0, 0, 0), (43, .lookupswitch 49 #[(0, 25), (2, 32)], 25, 0, 0, 0, 0), (68, .aload_n 0, 1, 0, 0, 0, 0), (69, .iload_n 2, 1, 0, 0, 0, 0), (70, .iload_n 3, 1, 0, 0, 0, 0), (71, .invokevirtual 172, 3, 0, 123, 932, 0), (74, .ireturn, 1, 0, 0, 0, 0), (75, .aload_n 0, 1, 0, 0, 0, 0), (76, .getfield 13, 3, 9, 2, 706, 0), (79, .iload_n 2, 1, 0, 0, 0, 0), (80, .iaload, 1, 0, 0, 0, 0), (81, .bipush 99, 2, 0, 0, 0, 0), (83, .if_icmp .ne 7, 3, 0, 0, 0, 0), (86, .iconst 4, 1, 0, 0, 0, 0), (87, .goto 4, 3, 0, 0, 0, 0), (90, .iconst 0, 1, 0, 0, 0, 0), (91, .ireturn, 1, 0, 0, 0, 0), (92, .iconst 0, 1, 0, 0, 0, 0), (93, .ireturn, 1, 0, 0, 0, 0)]
-- 123: M.whyNoLoan (II)I
def kL_123 : List kE := [(0, .aload_n 0, 1, 0, 0, 0, 0), (1, .getfield 84, 3, 9, 0, 704, 0), (4, .iload_n 2, 1, 0, 0, 0, 0), (5, .invokestatic 112, 3, 1, 103, 845, 0), (8, .ifCond .ne 7, 3, 0, 0, 0, 0), (11, .iconst 1, 1, 0, 0, 0, 0), (12, .goto 33, 3, 0, 0, 0, 0), (15, .aload_n 0, 1, 0, 0, 0, 0), (16, .getfield 116, 3, 9, 5, 709, 0), (19, .iload_n 1, 1, 0, 0, 0, 0), (20, .if_icmp .eq 7, 3, 0, 0, 0, 0), (23, .iconst 2, 1, 0, 0, 0, 0), (24, .goto 21, 3, 0, 0, 0, 0), (27, .aload_n 0, 1, 0, 0, 0, 0), (28, .getfield 19, 3, 9, 4, 708, 0), (31, .iload_n 1, 1, 0, 0, 0, 0), (32, .iaload, 1, 0, 0, 0, 0), (33, .iload_n 2, 1, 0, 0, 0, 0), (34, .invokestatic 112, 3, 1, 103, 845, 0), (37, .ifCond .eq 7, 3, 0, 0, 0, 0), (40, .iconst 0, 1, 0, 0, 0, 0), (41, .goto 4, 3, 0, 0, 0, 0), (44, .iconst 3, 1, 0, 0, 0, 0), (45, .ireturn, 1, 0, 0, 0, 0)]
-- 124: M.goOne (I)V
def kL_124_0 : List kE := [(0, .aload_n 0, 1, 0, 0, 0, 0), (1, .getfield 175, 3, 9, 6, 710, 0), (4, .istore_n 2, 1, 0, 0, 0, 0), (5, .aload_n 0, 1, 0, 0, 0, 0), (6, .getfield 43, 3, 9, 16, 720, 0), (9, .iload_n 1, 1, 0, 0, 0, 0), (10, .iaload, 1, 0, 0, 0, 0), (11, .iconst 1, 1, 0, 0, 0, 0), (12, .if_icmp .ne 48, 3, 0, 0, 0, 0), (15, .aload_n 0, 1, 0, 0, 0, 0), (16, .getfield 52, 3, 9, 19, 723, 0), (19, .iload_n 1, 1, 0, 0, 0, 0), (20, .iaload, 1, 0, 0, 0, 0), (21, .istore_n 3, 1, 0, 0, 0, 0), (22, .iload_n 3, 1, 0, 0, 0, 0), (23, .aload_n 0, 1, 0, 0, 0, 0), (24, .getfield 55, 3, 9, 20, 724, 0), (27, .iload_n 1, 1, 0, 0, 0, 0), (28, .iaload, 1, 0, 0, 0, 0), (29, .if_icmp .ge 28, 3, 0, 0, 0, 0), (32, .aload_n 0, 1, 0, 0, 0, 0), (33, .aload_n 0, 1, 0, 0, 0, 0), (34, .getfield 46, 3, 9, 17, 721, 0), (37, .iload_n 1, 1, 0, 0, 0, 0), (38, .iaload, 1, 0, 0, 0, 0), (39, .aload_n 0, 1, 0, 0, 0, 0), (40, .getfield 40, 3, 9, 14, 718, 0), (43, .iload_n 3, 1, 0, 0, 0, 0), (44, .iaload, 1, 0, 0, 0, 0), (45, .bipush 97, 2, 0, 0, 0, 0), (47, .isub, 1, 0, 0, 0, 0), (48, .invokevirtual 185, 3, 0, 125, 940, 0), (51, .iinc 3 1, 3, 0, 0, 0, 0), (54, .goto (-32), 3, 0, 0, 0, 0), (57, .goto 25, 3, 0, 0, 0, 0), (60, .aload_n 0, 1, 0, 0, 0, 0), (61, .aload_n 0, 1, 0, 0, 0, 0), (62, .getfield 43, 3, 9, 16, 720, 0), (65, .iload_n 1, 1, 0, 0, 0, 0), (66, .iaload, 1, 0, 0, 0, 0), (67, .aload_n 0, 1, 0, 0, 0, 0), (68, .getfield 46, 3, 9, 17, 721, 0), (71, .iload_n 1, 1, 0, 0, 0, 0), (72, .iaload, 1, 0, 0, 0, 0), (73, .aload_n 0, 1, 0, 0, 0, 0), (74, .getfield 49, 3, 9, 18, 722, 0), (77, .iload_n 1, 1, 0, 0, 0, 0), (78, .iaload, 1, 0, 0, 0, 0), (79, .invokevirtual 189, 3, 0, 126, 944, 0), (82, .aload_n 0, 1, 0, 0, 0, 0), (83, .getfield 175, 3, 9, 6, 710, 0), (86, .iload_n 2, 1, 0, 0, 0, 0), (87, .if_icmp .le 25, 3, 0, 0, 0, 0), (90, .aload_n 0, 1, 0, 0, 0, 0), (91, .getfield 193, 3, 9, 26, 730, 0), (94, .ifCond .ge 18, 3, 0, 0, 0, 0), (97, .aload_n 0, 1, 0, 0, 0, 0), (98, .iload_n 1, 1, 0, 0, 0, 0), (99, .putfield 193, 3, 9, 26, 730, 0), (102, .aload_n 0, 1, 0, 0, 0, 0)]
def kL_124_1 : List kE := [(103, .aload_n 0, 1, 0, 0, 0, 0), (104, .getfield 46, 3, 9, 17, 721, 0), (107, .iload_n 1, 1, 0, 0, 0, 0), (108, .iaload, 1, 0, 0, 0, 0), (109, .putfield 196, 3, 9, 27, 731, 0), (112, .return_, 1, 0, 0, 0, 0)]
def kL_124 : List kE := kL_124_0 ++ kL_124_1
-- 125: M.sayOne (II)V
def kL_125 : List kE := [(0, .aload_n 0, 1, 0, 0, 0, 0), (1, .getfield 116, 3, 9, 5, 709, 0), (4, .iload_n 1, 1, 0, 0, 0, 0), (5, .if_icmp .ne 61, 3, 0, 0, 0, 0), (8, .aload_n 0, 1, 0, 0, 0, 0), (9, .getfield 16, 3, 9, 3, 707, 0), (12, .iload_n 1, 1, 0, 0, 0, 0), (13, .iaload, 1, 0, 0, 0, 0), (14, .iload_n 2, 1, 0, 0, 0, 0), (15, .invokestatic 112, 3, 1, 103, 845, 0), (18, .ifCond .eq 48, 3, 0, 0, 0, 0), (21, .aload_n 0, 1, 0, 0, 0, 0), (22, .dup, 1, 0, 0, 0, 0), (23, .getfield 175, 3, 9, 6, 710, 0), (26, .aload_n 0, 1, 0, 0, 0, 0), (27, .getfield 13, 3, 9, 2, 706, 0), (30, .iload_n 1, 1, 0, 0, 0, 0), (31, .iaload, 1, 0, 0, 0, 0), (32, .iadd, 1, 0, 0, 0, 0), (33, .putfield 175, 3, 9, 6, 710, 0), (36, .aload_n 0, 1, 0, 0, 0, 0), (37, .getfield 13, 3, 9, 2, 706, 0), (40, .iload_n 1, 1, 0, 0, 0, 0), (41, .aload_n 0, 1, 0, 0, 0, 0), (42, .getfield 13, 3, 9, 2, 706, 0), (45, .iload_n 1, 1, 0, 0, 0, 0), (46, .iaload, 1, 0, 0, 0, 0), (47, .bipush 10, 2, 0, 0, 0, 0), (49, .if_icmp .le 15, 3, 0, 0, 0, 0), (52, .aload_n 0, 1, 0, 0, 0, 0), (53, .getfield 13, 3, 9, 2, 706, 0), (56, .iload_n 1, 1, 0, 0, 0, 0), (57, .iaload, 1, 0, 0, 0, 0), (58, .bipush 10, 2, 0, 0, 0, 0), (60, .isub, 1, 0, 0, 0, 0), (61, .goto 4, 3, 0, 0, 0, 0), (64, .iconst 0, 1, 0, 0, 0, 0), (65, .iastore, 1, 0, 0, 0, 0), (66, .return_, 1, 0, 0, 0, 0)]
-- 126: M.happen (III)V
def kL_126 : List kE := [(0, .iload_n 1, 1, 0, 0, 0, 0), (1, .tableswitch 55 0 3 #[31, 55, 39, 47], 31, 0, 0, 0, 0), (32, .aload_n 0, 1, 0, 0, 0, 0), (33, .iload_n 3, 1, 0, 0, 0, 0), (34, .putfield 116, 3, 9, 5, 709, 0), (37, .goto 27, 3, 0, 0, 0, 0), (40, .aload_n 0, 1, 0, 0, 0, 0), (41, .iload_n 2, 1, 0, 0, 0, 0), (42, .invokevirtual 178, 3, 0, 127, 948, 0), (45, .goto 19, 3, 0, 0, 0, 0), (48, .aload_n 0, 1, 0, 0, 0, 0), (49, .iload_n 2, 1, 0, 0, 0, 0), (50, .invokevirtual 182, 3, 0, 128, 952, 0), (53, .goto 11, 3, 0, 0, 0, 0), (56, .aload_n 0, 1, 0, 0, 0, 0), (57, .aload_n 0, 1, 0, 0, 0, 0), (58, .invokevirtual 168, 3, 0, 116, 931, 0), (61, .putfield 116, 3, 9, 5, 709, 0), (64, .return_, 1, 0, 0, 0, 0)]
-- 127: M.rest (I)V
def kL_127 : List kE := [(0, .aload_n 0, 1, 0, 0, 0, 0), (1, .getfield 13, 3, 9, 2, 706, 0), (4, .iload_n 1, 1, 0, 0, 0, 0), (5, .aload_n 0, 1, 0, 0, 0, 0), (6, .getfield 13, 3, 9, 2, 706, 0), (9, .iload_n 1, 1, 0, 0, 0, 0), (10, .iaload, 1, 0, 0, 0, 0), (11, .bipush 20, 2, 0, 0, 0, 0), (13, .iadd, 1, 0, 0, 0, 0), (14, .bipush 99, 2, 0, 0, 0, 0), (16, .if_icmp .le 8, 3, 0, 0, 0, 0), (19, .bipush 99, 2, 0, 0, 0, 0), (21, .goto 12, 3, 0, 0, 0, 0), (24, .aload_n 0, 1, 0, 0, 0, 0), (25, .getfield 13, 3, 9, 2, 706, 0), (28, .iload_n 1, 1, 0, 0, 0, 0), (29, .iaload, 1, 0, 0, 0, 0), (30, .bipush 20, 2, 0, 0, 0, 0), (32, .iadd, 1, 0, 0, 0, 0), (33, .iastore, 1, 0, 0, 0, 0), (34, .return_, 1, 0, 0, 0, 0)]
-- 128: M.die (I)V
def kL_128 : List kE := [(0, .aload_n 0, 1, 0, 0, 0, 0), (1, .dup, 1, 0, 0, 0, 0), (2, .getfield 84, 3, 9, 0, 704, 0), (5, .iconst 1, 1, 0, 0, 0, 0), (6, .iload_n 1, 1, 0, 0, 0, 0), (7, .ishl, 1, 0, 0, 0, 0), (8, .iconst (-1), 1, 0, 0, 0, 0), (9, .ixor, 1, 0, 0, 0, 0), (10, .iand, 1, 0, 0, 0, 0), (11, .putfield 84, 3, 9, 0, 704, 0), (14, .aload_n 0, 1, 0, 0, 0, 0), (15, .getfield 116, 3, 9, 5, 709, 0), (18, .iload_n 1, 1, 0, 0, 0, 0), (19, .if_icmp .ne 35, 3, 0, 0, 0, 0), (22, .aload_n 0, 1, 0, 0, 0, 0), (23, .getfield 84, 3, 9, 0, 704, 0), (26, .aload_n 0, 1, 0, 0, 0, 0), (27, .getfield 19, 3, 9, 4, 708, 0), (30, .iload_n 1, 1, 0, 0, 0, 0), (31, .iaload, 1, 0, 0, 0, 0), (32, .iand, 1, 0, 0, 0, 0), (33, .istore_n 2, 1, 0, 0, 0, 0), (34, .aload_n 0, 1, 0, 0, 0, 0), (35, .aload_n 0, 1, 0, 0, 0, 0), (36, .iload_n 2, 1, 0, 0, 0, 0), (37, .ifCond .ne 10, 3, 0, 0, 0, 0), (40, .aload_n 0, 1, 0, 0, 0, 0), (41, .getfield 84, 3, 9, 0, 704, 0), (44, .goto 4, 3, 0, 0, 0, 0), (47, .iload_n 2, 1, 0, 0, 0, 0), (48, .invokevirtual 165, 3, 0, 117, 905, 0), (51, .putfield 116, 3, 9, 5, 709, 0), (54, .return_, 1, 0, 0, 0, 0)]
-- 129: M.back (I)I
def kL_129 : List kE := [(0, .iconst 0, 1, 0, 0, 0, 0), (1, .istore_n 2, 1, 0, 0, 0, 0), (2, .iload_n 2, 1, 0, 0, 0, 0), (3, .bipush 8, 2, 0, 0, 0, 0), (5, .if_icmp .ge 21, 3, 0, 0, 0, 0), (8, .aload_n 0, 1, 0, 0, 0, 0), (9, .getfield 13, 3, 9, 2, 706, 0), (12, .iload_n 2, 1, 0, 0, 0, 0), (13, .aload_n 0, 1, 0, 0, 0, 0), (14, .getfield 58, 3, 9, 22, 726, 0), (17, .iload_n 2, 1, 0, 0, 0, 0), (18, .iaload, 1, 0, 0, 0, 0), (19, .iastore, 1, 0, 0, 0, 0), (20, .iinc 2 1, 3, 0, 0, 0, 0), (23, .goto (-21), 3, 0, 0, 0, 0), (26, .aload_n 0, 1, 0, 0, 0, 0), (27, .aload_n 0, 1, 0, 0, 0, 0), (28, .getfield 58, 3, 9, 22, 726, 0), (31, .bipush 8, 2, 0, 0, 0, 0), (33, .iaload, 1, 0, 0, 0, 0), (34, .putfield 84, 3, 9, 0, 704, 0), (37, .aload_n 0, 1, 0, 0, 0, 0), (38, .aload_n 0, 1, 0, 0, 0, 0), (39, .getfield 58, 3, 9, 22, 726, 0), (42, .bipush 9, 2, 0, 0, 0, 0), (44, .iaload, 1, 0, 0, 0, 0), (45, .putfield 116, 3, 9, 5, 709, 0), (48, .aload_n 0, 1, 0, 0, 0, 0), (49, .aload_n 0, 1, 0, 0, 0, 0), (50, .getfield 58, 3, 9, 22, 726, 0), (53, .bipush 10, 2, 0, 0, 0, 0), (55, .iaload, 1, 0, 0, 0, 0), (56, .putfield 175, 3, 9, 6, 710, 0), (59, .iload_n 1, 1, 0, 0, 0, 0), (60, .ireturn, 1, 0, 0, 0, 0)]
-- 130: M.behind (II)I
def kL_130 : List kE := [(0, .iload_n 1, 1, 0, 0, 0, 0), (1, .invokestatic 94, 3, 1, 97, 821, 0), (4, .ifCond .ne 5, 3, 0, 0, 0, 0), (7, .iconst (-1), 1, 0, 0, 0, 0), (8, .ireturn, 1, 0, 0, 0, 0), (9, .iload_n 2, 1, 0, 0, 0, 0), (10, .i2l, 1, 0, 0, 0, 0), (11, .lconst 0, 1, 0, 0, 0, 0), (12, .ldc2_w 223, 3, 0, 0, 913, 2), (15, .invokestatic 90, 3, 1, 98, 825, 0), (18, .ifCond .ne 6, 3, 0, 0, 0, 0), (21, .bipush (-2), 2, 0, 0, 0, 0), (23, .ireturn, 1, 0, 0, 0, 0), (24, .aload_n 0, 1, 0, 0, 0, 0), (25, .invokevirtual 225, 3, 0, 119, 914, 0), (28, .istore_n 3, 1, 0, 0, 0, 0), (29, .aload_n 0, 1, 0, 0, 0, 0), (30, .iload_n 3, 1, 0, 0, 0, 0), (31, .bipush (-6), 2, 0, 0, 0, 0), (33, .if_icmp .eq 7, 3, 0, 0, 0, 0), (36, .iload_n 3, 1, 0, 0, 0, 0), (37, .goto 45, 3, 0, 0, 0, 0), (40, .iload_n 2, 1, 0, 0, 0, 0), (41, .ifCond .ne 14, 3, 0, 0, 0, 0), (44, .aload_n 0, 1, 0, 0, 0, 0), (45, .getfield 84, 3, 9, 0, 704, 0), (48, .iload_n 1, 1, 0, 0, 0, 0), (49, .ishr, 1, 0, 0, 0, 0), (50, .iconst 1, 1, 0, 0, 0, 0), (51, .iand, 1, 0, 0, 0, 0), (52, .goto 30, 3, 0, 0, 0, 0), (55, .iload_n 2, 1, 0, 0, 0, 0), (56, .iconst 1, 1, 0, 0, 0, 0), (57, .if_icmp .ne 12, 3, 0, 0, 0, 0), (60, .aload_n 0, 1, 0, 0, 0, 0), (61, .getfield 13, 3, 9, 2, 706, 0), (64, .iload_n 1, 1, 0, 0, 0, 0), (65, .iaload, 1, 0, 0, 0, 0), (66, .goto 16, 3, 0, 0, 0, 0), (69, .aload_n 0, 1, 0, 0, 0, 0), (70, .getfield 116, 3, 9, 5, 709, 0), (73, .iload_n 1, 1, 0, 0, 0, 0), (74, .if_icmp .ne 7, 3, 0, 0, 0, 0), (77, .iconst 1, 1, 0, 0, 0, 0), (78, .goto 4, 3, 0, 0, 0, 0), (81, .iconst 0, 1, 0, 0, 0, 0), (82, .invokevirtual 228, 3, 0, 129, 956, 0), (85, .ireturn, 1, 0, 0, 0, 0)]
-- 131: M.trust (I)I
def kL_131 : List kE := [(0, .iload_n 1, 1, 0, 0, 0, 0), (1, .i2l, 1, 0, 0, 0, 0), (2, .lconst 0, 1, 0, 0, 0, 0), (3, .ldc2_w 223, 3, 0, 0, 913, 2), (6, .invokestatic 90, 3, 1, 98, 825, 0), (9, .ifCond .ne 6, 3, 0, 0, 0, 0), (12, .bipush (-2), 2, 0, 0, 0, 0), (14, .ireturn, 1, 0, 0, 0, 0), (15, .aload_n 0, 1, 0, 0, 0, 0), (16, .invokevirtual 225, 3, 0, 119, 914, 0), (19, .istore_n 2, 1, 0, 0, 0, 0), (20, .aload_n 0, 1, 0, 0, 0, 0), (21, .iload_n 2, 1, 0, 0, 0, 0), (22, .bipush (-6), 2, 0, 0, 0, 0), (24, .if_icmp .eq 7, 3, 0, 0, 0, 0), (27, .iload_n 2, 1, 0, 0, 0, 0), (28, .goto 30, 3, 0, 0, 0, 0), (31, .iload_n 1, 1, 0, 0, 0, 0), (32, .ifCond .ne 10, 3, 0, 0, 0, 0), (35, .aload_n 0, 1, 0, 0, 0, 0), (36, .getfield 116, 3, 9, 5, 709, 0), (39, .goto 19, 3, 0, 0, 0, 0), (42, .iload_n 1, 1, 0, 0, 0, 0), (43, .iconst 1, 1, 0, 0, 0, 0), (44, .if_icmp .ne 10, 3, 0, 0, 0, 0), (47, .aload_n 0, 1, 0, 0, 0, 0), (48, .getfield 175, 3, 9, 6, 710, 0), (51, .goto 7, 3, 0, 0, 0, 0), (54, .aload_n 0, 1, 0, 0, 0, 0), (55, .getfield 84, 3, 9, 0, 704, 0), (58, .invokevirtual 228, 3, 0, 129, 956, 0), (61, .ireturn, 1, 0, 0, 0, 0)]
-- 132: M.first (I)I
def kL_132 : List kE := [(0, .iload_n 1, 1, 0, 0, 0, 0), (1, .i2l, 1, 0, 0, 0, 0), (2, .lconst 0, 1, 0, 0, 0, 0), (3, .lconst 1, 1, 0, 0, 0, 0), (4, .invokestatic 90, 3, 1, 98, 825, 0), (7, .ifCond .ne 6, 3, 0, 0, 0, 0), (10, .bipush (-2), 2, 0, 0, 0, 0), (12, .ireturn, 1, 0, 0, 0, 0), (13, .aload_n 0, 1, 0, 0, 0, 0), (14, .aload_n 0, 1, 0, 0, 0, 0), (15, .invokevirtual 225, 3, 0, 119, 914, 0), (18, .invokevirtual 228, 3, 0, 129, 956, 0), (21, .istore_n 2, 1, 0, 0, 0, 0), (22, .iload_n 2, 1, 0, 0, 0, 0), (23, .bipush (-6), 2, 0, 0, 0, 0), (25, .if_icmp .eq 7, 3, 0, 0, 0, 0), (28, .iload_n 2, 1, 0, 0, 0, 0), (29, .goto 18, 3, 0, 0, 0, 0), (32, .iload_n 1, 1, 0, 0, 0, 0), (33, .ifCond .ne 10, 3, 0, 0, 0, 0), (36, .aload_n 0, 1, 0, 0, 0, 0), (37, .getfield 193, 3, 9, 26, 730, 0), (40, .goto 7, 3, 0, 0, 0, 0), (43, .aload_n 0, 1, 0, 0, 0, 0), (44, .getfield 196, 3, 9, 27, 731, 0), (47, .ireturn, 1, 0, 0, 0, 0)]
-- 133: M.done ()I
def kL_133 : List kE := [(0, .aload_n 0, 1, 0, 0, 0, 0), (1, .invokevirtual 225, 3, 0, 119, 914, 0), (4, .istore_n 1, 1, 0, 0, 0, 0), (5, .iload_n 1, 1, 0, 0, 0, 0), (6, .bipush (-6), 2, 0, 0, 0, 0), (8, .if_icmp .eq 9, 3, 0, 0, 0, 0), (11, .aload_n 0, 1, 0, 0, 0, 0), (12, .iload_n 1, 1, 0, 0, 0, 0), (13, .invokevirtual 228, 3, 0, 129, 956, 0), (16, .ireturn, 1, 0, 0, 0, 0), (17, .aload_n 0, 1, 0, 0, 0, 0), (18, .iconst 0, 1, 0, 0, 0, 0), (19, .putfield 125, 3, 9, 15, 719, 0), (22, .aload_n 0, 1, 0, 0, 0, 0), (23, .getfield 128, 3, 9, 21, 725, 0), (26, .ireturn, 1, 0, 0, 0, 0)]
-- 134: M.holds (II)I
def kL_134 : List kE := [(0, .iload_n 1, 1, 0, 0, 0, 0), (1, .invokestatic 94, 3, 1, 97, 821, 0), (4, .ifCond .ne 5, 3, 0, 0, 0, 0), (7, .iconst (-1), 1, 0, 0, 0, 0), (8, .ireturn, 1, 0, 0, 0, 0), (9, .iload_n 2, 1, 0, 0, 0, 0), (10, .i2l, 1, 0, 0, 0, 0), (11, .lconst 1, 1, 0, 0, 0, 0), (12, .ldc2_w 231, 3, 0, 0, 980, 20), (15, .invokestatic 90, 3, 1, 98, 825, 0), (18, .ifCond .ne 6, 3, 0, 0, 0, 0), (21, .bipush (-2), 2, 0, 0, 0, 0), (23, .ireturn, 1, 0, 0, 0, 0), (24, .iconst 0, 1, 0, 0, 0, 0), (25, .istore_n 3, 1, 0, 0, 0, 0), (26, .aload_n 0, 1, 0, 0, 0, 0), (27, .getfield 13, 3, 9, 2, 706, 0), (30, .iload_n 1, 1, 0, 0, 0, 0), (31, .iaload, 1, 0, 0, 0, 0), (32, .istore 4, 2, 0, 0, 0, 0), (34, .iconst 0, 1, 0, 0, 0, 0), (35, .istore 5, 2, 0, 0, 0, 0), (37, .iload 5, 2, 0, 0, 0, 0), (39, .iload_n 2, 1, 0, 0, 0, 0), (40, .if_icmp .ge 32, 3, 0, 0, 0, 0), (43, .iload_n 3, 1, 0, 0, 0, 0), (44, .iload 4, 2, 0, 0, 0, 0), (46, .iadd, 1, 0, 0, 0, 0), (47, .istore_n 3, 1, 0, 0, 0, 0), (48, .iload 4, 2, 0, 0, 0, 0), (50, .bipush 10, 2, 0, 0, 0, 0), (52, .if_icmp .le 11, 3, 0, 0, 0, 0), (55, .iload 4, 2, 0, 0, 0, 0), (57, .bipush 10, 2, 0, 0, 0, 0), (59, .isub, 1, 0, 0, 0, 0), (60, .goto 4, 3, 0, 0, 0, 0), (63, .iconst 0, 1, 0, 0, 0, 0), (64, .istore 4, 2, 0, 0, 0, 0), (66, .iinc 5 1, 3, 0, 0, 0, 0), (69, .goto (-32), 3, 0, 0, 0, 0), (72, .iload_n 3, 1, 0, 0, 0, 0), (73, .ireturn, 1, 0, 0, 0, 0)]
-- 135: M.lent (III)I
def kL_135_0 : List kE := [(0, .iload_n 1, 1, 0, 0, 0, 0), (1, .invokestatic 94, 3, 1, 97, 821, 0), (4, .ifCond .eq 10, 3, 0, 0, 0, 0), (7, .iload_n 2, 1, 0, 0, 0, 0), (8, .invokestatic 94, 3, 1, 97, 821, 0), (11, .ifCond .ne 5, 3, 0, 0, 0, 0), (14, .iconst (-1), 1, 0, 0, 0, 0), (15, .ireturn, 1, 0, 0, 0, 0), (16, .iload_n 3, 1, 0, 0, 0, 0), (17, .i2l, 1, 0, 0, 0, 0), (18, .lconst 0, 1, 0, 0, 0, 0), (19, .lconst 1, 1, 0, 0, 0, 0), (20, .invokestatic 90, 3, 1, 98, 825, 0), (23, .ifCond .ne 6, 3, 0, 0, 0, 0), (26, .bipush (-2), 2, 0, 0, 0, 0), (28, .ireturn, 1, 0, 0, 0, 0), (29, .aload_n 0, 1, 0, 0, 0, 0), (30, .getfield 84, 3, 9, 0, 704, 0), (33, .iload_n 1, 1, 0, 0, 0, 0), (34, .invokestatic 112, 3, 1, 103, 845, 0), (37, .ifCond .eq 14, 3, 0, 0, 0, 0), (40, .aload_n 0, 1, 0, 0, 0, 0), (41, .getfield 84, 3, 9, 0, 704, 0), (44, .iload_n 2, 1, 0, 0, 0, 0), (45, .invokestatic 112, 3, 1, 103, 845, 0), (48, .ifCond .ne 6, 3, 0, 0, 0, 0), (51, .bipush (-3), 2, 0, 0, 0, 0), (53, .ireturn, 1, 0, 0, 0, 0), (54, .aload_n 0, 1, 0, 0, 0, 0), (55, .iload_n 1, 1, 0, 0, 0, 0), (56, .iload_n 2, 1, 0, 0, 0, 0), (57, .invokevirtual 236, 3, 0, 136, 985, 0), (60, .istore 4, 2, 0, 0, 0, 0), (62, .iload_n 3, 1, 0, 0, 0, 0), (63, .ifCond .eq 8, 3, 0, 0, 0, 0), (66, .iload 4, 2, 0, 0, 0, 0), (68, .ifCond .gt 15, 3, 0, 0, 0, 0), (71, .iload_n 3, 1, 0, 0, 0, 0), (72, .ifCond .ne 8, 3, 0, 0, 0, 0), (75, .iload 4, 2, 0, 0, 0, 0), (77, .goto 5, 3, 0, 0, 0, 0), (80, .bipush (-6), 2, 0, 0, 0, 0), (82, .ireturn, 1, 0, 0, 0, 0), (83, .bipush (-6), 2, 0, 0, 0, 0), (85, .istore 5, 2, 0, 0, 0, 0), (87, .bipush 7, 2, 0, 0, 0, 0), (89, .istore 6, 2, 0, 0, 0, 0), (91, .iload 6, 2, 0, 0, 0, 0), (93, .ifCond .lt 51, 3, 0, 0, 0, 0), (96, .aload_n 0, 1, 0, 0, 0, 0), (97, .getfield 19, 3, 9, 4, 708, 0), (100, .iload_n 1, 1, 0, 0, 0, 0), (101, .iaload, 1, 0, 0, 0, 0), (102, .aload_n 0, 1, 0, 0, 0, 0), (103, .getfield 84, 3, 9, 0, 704, 0), (106, .iand, 1, 0, 0, 0, 0), (107, .iload 6, 2, 0, 0, 0, 0), (109, .invokestatic 112, 3, 1, 103, 845, 0), (112, .ifCond .eq 22, 3, 0, 0, 0, 0), (115, .aload_n 0, 1, 0, 0, 0, 0)]
def kL_135_1 : List kE := [(116, .iload 6, 2, 0, 0, 0, 0), (118, .iload_n 2, 1, 0, 0, 0, 0), (119, .invokevirtual 236, 3, 0, 136, 985, 0), (122, .iload 4, 2, 0, 0, 0, 0), (124, .iconst 1, 1, 0, 0, 0, 0), (125, .isub, 1, 0, 0, 0, 0), (126, .if_icmp .ne 8, 3, 0, 0, 0, 0), (129, .iload 6, 2, 0, 0, 0, 0), (131, .goto 5, 3, 0, 0, 0, 0), (134, .iload 5, 2, 0, 0, 0, 0), (136, .istore 5, 2, 0, 0, 0, 0), (138, .iinc 6 (-1), 3, 0, 0, 0, 0), (141, .goto (-50), 3, 0, 0, 0, 0), (144, .iload 5, 2, 0, 0, 0, 0), (146, .ireturn, 1, 0, 0, 0, 0)]
def kL_135 : List kE := kL_135_0 ++ kL_135_1
-- 136: M.far (II)I
def kL_136 : List kE := [(0, .iconst 0, 1, 0, 0, 0, 0), (1, .istore_n 3, 1, 0, 0, 0, 0), (2, .iload_n 3, 1, 0, 0, 0, 0), (3, .bipush 8, 2, 0, 0, 0, 0), (5, .if_icmp .ge 24, 3, 0, 0, 0, 0), (8, .aload_n 0, 1, 0, 0, 0, 0), (9, .iload_n 1, 1, 0, 0, 0, 0), (10, .iload_n 3, 1, 0, 0, 0, 0), (11, .invokevirtual 233, 3, 0, 137, 989, 0), (14, .iload_n 2, 1, 0, 0, 0, 0), (15, .invokestatic 112, 3, 1, 103, 845, 0), (18, .ifCond .eq 5, 3, 0, 0, 0, 0), (21, .iload_n 3, 1, 0, 0, 0, 0), (22, .ireturn, 1, 0, 0, 0, 0), (23, .iinc 3 1, 3, 0, 0, 0, 0), (26, .goto (-24), 3, 0, 0, 0, 0), (29, .bipush (-6), 2, 0, 0, 0, 0), (31, .ireturn, 1, 0, 0, 0, 0)]
-- 137: M.reach (II)I
def kL_137 : List kE := [(0, .iconst 1, 1, 0, 0, 0, 0), (1, .iload_n 1, 1, 0, 0, 0, 0), (2, .ishl, 1, 0, 0, 0, 0), (3, .aload_n 0, 1, 0, 0, 0, 0), (4, .getfield 84, 3, 9, 0, 704, 0), (7, .iand, 1, 0, 0, 0, 0), (8, .istore_n 3, 1, 0, 0, 0, 0), (9, .iconst 0, 1, 0, 0, 0, 0), (10, .istore 4, 2, 0, 0, 0, 0), (12, .iload 4, 2, 0, 0, 0, 0), (14, .iload_n 2, 1, 0, 0, 0, 0), (15, .if_icmp .ge 61, 3, 0, 0, 0, 0), (18, .iload_n 3, 1, 0, 0, 0, 0), (19, .istore 5, 2, 0, 0, 0, 0), (21, .iconst 0, 1, 0, 0, 0, 0), (22, .istore 6, 2, 0, 0, 0, 0), (24, .iload 6, 2, 0, 0, 0, 0), (26, .bipush 8, 2, 0, 0, 0, 0), (28, .if_icmp .ge 34, 3, 0, 0, 0, 0), (31, .iload 5, 2, 0, 0, 0, 0), (33, .iload_n 3, 1, 0, 0, 0, 0), (34, .iload 6, 2, 0, 0, 0, 0), (36, .invokestatic 112, 3, 1, 103, 845, 0), (39, .ifCond .eq 13, 3, 0, 0, 0, 0), (42, .aload_n 0, 1, 0, 0, 0, 0), (43, .getfield 19, 3, 9, 4, 708, 0), (46, .iload 6, 2, 0, 0, 0, 0), (48, .iaload, 1, 0, 0, 0, 0), (49, .goto 4, 3, 0, 0, 0, 0), (52, .iconst 0, 1, 0, 0, 0, 0), (53, .ior, 1, 0, 0, 0, 0), (54, .istore 5, 2, 0, 0, 0, 0), (56, .iinc 6 1, 3, 0, 0, 0, 0), (59, .goto (-35), 3, 0, 0, 0, 0), (62, .iload 5, 2, 0, 0, 0, 0), (64, .aload_n 0, 1, 0, 0, 0, 0), (65, .getfield 84, 3, 9, 0, 704, 0), (68, .iand, 1, 0, 0, 0, 0), (69, .istore_n 3, 1, 0, 0, 0, 0), (70, .iinc 4 1, 3, 0, 0, 0, 0), (73, .goto (-61), 3, 0, 0, 0, 0), (76, .iload_n 3, 1, 0, 0, 0, 0), (77, .ireturn, 1, 0, 0, 0, 0)]
-- 138: M.stay (I)I
def kL_138 : List kE := [(0, .iload_n 1, 1, 0, 0, 0, 0), (1, .i2l, 1, 0, 0, 0, 0), (2, .lconst 0, 1, 0, 0, 0, 0), (3, .lconst 1, 1, 0, 0, 0, 0), (4, .invokestatic 90, 3, 1, 98, 825, 0), (7, .ifCond .ne 6, 3, 0, 0, 0, 0), (10, .bipush (-2), 2, 0, 0, 0, 0), (12, .ireturn, 1, 0, 0, 0, 0), (13, .iconst 0, 1, 0, 0, 0, 0), (14, .istore_n 2, 1, 0, 0, 0, 0), (15, .iconst 0, 1, 0, 0, 0, 0), (16, .istore_n 3, 1, 0, 0, 0, 0), (17, .iconst 1, 1, 0, 0, 0, 0), (18, .istore 4, 2, 0, 0, 0, 0), (20, .iload 4, 2, 0, 0, 0, 0), (22, .bipush 64, 2, 0, 0, 0, 0), (24, .if_icmp .ge 68, 3, 0, 0, 0, 0), (27, .aload_n 0, 1, 0, 0, 0, 0), (28, .iload 4, 2, 0, 0, 0, 0), (30, .invokevirtual 242, 3, 0, 139, 997, 0), (33, .istore 5, 2, 0, 0, 0, 0), (35, .iload 5, 2, 0, 0, 0, 0), (37, .iload_n 2, 1, 0, 0, 0, 0), (38, .if_icmp .gt 18, 3, 0, 0, 0, 0), (41, .iload 5, 2, 0, 0, 0, 0), (43, .iload_n 2, 1, 0, 0, 0, 0), (44, .if_icmp .ne 16, 3, 0, 0, 0, 0), (47, .iload 4, 2, 0, 0, 0, 0), (49, .invokestatic 106, 3, 1, 101, 837, 0), (52, .iload_n 3, 1, 0, 0, 0, 0), (53, .if_icmp .ge 7, 3, 0, 0, 0, 0), (56, .iconst 1, 1, 0, 0, 0, 0), (57, .goto 4, 3, 0, 0, 0, 0), (60, .iconst 0, 1, 0, 0, 0, 0), (61, .istore 6, 2, 0, 0, 0, 0), (63, .iload 6, 2, 0, 0, 0, 0), (65, .ifCond .eq 21, 3, 0, 0, 0, 0), (68, .aload_n 0, 1, 0, 0, 0, 0), (69, .iload 4, 2, 0, 0, 0, 0), (71, .invokevirtual 245, 3, 0, 140, 1001, 0), (74, .ifCond .eq 12, 3, 0, 0, 0, 0), (77, .iload 5, 2, 0, 0, 0, 0), (79, .istore_n 2, 1, 0, 0, 0, 0), (80, .iload 4, 2, 0, 0, 0, 0), (82, .invokestatic 106, 3, 1, 101, 837, 0), (85, .istore_n 3, 1, 0, 0, 0, 0), (86, .iinc 4 1, 3, 0, 0, 0, 0), (89, .goto (-69), 3, 0, 0, 0, 0), (92, .iload_n 1, 1, 0, 0, 0, 0), (93, .ifCond .ne 7, 3, 0, 0, 0, 0), (96, .iload_n 2, 1, 0, 0, 0, 0), (97, .goto 4, 3, 0, 0, 0, 0), (100, .iload_n 3, 1, 0, 0, 0, 0), (101, .ireturn, 1, 0, 0, 0, 0)]
-- 139: M.worthOf (I)I
def kL_139 : List kE := [(0, .iconst 0, 1, 0, 0, 0, 0), (1, .istore_n 2, 1, 0, 0, 0, 0), (2, .iconst 0, 1, 0, 0, 0, 0), (3, .istore_n 3, 1, 0, 0, 0, 0), (4, .iload_n 3, 1, 0, 0, 0, 0), (5, .bipush 6, 2, 0, 0, 0, 0), (7, .if_icmp .ge 30, 3, 0, 0, 0, 0), (10, .iload_n 2, 1, 0, 0, 0, 0), (11, .iload_n 1, 1, 0, 0, 0, 0), (12, .iload_n 3, 1, 0, 0, 0, 0), (13, .invokestatic 112, 3, 1, 103, 845, 0), (16, .ifCond .eq 12, 3, 0, 0, 0, 0), (19, .aload_n 0, 1, 0, 0, 0, 0), (20, .getfield 28, 3, 9, 9, 713, 0), (23, .iload_n 3, 1, 0, 0, 0, 0), (24, .iaload, 1, 0, 0, 0, 0), (25, .goto 4, 3, 0, 0, 0, 0), (28, .iconst 0, 1, 0, 0, 0, 0), (29, .iadd, 1, 0, 0, 0, 0), (30, .istore_n 2, 1, 0, 0, 0, 0), (31, .iinc 3 1, 3, 0, 0, 0, 0), (34, .goto (-30), 3, 0, 0, 0, 0), (37, .iload_n 2, 1, 0, 0, 0, 0), (38, .ireturn, 1, 0, 0, 0, 0)]
-- 140: M.canServe (I)Z
def kL_140_0 : List kE := [(0, .aload_n 0, 1, 0, 0, 0, 0), (1, .getfield 116, 3, 9, 5, 709, 0), (4, .istore_n 2, 1, 0, 0, 0, 0), (5, .iconst 0, 1, 0, 0, 0, 0), (6, .istore_n 3, 1, 0, 0, 0, 0), (7, .iload_n 1, 1, 0, 0, 0, 0), (8, .istore 4, 2, 0, 0, 0, 0), (10, .aload_n 0, 1, 0, 0, 0, 0), (11, .getfield 116, 3, 9, 5, 709, 0), (14, .ifCond .ge 7, 3, 0, 0, 0, 0), (17, .iload_n 1, 1, 0, 0, 0, 0), (18, .ifCond .ne 7, 3, 0, 0, 0, 0), (21, .iconst 1, 1, 0, 0, 0, 0), (22, .goto 4, 3, 0, 0, 0, 0), (25, .iconst 0, 1, 0, 0, 0, 0), (26, .istore 5, 2, 0, 0, 0, 0), (28, .iload 4, 2, 0, 0, 0, 0), (30, .ifCond .eq 86, 3, 0, 0, 0, 0), (33, .iload 5, 2, 0, 0, 0, 0), (35, .ifCond .eq 81, 3, 0, 0, 0, 0), (38, .aload_n 0, 1, 0, 0, 0, 0), (39, .iload 4, 2, 0, 0, 0, 0), (41, .invokevirtual 239, 3, 0, 141, 1005, 0), (44, .istore 6, 2, 0, 0, 0, 0), (46, .aload_n 0, 1, 0, 0, 0, 0), (47, .iload_n 2, 1, 0, 0, 0, 0), (48, .aload_n 0, 1, 0, 0, 0, 0), (49, .getfield 22, 3, 9, 7, 711, 0), (52, .iload 6, 2, 0, 0, 0, 0), (54, .iaload, 1, 0, 0, 0, 0), (55, .invokevirtual 236, 3, 0, 136, 985, 0), (58, .istore 7, 2, 0, 0, 0, 0), (60, .iload 7, 2, 0, 0, 0, 0), (62, .ifCond .lt 21, 3, 0, 0, 0, 0), (65, .iload 7, 2, 0, 0, 0, 0), (67, .aload_n 0, 1, 0, 0, 0, 0), (68, .getfield 25, 3, 9, 8, 712, 0), (71, .iload 6, 2, 0, 0, 0, 0), (73, .iaload, 1, 0, 0, 0, 0), (74, .iload_n 3, 1, 0, 0, 0, 0), (75, .isub, 1, 0, 0, 0, 0), (76, .if_icmp .gt 7, 3, 0, 0, 0, 0), (79, .iconst 1, 1, 0, 0, 0, 0), (80, .goto 4, 3, 0, 0, 0, 0), (83, .iconst 0, 1, 0, 0, 0, 0), (84, .istore 5, 2, 0, 0, 0, 0), (86, .aload_n 0, 1, 0, 0, 0, 0), (87, .getfield 22, 3, 9, 7, 711, 0), (90, .iload 6, 2, 0, 0, 0, 0), (92, .iaload, 1, 0, 0, 0, 0), (93, .istore_n 2, 1, 0, 0, 0, 0), (94, .aload_n 0, 1, 0, 0, 0, 0), (95, .getfield 25, 3, 9, 8, 712, 0), (98, .iload 6, 2, 0, 0, 0, 0), (100, .iaload, 1, 0, 0, 0, 0), (101, .istore_n 3, 1, 0, 0, 0, 0), (102, .iload 4, 2, 0, 0, 0, 0), (104, .iconst 1, 1, 0, 0, 0, 0), (105, .iload 6, 2, 0, 0, 0, 0), (107, .ishl, 1, 0, 0, 0, 0)]
def kL_140_1 : List kE := [(108, .iconst (-1), 1, 0, 0, 0, 0), (109, .ixor, 1, 0, 0, 0, 0), (110, .iand, 1, 0, 0, 0, 0), (111, .istore 4, 2, 0, 0, 0, 0), (113, .goto (-85), 3, 0, 0, 0, 0), (116, .iload 5, 2, 0, 0, 0, 0), (118, .ireturn, 1, 0, 0, 0, 0)]
def kL_140 : List kE := kL_140_0 ++ kL_140_1
-- 141: M.nextOf (I)I
def kL_141 : List kE := [(0, .bipush (-6), 2, 0, 0, 0, 0), (2, .istore_n 2, 1, 0, 0, 0, 0), (3, .iconst 5, 1, 0, 0, 0, 0), (4, .istore_n 3, 1, 0, 0, 0, 0), (5, .iload_n 3, 1, 0, 0, 0, 0), (6, .ifCond .lt 42, 3, 0, 0, 0, 0), (9, .iload_n 1, 1, 0, 0, 0, 0), (10, .iload_n 3, 1, 0, 0, 0, 0), (11, .invokestatic 112, 3, 1, 103, 845, 0), (14, .ifCond .eq 26, 3, 0, 0, 0, 0), (17, .iload_n 2, 1, 0, 0, 0, 0), (18, .ifCond .lt 18, 3, 0, 0, 0, 0), (21, .aload_n 0, 1, 0, 0, 0, 0), (22, .getfield 25, 3, 9, 8, 712, 0), (25, .iload_n 3, 1, 0, 0, 0, 0), (26, .iaload, 1, 0, 0, 0, 0), (27, .aload_n 0, 1, 0, 0, 0, 0), (28, .getfield 25, 3, 9, 8, 712, 0), (31, .iload_n 2, 1, 0, 0, 0, 0), (32, .iaload, 1, 0, 0, 0, 0), (33, .if_icmp .gt 7, 3, 0, 0, 0, 0), (36, .iload_n 3, 1, 0, 0, 0, 0), (37, .goto 4, 3, 0, 0, 0, 0), (40, .iload_n 2, 1, 0, 0, 0, 0), (41, .istore_n 2, 1, 0, 0, 0, 0), (42, .iinc 3 (-1), 3, 0, 0, 0, 0), (45, .goto (-40), 3, 0, 0, 0, 0), (48, .iload_n 2, 1, 0, 0, 0, 0), (49, .ireturn, 1, 0, 0, 0, 0)]
-- 142: M.sentences (IIII)I
def kL_142 : List kE := [(0, .iload_n 1, 1, 0, 0, 0, 0), (1, .invokestatic 94, 3, 1, 97, 821, 0), (4, .ifCond .ne 5, 3, 0, 0, 0, 0), (7, .iconst (-1), 1, 0, 0, 0, 0), (8, .ireturn, 1, 0, 0, 0, 0), (9, .iload_n 2, 1, 0, 0, 0, 0), (10, .i2l, 1, 0, 0, 0, 0), (11, .lconst 0, 1, 0, 0, 0, 0), (12, .ldc2_w 257, 3, 0, 0, 1013, 30), (15, .invokestatic 90, 3, 1, 98, 825, 0), (18, .ifCond .eq 25, 3, 0, 0, 0, 0), (21, .iload_n 3, 1, 0, 0, 0, 0), (22, .i2l, 1, 0, 0, 0, 0), (23, .lconst 0, 1, 0, 0, 0, 0), (24, .iload_n 2, 1, 0, 0, 0, 0), (25, .i2l, 1, 0, 0, 0, 0), (26, .invokestatic 90, 3, 1, 98, 825, 0), (29, .ifCond .eq 14, 3, 0, 0, 0, 0), (32, .iload 4, 2, 0, 0, 0, 0), (34, .i2l, 1, 0, 0, 0, 0), (35, .lconst 0, 1, 0, 0, 0, 0), (36, .lconst 1, 1, 0, 0, 0, 0), (37, .invokestatic 90, 3, 1, 98, 825, 0), (40, .ifCond .ne 6, 3, 0, 0, 0, 0), (43, .bipush (-2), 2, 0, 0, 0, 0), (45, .ireturn, 1, 0, 0, 0, 0), (46, .iload 4, 2, 0, 0, 0, 0), (48, .ifCond .ne 19, 3, 0, 0, 0, 0), (51, .aload_n 0, 1, 0, 0, 0, 0), (52, .aload_n 0, 1, 0, 0, 0, 0), (53, .getfield 16, 3, 9, 3, 707, 0), (56, .iload_n 1, 1, 0, 0, 0, 0), (57, .iaload, 1, 0, 0, 0, 0), (58, .invokestatic 106, 3, 1, 101, 837, 0), (61, .iload_n 2, 1, 0, 0, 0, 0), (62, .iload_n 3, 1, 0, 0, 0, 0), (63, .invokevirtual 259, 3, 0, 143, 1014, 0), (66, .ireturn, 1, 0, 0, 0, 0), (67, .iload_n 2, 1, 0, 0, 0, 0), (68, .i2l, 1, 0, 0, 0, 0), (69, .lconst 1, 1, 0, 0, 0, 0), (70, .ldc2_w 262, 3, 0, 0, 1023, 9), (73, .invokestatic 90, 3, 1, 98, 825, 0), (76, .ifCond .eq 13, 3, 0, 0, 0, 0), (79, .aload_n 0, 1, 0, 0, 0, 0), (80, .iload_n 1, 1, 0, 0, 0, 0), (81, .iload_n 2, 1, 0, 0, 0, 0), (82, .iload_n 3, 1, 0, 0, 0, 0), (83, .invokevirtual 264, 3, 0, 145, 1024, 0), (86, .goto 5, 3, 0, 0, 0, 0), (89, .bipush (-2), 2, 0, 0, 0, 0), (91, .ireturn, 1, 0, 0, 0, 0)]
-- 143: M.countOf (III)I
def kL_143_0 : List kE := [(0, .iconst 0, 1, 0, 0, 0, 0), (1, .istore 4, 2, 0, 0, 0, 0), (3, .iload 4, 2, 0, 0, 0, 0), (5, .bipush 64, 2, 0, 0, 0, 0), (7, .if_icmp .ge 17, 3, 0, 0, 0, 0), (10, .aload_n 0, 1, 0, 0, 0, 0), (11, .getfield 61, 3, 9, 28, 732, 0), (14, .iload 4, 2, 0, 0, 0, 0), (16, .lconst 0, 1, 0, 0, 0, 0), (17, .lastore, 1, 0, 0, 0, 0), (18, .iinc 4 1, 3, 0, 0, 0, 0), (21, .goto (-18), 3, 0, 0, 0, 0), (24, .aload_n 0, 1, 0, 0, 0, 0), (25, .getfield 61, 3, 9, 28, 732, 0), (28, .iconst 0, 1, 0, 0, 0, 0), (29, .bipush 10, 2, 0, 0, 0, 0), (31, .iload_n 1, 1, 0, 0, 0, 0), (32, .isub, 1, 0, 0, 0, 0), (33, .i2l, 1, 0, 0, 0, 0), (34, .lastore, 1, 0, 0, 0, 0), (35, .aload_n 0, 1, 0, 0, 0, 0), (36, .getfield 61, 3, 9, 28, 732, 0), (39, .iconst 3, 1, 0, 0, 0, 0), (40, .iload_n 1, 1, 0, 0, 0, 0), (41, .i2l, 1, 0, 0, 0, 0), (42, .lastore, 1, 0, 0, 0, 0), (43, .iconst 1, 1, 0, 0, 0, 0), (44, .istore 4, 2, 0, 0, 0, 0), (46, .iload 4, 2, 0, 0, 0, 0), (48, .iload_n 2, 1, 0, 0, 0, 0), (49, .if_icmp .ge 14, 3, 0, 0, 0, 0), (52, .aload_n 0, 1, 0, 0, 0, 0), (53, .iload_n 1, 1, 0, 0, 0, 0), (54, .invokevirtual 250, 3, 0, 144, 1018, 0), (57, .iinc 4 1, 3, 0, 0, 0, 0), (60, .goto (-14), 3, 0, 0, 0, 0), (63, .iload_n 2, 1, 0, 0, 0, 0), (64, .ifCond .ne 15, 3, 0, 0, 0, 0), (67, .iload_n 3, 1, 0, 0, 0, 0), (68, .ifCond .ne 7, 3, 0, 0, 0, 0), (71, .iconst 1, 1, 0, 0, 0, 0), (72, .goto 31, 3, 0, 0, 0, 0), (75, .iconst 0, 1, 0, 0, 0, 0), (76, .goto 27, 3, 0, 0, 0, 0), (79, .aload_n 0, 1, 0, 0, 0, 0), (80, .getfield 61, 3, 9, 28, 732, 0), (83, .iconst 2, 1, 0, 0, 0, 0), (84, .iload_n 3, 1, 0, 0, 0, 0), (85, .imul, 1, 0, 0, 0, 0), (86, .laload, 1, 0, 0, 0, 0), (87, .aload_n 0, 1, 0, 0, 0, 0), (88, .getfield 61, 3, 9, 28, 732, 0), (91, .iconst 2, 1, 0, 0, 0, 0), (92, .iload_n 3, 1, 0, 0, 0, 0), (93, .imul, 1, 0, 0, 0, 0), (94, .iconst 1, 1, 0, 0, 0, 0), (95, .iadd, 1, 0, 0, 0, 0), (96, .laload, 1, 0, 0, 0, 0), (97, .ladd, 1, 0, 0, 0, 0), (98, .ldc2_w 248, 3, 0, 0, 1022, 1000007)]
def kL_143_1 : List kE := [(101, .lrem, 1, 0, 0, 0, 0), (102, .l2i, 1, 0, 0, 0, 0), (103, .ireturn, 1, 0, 0, 0, 0)]
def kL_143 : List kE := kL_143_0 ++ kL_143_1
-- 144: M.oneLetter (I)V
def kL_144_0 : List kE := [(0, .bipush 10, 2, 0, 0, 0, 0), (2, .iload_n 1, 1, 0, 0, 0, 0), (3, .isub, 1, 0, 0, 0, 0), (4, .istore_n 2, 1, 0, 0, 0, 0), (5, .iconst 0, 1, 0, 0, 0, 0), (6, .istore_n 3, 1, 0, 0, 0, 0), (7, .iload_n 3, 1, 0, 0, 0, 0), (8, .bipush 64, 2, 0, 0, 0, 0), (10, .if_icmp .ge 16, 3, 0, 0, 0, 0), (13, .aload_n 0, 1, 0, 0, 0, 0), (14, .getfield 65, 3, 9, 29, 733, 0), (17, .iload_n 3, 1, 0, 0, 0, 0), (18, .lconst 0, 1, 0, 0, 0, 0), (19, .lastore, 1, 0, 0, 0, 0), (20, .iinc 3 1, 3, 0, 0, 0, 0), (23, .goto (-16), 3, 0, 0, 0, 0), (26, .iconst 0, 1, 0, 0, 0, 0), (27, .istore_n 3, 1, 0, 0, 0, 0), (28, .iload_n 3, 1, 0, 0, 0, 0), (29, .bipush 31, 2, 0, 0, 0, 0), (31, .if_icmp .ge 81, 3, 0, 0, 0, 0), (34, .aload_n 0, 1, 0, 0, 0, 0), (35, .getfield 61, 3, 9, 28, 732, 0), (38, .iconst 2, 1, 0, 0, 0, 0), (39, .iload_n 3, 1, 0, 0, 0, 0), (40, .imul, 1, 0, 0, 0, 0), (41, .laload, 1, 0, 0, 0, 0), (42, .lstore 4, 2, 0, 0, 0, 0), (44, .aload_n 0, 1, 0, 0, 0, 0), (45, .getfield 61, 3, 9, 28, 732, 0), (48, .iconst 2, 1, 0, 0, 0, 0), (49, .iload_n 3, 1, 0, 0, 0, 0), (50, .imul, 1, 0, 0, 0, 0), (51, .iconst 1, 1, 0, 0, 0, 0), (52, .iadd, 1, 0, 0, 0, 0), (53, .laload, 1, 0, 0, 0, 0), (54, .lstore 6, 2, 0, 0, 0, 0), (56, .aload_n 0, 1, 0, 0, 0, 0), (57, .getfield 65, 3, 9, 29, 733, 0), (60, .iconst 2, 1, 0, 0, 0, 0), (61, .iload_n 3, 1, 0, 0, 0, 0), (62, .imul, 1, 0, 0, 0, 0), (63, .dup2, 1, 0, 0, 0, 0), (64, .laload, 1, 0, 0, 0, 0), (65, .lload 4, 2, 0, 0, 0, 0), (67, .iload_n 2, 1, 0, 0, 0, 0), (68, .iconst 1, 1, 0, 0, 0, 0), (69, .isub, 1, 0, 0, 0, 0), (70, .i2l, 1, 0, 0, 0, 0), (71, .lmul, 1, 0, 0, 0, 0), (72, .lload 6, 2, 0, 0, 0, 0), (74, .iload_n 2, 1, 0, 0, 0, 0), (75, .i2l, 1, 0, 0, 0, 0), (76, .lmul, 1, 0, 0, 0, 0), (77, .ladd, 1, 0, 0, 0, 0), (78, .ladd, 1, 0, 0, 0, 0), (79, .lastore, 1, 0, 0, 0, 0), (80, .aload_n 0, 1, 0, 0, 0, 0), (81, .getfield 65, 3, 9, 29, 733, 0), (84, .iconst 2, 1, 0, 0, 0, 0)]
def kL_144_1 : List kE := [(85, .iload_n 3, 1, 0, 0, 0, 0), (86, .imul, 1, 0, 0, 0, 0), (87, .iconst 3, 1, 0, 0, 0, 0), (88, .iadd, 1, 0, 0, 0, 0), (89, .dup2, 1, 0, 0, 0, 0), (90, .laload, 1, 0, 0, 0, 0), (91, .lload 4, 2, 0, 0, 0, 0), (93, .iload_n 1, 1, 0, 0, 0, 0), (94, .i2l, 1, 0, 0, 0, 0), (95, .lmul, 1, 0, 0, 0, 0), (96, .lload 6, 2, 0, 0, 0, 0), (98, .iload_n 1, 1, 0, 0, 0, 0), (99, .iconst 1, 1, 0, 0, 0, 0), (100, .isub, 1, 0, 0, 0, 0), (101, .i2l, 1, 0, 0, 0, 0), (102, .lmul, 1, 0, 0, 0, 0), (103, .ladd, 1, 0, 0, 0, 0), (104, .ladd, 1, 0, 0, 0, 0), (105, .lastore, 1, 0, 0, 0, 0), (106, .iinc 3 1, 3, 0, 0, 0, 0), (109, .goto (-81), 3, 0, 0, 0, 0), (112, .iconst 0, 1, 0, 0, 0, 0), (113, .istore_n 3, 1, 0, 0, 0, 0), (114, .iload_n 3, 1, 0, 0, 0, 0), (115, .bipush 64, 2, 0, 0, 0, 0), (117, .if_icmp .ge 25, 3, 0, 0, 0, 0), (120, .aload_n 0, 1, 0, 0, 0, 0), (121, .getfield 61, 3, 9, 28, 732, 0), (124, .iload_n 3, 1, 0, 0, 0, 0), (125, .aload_n 0, 1, 0, 0, 0, 0), (126, .getfield 65, 3, 9, 29, 733, 0), (129, .iload_n 3, 1, 0, 0, 0, 0), (130, .laload, 1, 0, 0, 0, 0), (131, .ldc2_w 248, 3, 0, 0, 1022, 1000007), (134, .lrem, 1, 0, 0, 0, 0), (135, .lastore, 1, 0, 0, 0, 0), (136, .iinc 3 1, 3, 0, 0, 0, 0), (139, .goto (-25), 3, 0, 0, 0, 0), (142, .return_, 1, 0, 0, 0, 0)]
def kL_144 : List kE := kL_144_0 ++ kL_144_1
-- 145: M.firstOf (III)I
def kL_145_0 : List kE := [(0, .iconst 0, 1, 0, 0, 0, 0), (1, .istore 4, 2, 0, 0, 0, 0), (3, .iload 4, 2, 0, 0, 0, 0), (5, .sipush 1000, 3, 0, 0, 0, 0), (8, .if_icmp .ge 28, 3, 0, 0, 0, 0), (11, .aload_n 0, 1, 0, 0, 0, 0), (12, .getfield 68, 3, 9, 30, 734, 0), (15, .iload 4, 2, 0, 0, 0, 0), (17, .iload 4, 2, 0, 0, 0, 0), (19, .bipush 10, 2, 0, 0, 0, 0), (21, .if_icmp .ge 7, 3, 0, 0, 0, 0), (24, .iconst 1, 1, 0, 0, 0, 0), (25, .goto 4, 3, 0, 0, 0, 0), (28, .iconst 0, 1, 0, 0, 0, 0), (29, .bastore, 1, 0, 0, 0, 0), (30, .iinc 4 1, 3, 0, 0, 0, 0), (33, .goto (-30), 3, 0, 0, 0, 0), (36, .bipush 100, 2, 0, 0, 0, 0), (38, .istore 4, 2, 0, 0, 0, 0), (40, .iload 4, 2, 0, 0, 0, 0), (42, .sipush 1000, 3, 0, 0, 0, 0), (45, .if_icmp .ge 39, 3, 0, 0, 0, 0), (48, .aload_n 0, 1, 0, 0, 0, 0), (49, .getfield 68, 3, 9, 30, 734, 0), (52, .iload 4, 2, 0, 0, 0, 0), (54, .aload_n 0, 1, 0, 0, 0, 0), (55, .iload_n 1, 1, 0, 0, 0, 0), (56, .iload 4, 2, 0, 0, 0, 0), (58, .bipush 100, 2, 0, 0, 0, 0), (60, .idiv, 1, 0, 0, 0, 0), (61, .iload 4, 2, 0, 0, 0, 0), (63, .bipush 10, 2, 0, 0, 0, 0), (65, .idiv, 1, 0, 0, 0, 0), (66, .bipush 10, 2, 0, 0, 0, 0), (68, .irem, 1, 0, 0, 0, 0), (69, .iload 4, 2, 0, 0, 0, 0), (71, .bipush 10, 2, 0, 0, 0, 0), (73, .irem, 1, 0, 0, 0, 0), (74, .invokevirtual 253, 3, 0, 146, 1028, 0), (77, .bastore, 1, 0, 0, 0, 0), (78, .iinc 4 1, 3, 0, 0, 0, 0), (81, .goto (-41), 3, 0, 0, 0, 0), (84, .iconst 0, 1, 0, 0, 0, 0), (85, .istore 4, 2, 0, 0, 0, 0), (87, .bipush (-6), 2, 0, 0, 0, 0), (89, .istore 5, 2, 0, 0, 0, 0), (91, .iload_n 3, 1, 0, 0, 0, 0), (92, .istore 6, 2, 0, 0, 0, 0), (94, .iload_n 2, 1, 0, 0, 0, 0), (95, .istore 7, 2, 0, 0, 0, 0), (97, .iload 7, 2, 0, 0, 0, 0), (99, .ifCond .le 127, 3, 0, 0, 0, 0), (102, .bipush (-6), 2, 0, 0, 0, 0), (104, .istore 8, 2, 0, 0, 0, 0), (106, .bipush 9, 2, 0, 0, 0, 0), (108, .istore 9, 2, 0, 0, 0, 0), (110, .iload 9, 2, 0, 0, 0, 0), (112, .ifCond .lt 70, 3, 0, 0, 0, 0), (115, .iload 6, 2, 0, 0, 0, 0), (117, .aload_n 0, 1, 0, 0, 0, 0)]
def kL_145_1 : List kE := [(118, .getfield 16, 3, 9, 3, 707, 0), (121, .iload_n 1, 1, 0, 0, 0, 0), (122, .iaload, 1, 0, 0, 0, 0), (123, .iload 9, 2, 0, 0, 0, 0), (125, .ishr, 1, 0, 0, 0, 0), (126, .iconst 1, 1, 0, 0, 0, 0), (127, .iand, 1, 0, 0, 0, 0), (128, .isub, 1, 0, 0, 0, 0), (129, .istore 10, 2, 0, 0, 0, 0), (131, .iload 9, 2, 0, 0, 0, 0), (133, .iload 5, 2, 0, 0, 0, 0), (135, .if_icmp .eq 37, 3, 0, 0, 0, 0), (138, .iload 10, 2, 0, 0, 0, 0), (140, .ifCond .lt 32, 3, 0, 0, 0, 0), (143, .aload_n 0, 1, 0, 0, 0, 0), (144, .getfield 68, 3, 9, 30, 734, 0), (147, .bipush 100, 2, 0, 0, 0, 0), (149, .iload 7, 2, 0, 0, 0, 0), (151, .iconst 1, 1, 0, 0, 0, 0), (152, .isub, 1, 0, 0, 0, 0), (153, .imul, 1, 0, 0, 0, 0), (154, .bipush 10, 2, 0, 0, 0, 0), (156, .iload 10, 2, 0, 0, 0, 0), (158, .imul, 1, 0, 0, 0, 0), (159, .iadd, 1, 0, 0, 0, 0), (160, .iload 9, 2, 0, 0, 0, 0), (162, .iadd, 1, 0, 0, 0, 0), (163, .baload, 1, 0, 0, 0, 0), (164, .ifCond .eq 8, 3, 0, 0, 0, 0), (167, .iload 9, 2, 0, 0, 0, 0), (169, .goto 5, 3, 0, 0, 0, 0), (172, .iload 8, 2, 0, 0, 0, 0), (174, .istore 8, 2, 0, 0, 0, 0), (176, .iinc 9 (-1), 3, 0, 0, 0, 0), (179, .goto (-69), 3, 0, 0, 0, 0), (182, .iload 8, 2, 0, 0, 0, 0), (184, .ifCond .ge 6, 3, 0, 0, 0, 0), (187, .bipush (-6), 2, 0, 0, 0, 0), (189, .ireturn, 1, 0, 0, 0, 0), (190, .bipush 10, 2, 0, 0, 0, 0), (192, .iload 4, 2, 0, 0, 0, 0), (194, .imul, 1, 0, 0, 0, 0), (195, .iload 8, 2, 0, 0, 0, 0), (197, .iadd, 1, 0, 0, 0, 0), (198, .istore 4, 2, 0, 0, 0, 0), (200, .iload 8, 2, 0, 0, 0, 0), (202, .istore 5, 2, 0, 0, 0, 0), (204, .iload 6, 2, 0, 0, 0, 0), (206, .aload_n 0, 1, 0, 0, 0, 0), (207, .getfield 16, 3, 9, 3, 707, 0), (210, .iload_n 1, 1, 0, 0, 0, 0), (211, .iaload, 1, 0, 0, 0, 0), (212, .iload 8, 2, 0, 0, 0, 0), (214, .ishr, 1, 0, 0, 0, 0), (215, .iconst 1, 1, 0, 0, 0, 0), (216, .iand, 1, 0, 0, 0, 0), (217, .isub, 1, 0, 0, 0, 0), (218, .istore 6, 2, 0, 0, 0, 0), (220, .iinc 7 (-1), 3, 0, 0, 0, 0), (223, .goto (-126), 3, 0, 0, 0, 0)]
def kL_145_2 : List kE := [(226, .iload 4, 2, 0, 0, 0, 0), (228, .ireturn, 1, 0, 0, 0, 0)]
def kL_145 : List kE := kL_145_0 ++ kL_145_1 ++ kL_145_2
-- 146: M.canFollow (IIII)Z
def kL_146 : List kE := [(0, .iconst 0, 1, 0, 0, 0, 0), (1, .istore 5, 2, 0, 0, 0, 0), (3, .iconst 0, 1, 0, 0, 0, 0), (4, .istore 6, 2, 0, 0, 0, 0), (6, .iload 6, 2, 0, 0, 0, 0), (8, .bipush 10, 2, 0, 0, 0, 0), (10, .if_icmp .ge 71, 3, 0, 0, 0, 0), (13, .iload_n 3, 1, 0, 0, 0, 0), (14, .aload_n 0, 1, 0, 0, 0, 0), (15, .getfield 16, 3, 9, 3, 707, 0), (18, .iload_n 1, 1, 0, 0, 0, 0), (19, .iaload, 1, 0, 0, 0, 0), (20, .iload 6, 2, 0, 0, 0, 0), (22, .ishr, 1, 0, 0, 0, 0), (23, .iconst 1, 1, 0, 0, 0, 0), (24, .iand, 1, 0, 0, 0, 0), (25, .isub, 1, 0, 0, 0, 0), (26, .istore 7, 2, 0, 0, 0, 0), (28, .iload 5, 2, 0, 0, 0, 0), (30, .ifCond .ne 38, 3, 0, 0, 0, 0), (33, .iload 6, 2, 0, 0, 0, 0), (35, .iload 4, 2, 0, 0, 0, 0), (37, .if_icmp .eq 35, 3, 0, 0, 0, 0), (40, .iload 7, 2, 0, 0, 0, 0), (42, .ifCond .lt 30, 3, 0, 0, 0, 0), (45, .aload_n 0, 1, 0, 0, 0, 0), (46, .getfield 68, 3, 9, 30, 734, 0), (49, .bipush 100, 2, 0, 0, 0, 0), (51, .iload_n 2, 1, 0, 0, 0, 0), (52, .iconst 1, 1, 0, 0, 0, 0), (53, .isub, 1, 0, 0, 0, 0), (54, .imul, 1, 0, 0, 0, 0), (55, .bipush 10, 2, 0, 0, 0, 0), (57, .iload 7, 2, 0, 0, 0, 0), (59, .imul, 1, 0, 0, 0, 0), (60, .iadd, 1, 0, 0, 0, 0), (61, .iload 6, 2, 0, 0, 0, 0), (63, .iadd, 1, 0, 0, 0, 0), (64, .baload, 1, 0, 0, 0, 0), (65, .ifCond .eq 7, 3, 0, 0, 0, 0), (68, .iconst 1, 1, 0, 0, 0, 0), (69, .goto 4, 3, 0, 0, 0, 0), (72, .iconst 0, 1, 0, 0, 0, 0), (73, .istore 5, 2, 0, 0, 0, 0), (75, .iinc 6 1, 3, 0, 0, 0, 0), (78, .goto (-72), 3, 0, 0, 0, 0), (81, .iload 5, 2, 0, 0, 0, 0), (83, .ireturn, 1, 0, 0, 0, 0)]
-- 147: M.seen (IIZ)I
def kL_147 : List kE := [(0, .iload_n 2, 1, 0, 0, 0, 0), (1, .invokestatic 94, 3, 1, 97, 821, 0), (4, .ifCond .ne 5, 3, 0, 0, 0, 0), (7, .iconst (-1), 1, 0, 0, 0, 0), (8, .ireturn, 1, 0, 0, 0, 0), (9, .iload_n 1, 1, 0, 0, 0, 0), (10, .i2l, 1, 0, 0, 0, 0), (11, .lconst 0, 1, 0, 0, 0, 0), (12, .ldc2_w 267, 3, 0, 0, 1036, 60), (15, .invokestatic 90, 3, 1, 98, 825, 0), (18, .ifCond .ne 6, 3, 0, 0, 0, 0), (21, .bipush (-2), 2, 0, 0, 0, 0), (23, .ireturn, 1, 0, 0, 0, 0), (24, .aload_n 0, 1, 0, 0, 0, 0), (25, .getfield 269, 3, 9, 13, 717, 0), (28, .bipush 8, 2, 0, 0, 0, 0), (30, .if_icmp .ne 6, 3, 0, 0, 0, 0), (33, .bipush (-4), 2, 0, 0, 0, 0), (35, .ireturn, 1, 0, 0, 0, 0), (36, .aload_n 0, 1, 0, 0, 0, 0), (37, .getfield 31, 3, 9, 10, 714, 0), (40, .aload_n 0, 1, 0, 0, 0, 0), (41, .getfield 269, 3, 9, 13, 717, 0), (44, .iload_n 1, 1, 0, 0, 0, 0), (45, .iastore, 1, 0, 0, 0, 0), (46, .aload_n 0, 1, 0, 0, 0, 0), (47, .getfield 34, 3, 9, 11, 715, 0), (50, .aload_n 0, 1, 0, 0, 0, 0), (51, .getfield 269, 3, 9, 13, 717, 0), (54, .iload_n 2, 1, 0, 0, 0, 0), (55, .iastore, 1, 0, 0, 0, 0), (56, .aload_n 0, 1, 0, 0, 0, 0), (57, .getfield 37, 3, 9, 12, 716, 0), (60, .aload_n 0, 1, 0, 0, 0, 0), (61, .getfield 269, 3, 9, 13, 717, 0), (64, .iload_n 3, 1, 0, 0, 0, 0), (65, .ifCond .eq 7, 3, 0, 0, 0, 0), (68, .iconst 1, 1, 0, 0, 0, 0), (69, .goto 4, 3, 0, 0, 0, 0), (72, .iconst 0, 1, 0, 0, 0, 0), (73, .iastore, 1, 0, 0, 0, 0), (74, .aload_n 0, 1, 0, 0, 0, 0), (75, .dup, 1, 0, 0, 0, 0), (76, .getfield 269, 3, 9, 13, 717, 0), (79, .iconst 1, 1, 0, 0, 0, 0), (80, .iadd, 1, 0, 0, 0, 0), (81, .putfield 269, 3, 9, 13, 717, 0), (84, .aload_n 0, 1, 0, 0, 0, 0), (85, .getfield 269, 3, 9, 13, 717, 0), (88, .ireturn, 1, 0, 0, 0, 0)]
-- 148: M.forget ()I
def kL_148 : List kE := [(0, .aload_n 0, 1, 0, 0, 0, 0), (1, .getfield 269, 3, 9, 13, 717, 0), (4, .istore_n 1, 1, 0, 0, 0, 0), (5, .aload_n 0, 1, 0, 0, 0, 0), (6, .iconst 0, 1, 0, 0, 0, 0), (7, .putfield 269, 3, 9, 13, 717, 0), (10, .iload_n 1, 1, 0, 0, 0, 0), (11, .ireturn, 1, 0, 0, 0, 0)]
-- 149: M.fits (I)I
def kL_149 : List kE := [(0, .iconst 0, 1, 0, 0, 0, 0), (1, .istore_n 2, 1, 0, 0, 0, 0), (2, .iconst 0, 1, 0, 0, 0, 0), (3, .istore_n 3, 1, 0, 0, 0, 0), (4, .iload_n 3, 1, 0, 0, 0, 0), (5, .sipush 800, 3, 0, 0, 0, 0), (8, .if_icmp .ge 27, 3, 0, 0, 0, 0), (11, .aload_n 0, 1, 0, 0, 0, 0), (12, .iload_n 3, 1, 0, 0, 0, 0), (13, .invokevirtual 277, 3, 0, 150, 1045, 0), (16, .ifCond .eq 13, 3, 0, 0, 0, 0), (19, .iload_n 2, 1, 0, 0, 0, 0), (20, .iload_n 1, 1, 0, 0, 0, 0), (21, .if_icmp .ne 5, 3, 0, 0, 0, 0), (24, .iload_n 3, 1, 0, 0, 0, 0), (25, .ireturn, 1, 0, 0, 0, 0), (26, .iinc 2 1, 3, 0, 0, 0, 0), (29, .iinc 3 1, 3, 0, 0, 0, 0), (32, .goto (-28), 3, 0, 0, 0, 0), (35, .iload_n 1, 1, 0, 0, 0, 0), (36, .iconst (-1), 1, 0, 0, 0, 0), (37, .if_icmp .ne 7, 3, 0, 0, 0, 0), (40, .iload_n 2, 1, 0, 0, 0, 0), (41, .goto 5, 3, 0, 0, 0, 0), (44, .bipush (-6), 2, 0, 0, 0, 0), (46, .ireturn, 1, 0, 0, 0, 0)]
-- 150: M.isFit (I)Z
def kL_150_0 : List kE := [(0, .iload_n 1, 1, 0, 0, 0, 0), (1, .bipush 10, 2, 0, 0, 0, 0), (3, .idiv, 1, 0, 0, 0, 0), (4, .bipush 10, 2, 0, 0, 0, 0), (6, .irem, 1, 0, 0, 0, 0), (7, .i2l, 1, 0, 0, 0, 0), (8, .lconst 1, 1, 0, 0, 0, 0), (9, .ldc2_w 88, 3, 0, 0, 824, 7), (12, .invokestatic 90, 3, 1, 98, 825, 0), (15, .ifCond .eq 22, 3, 0, 0, 0, 0), (18, .iload_n 1, 1, 0, 0, 0, 0), (19, .bipush 10, 2, 0, 0, 0, 0), (21, .irem, 1, 0, 0, 0, 0), (22, .i2l, 1, 0, 0, 0, 0), (23, .lconst 1, 1, 0, 0, 0, 0), (24, .ldc2_w 272, 3, 0, 0, 1049, 6), (27, .invokestatic 90, 3, 1, 98, 825, 0), (30, .ifCond .eq 7, 3, 0, 0, 0, 0), (33, .iconst 1, 1, 0, 0, 0, 0), (34, .goto 4, 3, 0, 0, 0, 0), (37, .iconst 0, 1, 0, 0, 0, 0), (38, .istore_n 2, 1, 0, 0, 0, 0), (39, .iconst 0, 1, 0, 0, 0, 0), (40, .istore_n 3, 1, 0, 0, 0, 0), (41, .iload_n 3, 1, 0, 0, 0, 0), (42, .aload_n 0, 1, 0, 0, 0, 0), (43, .getfield 269, 3, 9, 13, 717, 0), (46, .if_icmp .ge 61, 3, 0, 0, 0, 0), (49, .iload_n 2, 1, 0, 0, 0, 0), (50, .ifCond .eq 57, 3, 0, 0, 0, 0), (53, .iload_n 1, 1, 0, 0, 0, 0), (54, .aload_n 0, 1, 0, 0, 0, 0), (55, .getfield 31, 3, 9, 10, 714, 0), (58, .iload_n 3, 1, 0, 0, 0, 0), (59, .iaload, 1, 0, 0, 0, 0), (60, .invokestatic 274, 3, 1, 151, 1050, 0), (63, .aload_n 0, 1, 0, 0, 0, 0), (64, .getfield 34, 3, 9, 11, 715, 0), (67, .iload_n 3, 1, 0, 0, 0, 0), (68, .iaload, 1, 0, 0, 0, 0), (69, .if_icmp .ne 7, 3, 0, 0, 0, 0), (72, .iconst 1, 1, 0, 0, 0, 0), (73, .goto 4, 3, 0, 0, 0, 0), (76, .iconst 0, 1, 0, 0, 0, 0), (77, .aload_n 0, 1, 0, 0, 0, 0), (78, .getfield 37, 3, 9, 12, 716, 0), (81, .iload_n 3, 1, 0, 0, 0, 0), (82, .iaload, 1, 0, 0, 0, 0), (83, .iconst 1, 1, 0, 0, 0, 0), (84, .if_icmp .ne 7, 3, 0, 0, 0, 0), (87, .iconst 1, 1, 0, 0, 0, 0), (88, .goto 4, 3, 0, 0, 0, 0), (91, .iconst 0, 1, 0, 0, 0, 0), (92, .if_icmp .ne 7, 3, 0, 0, 0, 0), (95, .iconst 1, 1, 0, 0, 0, 0), (96, .goto 4, 3, 0, 0, 0, 0), (99, .iconst 0, 1, 0, 0, 0, 0), (100, .istore_n 2, 1, 0, 0, 0, 0), (101, .iinc 3 1, 3, 0, 0, 0, 0), (104, .goto (-63), 3, 0, 0, 0, 0)]
def kL_150_1 : List kE := [(107, .iload_n 2, 1, 0, 0, 0, 0), (108, .ireturn, 1, 0, 0, 0, 0)]
def kL_150 : List kE := kL_150_0 ++ kL_150_1
-- 151: M.whoBy (II)I
def kL_151 : List kE := [(0, .iload_n 0, 1, 0, 0, 0, 0), (1, .bipush 100, 2, 0, 0, 0, 0), (3, .idiv, 1, 0, 0, 0, 0), (4, .iload_n 0, 1, 0, 0, 0, 0), (5, .bipush 10, 2, 0, 0, 0, 0), (7, .idiv, 1, 0, 0, 0, 0), (8, .bipush 10, 2, 0, 0, 0, 0), (10, .irem, 1, 0, 0, 0, 0), (11, .iload_n 1, 1, 0, 0, 0, 0), (12, .iload_n 0, 1, 0, 0, 0, 0), (13, .bipush 10, 2, 0, 0, 0, 0), (15, .irem, 1, 0, 0, 0, 0), (16, .idiv, 1, 0, 0, 0, 0), (17, .imul, 1, 0, 0, 0, 0), (18, .iadd, 1, 0, 0, 0, 0), (19, .bipush 8, 2, 0, 0, 0, 0), (21, .irem, 1, 0, 0, 0, 0), (22, .ireturn, 1, 0, 0, 0, 0)]
-- 152: M.ask (I)I
def kL_152_0 : List kE := [(0, .iload_n 1, 1, 0, 0, 0, 0), (1, .i2l, 1, 0, 0, 0, 0), (2, .lconst 0, 1, 0, 0, 0, 0), (3, .lconst 1, 1, 0, 0, 0, 0), (4, .invokestatic 90, 3, 1, 98, 825, 0), (7, .ifCond .ne 6, 3, 0, 0, 0, 0), (10, .bipush (-2), 2, 0, 0, 0, 0), (12, .ireturn, 1, 0, 0, 0, 0), (13, .aload_n 0, 1, 0, 0, 0, 0), (14, .iconst (-1), 1, 0, 0, 0, 0), (15, .invokevirtual 280, 3, 0, 149, 1057, 0), (18, .istore_n 2, 1, 0, 0, 0, 0), (19, .bipush (-6), 2, 0, 0, 0, 0), (21, .istore_n 3, 1, 0, 0, 0, 0), (22, .iload_n 2, 1, 0, 0, 0, 0), (23, .iconst 1, 1, 0, 0, 0, 0), (24, .iadd, 1, 0, 0, 0, 0), (25, .istore 4, 2, 0, 0, 0, 0), (27, .iconst 0, 1, 0, 0, 0, 0), (28, .istore 5, 2, 0, 0, 0, 0), (30, .iload 5, 2, 0, 0, 0, 0), (32, .bipush 60, 2, 0, 0, 0, 0), (34, .if_icmp .gt 171, 3, 0, 0, 0, 0), (37, .iload_n 2, 1, 0, 0, 0, 0), (38, .ifCond .le 167, 3, 0, 0, 0, 0), (41, .iconst 0, 1, 0, 0, 0, 0), (42, .istore 6, 2, 0, 0, 0, 0), (44, .iload 6, 2, 0, 0, 0, 0), (46, .bipush 8, 2, 0, 0, 0, 0), (48, .if_icmp .ge 17, 3, 0, 0, 0, 0), (51, .aload_n 0, 1, 0, 0, 0, 0), (52, .getfield 72, 3, 9, 31, 735, 0), (55, .iload 6, 2, 0, 0, 0, 0), (57, .iconst 0, 1, 0, 0, 0, 0), (58, .iastore, 1, 0, 0, 0, 0), (59, .iinc 6 1, 3, 0, 0, 0, 0), (62, .goto (-18), 3, 0, 0, 0, 0), (65, .iconst 0, 1, 0, 0, 0, 0), (66, .istore 6, 2, 0, 0, 0, 0), (68, .iload 6, 2, 0, 0, 0, 0), (70, .sipush 800, 3, 0, 0, 0, 0), (73, .if_icmp .ge 34, 3, 0, 0, 0, 0), (76, .aload_n 0, 1, 0, 0, 0, 0), (77, .iload 6, 2, 0, 0, 0, 0), (79, .invokevirtual 277, 3, 0, 150, 1045, 0), (82, .ifCond .eq 19, 3, 0, 0, 0, 0), (85, .aload_n 0, 1, 0, 0, 0, 0), (86, .getfield 72, 3, 9, 31, 735, 0), (89, .iload 6, 2, 0, 0, 0, 0), (91, .iload 5, 2, 0, 0, 0, 0), (93, .invokestatic 274, 3, 1, 151, 1050, 0), (96, .dup2, 1, 0, 0, 0, 0), (97, .iaload, 1, 0, 0, 0, 0), (98, .iconst 1, 1, 0, 0, 0, 0), (99, .iadd, 1, 0, 0, 0, 0), (100, .iastore, 1, 0, 0, 0, 0), (101, .iinc 6 1, 3, 0, 0, 0, 0), (104, .goto (-36), 3, 0, 0, 0, 0), (107, .iconst 0, 1, 0, 0, 0, 0), (108, .istore 6, 2, 0, 0, 0, 0)]
def kL_152_1 : List kE := [(110, .iload 6, 2, 0, 0, 0, 0), (112, .bipush 8, 2, 0, 0, 0, 0), (114, .if_icmp .ge 85, 3, 0, 0, 0, 0), (117, .aload_n 0, 1, 0, 0, 0, 0), (118, .getfield 72, 3, 9, 31, 735, 0), (121, .iload 6, 2, 0, 0, 0, 0), (123, .iaload, 1, 0, 0, 0, 0), (124, .iload_n 2, 1, 0, 0, 0, 0), (125, .aload_n 0, 1, 0, 0, 0, 0), (126, .getfield 72, 3, 9, 31, 735, 0), (129, .iload 6, 2, 0, 0, 0, 0), (131, .iaload, 1, 0, 0, 0, 0), (132, .isub, 1, 0, 0, 0, 0), (133, .if_icmp .le 13, 3, 0, 0, 0, 0), (136, .aload_n 0, 1, 0, 0, 0, 0), (137, .getfield 72, 3, 9, 31, 735, 0), (140, .iload 6, 2, 0, 0, 0, 0), (142, .iaload, 1, 0, 0, 0, 0), (143, .goto 12, 3, 0, 0, 0, 0), (146, .iload_n 2, 1, 0, 0, 0, 0), (147, .aload_n 0, 1, 0, 0, 0, 0), (148, .getfield 72, 3, 9, 31, 735, 0), (151, .iload 6, 2, 0, 0, 0, 0), (153, .iaload, 1, 0, 0, 0, 0), (154, .isub, 1, 0, 0, 0, 0), (155, .istore 7, 2, 0, 0, 0, 0), (157, .iload 7, 2, 0, 0, 0, 0), (159, .iload 4, 2, 0, 0, 0, 0), (161, .if_icmp .ge 14, 3, 0, 0, 0, 0), (164, .bipush 10, 2, 0, 0, 0, 0), (166, .iload 5, 2, 0, 0, 0, 0), (168, .imul, 1, 0, 0, 0, 0), (169, .iload 6, 2, 0, 0, 0, 0), (171, .iadd, 1, 0, 0, 0, 0), (172, .goto 4, 3, 0, 0, 0, 0), (175, .iload_n 3, 1, 0, 0, 0, 0), (176, .istore_n 3, 1, 0, 0, 0, 0), (177, .iload 7, 2, 0, 0, 0, 0), (179, .iload 4, 2, 0, 0, 0, 0), (181, .if_icmp .ge 8, 3, 0, 0, 0, 0), (184, .iload 7, 2, 0, 0, 0, 0), (186, .goto 5, 3, 0, 0, 0, 0), (189, .iload 4, 2, 0, 0, 0, 0), (191, .istore 4, 2, 0, 0, 0, 0), (193, .iinc 6 1, 3, 0, 0, 0, 0), (196, .goto (-86), 3, 0, 0, 0, 0), (199, .iinc 5 1, 3, 0, 0, 0, 0), (202, .goto (-172), 3, 0, 0, 0, 0), (205, .iload_n 3, 1, 0, 0, 0, 0), (206, .ifCond .lt 7, 3, 0, 0, 0, 0), (209, .iload_n 1, 1, 0, 0, 0, 0), (210, .ifCond .ne 7, 3, 0, 0, 0, 0), (213, .iload_n 3, 1, 0, 0, 0, 0), (214, .goto 5, 3, 0, 0, 0, 0), (217, .iload 4, 2, 0, 0, 0, 0), (219, .ireturn, 1, 0, 0, 0, 0)]
def kL_152 : List kE := kL_152_0 ++ kL_152_1
-- 153: M.waits (IIII)I
def kL_153_0 : List kE := [(0, .iload_n 1, 1, 0, 0, 0, 0), (1, .i2l, 1, 0, 0, 0, 0), (2, .lconst 0, 1, 0, 0, 0, 0), (3, .ldc2_w 98, 3, 0, 0, 828, 99), (6, .invokestatic 90, 3, 1, 98, 825, 0), (9, .ifCond .eq 38, 3, 0, 0, 0, 0), (12, .iload_n 2, 1, 0, 0, 0, 0), (13, .i2l, 1, 0, 0, 0, 0), (14, .lconst 1, 1, 0, 0, 0, 0), (15, .ldc2_w 262, 3, 0, 0, 1023, 9), (18, .invokestatic 90, 3, 1, 98, 825, 0), (21, .ifCond .eq 26, 3, 0, 0, 0, 0), (24, .iload_n 3, 1, 0, 0, 0, 0), (25, .i2l, 1, 0, 0, 0, 0), (26, .lconst 0, 1, 0, 0, 0, 0), (27, .ldc2_w 262, 3, 0, 0, 1023, 9), (30, .invokestatic 90, 3, 1, 98, 825, 0), (33, .ifCond .eq 14, 3, 0, 0, 0, 0), (36, .iload 4, 2, 0, 0, 0, 0), (38, .i2l, 1, 0, 0, 0, 0), (39, .lconst 0, 1, 0, 0, 0, 0), (40, .lconst 1, 1, 0, 0, 0, 0), (41, .invokestatic 90, 3, 1, 98, 825, 0), (44, .ifCond .ne 6, 3, 0, 0, 0, 0), (47, .bipush (-2), 2, 0, 0, 0, 0), (49, .ireturn, 1, 0, 0, 0, 0), (50, .iconst 0, 1, 0, 0, 0, 0), (51, .istore 5, 2, 0, 0, 0, 0), (53, .iload 5, 2, 0, 0, 0, 0), (55, .iload_n 1, 1, 0, 0, 0, 0), (56, .if_icmp .gt 24, 3, 0, 0, 0, 0), (59, .aload_n 0, 1, 0, 0, 0, 0), (60, .getfield 75, 3, 9, 32, 736, 0), (63, .iload 5, 2, 0, 0, 0, 0), (65, .aload_n 0, 1, 0, 0, 0, 0), (66, .iload 5, 2, 0, 0, 0, 0), (68, .iload_n 2, 1, 0, 0, 0, 0), (69, .iload_n 3, 1, 0, 0, 0, 0), (70, .invokevirtual 283, 3, 0, 154, 1062, 0), (73, .iastore, 1, 0, 0, 0, 0), (74, .iinc 5 1, 3, 0, 0, 0, 0), (77, .goto (-24), 3, 0, 0, 0, 0), (80, .aload_n 0, 1, 0, 0, 0, 0), (81, .getfield 75, 3, 9, 32, 736, 0), (84, .iload_n 1, 1, 0, 0, 0, 0), (85, .iaload, 1, 0, 0, 0, 0), (86, .istore 5, 2, 0, 0, 0, 0), (88, .iload 4, 2, 0, 0, 0, 0), (90, .ifCond .ne 16, 3, 0, 0, 0, 0), (93, .iload 5, 2, 0, 0, 0, 0), (95, .ifCond .le 7, 3, 0, 0, 0, 0), (98, .iconst 1, 1, 0, 0, 0, 0), (99, .goto 19, 3, 0, 0, 0, 0), (102, .iconst 0, 1, 0, 0, 0, 0), (103, .goto 15, 3, 0, 0, 0, 0), (106, .iload 5, 2, 0, 0, 0, 0), (108, .ifCond .le 8, 3, 0, 0, 0, 0), (111, .iload 5, 2, 0, 0, 0, 0), (113, .goto 5, 3, 0, 0, 0, 0), (116, .bipush (-6), 2, 0, 0, 0, 0)]
def kL_153_1 : List kE := [(118, .ireturn, 1, 0, 0, 0, 0)]
def kL_153 : List kE := kL_153_0 ++ kL_153_1
-- 154: M.bestTake (III)I
def kL_154 : List kE := [(0, .iconst 0, 1, 0, 0, 0, 0), (1, .istore 4, 2, 0, 0, 0, 0), (3, .iload_n 2, 1, 0, 0, 0, 0), (4, .istore 5, 2, 0, 0, 0, 0), (6, .iload 5, 2, 0, 0, 0, 0), (8, .ifCond .le 68, 3, 0, 0, 0, 0), (11, .iload 5, 2, 0, 0, 0, 0), (13, .iload_n 1, 1, 0, 0, 0, 0), (14, .if_icmp .gt 18, 3, 0, 0, 0, 0), (17, .iload_n 1, 1, 0, 0, 0, 0), (18, .iload 5, 2, 0, 0, 0, 0), (20, .isub, 1, 0, 0, 0, 0), (21, .bipush 10, 2, 0, 0, 0, 0), (23, .irem, 1, 0, 0, 0, 0), (24, .iload_n 3, 1, 0, 0, 0, 0), (25, .if_icmp .eq 7, 3, 0, 0, 0, 0), (28, .iconst 1, 1, 0, 0, 0, 0), (29, .goto 4, 3, 0, 0, 0, 0), (32, .iconst 0, 1, 0, 0, 0, 0), (33, .istore 6, 2, 0, 0, 0, 0), (35, .iload 6, 2, 0, 0, 0, 0), (37, .ifCond .eq 29, 3, 0, 0, 0, 0), (40, .aload_n 0, 1, 0, 0, 0, 0), (41, .getfield 75, 3, 9, 32, 736, 0), (44, .iload_n 1, 1, 0, 0, 0, 0), (45, .iload 6, 2, 0, 0, 0, 0), (47, .ifCond .eq 8, 3, 0, 0, 0, 0), (50, .iload 5, 2, 0, 0, 0, 0), (52, .goto 4, 3, 0, 0, 0, 0), (55, .iconst 0, 1, 0, 0, 0, 0), (56, .isub, 1, 0, 0, 0, 0), (57, .iaload, 1, 0, 0, 0, 0), (58, .ifCond .ne 8, 3, 0, 0, 0, 0), (61, .iload 5, 2, 0, 0, 0, 0), (63, .goto 5, 3, 0, 0, 0, 0), (66, .iload 4, 2, 0, 0, 0, 0), (68, .istore 4, 2, 0, 0, 0, 0), (70, .iinc 5 (-1), 3, 0, 0, 0, 0), (73, .goto (-67), 3, 0, 0, 0, 0), (76, .iload 4, 2, 0, 0, 0, 0), (78, .ireturn, 1, 0, 0, 0, 0)]
-- 155: M.door (IIIII)J
def kL_155_0 : List kE := [(0, .iload_n 1, 1, 0, 0, 0, 0), (1, .iload_n 2, 1, 0, 0, 0, 0), (2, .iload_n 3, 1, 0, 0, 0, 0), (3, .invokestatic 290, 3, 1, 156, 1070, 0), (6, .ifCond .eq 25, 3, 0, 0, 0, 0), (9, .iload 4, 2, 0, 0, 0, 0), (11, .i2l, 1, 0, 0, 0, 0), (12, .lconst 0, 1, 0, 0, 0, 0), (13, .lconst 1, 1, 0, 0, 0, 0), (14, .invokestatic 90, 3, 1, 98, 825, 0), (17, .ifCond .eq 14, 3, 0, 0, 0, 0), (20, .iload 5, 2, 0, 0, 0, 0), (22, .i2l, 1, 0, 0, 0, 0), (23, .lconst 0, 1, 0, 0, 0, 0), (24, .lconst 1, 1, 0, 0, 0, 0), (25, .invokestatic 90, 3, 1, 98, 825, 0), (28, .ifCond .ne 7, 3, 0, 0, 0, 0), (31, .ldc2_w 294, 3, 0, 0, 1075, -1000000000000000002), (34, .lreturn, 1, 0, 0, 0, 0), (35, .iload 4, 2, 0, 0, 0, 0), (37, .ifCond .ne 7, 3, 0, 0, 0, 0), (40, .iload_n 3, 1, 0, 0, 0, 0), (41, .goto 4, 3, 0, 0, 0, 0), (44, .iload_n 1, 1, 0, 0, 0, 0), (45, .istore 6, 2, 0, 0, 0, 0), (47, .lconst 1, 1, 0, 0, 0, 0), (48, .lstore 7, 2, 0, 0, 0, 0), (50, .lconst 1, 1, 0, 0, 0, 0), (51, .lstore 9, 2, 0, 0, 0, 0), (53, .lconst 0, 1, 0, 0, 0, 0), (54, .lstore 11, 2, 0, 0, 0, 0), (56, .iconst 0, 1, 0, 0, 0, 0), (57, .istore 13, 2, 0, 0, 0, 0), (59, .iload 13, 2, 0, 0, 0, 0), (61, .iload 6, 2, 0, 0, 0, 0), (63, .if_icmp .ge 39, 3, 0, 0, 0, 0), (66, .lload 7, 2, 0, 0, 0, 0), (68, .ldc2_w 288, 3, 0, 0, 1074, 10), (71, .lmul, 1, 0, 0, 0, 0), (72, .lstore 7, 2, 0, 0, 0, 0), (74, .lload 9, 2, 0, 0, 0, 0), (76, .ldc2_w 288, 3, 0, 0, 1074, 10), (79, .iload_n 2, 1, 0, 0, 0, 0), (80, .i2l, 1, 0, 0, 0, 0), (81, .lsub, 1, 0, 0, 0, 0), (82, .lmul, 1, 0, 0, 0, 0), (83, .lstore 9, 2, 0, 0, 0, 0), (85, .ldc2_w 288, 3, 0, 0, 1074, 10), (88, .lload 11, 2, 0, 0, 0, 0), (90, .lmul, 1, 0, 0, 0, 0), (91, .lload 9, 2, 0, 0, 0, 0), (93, .ladd, 1, 0, 0, 0, 0), (94, .lstore 11, 2, 0, 0, 0, 0), (96, .iinc 13 1, 3, 0, 0, 0, 0), (99, .goto (-40), 3, 0, 0, 0, 0), (102, .iload 4, 2, 0, 0, 0, 0), (104, .ifCond .ne 8, 3, 0, 0, 0, 0), (107, .lload 9, 2, 0, 0, 0, 0), (109, .goto 5, 3, 0, 0, 0, 0), (112, .lload 11, 2, 0, 0, 0, 0)]
def kL_155_1 : List kE := [(114, .lload 7, 2, 0, 0, 0, 0), (116, .iload 5, 2, 0, 0, 0, 0), (118, .invokestatic 296, 3, 1, 157, 1076, 0), (121, .lreturn, 1, 0, 0, 0, 0)]
def kL_155 : List kE := kL_155_0 ++ kL_155_1
-- 156: M.isDoor (III)Z
def kL_156 : List kE := [(0, .iload_n 0, 1, 0, 0, 0, 0), (1, .i2l, 1, 0, 0, 0, 0), (2, .lconst 0, 1, 0, 0, 0, 0), (3, .ldc2_w 286, 3, 0, 0, 1073, 15), (6, .invokestatic 90, 3, 1, 98, 825, 0), (9, .ifCond .eq 30, 3, 0, 0, 0, 0), (12, .iload_n 1, 1, 0, 0, 0, 0), (13, .i2l, 1, 0, 0, 0, 0), (14, .lconst 0, 1, 0, 0, 0, 0), (15, .ldc2_w 288, 3, 0, 0, 1074, 10), (18, .invokestatic 90, 3, 1, 98, 825, 0), (21, .ifCond .eq 18, 3, 0, 0, 0, 0), (24, .iload_n 2, 1, 0, 0, 0, 0), (25, .i2l, 1, 0, 0, 0, 0), (26, .lconst 0, 1, 0, 0, 0, 0), (27, .iload_n 0, 1, 0, 0, 0, 0), (28, .i2l, 1, 0, 0, 0, 0), (29, .invokestatic 90, 3, 1, 98, 825, 0), (32, .ifCond .eq 7, 3, 0, 0, 0, 0), (35, .iconst 1, 1, 0, 0, 0, 0), (36, .goto 4, 3, 0, 0, 0, 0), (39, .iconst 0, 1, 0, 0, 0, 0), (40, .ireturn, 1, 0, 0, 0, 0)]
-- 157: M.lowest (JJI)J
def kL_157 : List kE := [(0, .lload_n 2, 1, 0, 0, 0, 0), (1, .lstore 5, 2, 0, 0, 0, 0), (3, .lload_n 0, 1, 0, 0, 0, 0), (4, .lstore 7, 2, 0, 0, 0, 0), (6, .lload 7, 2, 0, 0, 0, 0), (8, .lconst 0, 1, 0, 0, 0, 0), (9, .lcmp, 1, 0, 0, 0, 0), (10, .ifCond .eq 21, 3, 0, 0, 0, 0), (13, .lload 5, 2, 0, 0, 0, 0), (15, .lload 7, 2, 0, 0, 0, 0), (17, .lrem, 1, 0, 0, 0, 0), (18, .lstore 9, 2, 0, 0, 0, 0), (20, .lload 7, 2, 0, 0, 0, 0), (22, .lstore 5, 2, 0, 0, 0, 0), (24, .lload 9, 2, 0, 0, 0, 0), (26, .lstore 7, 2, 0, 0, 0, 0), (28, .goto (-22), 3, 0, 0, 0, 0), (31, .iload 4, 2, 0, 0, 0, 0), (33, .ifCond .ne 10, 3, 0, 0, 0, 0), (36, .lload_n 0, 1, 0, 0, 0, 0), (37, .lload 5, 2, 0, 0, 0, 0), (39, .ldiv, 1, 0, 0, 0, 0), (40, .goto 7, 3, 0, 0, 0, 0), (43, .lload_n 2, 1, 0, 0, 0, 0), (44, .lload 5, 2, 0, 0, 0, 0), (46, .ldiv, 1, 0, 0, 0, 0), (47, .lreturn, 1, 0, 0, 0, 0)]
-- 158: M.year (III)I
def kL_158_0 : List kE := [(0, .iload_n 1, 1, 0, 0, 0, 0), (1, .i2l, 1, 0, 0, 0, 0), (2, .lconst 0, 1, 0, 0, 0, 0), (3, .ldc2_w 300, 3, 0, 0, 1083, 9999), (6, .invokestatic 90, 3, 1, 98, 825, 0), (9, .ifCond .eq 27, 3, 0, 0, 0, 0), (12, .iload_n 2, 1, 0, 0, 0, 0), (13, .i2l, 1, 0, 0, 0, 0), (14, .lconst 1, 1, 0, 0, 0, 0), (15, .ldc2_w 98, 3, 0, 0, 828, 99), (18, .invokestatic 90, 3, 1, 98, 825, 0), (21, .ifCond .eq 15, 3, 0, 0, 0, 0), (24, .iload_n 3, 1, 0, 0, 0, 0), (25, .i2l, 1, 0, 0, 0, 0), (26, .lconst 0, 1, 0, 0, 0, 0), (27, .ldc2_w 223, 3, 0, 0, 913, 2), (30, .invokestatic 90, 3, 1, 98, 825, 0), (33, .ifCond .ne 6, 3, 0, 0, 0, 0), (36, .bipush (-2), 2, 0, 0, 0, 0), (38, .ireturn, 1, 0, 0, 0, 0), (39, .aload_n 0, 1, 0, 0, 0, 0), (40, .invokevirtual 214, 3, 0, 120, 918, 0), (43, .iload_n 1, 1, 0, 0, 0, 0), (44, .istore 4, 2, 0, 0, 0, 0), (46, .iconst 0, 1, 0, 0, 0, 0), (47, .istore 5, 2, 0, 0, 0, 0), (49, .iload 5, 2, 0, 0, 0, 0), (51, .iload_n 2, 1, 0, 0, 0, 0), (52, .if_icmp .ge 49, 3, 0, 0, 0, 0), (55, .ldc2_w 302, 3, 0, 0, 1084, 75), (58, .iload 4, 2, 0, 0, 0, 0), (60, .i2l, 1, 0, 0, 0, 0), (61, .lmul, 1, 0, 0, 0, 0), (62, .ldc2_w 304, 3, 0, 0, 1085, 74), (65, .ladd, 1, 0, 0, 0, 0), (66, .ldc2_w 306, 3, 0, 0, 1086, 65537), (69, .lrem, 1, 0, 0, 0, 0), (70, .l2i, 1, 0, 0, 0, 0), (71, .istore 4, 2, 0, 0, 0, 0), (73, .aload_n 0, 1, 0, 0, 0, 0), (74, .iload 4, 2, 0, 0, 0, 0), (76, .bipush 8, 2, 0, 0, 0, 0), (78, .irem, 1, 0, 0, 0, 0), (79, .iload 4, 2, 0, 0, 0, 0), (81, .bipush 8, 2, 0, 0, 0, 0), (83, .idiv, 1, 0, 0, 0, 0), (84, .bipush 8, 2, 0, 0, 0, 0), (86, .irem, 1, 0, 0, 0, 0), (87, .iload 4, 2, 0, 0, 0, 0), (89, .bipush 64, 2, 0, 0, 0, 0), (91, .idiv, 1, 0, 0, 0, 0), (92, .invokevirtual 308, 3, 0, 159, 1087, 0), (95, .iinc 5 1, 3, 0, 0, 0, 0), (98, .goto (-49), 3, 0, 0, 0, 0), (101, .aload_n 0, 1, 0, 0, 0, 0), (102, .iload_n 3, 1, 0, 0, 0, 0), (103, .ifCond .ne 10, 3, 0, 0, 0, 0), (106, .aload_n 0, 1, 0, 0, 0, 0), (107, .getfield 175, 3, 9, 6, 710, 0), (110, .goto 22, 3, 0, 0, 0, 0)]
def kL_158_1 : List kE := [(113, .iload_n 3, 1, 0, 0, 0, 0), (114, .iconst 1, 1, 0, 0, 0, 0), (115, .if_icmp .ne 10, 3, 0, 0, 0, 0), (118, .aload_n 0, 1, 0, 0, 0, 0), (119, .getfield 116, 3, 9, 5, 709, 0), (122, .goto 10, 3, 0, 0, 0, 0), (125, .aload_n 0, 1, 0, 0, 0, 0), (126, .getfield 84, 3, 9, 0, 704, 0), (129, .invokestatic 106, 3, 1, 101, 837, 0), (132, .invokevirtual 228, 3, 0, 129, 956, 0), (135, .ireturn, 1, 0, 0, 0, 0)]
def kL_158 : List kE := kL_158_0 ++ kL_158_1
-- 159: M.yearOne (III)V
def kL_159_0 : List kE := [(0, .iload_n 3, 1, 0, 0, 0, 0), (1, .bipush 8, 2, 0, 0, 0, 0), (3, .irem, 1, 0, 0, 0, 0), (4, .istore 4, 2, 0, 0, 0, 0), (6, .iload_n 2, 1, 0, 0, 0, 0), (7, .iconst 3, 1, 0, 0, 0, 0), (8, .if_icmp .ge 7, 3, 0, 0, 0, 0), (11, .iconst 0, 1, 0, 0, 0, 0), (12, .goto 32, 3, 0, 0, 0, 0), (15, .iload_n 2, 1, 0, 0, 0, 0), (16, .iconst 5, 1, 0, 0, 0, 0), (17, .if_icmp .ge 7, 3, 0, 0, 0, 0), (20, .iconst 1, 1, 0, 0, 0, 0), (21, .goto 23, 3, 0, 0, 0, 0), (24, .iload_n 2, 1, 0, 0, 0, 0), (25, .iconst 5, 1, 0, 0, 0, 0), (26, .if_icmp .ne 7, 3, 0, 0, 0, 0), (29, .iconst 2, 1, 0, 0, 0, 0), (30, .goto 14, 3, 0, 0, 0, 0), (33, .iload_n 2, 1, 0, 0, 0, 0), (34, .bipush 6, 2, 0, 0, 0, 0), (36, .if_icmp .ne 7, 3, 0, 0, 0, 0), (39, .iconst 4, 1, 0, 0, 0, 0), (40, .goto 4, 3, 0, 0, 0, 0), (43, .iconst 3, 1, 0, 0, 0, 0), (44, .istore 5, 2, 0, 0, 0, 0), (46, .iload_n 2, 1, 0, 0, 0, 0), (47, .bipush 7, 2, 0, 0, 0, 0), (49, .if_icmp .lt 10, 3, 0, 0, 0, 0), (52, .iload_n 3, 1, 0, 0, 0, 0), (53, .bipush 16, 2, 0, 0, 0, 0), (55, .irem, 1, 0, 0, 0, 0), (56, .ifCond .ne 7, 3, 0, 0, 0, 0), (59, .iconst 1, 1, 0, 0, 0, 0), (60, .goto 4, 3, 0, 0, 0, 0), (63, .iconst 0, 1, 0, 0, 0, 0), (64, .istore 6, 2, 0, 0, 0, 0), (66, .iload 6, 2, 0, 0, 0, 0), (68, .ifCond .eq 15, 3, 0, 0, 0, 0), (71, .aload_n 0, 1, 0, 0, 0, 0), (72, .iload 5, 2, 0, 0, 0, 0), (74, .iload_n 1, 1, 0, 0, 0, 0), (75, .iload 4, 2, 0, 0, 0, 0), (77, .invokevirtual 205, 3, 0, 122, 927, 0), (80, .ifCond .eq 4, 3, 0, 0, 0, 0), (83, .return_, 1, 0, 0, 0, 0), (84, .iload 5, 2, 0, 0, 0, 0), (86, .iconst 1, 1, 0, 0, 0, 0), (87, .if_icmp .ne 15, 3, 0, 0, 0, 0), (90, .aload_n 0, 1, 0, 0, 0, 0), (91, .iload_n 1, 1, 0, 0, 0, 0), (92, .iload_n 3, 1, 0, 0, 0, 0), (93, .bipush 10, 2, 0, 0, 0, 0), (95, .irem, 1, 0, 0, 0, 0), (96, .invokevirtual 185, 3, 0, 125, 940, 0), (99, .goto 12, 3, 0, 0, 0, 0), (102, .aload_n 0, 1, 0, 0, 0, 0), (103, .iload 5, 2, 0, 0, 0, 0), (105, .iload_n 1, 1, 0, 0, 0, 0), (106, .iload 4, 2, 0, 0, 0, 0)]
def kL_159_1 : List kE := [(108, .invokevirtual 189, 3, 0, 126, 944, 0), (111, .return_, 1, 0, 0, 0, 0)]
def kL_159 : List kE := kL_159_0 ++ kL_159_1
-- 160: M.image (I)I
def kL_160 : List kE := [(0, .iload_n 1, 1, 0, 0, 0, 0), (1, .i2l, 1, 0, 0, 0, 0), (2, .lconst 0, 1, 0, 0, 0, 0), (3, .lconst 1, 1, 0, 0, 0, 0), (4, .invokestatic 90, 3, 1, 98, 825, 0), (7, .ifCond .ne 6, 3, 0, 0, 0, 0), (10, .bipush (-2), 2, 0, 0, 0, 0), (12, .ireturn, 1, 0, 0, 0, 0), (13, .aload_n 0, 1, 0, 0, 0, 0), (14, .bipush 90, 2, 0, 0, 0, 0), (16, .iload_n 1, 1, 0, 0, 0, 0), (17, .imul, 1, 0, 0, 0, 0), (18, .putfield 315, 3, 9, 35, 739, 0), (21, .aload_n 0, 1, 0, 0, 0, 0), (22, .iconst 1, 1, 0, 0, 0, 0), (23, .putfield 311, 3, 9, 36, 740, 0), (26, .aload_n 0, 1, 0, 0, 0, 0), (27, .invokevirtual 325, 3, 0, 161, 1095, 0), (30, .aload_n 0, 1, 0, 0, 0, 0), (31, .getfield 81, 3, 9, 34, 738, 0), (34, .iload_n 1, 1, 0, 0, 0, 0), (35, .iconst 1, 1, 0, 0, 0, 0), (36, .bastore, 1, 0, 0, 0, 0), (37, .iconst 1, 1, 0, 0, 0, 0), (38, .ireturn, 1, 0, 0, 0, 0)]
-- 161: M.passAll ()V
def kL_161_0 : List kE := [(0, .aload_n 0, 1, 0, 0, 0, 0), (1, .aload_n 0, 1, 0, 0, 0, 0), (2, .aload_n 0, 1, 0, 0, 0, 0), (3, .getfield 84, 3, 9, 0, 704, 0), (6, .invokevirtual 318, 3, 0, 162, 1099, 0), (9, .putfield 84, 3, 9, 0, 704, 0), (12, .aload_n 0, 1, 0, 0, 0, 0), (13, .aload_n 0, 1, 0, 0, 0, 0), (14, .aload_n 0, 1, 0, 0, 0, 0), (15, .getfield 116, 3, 9, 5, 709, 0), (18, .invokevirtual 318, 3, 0, 162, 1099, 0), (21, .putfield 116, 3, 9, 5, 709, 0), (24, .aload_n 0, 1, 0, 0, 0, 0), (25, .aload_n 0, 1, 0, 0, 0, 0), (26, .aload_n 0, 1, 0, 0, 0, 0), (27, .getfield 175, 3, 9, 6, 710, 0), (30, .invokevirtual 318, 3, 0, 162, 1099, 0), (33, .putfield 175, 3, 9, 6, 710, 0), (36, .aload_n 0, 1, 0, 0, 0, 0), (37, .aload_n 0, 1, 0, 0, 0, 0), (38, .aload_n 0, 1, 0, 0, 0, 0), (39, .getfield 269, 3, 9, 13, 717, 0), (42, .invokevirtual 318, 3, 0, 162, 1099, 0), (45, .putfield 269, 3, 9, 13, 717, 0), (48, .aload_n 0, 1, 0, 0, 0, 0), (49, .aload_n 0, 1, 0, 0, 0, 0), (50, .getfield 7, 3, 9, 1, 705, 0), (53, .bipush 8, 2, 0, 0, 0, 0), (55, .invokevirtual 321, 3, 0, 163, 1103, 0), (58, .aload_n 0, 1, 0, 0, 0, 0), (59, .aload_n 0, 1, 0, 0, 0, 0), (60, .getfield 13, 3, 9, 2, 706, 0), (63, .bipush 8, 2, 0, 0, 0, 0), (65, .invokevirtual 321, 3, 0, 163, 1103, 0), (68, .aload_n 0, 1, 0, 0, 0, 0), (69, .aload_n 0, 1, 0, 0, 0, 0), (70, .getfield 16, 3, 9, 3, 707, 0), (73, .bipush 8, 2, 0, 0, 0, 0), (75, .invokevirtual 321, 3, 0, 163, 1103, 0), (78, .aload_n 0, 1, 0, 0, 0, 0), (79, .aload_n 0, 1, 0, 0, 0, 0), (80, .getfield 19, 3, 9, 4, 708, 0), (83, .bipush 8, 2, 0, 0, 0, 0), (85, .invokevirtual 321, 3, 0, 163, 1103, 0), (88, .aload_n 0, 1, 0, 0, 0, 0), (89, .aload_n 0, 1, 0, 0, 0, 0), (90, .getfield 22, 3, 9, 7, 711, 0), (93, .bipush 6, 2, 0, 0, 0, 0), (95, .invokevirtual 321, 3, 0, 163, 1103, 0), (98, .aload_n 0, 1, 0, 0, 0, 0), (99, .aload_n 0, 1, 0, 0, 0, 0), (100, .getfield 25, 3, 9, 8, 712, 0), (103, .bipush 6, 2, 0, 0, 0, 0), (105, .invokevirtual 321, 3, 0, 163, 1103, 0), (108, .aload_n 0, 1, 0, 0, 0, 0), (109, .aload_n 0, 1, 0, 0, 0, 0), (110, .getfield 28, 3, 9, 9, 713, 0), (113, .bipush 6, 2, 0, 0, 0, 0), (115, .invokevirtual 321, 3, 0, 163, 1103, 0), (118, .aload_n 0, 1, 0, 0, 0, 0)]
def kL_161_1 : List kE := [(119, .aload_n 0, 1, 0, 0, 0, 0), (120, .getfield 31, 3, 9, 10, 714, 0), (123, .bipush 8, 2, 0, 0, 0, 0), (125, .invokevirtual 321, 3, 0, 163, 1103, 0), (128, .aload_n 0, 1, 0, 0, 0, 0), (129, .aload_n 0, 1, 0, 0, 0, 0), (130, .getfield 34, 3, 9, 11, 715, 0), (133, .bipush 8, 2, 0, 0, 0, 0), (135, .invokevirtual 321, 3, 0, 163, 1103, 0), (138, .aload_n 0, 1, 0, 0, 0, 0), (139, .aload_n 0, 1, 0, 0, 0, 0), (140, .getfield 37, 3, 9, 12, 716, 0), (143, .bipush 8, 2, 0, 0, 0, 0), (145, .invokevirtual 321, 3, 0, 163, 1103, 0), (148, .return_, 1, 0, 0, 0, 0)]
def kL_161 : List kE := kL_161_0 ++ kL_161_1
-- 162: M.pass (I)I
def kL_162 : List kE := [(0, .aload_n 0, 1, 0, 0, 0, 0), (1, .getfield 311, 3, 9, 36, 740, 0), (4, .ifCond .eq 7, 3, 0, 0, 0, 0), (7, .iload_n 1, 1, 0, 0, 0, 0), (8, .goto 12, 3, 0, 0, 0, 0), (11, .aload_n 0, 1, 0, 0, 0, 0), (12, .getfield 78, 3, 9, 33, 737, 0), (15, .aload_n 0, 1, 0, 0, 0, 0), (16, .getfield 315, 3, 9, 35, 739, 0), (19, .iaload, 1, 0, 0, 0, 0), (20, .istore_n 2, 1, 0, 0, 0, 0), (21, .aload_n 0, 1, 0, 0, 0, 0), (22, .getfield 78, 3, 9, 33, 737, 0), (25, .aload_n 0, 1, 0, 0, 0, 0), (26, .getfield 315, 3, 9, 35, 739, 0), (29, .iload_n 2, 1, 0, 0, 0, 0), (30, .iastore, 1, 0, 0, 0, 0), (31, .aload_n 0, 1, 0, 0, 0, 0), (32, .dup, 1, 0, 0, 0, 0), (33, .getfield 315, 3, 9, 35, 739, 0), (36, .iconst 1, 1, 0, 0, 0, 0), (37, .iadd, 1, 0, 0, 0, 0), (38, .putfield 315, 3, 9, 35, 739, 0), (41, .iload_n 2, 1, 0, 0, 0, 0), (42, .ireturn, 1, 0, 0, 0, 0)]
-- 163: M.passRow ([II)V
def kL_163 : List kE := [(0, .iconst 0, 1, 0, 0, 0, 0), (1, .istore_n 3, 1, 0, 0, 0, 0), (2, .iload_n 3, 1, 0, 0, 0, 0), (3, .iload_n 2, 1, 0, 0, 0, 0), (4, .if_icmp .ge 19, 3, 0, 0, 0, 0), (7, .aload_n 1, 1, 0, 0, 0, 0), (8, .iload_n 3, 1, 0, 0, 0, 0), (9, .aload_n 0, 1, 0, 0, 0, 0), (10, .aload_n 1, 1, 0, 0, 0, 0), (11, .iload_n 3, 1, 0, 0, 0, 0), (12, .iaload, 1, 0, 0, 0, 0), (13, .invokevirtual 318, 3, 0, 162, 1099, 0), (16, .iastore, 1, 0, 0, 0, 0), (17, .iinc 3 1, 3, 0, 0, 0, 0), (20, .goto (-18), 3, 0, 0, 0, 0), (23, .return_, 1, 0, 0, 0, 0)]
-- 164: M.restore (I)I
def kL_164 : List kE := [(0, .iload_n 1, 1, 0, 0, 0, 0), (1, .i2l, 1, 0, 0, 0, 0), (2, .lconst 0, 1, 0, 0, 0, 0), (3, .lconst 1, 1, 0, 0, 0, 0), (4, .invokestatic 90, 3, 1, 98, 825, 0), (7, .ifCond .ne 6, 3, 0, 0, 0, 0), (10, .bipush (-2), 2, 0, 0, 0, 0), (12, .ireturn, 1, 0, 0, 0, 0), (13, .aload_n 0, 1, 0, 0, 0, 0), (14, .getfield 81, 3, 9, 34, 738, 0), (17, .iload_n 1, 1, 0, 0, 0, 0), (18, .baload, 1, 0, 0, 0, 0), (19, .ifCond .ne 6, 3, 0, 0, 0, 0), (22, .bipush (-3), 2, 0, 0, 0, 0), (24, .ireturn, 1, 0, 0, 0, 0), (25, .aload_n 0, 1, 0, 0, 0, 0), (26, .bipush 90, 2, 0, 0, 0, 0), (28, .iload_n 1, 1, 0, 0, 0, 0), (29, .imul, 1, 0, 0, 0, 0), (30, .putfield 315, 3, 9, 35, 739, 0), (33, .aload_n 0, 1, 0, 0, 0, 0), (34, .iconst 0, 1, 0, 0, 0, 0), (35, .putfield 311, 3, 9, 36, 740, 0), (38, .aload_n 0, 1, 0, 0, 0, 0), (39, .invokevirtual 325, 3, 0, 161, 1095, 0), (42, .iconst 1, 1, 0, 0, 0, 0), (43, .ireturn, 1, 0, 0, 0, 0)]
-- 165: M.told (I)I
def kL_165_0 : List kE := [(0, .iload_n 1, 1, 0, 0, 0, 0), (1, .i2l, 1, 0, 0, 0, 0), (2, .ldc2_w 328, 3, 0, 0, 1115, 100), (5, .ldc2_w 330, 3, 0, 0, 1116, 179), (8, .invokestatic 90, 3, 1, 98, 825, 0), (11, .ifCond .eq 19, 3, 0, 0, 0, 0), (14, .aload_n 0, 1, 0, 0, 0, 0), (15, .iload_n 1, 1, 0, 0, 0, 0), (16, .bipush 100, 2, 0, 0, 0, 0), (18, .isub, 1, 0, 0, 0, 0), (19, .bipush 10, 2, 0, 0, 0, 0), (21, .idiv, 1, 0, 0, 0, 0), (22, .iload_n 1, 1, 0, 0, 0, 0), (23, .bipush 10, 2, 0, 0, 0, 0), (25, .irem, 1, 0, 0, 0, 0), (26, .invokevirtual 332, 3, 0, 166, 1117, 0), (29, .ireturn, 1, 0, 0, 0, 0), (30, .iload_n 1, 1, 0, 0, 0, 0), (31, .i2l, 1, 0, 0, 0, 0), (32, .ldc2_w 231, 3, 0, 0, 980, 20), (35, .ldc2_w 335, 3, 0, 0, 1121, 79), (38, .invokestatic 90, 3, 1, 98, 825, 0), (41, .ifCond .eq 19, 3, 0, 0, 0, 0), (44, .aload_n 0, 1, 0, 0, 0, 0), (45, .iload_n 1, 1, 0, 0, 0, 0), (46, .bipush 20, 2, 0, 0, 0, 0), (48, .isub, 1, 0, 0, 0, 0), (49, .bipush 10, 2, 0, 0, 0, 0), (51, .idiv, 1, 0, 0, 0, 0), (52, .iload_n 1, 1, 0, 0, 0, 0), (53, .bipush 10, 2, 0, 0, 0, 0), (55, .irem, 1, 0, 0, 0, 0), (56, .invokevirtual 337, 3, 0, 167, 1122, 0), (59, .ireturn, 1, 0, 0, 0, 0), (60, .iload_n 1, 1, 0, 0, 0, 0), (61, .i2l, 1, 0, 0, 0, 0), (62, .ldc2_w 288, 3, 0, 0, 1074, 10), (65, .ldc2_w 340, 3, 0, 0, 1126, 17), (68, .invokestatic 90, 3, 1, 98, 825, 0), (71, .ifCond .eq 13, 3, 0, 0, 0, 0), (74, .aload_n 0, 1, 0, 0, 0, 0), (75, .getfield 19, 3, 9, 4, 708, 0), (78, .iload_n 1, 1, 0, 0, 0, 0), (79, .bipush 10, 2, 0, 0, 0, 0), (81, .isub, 1, 0, 0, 0, 0), (82, .iaload, 1, 0, 0, 0, 0), (83, .ireturn, 1, 0, 0, 0, 0), (84, .iload_n 1, 1, 0, 0, 0, 0), (85, .tableswitch 60 0 4 #[35, 40, 45, 50, 55], 35, 0, 0, 0, 0), (120, .aload_n 0, 1, 0, 0, 0, 0), (121, .getfield 125, 3, 9, 15, 719, 0), (124, .ireturn, 1, 0, 0, 0, 0), (125, .aload_n 0, 1, 0, 0, 0, 0), (126, .getfield 84, 3, 9, 0, 704, 0), (129, .ireturn, 1, 0, 0, 0, 0), (130, .aload_n 0, 1, 0, 0, 0, 0), (131, .getfield 116, 3, 9, 5, 709, 0), (134, .ireturn, 1, 0, 0, 0, 0), (135, .aload_n 0, 1, 0, 0, 0, 0), (136, .getfield 175, 3, 9, 6, 710, 0)]
def kL_165_1 : List kE := [(139, .ireturn, 1, 0, 0, 0, 0), (140, .aload_n 0, 1, 0, 0, 0, 0), (141, .getfield 269, 3, 9, 13, 717, 0), (144, .ireturn, 1, 0, 0, 0, 0), (145, .bipush (-2), 2, 0, 0, 0, 0), (147, .ireturn, 1, 0, 0, 0, 0)]
def kL_165 : List kE := kL_165_0 ++ kL_165_1
-- 166: M.ofKin (II)I
def kL_166 : List kE := [(0, .iload_n 2, 1, 0, 0, 0, 0), (1, .ifCond .ne 12, 3, 0, 0, 0, 0), (4, .aload_n 0, 1, 0, 0, 0, 0), (5, .getfield 7, 3, 9, 1, 705, 0), (8, .iload_n 1, 1, 0, 0, 0, 0), (9, .iaload, 1, 0, 0, 0, 0), (10, .goto 33, 3, 0, 0, 0, 0), (13, .iload_n 2, 1, 0, 0, 0, 0), (14, .iconst 1, 1, 0, 0, 0, 0), (15, .if_icmp .ne 12, 3, 0, 0, 0, 0), (18, .aload_n 0, 1, 0, 0, 0, 0), (19, .getfield 13, 3, 9, 2, 706, 0), (22, .iload_n 1, 1, 0, 0, 0, 0), (23, .iaload, 1, 0, 0, 0, 0), (24, .goto 19, 3, 0, 0, 0, 0), (27, .iload_n 2, 1, 0, 0, 0, 0), (28, .iconst 2, 1, 0, 0, 0, 0), (29, .if_icmp .ne 12, 3, 0, 0, 0, 0), (32, .aload_n 0, 1, 0, 0, 0, 0), (33, .getfield 16, 3, 9, 3, 707, 0), (36, .iload_n 1, 1, 0, 0, 0, 0), (37, .iaload, 1, 0, 0, 0, 0), (38, .goto 5, 3, 0, 0, 0, 0), (41, .bipush (-2), 2, 0, 0, 0, 0), (43, .ireturn, 1, 0, 0, 0, 0)]
-- 167: M.ofTask (II)I
def kL_167 : List kE := [(0, .iload_n 2, 1, 0, 0, 0, 0), (1, .ifCond .ne 12, 3, 0, 0, 0, 0), (4, .aload_n 0, 1, 0, 0, 0, 0), (5, .getfield 22, 3, 9, 7, 711, 0), (8, .iload_n 1, 1, 0, 0, 0, 0), (9, .iaload, 1, 0, 0, 0, 0), (10, .goto 33, 3, 0, 0, 0, 0), (13, .iload_n 2, 1, 0, 0, 0, 0), (14, .iconst 1, 1, 0, 0, 0, 0), (15, .if_icmp .ne 12, 3, 0, 0, 0, 0), (18, .aload_n 0, 1, 0, 0, 0, 0), (19, .getfield 25, 3, 9, 8, 712, 0), (22, .iload_n 1, 1, 0, 0, 0, 0), (23, .iaload, 1, 0, 0, 0, 0), (24, .goto 19, 3, 0, 0, 0, 0), (27, .iload_n 2, 1, 0, 0, 0, 0), (28, .iconst 2, 1, 0, 0, 0, 0), (29, .if_icmp .ne 12, 3, 0, 0, 0, 0), (32, .aload_n 0, 1, 0, 0, 0, 0), (33, .getfield 28, 3, 9, 9, 713, 0), (36, .iload_n 1, 1, 0, 0, 0, 0), (37, .iaload, 1, 0, 0, 0, 0), (38, .goto 5, 3, 0, 0, 0, 0), (41, .bipush (-2), 2, 0, 0, 0, 0), (43, .ireturn, 1, 0, 0, 0, 0)]
-- 168: Law.law ([I)Z
def kL_168_0 : List kE := [(0, .new 7, 3, 8, 0, 68, 0), (3, .dup, 1, 0, 0, 0, 0), (4, .invokespecial 9, 3, 2, 0, 70, 0), (7, .astore_n 1, 1, 0, 0, 0, 0), (8, .new 10, 3, 9, 0, 698, 0), (11, .dup, 1, 0, 0, 0, 0), (12, .invokespecial 12, 3, 2, 95, 700, 0), (15, .astore_n 2, 1, 0, 0, 0, 0), (16, .iconst 0, 1, 0, 0, 0, 0), (17, .istore_n 3, 1, 0, 0, 0, 0), (18, .iload_n 3, 1, 0, 0, 0, 0), (19, .aload_n 0, 1, 0, 0, 0, 0), (20, .arraylength, 1, 0, 0, 0, 0), (21, .bipush 6, 2, 0, 0, 0, 0), (23, .isub, 1, 0, 0, 0, 0), (24, .if_icmp .gt 1002, 3, 0, 0, 0, 0), (27, .aload_n 0, 1, 0, 0, 0, 0), (28, .iload_n 3, 1, 0, 0, 0, 0), (29, .iaload, 1, 0, 0, 0, 0), (30, .bipush 31, 2, 0, 0, 0, 0), (32, .iand, 1, 0, 0, 0, 0), (33, .tableswitch 987 0 26 #[123, 176, 235, 258, 311, 334, 347, 360, 383, 416, 439, 462, 475, 508, 521, 564, 587, 640, 699, 712, 735, 758, 811, 875, 918, 941, 964], 123, 0, 0, 0, 0), (156, .aload_n 1, 1, 0, 0, 0, 0), (157, .aload_n 0, 1, 0, 0, 0, 0), (158, .iload_n 3, 1, 0, 0, 0, 0), (159, .iconst 1, 1, 0, 0, 0, 0), (160, .iadd, 1, 0, 0, 0, 0), (161, .iaload, 1, 0, 0, 0, 0), (162, .aload_n 0, 1, 0, 0, 0, 0), (163, .iload_n 3, 1, 0, 0, 0, 0), (164, .iconst 2, 1, 0, 0, 0, 0), (165, .iadd, 1, 0, 0, 0, 0), (166, .iaload, 1, 0, 0, 0, 0), (167, .aload_n 0, 1, 0, 0, 0, 0), (168, .iload_n 3, 1, 0, 0, 0, 0), (169, .iconst 3, 1, 0, 0, 0, 0), (170, .iadd, 1, 0, 0, 0, 0), (171, .iaload, 1, 0, 0, 0, 0), (172, .aload_n 0, 1, 0, 0, 0, 0), (173, .iload_n 3, 1, 0, 0, 0, 0), (174, .iconst 4, 1, 0, 0, 0, 0), (175, .iadd, 1, 0, 0, 0, 0), (176, .iaload, 1, 0, 0, 0, 0), (177, .invokevirtual 13, 3, 0, 10, 325, 0), (180, .aload_n 2, 1, 0, 0, 0, 0), (181, .aload_n 0, 1, 0, 0, 0, 0), (182, .iload_n 3, 1, 0, 0, 0, 0), (183, .iconst 1, 1, 0, 0, 0, 0), (184, .iadd, 1, 0, 0, 0, 0), (185, .iaload, 1, 0, 0, 0, 0), (186, .aload_n 0, 1, 0, 0, 0, 0), (187, .iload_n 3, 1, 0, 0, 0, 0), (188, .iconst 2, 1, 0, 0, 0, 0), (189, .iadd, 1, 0, 0, 0, 0), (190, .iaload, 1, 0, 0, 0, 0), (191, .aload_n 0, 1, 0, 0, 0, 0), (192, .iload_n 3, 1, 0, 0, 0, 0), (193, .iconst 3, 1, 0, 0, 0, 0), (194, .iadd, 1, 0, 0, 0, 0), (195, .iaload, 1, 0, 0, 0, 0)]
def kL_168_1 : List kE := [(196, .aload_n 0, 1, 0, 0, 0, 0), (197, .iload_n 3, 1, 0, 0, 0, 0), (198, .iconst 4, 1, 0, 0, 0, 0), (199, .iadd, 1, 0, 0, 0, 0), (200, .iaload, 1, 0, 0, 0, 0), (201, .invokevirtual 17, 3, 0, 96, 817, 0), (204, .if_icmp .eq 816, 3, 0, 0, 0, 0), (207, .iconst 0, 1, 0, 0, 0, 0), (208, .ireturn, 1, 0, 0, 0, 0), (209, .aload_n 1, 1, 0, 0, 0, 0), (210, .aload_n 0, 1, 0, 0, 0, 0), (211, .iload_n 3, 1, 0, 0, 0, 0), (212, .iconst 1, 1, 0, 0, 0, 0), (213, .iadd, 1, 0, 0, 0, 0), (214, .iaload, 1, 0, 0, 0, 0), (215, .aload_n 0, 1, 0, 0, 0, 0), (216, .iload_n 3, 1, 0, 0, 0, 0), (217, .iconst 2, 1, 0, 0, 0, 0), (218, .iadd, 1, 0, 0, 0, 0), (219, .iaload, 1, 0, 0, 0, 0), (220, .aload_n 0, 1, 0, 0, 0, 0), (221, .iload_n 3, 1, 0, 0, 0, 0), (222, .iconst 3, 1, 0, 0, 0, 0), (223, .iadd, 1, 0, 0, 0, 0), (224, .iaload, 1, 0, 0, 0, 0), (225, .ifCond .eq 7, 3, 0, 0, 0, 0), (228, .iconst 1, 1, 0, 0, 0, 0), (229, .goto 4, 3, 0, 0, 0, 0), (232, .iconst 0, 1, 0, 0, 0, 0), (233, .invokevirtual 18, 3, 0, 13, 335, 0), (236, .aload_n 2, 1, 0, 0, 0, 0), (237, .aload_n 0, 1, 0, 0, 0, 0), (238, .iload_n 3, 1, 0, 0, 0, 0), (239, .iconst 1, 1, 0, 0, 0, 0), (240, .iadd, 1, 0, 0, 0, 0), (241, .iaload, 1, 0, 0, 0, 0), (242, .aload_n 0, 1, 0, 0, 0, 0), (243, .iload_n 3, 1, 0, 0, 0, 0), (244, .iconst 2, 1, 0, 0, 0, 0), (245, .iadd, 1, 0, 0, 0, 0), (246, .iaload, 1, 0, 0, 0, 0), (247, .aload_n 0, 1, 0, 0, 0, 0), (248, .iload_n 3, 1, 0, 0, 0, 0), (249, .iconst 3, 1, 0, 0, 0, 0), (250, .iadd, 1, 0, 0, 0, 0), (251, .iaload, 1, 0, 0, 0, 0), (252, .ifCond .eq 7, 3, 0, 0, 0, 0), (255, .iconst 1, 1, 0, 0, 0, 0), (256, .goto 4, 3, 0, 0, 0, 0), (259, .iconst 0, 1, 0, 0, 0, 0), (260, .invokevirtual 22, 3, 0, 99, 830, 0), (263, .if_icmp .eq 757, 3, 0, 0, 0, 0), (266, .iconst 0, 1, 0, 0, 0, 0), (267, .ireturn, 1, 0, 0, 0, 0), (268, .aload_n 1, 1, 0, 0, 0, 0), (269, .aload_n 0, 1, 0, 0, 0, 0), (270, .iload_n 3, 1, 0, 0, 0, 0), (271, .iconst 1, 1, 0, 0, 0, 0), (272, .iadd, 1, 0, 0, 0, 0), (273, .iaload, 1, 0, 0, 0, 0)]
def kL_168_2 : List kE := [(274, .invokevirtual 23, 3, 0, 17, 354, 0), (277, .aload_n 2, 1, 0, 0, 0, 0), (278, .aload_n 0, 1, 0, 0, 0, 0), (279, .iload_n 3, 1, 0, 0, 0, 0), (280, .iconst 1, 1, 0, 0, 0, 0), (281, .iadd, 1, 0, 0, 0, 0), (282, .iaload, 1, 0, 0, 0, 0), (283, .invokevirtual 27, 3, 0, 102, 840, 0), (286, .if_icmp .eq 734, 3, 0, 0, 0, 0), (289, .iconst 0, 1, 0, 0, 0, 0), (290, .ireturn, 1, 0, 0, 0, 0), (291, .aload_n 1, 1, 0, 0, 0, 0), (292, .aload_n 0, 1, 0, 0, 0, 0), (293, .iload_n 3, 1, 0, 0, 0, 0), (294, .iconst 1, 1, 0, 0, 0, 0), (295, .iadd, 1, 0, 0, 0, 0), (296, .iaload, 1, 0, 0, 0, 0), (297, .aload_n 0, 1, 0, 0, 0, 0), (298, .iload_n 3, 1, 0, 0, 0, 0), (299, .iconst 2, 1, 0, 0, 0, 0), (300, .iadd, 1, 0, 0, 0, 0), (301, .iaload, 1, 0, 0, 0, 0), (302, .aload_n 0, 1, 0, 0, 0, 0), (303, .iload_n 3, 1, 0, 0, 0, 0), (304, .iconst 3, 1, 0, 0, 0, 0), (305, .iadd, 1, 0, 0, 0, 0), (306, .iaload, 1, 0, 0, 0, 0), (307, .aload_n 0, 1, 0, 0, 0, 0), (308, .iload_n 3, 1, 0, 0, 0, 0), (309, .iconst 4, 1, 0, 0, 0, 0), (310, .iadd, 1, 0, 0, 0, 0), (311, .iaload, 1, 0, 0, 0, 0), (312, .invokevirtual 28, 3, 0, 19, 362, 0), (315, .aload_n 2, 1, 0, 0, 0, 0), (316, .aload_n 0, 1, 0, 0, 0, 0), (317, .iload_n 3, 1, 0, 0, 0, 0), (318, .iconst 1, 1, 0, 0, 0, 0), (319, .iadd, 1, 0, 0, 0, 0), (320, .iaload, 1, 0, 0, 0, 0), (321, .aload_n 0, 1, 0, 0, 0, 0), (322, .iload_n 3, 1, 0, 0, 0, 0), (323, .iconst 2, 1, 0, 0, 0, 0), (324, .iadd, 1, 0, 0, 0, 0), (325, .iaload, 1, 0, 0, 0, 0), (326, .aload_n 0, 1, 0, 0, 0, 0), (327, .iload_n 3, 1, 0, 0, 0, 0), (328, .iconst 3, 1, 0, 0, 0, 0), (329, .iadd, 1, 0, 0, 0, 0), (330, .iaload, 1, 0, 0, 0, 0), (331, .aload_n 0, 1, 0, 0, 0, 0), (332, .iload_n 3, 1, 0, 0, 0, 0), (333, .iconst 4, 1, 0, 0, 0, 0), (334, .iadd, 1, 0, 0, 0, 0), (335, .iaload, 1, 0, 0, 0, 0), (336, .invokevirtual 31, 3, 0, 104, 848, 0), (339, .if_icmp .eq 681, 3, 0, 0, 0, 0), (342, .iconst 0, 1, 0, 0, 0, 0), (343, .ireturn, 1, 0, 0, 0, 0), (344, .aload_n 1, 1, 0, 0, 0, 0), (345, .aload_n 0, 1, 0, 0, 0, 0)]
def kL_168_3 : List kE := [(346, .iload_n 3, 1, 0, 0, 0, 0), (347, .iconst 1, 1, 0, 0, 0, 0), (348, .iadd, 1, 0, 0, 0, 0), (349, .iaload, 1, 0, 0, 0, 0), (350, .invokevirtual 32, 3, 0, 20, 366, 0), (353, .aload_n 2, 1, 0, 0, 0, 0), (354, .aload_n 0, 1, 0, 0, 0, 0), (355, .iload_n 3, 1, 0, 0, 0, 0), (356, .iconst 1, 1, 0, 0, 0, 0), (357, .iadd, 1, 0, 0, 0, 0), (358, .iaload, 1, 0, 0, 0, 0), (359, .invokevirtual 35, 3, 0, 105, 853, 0), (362, .if_icmp .eq 658, 3, 0, 0, 0, 0), (365, .iconst 0, 1, 0, 0, 0, 0), (366, .ireturn, 1, 0, 0, 0, 0), (367, .aload_n 1, 1, 0, 0, 0, 0), (368, .invokevirtual 36, 3, 0, 22, 374, 0), (371, .aload_n 2, 1, 0, 0, 0, 0), (372, .invokevirtual 40, 3, 0, 106, 859, 0), (375, .if_icmp .eq 645, 3, 0, 0, 0, 0), (378, .iconst 0, 1, 0, 0, 0, 0), (379, .ireturn, 1, 0, 0, 0, 0), (380, .aload_n 1, 1, 0, 0, 0, 0), (381, .invokevirtual 41, 3, 0, 23, 378, 0), (384, .aload_n 2, 1, 0, 0, 0, 0), (385, .invokevirtual 44, 3, 0, 107, 863, 0), (388, .if_icmp .eq 632, 3, 0, 0, 0, 0), (391, .iconst 0, 1, 0, 0, 0, 0), (392, .ireturn, 1, 0, 0, 0, 0), (393, .aload_n 1, 1, 0, 0, 0, 0), (394, .aload_n 0, 1, 0, 0, 0, 0), (395, .iload_n 3, 1, 0, 0, 0, 0), (396, .iconst 1, 1, 0, 0, 0, 0), (397, .iadd, 1, 0, 0, 0, 0), (398, .iaload, 1, 0, 0, 0, 0), (399, .invokevirtual 45, 3, 0, 28, 397, 0), (402, .aload_n 2, 1, 0, 0, 0, 0), (403, .aload_n 0, 1, 0, 0, 0, 0), (404, .iload_n 3, 1, 0, 0, 0, 0), (405, .iconst 1, 1, 0, 0, 0, 0), (406, .iadd, 1, 0, 0, 0, 0), (407, .iaload, 1, 0, 0, 0, 0), (408, .invokevirtual 48, 3, 0, 118, 909, 0), (411, .if_icmp .eq 609, 3, 0, 0, 0, 0), (414, .iconst 0, 1, 0, 0, 0, 0), (415, .ireturn, 1, 0, 0, 0, 0), (416, .aload_n 1, 1, 0, 0, 0, 0), (417, .aload_n 0, 1, 0, 0, 0, 0), (418, .iload_n 3, 1, 0, 0, 0, 0), (419, .iconst 1, 1, 0, 0, 0, 0), (420, .iadd, 1, 0, 0, 0, 0), (421, .iaload, 1, 0, 0, 0, 0), (422, .aload_n 0, 1, 0, 0, 0, 0), (423, .iload_n 3, 1, 0, 0, 0, 0), (424, .iconst 2, 1, 0, 0, 0, 0), (425, .iadd, 1, 0, 0, 0, 0), (426, .iaload, 1, 0, 0, 0, 0), (427, .invokevirtual 49, 3, 0, 45, 475, 0), (430, .aload_n 2, 1, 0, 0, 0, 0), (431, .aload_n 0, 1, 0, 0, 0, 0)]
def kL_168_4 : List kE := [(432, .iload_n 3, 1, 0, 0, 0, 0), (433, .iconst 1, 1, 0, 0, 0, 0), (434, .iadd, 1, 0, 0, 0, 0), (435, .iaload, 1, 0, 0, 0, 0), (436, .aload_n 0, 1, 0, 0, 0, 0), (437, .iload_n 3, 1, 0, 0, 0, 0), (438, .iconst 2, 1, 0, 0, 0, 0), (439, .iadd, 1, 0, 0, 0, 0), (440, .iaload, 1, 0, 0, 0, 0), (441, .invokevirtual 53, 3, 0, 130, 960, 0), (444, .if_icmp .eq 576, 3, 0, 0, 0, 0), (447, .iconst 0, 1, 0, 0, 0, 0), (448, .ireturn, 1, 0, 0, 0, 0), (449, .aload_n 1, 1, 0, 0, 0, 0), (450, .aload_n 0, 1, 0, 0, 0, 0), (451, .iload_n 3, 1, 0, 0, 0, 0), (452, .iconst 1, 1, 0, 0, 0, 0), (453, .iadd, 1, 0, 0, 0, 0), (454, .iaload, 1, 0, 0, 0, 0), (455, .invokevirtual 54, 3, 0, 46, 479, 0), (458, .aload_n 2, 1, 0, 0, 0, 0), (459, .aload_n 0, 1, 0, 0, 0, 0), (460, .iload_n 3, 1, 0, 0, 0, 0), (461, .iconst 1, 1, 0, 0, 0, 0), (462, .iadd, 1, 0, 0, 0, 0), (463, .iaload, 1, 0, 0, 0, 0), (464, .invokevirtual 57, 3, 0, 131, 964, 0), (467, .if_icmp .eq 553, 3, 0, 0, 0, 0), (470, .iconst 0, 1, 0, 0, 0, 0), (471, .ireturn, 1, 0, 0, 0, 0), (472, .aload_n 1, 1, 0, 0, 0, 0), (473, .aload_n 0, 1, 0, 0, 0, 0), (474, .iload_n 3, 1, 0, 0, 0, 0), (475, .iconst 1, 1, 0, 0, 0, 0), (476, .iadd, 1, 0, 0, 0, 0), (477, .iaload, 1, 0, 0, 0, 0), (478, .invokevirtual 58, 3, 0, 47, 483, 0), (481, .aload_n 2, 1, 0, 0, 0, 0), (482, .aload_n 0, 1, 0, 0, 0, 0), (483, .iload_n 3, 1, 0, 0, 0, 0), (484, .iconst 1, 1, 0, 0, 0, 0), (485, .iadd, 1, 0, 0, 0, 0), (486, .iaload, 1, 0, 0, 0, 0), (487, .invokevirtual 61, 3, 0, 132, 968, 0), (490, .if_icmp .eq 530, 3, 0, 0, 0, 0), (493, .iconst 0, 1, 0, 0, 0, 0), (494, .ireturn, 1, 0, 0, 0, 0), (495, .aload_n 1, 1, 0, 0, 0, 0), (496, .invokevirtual 62, 3, 0, 48, 487, 0), (499, .aload_n 2, 1, 0, 0, 0, 0), (500, .invokevirtual 65, 3, 0, 133, 972, 0), (503, .if_icmp .eq 517, 3, 0, 0, 0, 0), (506, .iconst 0, 1, 0, 0, 0, 0), (507, .ireturn, 1, 0, 0, 0, 0), (508, .aload_n 1, 1, 0, 0, 0, 0), (509, .aload_n 0, 1, 0, 0, 0, 0), (510, .iload_n 3, 1, 0, 0, 0, 0), (511, .iconst 1, 1, 0, 0, 0, 0), (512, .iadd, 1, 0, 0, 0, 0), (513, .iaload, 1, 0, 0, 0, 0)]
def kL_168_5 : List kE := [(514, .aload_n 0, 1, 0, 0, 0, 0), (515, .iload_n 3, 1, 0, 0, 0, 0), (516, .iconst 2, 1, 0, 0, 0, 0), (517, .iadd, 1, 0, 0, 0, 0), (518, .iaload, 1, 0, 0, 0, 0), (519, .invokevirtual 66, 3, 0, 49, 492, 0), (522, .aload_n 2, 1, 0, 0, 0, 0), (523, .aload_n 0, 1, 0, 0, 0, 0), (524, .iload_n 3, 1, 0, 0, 0, 0), (525, .iconst 1, 1, 0, 0, 0, 0), (526, .iadd, 1, 0, 0, 0, 0), (527, .iaload, 1, 0, 0, 0, 0), (528, .aload_n 0, 1, 0, 0, 0, 0), (529, .iload_n 3, 1, 0, 0, 0, 0), (530, .iconst 2, 1, 0, 0, 0, 0), (531, .iadd, 1, 0, 0, 0, 0), (532, .iaload, 1, 0, 0, 0, 0), (533, .invokevirtual 69, 3, 0, 134, 976, 0), (536, .if_icmp .eq 484, 3, 0, 0, 0, 0), (539, .iconst 0, 1, 0, 0, 0, 0), (540, .ireturn, 1, 0, 0, 0, 0), (541, .aload_n 1, 1, 0, 0, 0, 0), (542, .invokevirtual 70, 3, 0, 50, 497, 0), (545, .aload_n 2, 1, 0, 0, 0, 0), (546, .invokevirtual 73, 3, 0, 116, 901, 0), (549, .if_icmp .eq 471, 3, 0, 0, 0, 0), (552, .iconst 0, 1, 0, 0, 0, 0), (553, .ireturn, 1, 0, 0, 0, 0), (554, .aload_n 1, 1, 0, 0, 0, 0), (555, .aload_n 0, 1, 0, 0, 0, 0), (556, .iload_n 3, 1, 0, 0, 0, 0), (557, .iconst 1, 1, 0, 0, 0, 0), (558, .iadd, 1, 0, 0, 0, 0), (559, .iaload, 1, 0, 0, 0, 0), (560, .aload_n 0, 1, 0, 0, 0, 0), (561, .iload_n 3, 1, 0, 0, 0, 0), (562, .iconst 2, 1, 0, 0, 0, 0), (563, .iadd, 1, 0, 0, 0, 0), (564, .iaload, 1, 0, 0, 0, 0), (565, .aload_n 0, 1, 0, 0, 0, 0), (566, .iload_n 3, 1, 0, 0, 0, 0), (567, .iconst 3, 1, 0, 0, 0, 0), (568, .iadd, 1, 0, 0, 0, 0), (569, .iaload, 1, 0, 0, 0, 0), (570, .invokevirtual 74, 3, 0, 51, 502, 0), (573, .aload_n 2, 1, 0, 0, 0, 0), (574, .aload_n 0, 1, 0, 0, 0, 0), (575, .iload_n 3, 1, 0, 0, 0, 0), (576, .iconst 1, 1, 0, 0, 0, 0), (577, .iadd, 1, 0, 0, 0, 0), (578, .iaload, 1, 0, 0, 0, 0), (579, .aload_n 0, 1, 0, 0, 0, 0), (580, .iload_n 3, 1, 0, 0, 0, 0), (581, .iconst 2, 1, 0, 0, 0, 0), (582, .iadd, 1, 0, 0, 0, 0), (583, .iaload, 1, 0, 0, 0, 0), (584, .aload_n 0, 1, 0, 0, 0, 0), (585, .iload_n 3, 1, 0, 0, 0, 0), (586, .iconst 3, 1, 0, 0, 0, 0), (587, .iadd, 1, 0, 0, 0, 0)]
def kL_168_6 : List kE := [(588, .iaload, 1, 0, 0, 0, 0), (589, .invokevirtual 78, 3, 0, 135, 981, 0), (592, .if_icmp .eq 428, 3, 0, 0, 0, 0), (595, .iconst 0, 1, 0, 0, 0, 0), (596, .ireturn, 1, 0, 0, 0, 0), (597, .aload_n 1, 1, 0, 0, 0, 0), (598, .aload_n 0, 1, 0, 0, 0, 0), (599, .iload_n 3, 1, 0, 0, 0, 0), (600, .iconst 1, 1, 0, 0, 0, 0), (601, .iadd, 1, 0, 0, 0, 0), (602, .iaload, 1, 0, 0, 0, 0), (603, .invokevirtual 79, 3, 0, 55, 519, 0), (606, .aload_n 2, 1, 0, 0, 0, 0), (607, .aload_n 0, 1, 0, 0, 0, 0), (608, .iload_n 3, 1, 0, 0, 0, 0), (609, .iconst 1, 1, 0, 0, 0, 0), (610, .iadd, 1, 0, 0, 0, 0), (611, .iaload, 1, 0, 0, 0, 0), (612, .invokevirtual 82, 3, 0, 138, 993, 0), (615, .if_icmp .eq 405, 3, 0, 0, 0, 0), (618, .iconst 0, 1, 0, 0, 0, 0), (619, .ireturn, 1, 0, 0, 0, 0), (620, .aload_n 1, 1, 0, 0, 0, 0), (621, .aload_n 0, 1, 0, 0, 0, 0), (622, .iload_n 3, 1, 0, 0, 0, 0), (623, .iconst 1, 1, 0, 0, 0, 0), (624, .iadd, 1, 0, 0, 0, 0), (625, .iaload, 1, 0, 0, 0, 0), (626, .aload_n 0, 1, 0, 0, 0, 0), (627, .iload_n 3, 1, 0, 0, 0, 0), (628, .iconst 2, 1, 0, 0, 0, 0), (629, .iadd, 1, 0, 0, 0, 0), (630, .iaload, 1, 0, 0, 0, 0), (631, .aload_n 0, 1, 0, 0, 0, 0), (632, .iload_n 3, 1, 0, 0, 0, 0), (633, .iconst 3, 1, 0, 0, 0, 0), (634, .iadd, 1, 0, 0, 0, 0), (635, .iaload, 1, 0, 0, 0, 0), (636, .aload_n 0, 1, 0, 0, 0, 0), (637, .iload_n 3, 1, 0, 0, 0, 0), (638, .iconst 4, 1, 0, 0, 0, 0), (639, .iadd, 1, 0, 0, 0, 0), (640, .iaload, 1, 0, 0, 0, 0), (641, .invokevirtual 83, 3, 0, 61, 547, 0), (644, .aload_n 2, 1, 0, 0, 0, 0), (645, .aload_n 0, 1, 0, 0, 0, 0), (646, .iload_n 3, 1, 0, 0, 0, 0), (647, .iconst 1, 1, 0, 0, 0, 0), (648, .iadd, 1, 0, 0, 0, 0), (649, .iaload, 1, 0, 0, 0, 0), (650, .aload_n 0, 1, 0, 0, 0, 0), (651, .iload_n 3, 1, 0, 0, 0, 0), (652, .iconst 2, 1, 0, 0, 0, 0), (653, .iadd, 1, 0, 0, 0, 0), (654, .iaload, 1, 0, 0, 0, 0), (655, .aload_n 0, 1, 0, 0, 0, 0), (656, .iload_n 3, 1, 0, 0, 0, 0), (657, .iconst 3, 1, 0, 0, 0, 0), (658, .iadd, 1, 0, 0, 0, 0), (659, .iaload, 1, 0, 0, 0, 0)]
def kL_168_7 : List kE := [(660, .aload_n 0, 1, 0, 0, 0, 0), (661, .iload_n 3, 1, 0, 0, 0, 0), (662, .iconst 4, 1, 0, 0, 0, 0), (663, .iadd, 1, 0, 0, 0, 0), (664, .iaload, 1, 0, 0, 0, 0), (665, .invokevirtual 86, 3, 0, 142, 1009, 0), (668, .if_icmp .eq 352, 3, 0, 0, 0, 0), (671, .iconst 0, 1, 0, 0, 0, 0), (672, .ireturn, 1, 0, 0, 0, 0), (673, .aload_n 1, 1, 0, 0, 0, 0), (674, .aload_n 0, 1, 0, 0, 0, 0), (675, .iload_n 3, 1, 0, 0, 0, 0), (676, .iconst 1, 1, 0, 0, 0, 0), (677, .iadd, 1, 0, 0, 0, 0), (678, .iaload, 1, 0, 0, 0, 0), (679, .aload_n 0, 1, 0, 0, 0, 0), (680, .iload_n 3, 1, 0, 0, 0, 0), (681, .iconst 2, 1, 0, 0, 0, 0), (682, .iadd, 1, 0, 0, 0, 0), (683, .iaload, 1, 0, 0, 0, 0), (684, .aload_n 0, 1, 0, 0, 0, 0), (685, .iload_n 3, 1, 0, 0, 0, 0), (686, .iconst 3, 1, 0, 0, 0, 0), (687, .iadd, 1, 0, 0, 0, 0), (688, .iaload, 1, 0, 0, 0, 0), (689, .ifCond .eq 7, 3, 0, 0, 0, 0), (692, .iconst 1, 1, 0, 0, 0, 0), (693, .goto 4, 3, 0, 0, 0, 0), (696, .iconst 0, 1, 0, 0, 0, 0), (697, .invokevirtual 87, 3, 0, 67, 577, 0), (700, .aload_n 2, 1, 0, 0, 0, 0), (701, .aload_n 0, 1, 0, 0, 0, 0), (702, .iload_n 3, 1, 0, 0, 0, 0), (703, .iconst 1, 1, 0, 0, 0, 0), (704, .iadd, 1, 0, 0, 0, 0), (705, .iaload, 1, 0, 0, 0, 0), (706, .aload_n 0, 1, 0, 0, 0, 0), (707, .iload_n 3, 1, 0, 0, 0, 0), (708, .iconst 2, 1, 0, 0, 0, 0), (709, .iadd, 1, 0, 0, 0, 0), (710, .iaload, 1, 0, 0, 0, 0), (711, .aload_n 0, 1, 0, 0, 0, 0), (712, .iload_n 3, 1, 0, 0, 0, 0), (713, .iconst 3, 1, 0, 0, 0, 0), (714, .iadd, 1, 0, 0, 0, 0), (715, .iaload, 1, 0, 0, 0, 0), (716, .ifCond .eq 7, 3, 0, 0, 0, 0), (719, .iconst 1, 1, 0, 0, 0, 0), (720, .goto 4, 3, 0, 0, 0, 0), (723, .iconst 0, 1, 0, 0, 0, 0), (724, .invokevirtual 90, 3, 0, 147, 1032, 0), (727, .if_icmp .eq 293, 3, 0, 0, 0, 0), (730, .iconst 0, 1, 0, 0, 0, 0), (731, .ireturn, 1, 0, 0, 0, 0), (732, .aload_n 1, 1, 0, 0, 0, 0), (733, .invokevirtual 91, 3, 0, 69, 585, 0), (736, .aload_n 2, 1, 0, 0, 0, 0), (737, .invokevirtual 94, 3, 0, 148, 1037, 0), (740, .if_icmp .eq 280, 3, 0, 0, 0, 0), (743, .iconst 0, 1, 0, 0, 0, 0)]
def kL_168_8 : List kE := [(744, .ireturn, 1, 0, 0, 0, 0), (745, .aload_n 1, 1, 0, 0, 0, 0), (746, .aload_n 0, 1, 0, 0, 0, 0), (747, .iload_n 3, 1, 0, 0, 0, 0), (748, .iconst 1, 1, 0, 0, 0, 0), (749, .iadd, 1, 0, 0, 0, 0), (750, .iaload, 1, 0, 0, 0, 0), (751, .invokevirtual 95, 3, 0, 70, 589, 0), (754, .aload_n 2, 1, 0, 0, 0, 0), (755, .aload_n 0, 1, 0, 0, 0, 0), (756, .iload_n 3, 1, 0, 0, 0, 0), (757, .iconst 1, 1, 0, 0, 0, 0), (758, .iadd, 1, 0, 0, 0, 0), (759, .iaload, 1, 0, 0, 0, 0), (760, .invokevirtual 98, 3, 0, 149, 1041, 0), (763, .if_icmp .eq 257, 3, 0, 0, 0, 0), (766, .iconst 0, 1, 0, 0, 0, 0), (767, .ireturn, 1, 0, 0, 0, 0), (768, .aload_n 1, 1, 0, 0, 0, 0), (769, .aload_n 0, 1, 0, 0, 0, 0), (770, .iload_n 3, 1, 0, 0, 0, 0), (771, .iconst 1, 1, 0, 0, 0, 0), (772, .iadd, 1, 0, 0, 0, 0), (773, .iaload, 1, 0, 0, 0, 0), (774, .invokevirtual 99, 3, 0, 74, 605, 0), (777, .aload_n 2, 1, 0, 0, 0, 0), (778, .aload_n 0, 1, 0, 0, 0, 0), (779, .iload_n 3, 1, 0, 0, 0, 0), (780, .iconst 1, 1, 0, 0, 0, 0), (781, .iadd, 1, 0, 0, 0, 0), (782, .iaload, 1, 0, 0, 0, 0), (783, .invokevirtual 102, 3, 0, 152, 1053, 0), (786, .if_icmp .eq 234, 3, 0, 0, 0, 0), (789, .iconst 0, 1, 0, 0, 0, 0), (790, .ireturn, 1, 0, 0, 0, 0), (791, .aload_n 1, 1, 0, 0, 0, 0), (792, .aload_n 0, 1, 0, 0, 0, 0), (793, .iload_n 3, 1, 0, 0, 0, 0), (794, .iconst 1, 1, 0, 0, 0, 0), (795, .iadd, 1, 0, 0, 0, 0), (796, .iaload, 1, 0, 0, 0, 0), (797, .aload_n 0, 1, 0, 0, 0, 0), (798, .iload_n 3, 1, 0, 0, 0, 0), (799, .iconst 2, 1, 0, 0, 0, 0), (800, .iadd, 1, 0, 0, 0, 0), (801, .iaload, 1, 0, 0, 0, 0), (802, .aload_n 0, 1, 0, 0, 0, 0), (803, .iload_n 3, 1, 0, 0, 0, 0), (804, .iconst 3, 1, 0, 0, 0, 0), (805, .iadd, 1, 0, 0, 0, 0), (806, .iaload, 1, 0, 0, 0, 0), (807, .aload_n 0, 1, 0, 0, 0, 0), (808, .iload_n 3, 1, 0, 0, 0, 0), (809, .iconst 4, 1, 0, 0, 0, 0), (810, .iadd, 1, 0, 0, 0, 0), (811, .iaload, 1, 0, 0, 0, 0), (812, .invokevirtual 103, 3, 0, 77, 620, 0), (815, .aload_n 2, 1, 0, 0, 0, 0), (816, .aload_n 0, 1, 0, 0, 0, 0), (817, .iload_n 3, 1, 0, 0, 0, 0)]
def kL_168_9 : List kE := [(818, .iconst 1, 1, 0, 0, 0, 0), (819, .iadd, 1, 0, 0, 0, 0), (820, .iaload, 1, 0, 0, 0, 0), (821, .aload_n 0, 1, 0, 0, 0, 0), (822, .iload_n 3, 1, 0, 0, 0, 0), (823, .iconst 2, 1, 0, 0, 0, 0), (824, .iadd, 1, 0, 0, 0, 0), (825, .iaload, 1, 0, 0, 0, 0), (826, .aload_n 0, 1, 0, 0, 0, 0), (827, .iload_n 3, 1, 0, 0, 0, 0), (828, .iconst 3, 1, 0, 0, 0, 0), (829, .iadd, 1, 0, 0, 0, 0), (830, .iaload, 1, 0, 0, 0, 0), (831, .aload_n 0, 1, 0, 0, 0, 0), (832, .iload_n 3, 1, 0, 0, 0, 0), (833, .iconst 4, 1, 0, 0, 0, 0), (834, .iadd, 1, 0, 0, 0, 0), (835, .iaload, 1, 0, 0, 0, 0), (836, .invokevirtual 106, 3, 0, 153, 1058, 0), (839, .if_icmp .eq 181, 3, 0, 0, 0, 0), (842, .iconst 0, 1, 0, 0, 0, 0), (843, .ireturn, 1, 0, 0, 0, 0), (844, .aload_n 1, 1, 0, 0, 0, 0), (845, .aload_n 0, 1, 0, 0, 0, 0), (846, .iload_n 3, 1, 0, 0, 0, 0), (847, .iconst 1, 1, 0, 0, 0, 0), (848, .iadd, 1, 0, 0, 0, 0), (849, .iaload, 1, 0, 0, 0, 0), (850, .aload_n 0, 1, 0, 0, 0, 0), (851, .iload_n 3, 1, 0, 0, 0, 0), (852, .iconst 2, 1, 0, 0, 0, 0), (853, .iadd, 1, 0, 0, 0, 0), (854, .iaload, 1, 0, 0, 0, 0), (855, .aload_n 0, 1, 0, 0, 0, 0), (856, .iload_n 3, 1, 0, 0, 0, 0), (857, .iconst 3, 1, 0, 0, 0, 0), (858, .iadd, 1, 0, 0, 0, 0), (859, .iaload, 1, 0, 0, 0, 0), (860, .aload_n 0, 1, 0, 0, 0, 0), (861, .iload_n 3, 1, 0, 0, 0, 0), (862, .iconst 4, 1, 0, 0, 0, 0), (863, .iadd, 1, 0, 0, 0, 0), (864, .iaload, 1, 0, 0, 0, 0), (865, .aload_n 0, 1, 0, 0, 0, 0), (866, .iload_n 3, 1, 0, 0, 0, 0), (867, .iconst 5, 1, 0, 0, 0, 0), (868, .iadd, 1, 0, 0, 0, 0), (869, .iaload, 1, 0, 0, 0, 0), (870, .invokevirtual 107, 3, 0, 79, 628, 0), (873, .aload_n 2, 1, 0, 0, 0, 0), (874, .aload_n 0, 1, 0, 0, 0, 0), (875, .iload_n 3, 1, 0, 0, 0, 0), (876, .iconst 1, 1, 0, 0, 0, 0), (877, .iadd, 1, 0, 0, 0, 0), (878, .iaload, 1, 0, 0, 0, 0), (879, .aload_n 0, 1, 0, 0, 0, 0), (880, .iload_n 3, 1, 0, 0, 0, 0), (881, .iconst 2, 1, 0, 0, 0, 0), (882, .iadd, 1, 0, 0, 0, 0), (883, .iaload, 1, 0, 0, 0, 0)]
def kL_168_10 : List kE := [(884, .aload_n 0, 1, 0, 0, 0, 0), (885, .iload_n 3, 1, 0, 0, 0, 0), (886, .iconst 3, 1, 0, 0, 0, 0), (887, .iadd, 1, 0, 0, 0, 0), (888, .iaload, 1, 0, 0, 0, 0), (889, .aload_n 0, 1, 0, 0, 0, 0), (890, .iload_n 3, 1, 0, 0, 0, 0), (891, .iconst 4, 1, 0, 0, 0, 0), (892, .iadd, 1, 0, 0, 0, 0), (893, .iaload, 1, 0, 0, 0, 0), (894, .aload_n 0, 1, 0, 0, 0, 0), (895, .iload_n 3, 1, 0, 0, 0, 0), (896, .iconst 5, 1, 0, 0, 0, 0), (897, .iadd, 1, 0, 0, 0, 0), (898, .iaload, 1, 0, 0, 0, 0), (899, .invokevirtual 111, 3, 0, 155, 1066, 0), (902, .lcmp, 1, 0, 0, 0, 0), (903, .ifCond .eq 117, 3, 0, 0, 0, 0), (906, .iconst 0, 1, 0, 0, 0, 0), (907, .ireturn, 1, 0, 0, 0, 0), (908, .aload_n 1, 1, 0, 0, 0, 0), (909, .aload_n 0, 1, 0, 0, 0, 0), (910, .iload_n 3, 1, 0, 0, 0, 0), (911, .iconst 1, 1, 0, 0, 0, 0), (912, .iadd, 1, 0, 0, 0, 0), (913, .iaload, 1, 0, 0, 0, 0), (914, .aload_n 0, 1, 0, 0, 0, 0), (915, .iload_n 3, 1, 0, 0, 0, 0), (916, .iconst 2, 1, 0, 0, 0, 0), (917, .iadd, 1, 0, 0, 0, 0), (918, .iaload, 1, 0, 0, 0, 0), (919, .aload_n 0, 1, 0, 0, 0, 0), (920, .iload_n 3, 1, 0, 0, 0, 0), (921, .iconst 3, 1, 0, 0, 0, 0), (922, .iadd, 1, 0, 0, 0, 0), (923, .iaload, 1, 0, 0, 0, 0), (924, .invokevirtual 112, 3, 0, 84, 646, 0), (927, .aload_n 2, 1, 0, 0, 0, 0), (928, .aload_n 0, 1, 0, 0, 0, 0), (929, .iload_n 3, 1, 0, 0, 0, 0), (930, .iconst 1, 1, 0, 0, 0, 0), (931, .iadd, 1, 0, 0, 0, 0), (932, .iaload, 1, 0, 0, 0, 0), (933, .aload_n 0, 1, 0, 0, 0, 0), (934, .iload_n 3, 1, 0, 0, 0, 0), (935, .iconst 2, 1, 0, 0, 0, 0), (936, .iadd, 1, 0, 0, 0, 0), (937, .iaload, 1, 0, 0, 0, 0), (938, .aload_n 0, 1, 0, 0, 0, 0), (939, .iload_n 3, 1, 0, 0, 0, 0), (940, .iconst 3, 1, 0, 0, 0, 0), (941, .iadd, 1, 0, 0, 0, 0), (942, .iaload, 1, 0, 0, 0, 0), (943, .invokevirtual 115, 3, 0, 158, 1079, 0), (946, .if_icmp .eq 74, 3, 0, 0, 0, 0), (949, .iconst 0, 1, 0, 0, 0, 0), (950, .ireturn, 1, 0, 0, 0, 0), (951, .aload_n 1, 1, 0, 0, 0, 0), (952, .aload_n 0, 1, 0, 0, 0, 0), (953, .iload_n 3, 1, 0, 0, 0, 0)]
def kL_168_11 : List kE := [(954, .iconst 1, 1, 0, 0, 0, 0), (955, .iadd, 1, 0, 0, 0, 0), (956, .iaload, 1, 0, 0, 0, 0), (957, .invokevirtual 116, 3, 0, 86, 661, 0), (960, .aload_n 2, 1, 0, 0, 0, 0), (961, .aload_n 0, 1, 0, 0, 0, 0), (962, .iload_n 3, 1, 0, 0, 0, 0), (963, .iconst 1, 1, 0, 0, 0, 0), (964, .iadd, 1, 0, 0, 0, 0), (965, .iaload, 1, 0, 0, 0, 0), (966, .invokevirtual 119, 3, 0, 160, 1091, 0), (969, .if_icmp .eq 51, 3, 0, 0, 0, 0), (972, .iconst 0, 1, 0, 0, 0, 0), (973, .ireturn, 1, 0, 0, 0, 0), (974, .aload_n 1, 1, 0, 0, 0, 0), (975, .aload_n 0, 1, 0, 0, 0, 0), (976, .iload_n 3, 1, 0, 0, 0, 0), (977, .iconst 1, 1, 0, 0, 0, 0), (978, .iadd, 1, 0, 0, 0, 0), (979, .iaload, 1, 0, 0, 0, 0), (980, .invokevirtual 120, 3, 0, 90, 678, 0), (983, .aload_n 2, 1, 0, 0, 0, 0), (984, .aload_n 0, 1, 0, 0, 0, 0), (985, .iload_n 3, 1, 0, 0, 0, 0), (986, .iconst 1, 1, 0, 0, 0, 0), (987, .iadd, 1, 0, 0, 0, 0), (988, .iaload, 1, 0, 0, 0, 0), (989, .invokevirtual 123, 3, 0, 164, 1107, 0), (992, .if_icmp .eq 28, 3, 0, 0, 0, 0), (995, .iconst 0, 1, 0, 0, 0, 0), (996, .ireturn, 1, 0, 0, 0, 0), (997, .aload_n 1, 1, 0, 0, 0, 0), (998, .aload_n 0, 1, 0, 0, 0, 0), (999, .iload_n 3, 1, 0, 0, 0, 0), (1000, .iconst 1, 1, 0, 0, 0, 0), (1001, .iadd, 1, 0, 0, 0, 0), (1002, .iaload, 1, 0, 0, 0, 0), (1003, .invokevirtual 124, 3, 0, 91, 682, 0), (1006, .aload_n 2, 1, 0, 0, 0, 0), (1007, .aload_n 0, 1, 0, 0, 0, 0), (1008, .iload_n 3, 1, 0, 0, 0, 0), (1009, .iconst 1, 1, 0, 0, 0, 0), (1010, .iadd, 1, 0, 0, 0, 0), (1011, .iaload, 1, 0, 0, 0, 0), (1012, .invokevirtual 127, 3, 0, 165, 1111, 0), (1015, .if_icmp .eq 5, 3, 0, 0, 0, 0), (1018, .iconst 0, 1, 0, 0, 0, 0), (1019, .ireturn, 1, 0, 0, 0, 0), (1020, .iinc 3 6, 3, 0, 0, 0, 0), (1023, .goto (-1005), 3, 0, 0, 0, 0), (1026, .iconst 1, 1, 0, 0, 0, 0), (1027, .ireturn, 1, 0, 0, 0, 0)]
def kL_168 : List kE := kL_168_0 ++ kL_168_1 ++ kL_168_2 ++ kL_168_3 ++ kL_168_4 ++ kL_168_5 ++ kL_168_6 ++ kL_168_7 ++ kL_168_8 ++ kL_168_9 ++ kL_168_10 ++ kL_168_11
def kLt (k : Nat) : List kE := (bif Nat.blt k 84 then (bif Nat.blt k 42 then (bif Nat.blt k 21 then (bif Nat.blt k 10 then (bif Nat.blt k 5 then (bif Nat.blt k 2 then (bif Nat.blt k 1 then kL_0 else kL_1) else (bif Nat.blt k 3 then kL_2 else (bif Nat.blt k 4 then kL_3 else kL_4))) else (bif Nat.blt k 7 then (bif Nat.blt k 6 then kL_5 else kL_6) else (bif Nat.blt k 8 then kL_7 else (bif Nat.blt k 9 then kL_8 else kL_9)))) else (bif Nat.blt k 15 then (bif Nat.blt k 12 then (bif Nat.blt k 11 then kL_10 else kL_11) else (bif Nat.blt k 13 then kL_12 else (bif Nat.blt k 14 then kL_13 else kL_14))) else (bif Nat.blt k 18 then (bif Nat.blt k 16 then kL_15 else (bif Nat.blt k 17 then kL_16 else kL_17)) else (bif Nat.blt k 19 then kL_18 else (bif Nat.blt k 20 then kL_19 else kL_20))))) else (bif Nat.blt k 31 then (bif Nat.blt k 26 then (bif Nat.blt k 23 then (bif Nat.blt k 22 then kL_21 else kL_22) else (bif Nat.blt k 24 then kL_23 else (bif Nat.blt k 25 then kL_24 else kL_25))) else (bif Nat.blt k 28 then (bif Nat.blt k 27 then kL_26 else kL_27) else (bif Nat.blt k 29 then kL_28 else (bif Nat.blt k 30 then kL_29 else kL_30)))) else (bif Nat.blt k 36 then (bif Nat.blt k 33 then (bif Nat.blt k 32 then kL_31 else kL_32) else (bif Nat.blt k 34 then kL_33 else (bif Nat.blt k 35 then kL_34 else kL_35))) else (bif Nat.blt k 39 then (bif Nat.blt k 37 then kL_36 else (bif Nat.blt k 38 then kL_37 else kL_38)) else (bif Nat.blt k 40 then kL_39 else (bif Nat.blt k 41 then kL_40 else kL_41)))))) else (bif Nat.blt k 63 then (bif Nat.blt k 52 then (bif Nat.blt k 47 then (bif Nat.blt k 44 then (bif Nat.blt k 43 then kL_42 else kL_43) else (bif Nat.blt k 45 then kL_44 else (bif Nat.blt k 46 then kL_45 else kL_46))) else (bif Nat.blt k 49 then (bif Nat.blt k 48 then kL_47 else kL_48) else (bif Nat.blt k 50 then kL_49 else (bif Nat.blt k 51 then kL_50 else kL_51)))) else (bif Nat.blt k 57 then (bif Nat.blt k 54 then (bif Nat.blt k 53 then kL_52 else kL_53) else (bif Nat.blt k 55 then kL_54 else (bif Nat.blt k 56 then kL_55 else kL_56))) else (bif Nat.blt k 60 then (bif Nat.blt k 58 then kL_57 else (bif Nat.blt k 59 then kL_58 else kL_59)) else (bif Nat.blt k 61 then kL_60 else (bif Nat.blt k 62 then kL_61 else kL_62))))) else (bif Nat.blt k 73 then (bif Nat.blt k 68 then (bif Nat.blt k 65 then (bif Nat.blt k 64 then kL_63 else kL_64) else (bif Nat.blt k 66 then kL_65 else (bif Nat.blt k 67 then kL_66 else kL_67))) else (bif Nat.blt k 70 then (bif Nat.blt k 69 then kL_68 else kL_69) else (bif Nat.blt k 71 then kL_70 else (bif Nat.blt k 72 then kL_71 else kL_72)))) else (bif Nat.blt k 78 then (bif Nat.blt k 75 then (bif Nat.blt k 74 then kL_73 else kL_74) else (bif Nat.blt k 76 then kL_75 else (bif Nat.blt k 77 then kL_76 else kL_77))) else (bif Nat.blt k 81 then (bif Nat.blt k 79 then kL_78 else (bif Nat.blt k 80 then kL_79 else kL_80)) else (bif Nat.blt k 82 then kL_81 else (bif Nat.blt k 83 then kL_82 else kL_83))))))) else (bif Nat.blt k 126 then (bif Nat.blt k 105 then (bif Nat.blt k 94 then (bif Nat.blt k 89 then (bif Nat.blt k 86 then (bif Nat.blt k 85 then kL_84 else kL_85) else (bif Nat.blt k 87 then kL_86 else (bif Nat.blt k 88 then kL_87 else kL_88))) else (bif Nat.blt k 91 then (bif Nat.blt k 90 then kL_89 else kL_90) else (bif Nat.blt k 92 then kL_91 else (bif Nat.blt k 93 then kL_92 else kL_93)))) else (bif Nat.blt k 99 then (bif Nat.blt k 96 then (bif Nat.blt k 95 then kL_94 else kL_95) else (bif Nat.blt k 97 then kL_96 else (bif Nat.blt k 98 then kL_97 else kL_98))) else (bif Nat.blt k 102 then (bif Nat.blt k 100 then kL_99 else (bif Nat.blt k 101 then kL_100 else kL_101)) else (bif Nat.blt k 103 then kL_102 else (bif Nat.blt k 104 then kL_103 else kL_104))))) else (bif Nat.blt k 115 then (bif Nat.blt k 110 then (bif Nat.blt k 107 then (bif Nat.blt k 106 then kL_105 else kL_106) else (bif Nat.blt k 108 then kL_107 else (bif Nat.blt k 109 then kL_108 else kL_109))) else (bif Nat.blt k 112 then (bif Nat.blt k 111 then kL_110 else kL_111) else (bif Nat.blt k 113 then kL_112 else (bif Nat.blt k 114 then kL_113 else kL_114)))) else (bif Nat.blt k 120 then (bif Nat.blt k 117 then (bif Nat.blt k 116 then kL_115 else kL_116) else (bif Nat.blt k 118 then kL_117 else (bif Nat.blt k 119 then kL_118 else kL_119))) else (bif Nat.blt k 123 then (bif Nat.blt k 121 then kL_120 else (bif Nat.blt k 122 then kL_121 else kL_122)) else (bif Nat.blt k 124 then kL_123 else (bif Nat.blt k 125 then kL_124 else kL_125)))))) else (bif Nat.blt k 147 then (bif Nat.blt k 136 then (bif Nat.blt k 131 then (bif Nat.blt k 128 then (bif Nat.blt k 127 then kL_126 else kL_127) else (bif Nat.blt k 129 then kL_128 else (bif Nat.blt k 130 then kL_129 else kL_130))) else (bif Nat.blt k 133 then (bif Nat.blt k 132 then kL_131 else kL_132) else (bif Nat.blt k 134 then kL_133 else (bif Nat.blt k 135 then kL_134 else kL_135)))) else (bif Nat.blt k 141 then (bif Nat.blt k 138 then (bif Nat.blt k 137 then kL_136 else kL_137) else (bif Nat.blt k 139 then kL_138 else (bif Nat.blt k 140 then kL_139 else kL_140))) else (bif Nat.blt k 144 then (bif Nat.blt k 142 then kL_141 else (bif Nat.blt k 143 then kL_142 else kL_143)) else (bif Nat.blt k 145 then kL_144 else (bif Nat.blt k 146 then kL_145 else kL_146))))) else (bif Nat.blt k 158 then (bif Nat.blt k 152 then (bif Nat.blt k 149 then (bif Nat.blt k 148 then kL_147 else kL_148) else (bif Nat.blt k 150 then kL_149 else (bif Nat.blt k 151 then kL_150 else kL_151))) else (bif Nat.blt k 155 then (bif Nat.blt k 153 then kL_152 else (bif Nat.blt k 154 then kL_153 else kL_154)) else (bif Nat.blt k 156 then kL_155 else (bif Nat.blt k 157 then kL_156 else kL_157)))) else (bif Nat.blt k 163 then (bif Nat.blt k 160 then (bif Nat.blt k 159 then kL_158 else kL_159) else (bif Nat.blt k 161 then kL_160 else (bif Nat.blt k 162 then kL_161 else kL_162))) else (bif Nat.blt k 166 then (bif Nat.blt k 164 then kL_163 else (bif Nat.blt k 165 then kL_164 else kL_165)) else (bif Nat.blt k 167 then kL_166 else (bif Nat.blt k 168 then kL_167 else kL_168))))))))
/-- a method: name, code, words of locals, what it answers -/
abbrev kMt : Type := MethodName × ByteArray × Nat × Option FieldType
def kM_0 : kMt := (⟨"TrustedPause", "<init>", "()V"⟩, prog_1_method_1_code, 1, none)
def kM_1 : kMt := (⟨"TrustedPause$Family", "<init>", "()V"⟩, prog_3_method_1_code, 1, none)
def kM_2 : kMt := (⟨"java/util/Arrays", "fill", "([II)V"⟩, prog_15_method_103_code, 4, none)
def kM_3 : kMt := (⟨"TrustedPause$Pad", "<init>", "()V"⟩, prog_5_method_1_code, 1, none)
def kM_4 : kMt := (⟨"TrustedPause$Day", "<init>", "()V"⟩, prog_2_method_1_code, 1, none)
def kM_5 : kMt := (⟨"TrustedPause$Tasks", "<init>", "()V"⟩, prog_9_method_1_code, 1, none)
def kM_6 : kMt := (⟨"TrustedPause$Sights", "<init>", "()V"⟩, prog_8_method_1_code, 1, none)
def kM_7 : kMt := (⟨"TrustedPause$Rounds", "<init>", "()V"⟩, prog_6_method_1_code, 1, none)
def kM_8 : kMt := (⟨"TrustedPause$Sentences", "<init>", "()V"⟩, prog_7_method_1_code, 1, none)
def kM_9 : kMt := (⟨"TrustedPause$Image", "<init>", "()V"⟩, prog_4_method_1_code, 1, none)
def kM_10 : kMt := (⟨"TrustedPause", "kin", "(IIII)I"⟩, prog_1_method_2_code, 6, (some (Jvm.ClassFile.FieldType.int)))
def kM_11 : kMt := (⟨"TrustedPause", "isKin", "(I)Z"⟩, prog_1_method_30_code, 1, (some (Jvm.ClassFile.FieldType.boolean)))
def kM_12 : kMt := (⟨"TrustedPause", "isIn", "(III)Z"⟩, prog_1_method_29_code, 3, (some (Jvm.ClassFile.FieldType.boolean)))
def kM_13 : kMt := (⟨"TrustedPause", "tie", "(IIZ)I"⟩, prog_1_method_3_code, 4, (some (Jvm.ClassFile.FieldType.int)))
def kM_14 : kMt := (⟨"TrustedPause$Family", "setTie", "(IIZ)V"⟩, prog_3_method_4_code, 4, none)
def kM_15 : kMt := (⟨"TrustedPause$Family", "countTies", "()I"⟩, prog_3_method_5_code, 3, (some (Jvm.ClassFile.FieldType.int)))
def kM_16 : kMt := (⟨"java/lang/Integer", "bitCount", "(I)I"⟩, prog_12_method_49_code, 1, (some (Jvm.ClassFile.FieldType.int)))
def kM_17 : kMt := (⟨"TrustedPause", "pause", "(I)I"⟩, prog_1_method_4_code, 3, (some (Jvm.ClassFile.FieldType.int)))
def kM_18 : kMt := (⟨"TrustedPause$Family", "lives", "(I)Z"⟩, prog_3_method_3_code, 2, (some (Jvm.ClassFile.FieldType.boolean)))
def kM_19 : kMt := (⟨"TrustedPause", "task", "(IIII)I"⟩, prog_1_method_5_code, 6, (some (Jvm.ClassFile.FieldType.int)))
def kM_20 : kMt := (⟨"TrustedPause", "say", "(I)I"⟩, prog_1_method_6_code, 2, (some (Jvm.ClassFile.FieldType.int)))
def kM_21 : kMt := (⟨"TrustedPause$Pad", "append", "(I)I"⟩, prog_5_method_2_code, 2, (some (Jvm.ClassFile.FieldType.int)))
def kM_22 : kMt := (⟨"TrustedPause", "wipe", "()I"⟩, prog_1_method_7_code, 2, (some (Jvm.ClassFile.FieldType.int)))
def kM_23 : kMt := (⟨"TrustedPause", "fault", "()I"⟩, prog_1_method_8_code, 1, (some (Jvm.ClassFile.FieldType.int)))
def kM_24 : kMt := (⟨"TrustedPause$Pad", "faultyPlace", "()I"⟩, prog_5_method_4_code, 3, (some (Jvm.ClassFile.FieldType.int)))
def kM_25 : kMt := (⟨"TrustedPause$Pad", "signAt", "(I)I"⟩, prog_5_method_3_code, 2, (some (Jvm.ClassFile.FieldType.int)))
def kM_26 : kMt := (⟨"TrustedPause$Pad", "dueBehind", "(II)I"⟩, prog_5_method_5_code, 4, (some (Jvm.ClassFile.FieldType.int)))
def kM_27 : kMt := (⟨"TrustedPause$Pad", "dueBehindVerb", "(I)I"⟩, prog_5_method_6_code, 1, (some (Jvm.ClassFile.FieldType.int)))
def kM_28 : kMt := (⟨"TrustedPause", "judge", "(I)I"⟩, prog_1_method_9_code, 3, (some (Jvm.ClassFile.FieldType.int)))
def kM_29 : kMt := (⟨"TrustedPause", "walkDay", "()I"⟩, prog_1_method_33_code, 1, (some (Jvm.ClassFile.FieldType.int)))
def kM_30 : kMt := (⟨"TrustedPause$Day", "walk", "(LTrustedPause$Pad;LTrustedPause$Family;)V"⟩, prog_2_method_2_code, 7, none)
def kM_31 : kMt := (⟨"TrustedPause$Day", "begin", "(LTrustedPause$Family;)V"⟩, prog_2_method_3_code, 2, none)
def kM_32 : kMt := (⟨"TrustedPause$Family", "copyFrom", "(LTrustedPause$Family;)V"⟩, prog_3_method_2_code, 2, none)
def kM_33 : kMt := (⟨"TrustedPause$Day", "tryAct", "(LTrustedPause$Pad;I)I"⟩, prog_2_method_4_code, 4, (some (Jvm.ClassFile.FieldType.int)))
def kM_34 : kMt := (⟨"TrustedPause$Family", "fallBack", "()I"⟩, prog_3_method_11_code, 2, (some (Jvm.ClassFile.FieldType.int)))
def kM_35 : kMt := (⟨"TrustedPause$Family", "oldestOf", "(I)I"⟩, prog_3_method_6_code, 5, (some (Jvm.ClassFile.FieldType.int)))
def kM_36 : kMt := (⟨"TrustedPause", "isOf", "(II)Z"⟩, prog_1_method_31_code, 2, (some (Jvm.ClassFile.FieldType.boolean)))
def kM_37 : kMt := (⟨"TrustedPause$Family", "lend", "(II)I"⟩, prog_3_method_7_code, 3, (some (Jvm.ClassFile.FieldType.int)))
def kM_38 : kMt := (⟨"TrustedPause$Family", "rest", "(I)I"⟩, prog_3_method_9_code, 2, (some (Jvm.ClassFile.FieldType.int)))
def kM_39 : kMt := (⟨"TrustedPause$Family", "die", "(I)I"⟩, prog_3_method_10_code, 3, (some (Jvm.ClassFile.FieldType.int)))
def kM_40 : kMt := (⟨"TrustedPause$Day", "speakAll", "(LTrustedPause$Pad;II)I"⟩, prog_2_method_5_code, 7, (some (Jvm.ClassFile.FieldType.int)))
def kM_41 : kMt := (⟨"TrustedPause$Pad", "lettersFrom", "(I)I"⟩, prog_5_method_8_code, 3, (some (Jvm.ClassFile.FieldType.int)))
def kM_42 : kMt := (⟨"TrustedPause$Family", "speak", "(II)I"⟩, prog_3_method_8_code, 3, (some (Jvm.ClassFile.FieldType.int)))
def kM_43 : kMt := (⟨"TrustedPause", "breathAfterLetter", "(I)I"⟩, prog_1_method_32_code, 1, (some (Jvm.ClassFile.FieldType.int)))
def kM_44 : kMt := (⟨"TrustedPause$Pad", "lengthOfAct", "(I)I"⟩, prog_5_method_7_code, 2, (some (Jvm.ClassFile.FieldType.int)))
def kM_45 : kMt := (⟨"TrustedPause", "behind", "(II)I"⟩, prog_1_method_10_code, 4, (some (Jvm.ClassFile.FieldType.int)))
def kM_46 : kMt := (⟨"TrustedPause", "trust", "(I)I"⟩, prog_1_method_11_code, 3, (some (Jvm.ClassFile.FieldType.int)))
def kM_47 : kMt := (⟨"TrustedPause", "first", "(I)I"⟩, prog_1_method_12_code, 3, (some (Jvm.ClassFile.FieldType.int)))
def kM_48 : kMt := (⟨"TrustedPause", "done", "()I"⟩, prog_1_method_13_code, 2, (some (Jvm.ClassFile.FieldType.int)))
def kM_49 : kMt := (⟨"TrustedPause", "holds", "(II)I"⟩, prog_1_method_14_code, 6, (some (Jvm.ClassFile.FieldType.int)))
def kM_50 : kMt := (⟨"TrustedPause", "oldest", "()I"⟩, prog_1_method_15_code, 1, (some (Jvm.ClassFile.FieldType.int)))
def kM_51 : kMt := (⟨"TrustedPause", "lent", "(III)I"⟩, prog_1_method_16_code, 4, (some (Jvm.ClassFile.FieldType.int)))
def kM_52 : kMt := (⟨"TrustedPause$Family", "fewestTies", "(II)I"⟩, prog_3_method_14_code, 5, (some (Jvm.ClassFile.FieldType.int)))
def kM_53 : kMt := (⟨"TrustedPause$Family", "neighboursOf", "(I)I"⟩, prog_3_method_13_code, 4, (some (Jvm.ClassFile.FieldType.int)))
def kM_54 : kMt := (⟨"TrustedPause$Family", "firstOnWay", "(II)I"⟩, prog_3_method_15_code, 6, (some (Jvm.ClassFile.FieldType.int)))
def kM_55 : kMt := (⟨"TrustedPause", "stay", "(I)I"⟩, prog_1_method_17_code, 2, (some (Jvm.ClassFile.FieldType.int)))
def kM_56 : kMt := (⟨"TrustedPause$Tasks", "plan", "(LTrustedPause$Family;)V"⟩, prog_9_method_3_code, 3, none)
def kM_57 : kMt := (⟨"TrustedPause$Tasks", "isBetter", "(I)Z"⟩, prog_9_method_4_code, 3, (some (Jvm.ClassFile.FieldType.boolean)))
def kM_58 : kMt := (⟨"TrustedPause$Tasks", "worthOf", "(I)I"⟩, prog_9_method_5_code, 4, (some (Jvm.ClassFile.FieldType.int)))
def kM_59 : kMt := (⟨"TrustedPause$Tasks", "canServe", "(ILTrustedPause$Family;)Z"⟩, prog_9_method_6_code, 9, (some (Jvm.ClassFile.FieldType.boolean)))
def kM_60 : kMt := (⟨"TrustedPause$Tasks", "earliestOf", "(I)I"⟩, prog_9_method_7_code, 5, (some (Jvm.ClassFile.FieldType.int)))
def kM_61 : kMt := (⟨"TrustedPause", "sentences", "(IIII)I"⟩, prog_1_method_18_code, 5, (some (Jvm.ClassFile.FieldType.int)))
def kM_62 : kMt := (⟨"TrustedPause$Sentences", "countAll", "(III)I"⟩, prog_7_method_2_code, 7, (some (Jvm.ClassFile.FieldType.int)))
def kM_63 : kMt := (⟨"TrustedPause$Sentences", "addLetter", "(II)V"⟩, prog_7_method_3_code, 6, none)
def kM_64 : kMt := (⟨"TrustedPause$Sentences", "leastOne", "(III)I"⟩, prog_7_method_4_code, 8, (some (Jvm.ClassFile.FieldType.int)))
def kM_65 : kMt := (⟨"TrustedPause$Sentences", "openWays", "(I)V"⟩, prog_7_method_5_code, 6, none)
def kM_66 : kMt := (⟨"TrustedPause$Sentences", "leastLetter", "(IIII)I"⟩, prog_7_method_6_code, 8, (some (Jvm.ClassFile.FieldType.int)))
def kM_67 : kMt := (⟨"TrustedPause", "seen", "(IIZ)I"⟩, prog_1_method_19_code, 4, (some (Jvm.ClassFile.FieldType.int)))
def kM_68 : kMt := (⟨"TrustedPause$Sights", "append", "(IIZ)I"⟩, prog_8_method_2_code, 4, (some (Jvm.ClassFile.FieldType.int)))
def kM_69 : kMt := (⟨"TrustedPause", "forget", "()I"⟩, prog_1_method_20_code, 2, (some (Jvm.ClassFile.FieldType.int)))
def kM_70 : kMt := (⟨"TrustedPause", "fits", "(I)I"⟩, prog_1_method_21_code, 2, (some (Jvm.ClassFile.FieldType.int)))
def kM_71 : kMt := (⟨"TrustedPause$Rounds", "collect", "(LTrustedPause$Sights;)V"⟩, prog_6_method_2_code, 5, none)
def kM_72 : kMt := (⟨"TrustedPause$Rounds", "keepIfSeenSo", "(ILTrustedPause$Sights;)V"⟩, prog_6_method_3_code, 5, none)
def kM_73 : kMt := (⟨"TrustedPause$Rounds", "holderAt", "(II)I"⟩, prog_6_method_4_code, 3, (some (Jvm.ClassFile.FieldType.int)))
def kM_74 : kMt := (⟨"TrustedPause", "ask", "(I)I"⟩, prog_1_method_22_code, 2, (some (Jvm.ClassFile.FieldType.int)))
def kM_75 : kMt := (⟨"TrustedPause$Rounds", "chooseQuestion", "()V"⟩, prog_6_method_5_code, 4, none)
def kM_76 : kMt := (⟨"TrustedPause$Rounds", "countHolders", "(I)V"⟩, prog_6_method_6_code, 4, none)
def kM_77 : kMt := (⟨"TrustedPause", "waits", "(IIII)I"⟩, prog_1_method_23_code, 6, (some (Jvm.ClassFile.FieldType.int)))
def kM_78 : kMt := (⟨"TrustedPause", "leastWinningWait", "(III)I"⟩, prog_1_method_34_code, 6, (some (Jvm.ClassFile.FieldType.int)))
def kM_79 : kMt := (⟨"TrustedPause", "door", "(IIIII)J"⟩, prog_1_method_24_code, 7, (some (Jvm.ClassFile.FieldType.long)))
def kM_80 : kMt := (⟨"TrustedPause", "power", "(II)J"⟩, prog_1_method_35_code, 5, (some (Jvm.ClassFile.FieldType.long)))
def kM_81 : kMt := (⟨"TrustedPause", "inLowestTerms", "(JJI)J"⟩, prog_1_method_37_code, 9, (some (Jvm.ClassFile.FieldType.long)))
def kM_82 : kMt := (⟨"TrustedPause", "commonDivisor", "(JJ)J"⟩, prog_1_method_38_code, 7, (some (Jvm.ClassFile.FieldType.long)))
def kM_83 : kMt := (⟨"TrustedPause", "meanUpper", "(II)J"⟩, prog_1_method_36_code, 7, (some (Jvm.ClassFile.FieldType.long)))
def kM_84 : kMt := (⟨"TrustedPause", "year", "(III)I"⟩, prog_1_method_25_code, 6, (some (Jvm.ClassFile.FieldType.int)))
def kM_85 : kMt := (⟨"TrustedPause$Family", "actByDraw", "(I)V"⟩, prog_3_method_12_code, 4, none)
def kM_86 : kMt := (⟨"TrustedPause", "image", "(I)I"⟩, prog_1_method_26_code, 3, (some (Jvm.ClassFile.FieldType.int)))
def kM_87 : kMt := (⟨"TrustedPause", "imageOf", "(I)LTrustedPause$Image;"⟩, prog_1_method_39_code, 2, (some ((Jvm.ClassFile.FieldType.object "TrustedPause$Image"))))
def kM_88 : kMt := (⟨"TrustedPause$Tasks", "copyFrom", "(LTrustedPause$Tasks;)V"⟩, prog_9_method_2_code, 2, none)
def kM_89 : kMt := (⟨"TrustedPause$Sights", "copyFrom", "(LTrustedPause$Sights;)V"⟩, prog_8_method_3_code, 3, none)
def kM_90 : kMt := (⟨"TrustedPause", "restore", "(I)I"⟩, prog_1_method_27_code, 3, (some (Jvm.ClassFile.FieldType.int)))
def kM_91 : kMt := (⟨"TrustedPause", "told", "(I)I"⟩, prog_1_method_28_code, 2, (some (Jvm.ClassFile.FieldType.int)))
def kM_92 : kMt := (⟨"TrustedPause", "toldOfAll", "(I)I"⟩, prog_1_method_40_code, 2, (some (Jvm.ClassFile.FieldType.int)))
def kM_93 : kMt := (⟨"TrustedPause", "toldOfTask", "(II)I"⟩, prog_1_method_41_code, 3, (some (Jvm.ClassFile.FieldType.int)))
def kM_94 : kMt := (⟨"TrustedPause", "toldOfKin", "(II)I"⟩, prog_1_method_42_code, 3, (some (Jvm.ClassFile.FieldType.int)))
def kM_95 : kMt := (⟨"TrustedPauseModel", "<init>", "()V"⟩, prog_11_method_1_code, 2, none)
def kM_96 : kMt := (⟨"TrustedPauseModel", "kin", "(IIII)I"⟩, prog_11_method_7_code, 6, (some (Jvm.ClassFile.FieldType.int)))
def kM_97 : kMt := (⟨"TrustedPauseModel", "isKin", "(I)Z"⟩, prog_11_method_5_code, 1, (some (Jvm.ClassFile.FieldType.boolean)))
def kM_98 : kMt := (⟨"TrustedPauseModel", "in", "(JJJ)Z"⟩, prog_11_method_3_code, 6, (some (Jvm.ClassFile.FieldType.boolean)))
def kM_99 : kMt := (⟨"TrustedPauseModel", "tie", "(IIZ)I"⟩, prog_11_method_9_code, 6, (some (Jvm.ClassFile.FieldType.int)))
def kM_100 : kMt := (⟨"TrustedPauseModel", "with", "(IIZ)I"⟩, prog_11_method_8_code, 3, (some (Jvm.ClassFile.FieldType.int)))
def kM_101 : kMt := (⟨"TrustedPauseModel", "ones", "(I)I"⟩, prog_11_method_4_code, 3, (some (Jvm.ClassFile.FieldType.int)))
def kM_102 : kMt := (⟨"TrustedPauseModel", "pause", "(I)I"⟩, prog_11_method_10_code, 3, (some (Jvm.ClassFile.FieldType.int)))
def kM_103 : kMt := (⟨"TrustedPauseModel", "has", "(II)Z"⟩, prog_11_method_6_code, 2, (some (Jvm.ClassFile.FieldType.boolean)))
def kM_104 : kMt := (⟨"TrustedPauseModel", "task", "(IIII)I"⟩, prog_11_method_11_code, 6, (some (Jvm.ClassFile.FieldType.int)))
def kM_105 : kMt := (⟨"TrustedPauseModel", "say", "(I)I"⟩, prog_11_method_12_code, 2, (some (Jvm.ClassFile.FieldType.int)))
def kM_106 : kMt := (⟨"TrustedPauseModel", "wipe", "()I"⟩, prog_11_method_13_code, 2, (some (Jvm.ClassFile.FieldType.int)))
def kM_107 : kMt := (⟨"TrustedPauseModel", "fault", "()I"⟩, prog_11_method_22_code, 3, (some (Jvm.ClassFile.FieldType.int)))
def kM_108 : kMt := (⟨"TrustedPauseModel", "readOn", "(III)I"⟩, prog_11_method_21_code, 4, (some (Jvm.ClassFile.FieldType.int)))
def kM_109 : kMt := (⟨"TrustedPauseModel", "begin", "(I)I"⟩, prog_11_method_17_code, 2, (some (Jvm.ClassFile.FieldType.int)))
def kM_110 : kMt := (⟨"TrustedPauseModel", "isName", "(I)Z"⟩, prog_11_method_15_code, 1, (some (Jvm.ClassFile.FieldType.boolean)))
def kM_111 : kMt := (⟨"TrustedPauseModel", "close", "(I)I"⟩, prog_11_method_14_code, 2, (some (Jvm.ClassFile.FieldType.int)))
def kM_112 : kMt := (⟨"TrustedPauseModel", "deed", "(II)I"⟩, prog_11_method_18_code, 3, (some (Jvm.ClassFile.FieldType.int)))
def kM_113 : kMt := (⟨"TrustedPauseModel", "lend", "(I)I"⟩, prog_11_method_19_code, 2, (some (Jvm.ClassFile.FieldType.int)))
def kM_114 : kMt := (⟨"TrustedPauseModel", "letter", "(III)I"⟩, prog_11_method_20_code, 4, (some (Jvm.ClassFile.FieldType.int)))
def kM_115 : kMt := (⟨"TrustedPauseModel", "isLetter", "(I)Z"⟩, prog_11_method_16_code, 1, (some (Jvm.ClassFile.FieldType.boolean)))
def kM_116 : kMt := (⟨"TrustedPauseModel", "oldest", "()I"⟩, prog_11_method_24_code, 1, (some (Jvm.ClassFile.FieldType.int)))
def kM_117 : kMt := (⟨"TrustedPauseModel", "oldestOf", "(I)I"⟩, prog_11_method_23_code, 4, (some (Jvm.ClassFile.FieldType.int)))
def kM_118 : kMt := (⟨"TrustedPauseModel", "judge", "(I)I"⟩, prog_11_method_36_code, 3, (some (Jvm.ClassFile.FieldType.int)))
def kM_119 : kMt := (⟨"TrustedPauseModel", "refusal", "()I"⟩, prog_11_method_35_code, 1, (some (Jvm.ClassFile.FieldType.int)))
def kM_120 : kMt := (⟨"TrustedPauseModel", "keepNow", "()V"⟩, prog_11_method_31_code, 2, none)
def kM_121 : kMt := (⟨"TrustedPauseModel", "goDays", "()V"⟩, prog_11_method_34_code, 3, none)
def kM_122 : kMt := (⟨"TrustedPauseModel", "whyNot", "(III)I"⟩, prog_11_method_26_code, 4, (some (Jvm.ClassFile.FieldType.int)))
def kM_123 : kMt := (⟨"TrustedPauseModel", "whyNoLoan", "(II)I"⟩, prog_11_method_25_code, 3, (some (Jvm.ClassFile.FieldType.int)))
def kM_124 : kMt := (⟨"TrustedPauseModel", "goOne", "(I)V"⟩, prog_11_method_33_code, 4, none)
def kM_125 : kMt := (⟨"TrustedPauseModel", "sayOne", "(II)V"⟩, prog_11_method_27_code, 3, none)
def kM_126 : kMt := (⟨"TrustedPauseModel", "happen", "(III)V"⟩, prog_11_method_30_code, 4, none)
def kM_127 : kMt := (⟨"TrustedPauseModel", "rest", "(I)V"⟩, prog_11_method_29_code, 2, none)
def kM_128 : kMt := (⟨"TrustedPauseModel", "die", "(I)V"⟩, prog_11_method_28_code, 3, none)
def kM_129 : kMt := (⟨"TrustedPauseModel", "back", "(I)I"⟩, prog_11_method_32_code, 3, (some (Jvm.ClassFile.FieldType.int)))
def kM_130 : kMt := (⟨"TrustedPauseModel", "behind", "(II)I"⟩, prog_11_method_37_code, 4, (some (Jvm.ClassFile.FieldType.int)))
def kM_131 : kMt := (⟨"TrustedPauseModel", "trust", "(I)I"⟩, prog_11_method_38_code, 3, (some (Jvm.ClassFile.FieldType.int)))
def kM_132 : kMt := (⟨"TrustedPauseModel", "first", "(I)I"⟩, prog_11_method_39_code, 3, (some (Jvm.ClassFile.FieldType.int)))
def kM_133 : kMt := (⟨"TrustedPauseModel", "done", "()I"⟩, prog_11_method_40_code, 2, (some (Jvm.ClassFile.FieldType.int)))
def kM_134 : kMt := (⟨"TrustedPauseModel", "holds", "(II)I"⟩, prog_11_method_41_code, 6, (some (Jvm.ClassFile.FieldType.int)))
def kM_135 : kMt := (⟨"TrustedPauseModel", "lent", "(III)I"⟩, prog_11_method_44_code, 7, (some (Jvm.ClassFile.FieldType.int)))
def kM_136 : kMt := (⟨"TrustedPauseModel", "far", "(II)I"⟩, prog_11_method_43_code, 4, (some (Jvm.ClassFile.FieldType.int)))
def kM_137 : kMt := (⟨"TrustedPauseModel", "reach", "(II)I"⟩, prog_11_method_42_code, 7, (some (Jvm.ClassFile.FieldType.int)))
def kM_138 : kMt := (⟨"TrustedPauseModel", "stay", "(I)I"⟩, prog_11_method_48_code, 7, (some (Jvm.ClassFile.FieldType.int)))
def kM_139 : kMt := (⟨"TrustedPauseModel", "worthOf", "(I)I"⟩, prog_11_method_47_code, 4, (some (Jvm.ClassFile.FieldType.int)))
def kM_140 : kMt := (⟨"TrustedPauseModel", "canServe", "(I)Z"⟩, prog_11_method_46_code, 8, (some (Jvm.ClassFile.FieldType.boolean)))
def kM_141 : kMt := (⟨"TrustedPauseModel", "nextOf", "(I)I"⟩, prog_11_method_45_code, 4, (some (Jvm.ClassFile.FieldType.int)))
def kM_142 : kMt := (⟨"TrustedPauseModel", "sentences", "(IIII)I"⟩, prog_11_method_53_code, 5, (some (Jvm.ClassFile.FieldType.int)))
def kM_143 : kMt := (⟨"TrustedPauseModel", "countOf", "(III)I"⟩, prog_11_method_50_code, 5, (some (Jvm.ClassFile.FieldType.int)))
def kM_144 : kMt := (⟨"TrustedPauseModel", "oneLetter", "(I)V"⟩, prog_11_method_49_code, 8, none)
def kM_145 : kMt := (⟨"TrustedPauseModel", "firstOf", "(III)I"⟩, prog_11_method_52_code, 11, (some (Jvm.ClassFile.FieldType.int)))
def kM_146 : kMt := (⟨"TrustedPauseModel", "canFollow", "(IIII)Z"⟩, prog_11_method_51_code, 8, (some (Jvm.ClassFile.FieldType.boolean)))
def kM_147 : kMt := (⟨"TrustedPauseModel", "seen", "(IIZ)I"⟩, prog_11_method_54_code, 4, (some (Jvm.ClassFile.FieldType.int)))
def kM_148 : kMt := (⟨"TrustedPauseModel", "forget", "()I"⟩, prog_11_method_55_code, 2, (some (Jvm.ClassFile.FieldType.int)))
def kM_149 : kMt := (⟨"TrustedPauseModel", "fits", "(I)I"⟩, prog_11_method_58_code, 4, (some (Jvm.ClassFile.FieldType.int)))
def kM_150 : kMt := (⟨"TrustedPauseModel", "isFit", "(I)Z"⟩, prog_11_method_57_code, 4, (some (Jvm.ClassFile.FieldType.boolean)))
def kM_151 : kMt := (⟨"TrustedPauseModel", "whoBy", "(II)I"⟩, prog_11_method_56_code, 2, (some (Jvm.ClassFile.FieldType.int)))
def kM_152 : kMt := (⟨"TrustedPauseModel", "ask", "(I)I"⟩, prog_11_method_59_code, 8, (some (Jvm.ClassFile.FieldType.int)))
def kM_153 : kMt := (⟨"TrustedPauseModel", "waits", "(IIII)I"⟩, prog_11_method_61_code, 6, (some (Jvm.ClassFile.FieldType.int)))
def kM_154 : kMt := (⟨"TrustedPauseModel", "bestTake", "(III)I"⟩, prog_11_method_60_code, 7, (some (Jvm.ClassFile.FieldType.int)))
def kM_155 : kMt := (⟨"TrustedPauseModel", "door", "(IIIII)J"⟩, prog_11_method_64_code, 14, (some (Jvm.ClassFile.FieldType.long)))
def kM_156 : kMt := (⟨"TrustedPauseModel", "isDoor", "(III)Z"⟩, prog_11_method_63_code, 3, (some (Jvm.ClassFile.FieldType.boolean)))
def kM_157 : kMt := (⟨"TrustedPauseModel", "lowest", "(JJI)J"⟩, prog_11_method_62_code, 11, (some (Jvm.ClassFile.FieldType.long)))
def kM_158 : kMt := (⟨"TrustedPauseModel", "year", "(III)I"⟩, prog_11_method_66_code, 6, (some (Jvm.ClassFile.FieldType.int)))
def kM_159 : kMt := (⟨"TrustedPauseModel", "yearOne", "(III)V"⟩, prog_11_method_65_code, 7, none)
def kM_160 : kMt := (⟨"TrustedPauseModel", "image", "(I)I"⟩, prog_11_method_70_code, 2, (some (Jvm.ClassFile.FieldType.int)))
def kM_161 : kMt := (⟨"TrustedPauseModel", "passAll", "()V"⟩, prog_11_method_69_code, 1, none)
def kM_162 : kMt := (⟨"TrustedPauseModel", "pass", "(I)I"⟩, prog_11_method_67_code, 3, (some (Jvm.ClassFile.FieldType.int)))
def kM_163 : kMt := (⟨"TrustedPauseModel", "passRow", "([II)V"⟩, prog_11_method_68_code, 4, none)
def kM_164 : kMt := (⟨"TrustedPauseModel", "restore", "(I)I"⟩, prog_11_method_71_code, 2, (some (Jvm.ClassFile.FieldType.int)))
def kM_165 : kMt := (⟨"TrustedPauseModel", "told", "(I)I"⟩, prog_11_method_74_code, 2, (some (Jvm.ClassFile.FieldType.int)))
def kM_166 : kMt := (⟨"TrustedPauseModel", "ofKin", "(II)I"⟩, prog_11_method_72_code, 3, (some (Jvm.ClassFile.FieldType.int)))
def kM_167 : kMt := (⟨"TrustedPauseModel", "ofTask", "(II)I"⟩, prog_11_method_73_code, 3, (some (Jvm.ClassFile.FieldType.int)))
def kM_168 : kMt := (⟨"TrustedPauseLaw", "law", "([I)Z"⟩, code, 4, (some (Jvm.ClassFile.FieldType.boolean)))
def kM (k : Nat) : kMt := (bif Nat.blt k 84 then (bif Nat.blt k 42 then (bif Nat.blt k 21 then (bif Nat.blt k 10 then (bif Nat.blt k 5 then (bif Nat.blt k 2 then (bif Nat.blt k 1 then kM_0 else kM_1) else (bif Nat.blt k 3 then kM_2 else (bif Nat.blt k 4 then kM_3 else kM_4))) else (bif Nat.blt k 7 then (bif Nat.blt k 6 then kM_5 else kM_6) else (bif Nat.blt k 8 then kM_7 else (bif Nat.blt k 9 then kM_8 else kM_9)))) else (bif Nat.blt k 15 then (bif Nat.blt k 12 then (bif Nat.blt k 11 then kM_10 else kM_11) else (bif Nat.blt k 13 then kM_12 else (bif Nat.blt k 14 then kM_13 else kM_14))) else (bif Nat.blt k 18 then (bif Nat.blt k 16 then kM_15 else (bif Nat.blt k 17 then kM_16 else kM_17)) else (bif Nat.blt k 19 then kM_18 else (bif Nat.blt k 20 then kM_19 else kM_20))))) else (bif Nat.blt k 31 then (bif Nat.blt k 26 then (bif Nat.blt k 23 then (bif Nat.blt k 22 then kM_21 else kM_22) else (bif Nat.blt k 24 then kM_23 else (bif Nat.blt k 25 then kM_24 else kM_25))) else (bif Nat.blt k 28 then (bif Nat.blt k 27 then kM_26 else kM_27) else (bif Nat.blt k 29 then kM_28 else (bif Nat.blt k 30 then kM_29 else kM_30)))) else (bif Nat.blt k 36 then (bif Nat.blt k 33 then (bif Nat.blt k 32 then kM_31 else kM_32) else (bif Nat.blt k 34 then kM_33 else (bif Nat.blt k 35 then kM_34 else kM_35))) else (bif Nat.blt k 39 then (bif Nat.blt k 37 then kM_36 else (bif Nat.blt k 38 then kM_37 else kM_38)) else (bif Nat.blt k 40 then kM_39 else (bif Nat.blt k 41 then kM_40 else kM_41)))))) else (bif Nat.blt k 63 then (bif Nat.blt k 52 then (bif Nat.blt k 47 then (bif Nat.blt k 44 then (bif Nat.blt k 43 then kM_42 else kM_43) else (bif Nat.blt k 45 then kM_44 else (bif Nat.blt k 46 then kM_45 else kM_46))) else (bif Nat.blt k 49 then (bif Nat.blt k 48 then kM_47 else kM_48) else (bif Nat.blt k 50 then kM_49 else (bif Nat.blt k 51 then kM_50 else kM_51)))) else (bif Nat.blt k 57 then (bif Nat.blt k 54 then (bif Nat.blt k 53 then kM_52 else kM_53) else (bif Nat.blt k 55 then kM_54 else (bif Nat.blt k 56 then kM_55 else kM_56))) else (bif Nat.blt k 60 then (bif Nat.blt k 58 then kM_57 else (bif Nat.blt k 59 then kM_58 else kM_59)) else (bif Nat.blt k 61 then kM_60 else (bif Nat.blt k 62 then kM_61 else kM_62))))) else (bif Nat.blt k 73 then (bif Nat.blt k 68 then (bif Nat.blt k 65 then (bif Nat.blt k 64 then kM_63 else kM_64) else (bif Nat.blt k 66 then kM_65 else (bif Nat.blt k 67 then kM_66 else kM_67))) else (bif Nat.blt k 70 then (bif Nat.blt k 69 then kM_68 else kM_69) else (bif Nat.blt k 71 then kM_70 else (bif Nat.blt k 72 then kM_71 else kM_72)))) else (bif Nat.blt k 78 then (bif Nat.blt k 75 then (bif Nat.blt k 74 then kM_73 else kM_74) else (bif Nat.blt k 76 then kM_75 else (bif Nat.blt k 77 then kM_76 else kM_77))) else (bif Nat.blt k 81 then (bif Nat.blt k 79 then kM_78 else (bif Nat.blt k 80 then kM_79 else kM_80)) else (bif Nat.blt k 82 then kM_81 else (bif Nat.blt k 83 then kM_82 else kM_83))))))) else (bif Nat.blt k 126 then (bif Nat.blt k 105 then (bif Nat.blt k 94 then (bif Nat.blt k 89 then (bif Nat.blt k 86 then (bif Nat.blt k 85 then kM_84 else kM_85) else (bif Nat.blt k 87 then kM_86 else (bif Nat.blt k 88 then kM_87 else kM_88))) else (bif Nat.blt k 91 then (bif Nat.blt k 90 then kM_89 else kM_90) else (bif Nat.blt k 92 then kM_91 else (bif Nat.blt k 93 then kM_92 else kM_93)))) else (bif Nat.blt k 99 then (bif Nat.blt k 96 then (bif Nat.blt k 95 then kM_94 else kM_95) else (bif Nat.blt k 97 then kM_96 else (bif Nat.blt k 98 then kM_97 else kM_98))) else (bif Nat.blt k 102 then (bif Nat.blt k 100 then kM_99 else (bif Nat.blt k 101 then kM_100 else kM_101)) else (bif Nat.blt k 103 then kM_102 else (bif Nat.blt k 104 then kM_103 else kM_104))))) else (bif Nat.blt k 115 then (bif Nat.blt k 110 then (bif Nat.blt k 107 then (bif Nat.blt k 106 then kM_105 else kM_106) else (bif Nat.blt k 108 then kM_107 else (bif Nat.blt k 109 then kM_108 else kM_109))) else (bif Nat.blt k 112 then (bif Nat.blt k 111 then kM_110 else kM_111) else (bif Nat.blt k 113 then kM_112 else (bif Nat.blt k 114 then kM_113 else kM_114)))) else (bif Nat.blt k 120 then (bif Nat.blt k 117 then (bif Nat.blt k 116 then kM_115 else kM_116) else (bif Nat.blt k 118 then kM_117 else (bif Nat.blt k 119 then kM_118 else kM_119))) else (bif Nat.blt k 123 then (bif Nat.blt k 121 then kM_120 else (bif Nat.blt k 122 then kM_121 else kM_122)) else (bif Nat.blt k 124 then kM_123 else (bif Nat.blt k 125 then kM_124 else kM_125)))))) else (bif Nat.blt k 147 then (bif Nat.blt k 136 then (bif Nat.blt k 131 then (bif Nat.blt k 128 then (bif Nat.blt k 127 then kM_126 else kM_127) else (bif Nat.blt k 129 then kM_128 else (bif Nat.blt k 130 then kM_129 else kM_130))) else (bif Nat.blt k 133 then (bif Nat.blt k 132 then kM_131 else kM_132) else (bif Nat.blt k 134 then kM_133 else (bif Nat.blt k 135 then kM_134 else kM_135)))) else (bif Nat.blt k 141 then (bif Nat.blt k 138 then (bif Nat.blt k 137 then kM_136 else kM_137) else (bif Nat.blt k 139 then kM_138 else (bif Nat.blt k 140 then kM_139 else kM_140))) else (bif Nat.blt k 144 then (bif Nat.blt k 142 then kM_141 else (bif Nat.blt k 143 then kM_142 else kM_143)) else (bif Nat.blt k 145 then kM_144 else (bif Nat.blt k 146 then kM_145 else kM_146))))) else (bif Nat.blt k 158 then (bif Nat.blt k 152 then (bif Nat.blt k 149 then (bif Nat.blt k 148 then kM_147 else kM_148) else (bif Nat.blt k 150 then kM_149 else (bif Nat.blt k 151 then kM_150 else kM_151))) else (bif Nat.blt k 155 then (bif Nat.blt k 153 then kM_152 else (bif Nat.blt k 154 then kM_153 else kM_154)) else (bif Nat.blt k 156 then kM_155 else (bif Nat.blt k 157 then kM_156 else kM_157)))) else (bif Nat.blt k 163 then (bif Nat.blt k 160 then (bif Nat.blt k 159 then kM_158 else kM_159) else (bif Nat.blt k 161 then kM_160 else (bif Nat.blt k 162 then kM_161 else kM_162))) else (bif Nat.blt k 166 then (bif Nat.blt k 164 then kM_163 else (bif Nat.blt k 165 then kM_164 else kM_165)) else (bif Nat.blt k 167 then kM_166 else (bif Nat.blt k 168 then kM_167 else kM_168))))))))
/-- its room (frames, words of locals), how many arguments (the receiver apart), its class, places of its words in lw_tbl: code, static or instanceMethod, selects, initialized; static (1), virtual (0), a constructor (2) -/
abbrev kRt : Type := Nat × Nat × Nat × Nat × Nat × Nat × Nat × Nat × Nat
def kR_0 : kRt := (3, 63, 0, 8, 72, 71, 0, 54, 2)
def kR_1 : kRt := (1, 23, 0, 1, 80, 79, 0, 55, 2)
def kR_2 : kRt := (0, 0, 2, 99, 84, 83, 0, 56, 1)
def kR_3 : kRt := (1, 20, 0, 3, 121, 120, 0, 57, 2)
def kR_4 : kRt := (2, 43, 0, 0, 136, 135, 0, 58, 2)
def kR_5 : kRt := (1, 20, 0, 7, 169, 168, 0, 59, 2)
def kR_6 : kRt := (1, 20, 0, 6, 196, 195, 0, 60, 2)
def kR_7 : kRt := (1, 20, 0, 4, 221, 220, 0, 61, 2)
def kR_8 : kRt := (1, 20, 0, 5, 247, 246, 0, 62, 2)
def kR_9 : kRt := (2, 43, 0, 2, 266, 265, 0, 63, 2)
def kR_10 : kRt := (1, 22, 4, 8, 328, 326, 327, 54, 0)
def kR_11 : kRt := (0, 0, 1, 8, 331, 330, 0, 54, 1)
def kR_12 : kRt := (0, 0, 3, 8, 334, 333, 0, 54, 1)
def kR_13 : kRt := (2, 43, 3, 8, 338, 336, 337, 54, 0)
def kR_14 : kRt := (1, 20, 3, 1, 342, 340, 341, 55, 0)
def kR_15 : kRt := (1, 20, 0, 1, 347, 345, 346, 55, 0)
def kR_16 : kRt := (0, 0, 1, 99, 350, 349, 0, 65, 1)
def kR_17 : kRt := (1, 21, 1, 8, 357, 355, 356, 54, 0)
def kR_18 : kRt := (0, 0, 1, 1, 361, 359, 360, 55, 0)
def kR_19 : kRt := (1, 22, 4, 8, 365, 363, 364, 54, 0)
def kR_20 : kRt := (1, 22, 1, 8, 369, 367, 368, 54, 0)
def kR_21 : kRt := (0, 0, 1, 3, 373, 371, 372, 57, 0)
def kR_22 : kRt := (0, 0, 0, 8, 377, 375, 376, 54, 0)
def kR_23 : kRt := (3, 67, 0, 8, 381, 379, 380, 54, 0)
def kR_24 : kRt := (2, 45, 0, 3, 385, 383, 384, 57, 0)
def kR_25 : kRt := (1, 22, 1, 3, 389, 387, 388, 57, 0)
def kR_26 : kRt := (1, 22, 2, 3, 393, 392, 0, 57, 1)
def kR_27 : kRt := (0, 0, 1, 3, 396, 395, 0, 57, 1)
def kR_28 : kRt := (7, 160, 1, 8, 400, 398, 399, 54, 0)
def kR_29 : kRt := (6, 140, 0, 8, 404, 403, 0, 54, 0)
def kR_30 : kRt := (5, 114, 2, 0, 408, 406, 407, 58, 0)
def kR_31 : kRt := (2, 47, 1, 0, 412, 411, 1, 58, 0)
def kR_32 : kRt := (1, 26, 1, 1, 416, 414, 415, 55, 0)
def kR_33 : kRt := (4, 91, 2, 0, 423, 422, 2, 58, 0)
def kR_34 : kRt := (2, 45, 0, 1, 428, 426, 427, 55, 0)
def kR_35 : kRt := (1, 21, 1, 1, 432, 430, 431, 55, 0)
def kR_36 : kRt := (0, 0, 2, 8, 435, 434, 0, 54, 1)
def kR_37 : kRt := (1, 21, 2, 1, 439, 437, 438, 55, 0)
def kR_38 : kRt := (1, 21, 1, 1, 444, 442, 443, 55, 0)
def kR_39 : kRt := (2, 45, 1, 1, 451, 449, 450, 55, 0)
def kR_40 : kRt := (3, 65, 3, 0, 455, 454, 3, 58, 0)
def kR_41 : kRt := (2, 43, 1, 3, 459, 457, 458, 57, 0)
def kR_42 : kRt := (2, 41, 2, 1, 463, 461, 462, 55, 0)
def kR_43 : kRt := (1, 21, 1, 8, 466, 465, 0, 54, 1)
def kR_44 : kRt := (3, 65, 1, 3, 473, 471, 472, 57, 0)
def kR_45 : kRt := (7, 160, 2, 8, 478, 476, 477, 54, 0)
def kR_46 : kRt := (7, 160, 1, 8, 482, 480, 481, 54, 0)
def kR_47 : kRt := (7, 160, 1, 8, 486, 484, 485, 54, 0)
def kR_48 : kRt := (7, 160, 0, 8, 490, 488, 489, 54, 0)
def kR_49 : kRt := (2, 41, 2, 8, 495, 493, 494, 54, 0)
def kR_50 : kRt := (2, 45, 0, 8, 500, 498, 499, 54, 0)
def kR_51 : kRt := (4, 93, 3, 8, 505, 503, 504, 54, 0)
def kR_52 : kRt := (2, 44, 2, 1, 509, 507, 508, 55, 0)
def kR_53 : kRt := (1, 21, 1, 1, 513, 511, 512, 55, 0)
def kR_54 : kRt := (3, 68, 2, 1, 517, 515, 516, 55, 0)
def kR_55 : kRt := (5, 118, 1, 8, 522, 520, 521, 54, 0)
def kR_56 : kRt := (4, 96, 1, 7, 526, 524, 525, 59, 0)
def kR_57 : kRt := (2, 44, 1, 7, 530, 529, 4, 59, 0)
def kR_58 : kRt := (1, 21, 1, 7, 534, 533, 5, 59, 0)
def kR_59 : kRt := (3, 68, 2, 7, 540, 539, 6, 59, 0)
def kR_60 : kRt := (1, 21, 1, 7, 544, 543, 7, 59, 0)
def kR_61 : kRt := (3, 76, 4, 8, 550, 548, 549, 54, 0)
def kR_62 : kRt := (2, 46, 3, 5, 554, 552, 553, 62, 0)
def kR_63 : kRt := (1, 21, 2, 5, 561, 560, 8, 62, 0)
def kR_64 : kRt := (2, 49, 3, 5, 567, 565, 566, 62, 0)
def kR_65 : kRt := (0, 0, 1, 5, 571, 570, 9, 62, 0)
def kR_66 : kRt := (1, 22, 4, 5, 575, 574, 10, 62, 0)
def kR_67 : kRt := (1, 23, 3, 8, 580, 578, 579, 54, 0)
def kR_68 : kRt := (0, 0, 3, 6, 584, 582, 583, 60, 0)
def kR_69 : kRt := (0, 0, 0, 8, 588, 586, 587, 54, 0)
def kR_70 : kRt := (3, 70, 1, 8, 592, 590, 591, 54, 0)
def kR_71 : kRt := (2, 46, 1, 4, 596, 594, 595, 61, 0)
def kR_72 : kRt := (1, 22, 2, 4, 600, 599, 11, 61, 0)
def kR_73 : kRt := (0, 0, 2, 4, 603, 602, 0, 61, 1)
def kR_74 : kRt := (3, 70, 1, 8, 608, 606, 607, 54, 0)
def kR_75 : kRt := (2, 46, 0, 4, 612, 610, 611, 61, 0)
def kR_76 : kRt := (1, 23, 1, 4, 616, 615, 12, 61, 0)
def kR_77 : kRt := (1, 25, 4, 8, 623, 621, 622, 54, 0)
def kR_78 : kRt := (0, 0, 3, 8, 627, 626, 13, 54, 0)
def kR_79 : kRt := (2, 54, 5, 8, 631, 629, 630, 54, 0)
def kR_80 : kRt := (0, 0, 2, 8, 635, 634, 0, 54, 1)
def kR_81 : kRt := (1, 26, 3, 8, 638, 637, 0, 54, 1)
def kR_82 : kRt := (0, 0, 2, 8, 641, 640, 0, 54, 1)
def kR_83 : kRt := (0, 0, 2, 8, 644, 643, 0, 54, 1)
def kR_84 : kRt := (4, 90, 3, 8, 649, 647, 648, 54, 0)
def kR_85 : kRt := (3, 67, 1, 1, 654, 652, 653, 55, 0)
def kR_86 : kRt := (2, 47, 1, 8, 664, 662, 663, 54, 0)
def kR_87 : kRt := (0, 0, 1, 8, 668, 667, 14, 54, 0)
def kR_88 : kRt := (1, 26, 1, 7, 672, 670, 671, 59, 0)
def kR_89 : kRt := (0, 0, 1, 6, 677, 675, 676, 60, 0)
def kR_90 : kRt := (2, 47, 1, 8, 681, 679, 680, 54, 0)
def kR_91 : kRt := (2, 44, 1, 8, 685, 683, 684, 54, 0)
def kR_92 : kRt := (0, 0, 1, 8, 689, 688, 15, 54, 0)
def kR_93 : kRt := (1, 22, 2, 8, 693, 692, 16, 54, 0)
def kR_94 : kRt := (1, 20, 2, 8, 697, 696, 17, 54, 0)
def kR_95 : kRt := (1, 20, 0, 9, 702, 701, 0, 64, 2)
def kR_96 : kRt := (2, 45, 4, 9, 820, 818, 819, 64, 0)
def kR_97 : kRt := (1, 25, 1, 9, 823, 822, 0, 64, 1)
def kR_98 : kRt := (0, 0, 3, 9, 827, 826, 0, 64, 1)
def kR_99 : kRt := (2, 45, 3, 9, 833, 831, 832, 64, 0)
def kR_100 : kRt := (0, 0, 3, 9, 836, 835, 0, 64, 1)
def kR_101 : kRt := (0, 0, 1, 9, 839, 838, 0, 64, 1)
def kR_102 : kRt := (1, 25, 1, 9, 843, 841, 842, 64, 0)
def kR_103 : kRt := (0, 0, 2, 9, 847, 846, 0, 64, 1)
def kR_104 : kRt := (2, 45, 4, 9, 851, 849, 850, 64, 0)
def kR_105 : kRt := (1, 25, 1, 9, 856, 854, 855, 64, 0)
def kR_106 : kRt := (0, 0, 0, 9, 862, 860, 861, 64, 0)
def kR_107 : kRt := (4, 91, 0, 9, 866, 864, 865, 64, 0)
def kR_108 : kRt := (3, 68, 3, 9, 870, 869, 18, 64, 0)
def kR_109 : kRt := (2, 45, 1, 9, 874, 873, 19, 64, 0)
def kR_110 : kRt := (1, 25, 1, 9, 877, 876, 0, 64, 1)
def kR_111 : kRt := (0, 0, 1, 9, 883, 882, 20, 64, 0)
def kR_112 : kRt := (1, 21, 2, 9, 887, 886, 21, 64, 0)
def kR_113 : kRt := (2, 45, 1, 9, 891, 890, 22, 64, 0)
def kR_114 : kRt := (2, 45, 3, 9, 895, 894, 23, 64, 0)
def kR_115 : kRt := (1, 25, 1, 9, 898, 897, 0, 64, 1)
def kR_116 : kRt := (2, 44, 0, 9, 904, 902, 903, 64, 0)
def kR_117 : kRt := (1, 21, 1, 9, 908, 907, 24, 64, 0)
def kR_118 : kRt := (7, 154, 1, 9, 912, 910, 911, 64, 0)
def kR_119 : kRt := (6, 134, 0, 9, 917, 916, 25, 64, 0)
def kR_120 : kRt := (0, 0, 0, 9, 921, 920, 26, 64, 0)
def kR_121 : kRt := (5, 112, 0, 9, 926, 925, 27, 64, 0)
def kR_122 : kRt := (3, 64, 3, 9, 930, 929, 28, 64, 0)
def kR_123 : kRt := (1, 21, 2, 9, 935, 934, 29, 64, 0)
def kR_124 : kRt := (4, 89, 1, 9, 939, 938, 30, 64, 0)
def kR_125 : kRt := (1, 21, 2, 9, 943, 942, 31, 64, 0)
def kR_126 : kRt := (3, 66, 3, 9, 947, 946, 32, 64, 0)
def kR_127 : kRt := (0, 0, 1, 9, 951, 950, 33, 64, 0)
def kR_128 : kRt := (2, 44, 1, 9, 955, 954, 34, 64, 0)
def kR_129 : kRt := (0, 0, 1, 9, 959, 958, 35, 64, 0)
def kR_130 : kRt := (7, 154, 2, 9, 963, 961, 962, 64, 0)
def kR_131 : kRt := (7, 154, 1, 9, 967, 965, 966, 64, 0)
def kR_132 : kRt := (7, 154, 1, 9, 971, 969, 970, 64, 0)
def kR_133 : kRt := (7, 154, 0, 9, 975, 973, 974, 64, 0)
def kR_134 : kRt := (2, 45, 2, 9, 979, 977, 978, 64, 0)
def kR_135 : kRt := (3, 70, 3, 9, 984, 982, 983, 64, 0)
def kR_136 : kRt := (2, 47, 2, 9, 988, 987, 36, 64, 0)
def kR_137 : kRt := (1, 21, 2, 9, 992, 991, 37, 64, 0)
def kR_138 : kRt := (4, 97, 1, 9, 996, 994, 995, 64, 0)
def kR_139 : kRt := (1, 21, 1, 9, 1000, 999, 38, 64, 0)
def kR_140 : kRt := (3, 70, 1, 9, 1004, 1003, 39, 64, 0)
def kR_141 : kRt := (1, 21, 1, 9, 1008, 1007, 40, 64, 0)
def kR_142 : kRt := (2, 57, 4, 9, 1012, 1010, 1011, 64, 0)
def kR_143 : kRt := (1, 27, 3, 9, 1017, 1016, 41, 64, 0)
def kR_144 : kRt := (0, 0, 1, 9, 1021, 1020, 42, 64, 0)
def kR_145 : kRt := (1, 27, 3, 9, 1027, 1026, 43, 64, 0)
def kR_146 : kRt := (0, 0, 4, 9, 1031, 1030, 44, 64, 0)
def kR_147 : kRt := (2, 45, 3, 9, 1035, 1033, 1034, 64, 0)
def kR_148 : kRt := (0, 0, 0, 9, 1040, 1038, 1039, 64, 0)
def kR_149 : kRt := (2, 48, 1, 9, 1044, 1042, 1043, 64, 0)
def kR_150 : kRt := (1, 25, 1, 9, 1048, 1047, 45, 64, 0)
def kR_151 : kRt := (0, 0, 2, 9, 1052, 1051, 0, 64, 1)
def kR_152 : kRt := (3, 71, 1, 9, 1056, 1054, 1055, 64, 0)
def kR_153 : kRt := (1, 26, 4, 9, 1061, 1059, 1060, 64, 0)
def kR_154 : kRt := (0, 0, 3, 9, 1065, 1064, 46, 64, 0)
def kR_155 : kRt := (2, 47, 5, 9, 1069, 1067, 1068, 64, 0)
def kR_156 : kRt := (1, 25, 3, 9, 1072, 1071, 0, 64, 1)
def kR_157 : kRt := (0, 0, 3, 9, 1078, 1077, 0, 64, 1)
def kR_158 : kRt := (5, 115, 3, 9, 1082, 1080, 1081, 64, 0)
def kR_159 : kRt := (4, 89, 3, 9, 1090, 1089, 47, 64, 0)
def kR_160 : kRt := (3, 65, 1, 9, 1094, 1092, 1093, 64, 0)
def kR_161 : kRt := (2, 45, 0, 9, 1098, 1097, 48, 64, 0)
def kR_162 : kRt := (0, 0, 1, 9, 1102, 1101, 49, 64, 0)
def kR_163 : kRt := (1, 22, 2, 9, 1106, 1105, 50, 64, 0)
def kR_164 : kRt := (3, 65, 1, 9, 1110, 1108, 1109, 64, 0)
def kR_165 : kRt := (1, 25, 1, 9, 1114, 1112, 1113, 64, 0)
def kR_166 : kRt := (0, 0, 2, 9, 1120, 1119, 51, 64, 0)
def kR_167 : kRt := (0, 0, 2, 9, 1125, 1124, 52, 64, 0)
def kR_168 : kRt := (8, 183, 1, 99, 0, 0, 0, 0, 1)
def kR (k : Nat) : kRt := (bif Nat.blt k 84 then (bif Nat.blt k 42 then (bif Nat.blt k 21 then (bif Nat.blt k 10 then (bif Nat.blt k 5 then (bif Nat.blt k 2 then (bif Nat.blt k 1 then kR_0 else kR_1) else (bif Nat.blt k 3 then kR_2 else (bif Nat.blt k 4 then kR_3 else kR_4))) else (bif Nat.blt k 7 then (bif Nat.blt k 6 then kR_5 else kR_6) else (bif Nat.blt k 8 then kR_7 else (bif Nat.blt k 9 then kR_8 else kR_9)))) else (bif Nat.blt k 15 then (bif Nat.blt k 12 then (bif Nat.blt k 11 then kR_10 else kR_11) else (bif Nat.blt k 13 then kR_12 else (bif Nat.blt k 14 then kR_13 else kR_14))) else (bif Nat.blt k 18 then (bif Nat.blt k 16 then kR_15 else (bif Nat.blt k 17 then kR_16 else kR_17)) else (bif Nat.blt k 19 then kR_18 else (bif Nat.blt k 20 then kR_19 else kR_20))))) else (bif Nat.blt k 31 then (bif Nat.blt k 26 then (bif Nat.blt k 23 then (bif Nat.blt k 22 then kR_21 else kR_22) else (bif Nat.blt k 24 then kR_23 else (bif Nat.blt k 25 then kR_24 else kR_25))) else (bif Nat.blt k 28 then (bif Nat.blt k 27 then kR_26 else kR_27) else (bif Nat.blt k 29 then kR_28 else (bif Nat.blt k 30 then kR_29 else kR_30)))) else (bif Nat.blt k 36 then (bif Nat.blt k 33 then (bif Nat.blt k 32 then kR_31 else kR_32) else (bif Nat.blt k 34 then kR_33 else (bif Nat.blt k 35 then kR_34 else kR_35))) else (bif Nat.blt k 39 then (bif Nat.blt k 37 then kR_36 else (bif Nat.blt k 38 then kR_37 else kR_38)) else (bif Nat.blt k 40 then kR_39 else (bif Nat.blt k 41 then kR_40 else kR_41)))))) else (bif Nat.blt k 63 then (bif Nat.blt k 52 then (bif Nat.blt k 47 then (bif Nat.blt k 44 then (bif Nat.blt k 43 then kR_42 else kR_43) else (bif Nat.blt k 45 then kR_44 else (bif Nat.blt k 46 then kR_45 else kR_46))) else (bif Nat.blt k 49 then (bif Nat.blt k 48 then kR_47 else kR_48) else (bif Nat.blt k 50 then kR_49 else (bif Nat.blt k 51 then kR_50 else kR_51)))) else (bif Nat.blt k 57 then (bif Nat.blt k 54 then (bif Nat.blt k 53 then kR_52 else kR_53) else (bif Nat.blt k 55 then kR_54 else (bif Nat.blt k 56 then kR_55 else kR_56))) else (bif Nat.blt k 60 then (bif Nat.blt k 58 then kR_57 else (bif Nat.blt k 59 then kR_58 else kR_59)) else (bif Nat.blt k 61 then kR_60 else (bif Nat.blt k 62 then kR_61 else kR_62))))) else (bif Nat.blt k 73 then (bif Nat.blt k 68 then (bif Nat.blt k 65 then (bif Nat.blt k 64 then kR_63 else kR_64) else (bif Nat.blt k 66 then kR_65 else (bif Nat.blt k 67 then kR_66 else kR_67))) else (bif Nat.blt k 70 then (bif Nat.blt k 69 then kR_68 else kR_69) else (bif Nat.blt k 71 then kR_70 else (bif Nat.blt k 72 then kR_71 else kR_72)))) else (bif Nat.blt k 78 then (bif Nat.blt k 75 then (bif Nat.blt k 74 then kR_73 else kR_74) else (bif Nat.blt k 76 then kR_75 else (bif Nat.blt k 77 then kR_76 else kR_77))) else (bif Nat.blt k 81 then (bif Nat.blt k 79 then kR_78 else (bif Nat.blt k 80 then kR_79 else kR_80)) else (bif Nat.blt k 82 then kR_81 else (bif Nat.blt k 83 then kR_82 else kR_83))))))) else (bif Nat.blt k 126 then (bif Nat.blt k 105 then (bif Nat.blt k 94 then (bif Nat.blt k 89 then (bif Nat.blt k 86 then (bif Nat.blt k 85 then kR_84 else kR_85) else (bif Nat.blt k 87 then kR_86 else (bif Nat.blt k 88 then kR_87 else kR_88))) else (bif Nat.blt k 91 then (bif Nat.blt k 90 then kR_89 else kR_90) else (bif Nat.blt k 92 then kR_91 else (bif Nat.blt k 93 then kR_92 else kR_93)))) else (bif Nat.blt k 99 then (bif Nat.blt k 96 then (bif Nat.blt k 95 then kR_94 else kR_95) else (bif Nat.blt k 97 then kR_96 else (bif Nat.blt k 98 then kR_97 else kR_98))) else (bif Nat.blt k 102 then (bif Nat.blt k 100 then kR_99 else (bif Nat.blt k 101 then kR_100 else kR_101)) else (bif Nat.blt k 103 then kR_102 else (bif Nat.blt k 104 then kR_103 else kR_104))))) else (bif Nat.blt k 115 then (bif Nat.blt k 110 then (bif Nat.blt k 107 then (bif Nat.blt k 106 then kR_105 else kR_106) else (bif Nat.blt k 108 then kR_107 else (bif Nat.blt k 109 then kR_108 else kR_109))) else (bif Nat.blt k 112 then (bif Nat.blt k 111 then kR_110 else kR_111) else (bif Nat.blt k 113 then kR_112 else (bif Nat.blt k 114 then kR_113 else kR_114)))) else (bif Nat.blt k 120 then (bif Nat.blt k 117 then (bif Nat.blt k 116 then kR_115 else kR_116) else (bif Nat.blt k 118 then kR_117 else (bif Nat.blt k 119 then kR_118 else kR_119))) else (bif Nat.blt k 123 then (bif Nat.blt k 121 then kR_120 else (bif Nat.blt k 122 then kR_121 else kR_122)) else (bif Nat.blt k 124 then kR_123 else (bif Nat.blt k 125 then kR_124 else kR_125)))))) else (bif Nat.blt k 147 then (bif Nat.blt k 136 then (bif Nat.blt k 131 then (bif Nat.blt k 128 then (bif Nat.blt k 127 then kR_126 else kR_127) else (bif Nat.blt k 129 then kR_128 else (bif Nat.blt k 130 then kR_129 else kR_130))) else (bif Nat.blt k 133 then (bif Nat.blt k 132 then kR_131 else kR_132) else (bif Nat.blt k 134 then kR_133 else (bif Nat.blt k 135 then kR_134 else kR_135)))) else (bif Nat.blt k 141 then (bif Nat.blt k 138 then (bif Nat.blt k 137 then kR_136 else kR_137) else (bif Nat.blt k 139 then kR_138 else (bif Nat.blt k 140 then kR_139 else kR_140))) else (bif Nat.blt k 144 then (bif Nat.blt k 142 then kR_141 else (bif Nat.blt k 143 then kR_142 else kR_143)) else (bif Nat.blt k 145 then kR_144 else (bif Nat.blt k 146 then kR_145 else kR_146))))) else (bif Nat.blt k 158 then (bif Nat.blt k 152 then (bif Nat.blt k 149 then (bif Nat.blt k 148 then kR_147 else kR_148) else (bif Nat.blt k 150 then kR_149 else (bif Nat.blt k 151 then kR_150 else kR_151))) else (bif Nat.blt k 155 then (bif Nat.blt k 153 then kR_152 else (bif Nat.blt k 154 then kR_153 else kR_154)) else (bif Nat.blt k 156 then kR_155 else (bif Nat.blt k 157 then kR_156 else kR_157)))) else (bif Nat.blt k 163 then (bif Nat.blt k 160 then (bif Nat.blt k 159 then kR_158 else kR_159) else (bif Nat.blt k 161 then kR_160 else (bif Nat.blt k 162 then kR_161 else kR_162))) else (bif Nat.blt k 166 then (bif Nat.blt k 164 then kR_163 else (bif Nat.blt k 165 then kR_164 else kR_165)) else (bif Nat.blt k 167 then kR_166 else (bif Nat.blt k 168 then kR_167 else kR_168))))))))
/-- a class: words, and the default fields -/
def kD_0 : Nat × Nat × List Value := (133, 58, [.null, .int 0, .int 0, .int 0, .int 0, .int 0])
def kD_1 : Nat × Nat × List Value := (77, 55, [.null, .null, .null, .null, .int 0, .int 0, .int 0])
def kD_2 : Nat × Nat × List Value := (263, 63, [.null, .null, .null, .int 0])
def kD_3 : Nat × Nat × List Value := (118, 57, [.null, .int 0])
def kD_4 : Nat × Nat × List Value := (218, 61, [.null, .null, .int 0, .int 0, .int 0])
def kD_5 : Nat × Nat × List Value := (244, 62, [.null, .null, .null, .null])
def kD_6 : Nat × Nat × List Value := (193, 60, [.null, .null, .null, .int 0])
def kD_7 : Nat × Nat × List Value := (166, 59, [.null, .null, .null, .int 0, .int 0])
def kD_8 : Nat × Nat × List Value := (69, 54, [.null, .null, .null, .null, .null, .null, .null, .null, .null, .null, .null])
def kD_9 : Nat × Nat × List Value := (699, 64, [.int 0, .null, .null, .null, .null, .int 0, .int 0, .null, .null, .null, .null, .null, .null, .int 0, .null, .int 0, .null, .null, .null, .null, .null, .int 0, .null, .int 0, .int 0, .int 0, .int 0, .int 0, .null, .null, .null, .null, .null, .null, .null, .int 0, .int 0])
def kD (k : Nat) : Nat × Nat × List Value := (bif Nat.blt k 5 then (bif Nat.blt k 2 then (bif Nat.blt k 1 then kD_0 else kD_1) else (bif Nat.blt k 3 then kD_2 else (bif Nat.blt k 4 then kD_3 else kD_4))) else (bif Nat.blt k 7 then (bif Nat.blt k 6 then kD_5 else kD_6) else (bif Nat.blt k 8 then kD_7 else (bif Nat.blt k 9 then kD_8 else kD_9))))
def kArr : Nat × Nat × Nat := (116, 816, 216)
/-- the law's number -/
def kN : Nat := 168
end
section
/-! The tables are right: decided, method by method -/
abbrev kO : Type := Instr × Nat × Nat × Nat × Nat × Int
def fty (ci k : Nat) : FieldType := (parseFieldDescriptor (((vwCl.getD ci ("", fun _ => ("", "", "", false), 0)).2.1 k).2.2.1)).getD .int
def wAt (p : Nat) (c : Jvm.Cond) : Bool := decide (lw_tbl[p]? = some c) && goodWord c
def wNt (p : Nat) (c : Jvm.Cond) : Bool := decide (lw_tbl[p]? = some c)
/-- the words that every contract asks for -/
def kWs : List Jvm.Cond := lw_tbl.filter goodWord
theorem wAt_in {p : Nat} {c : Jvm.Cond} (h : wAt p c = true) : c ∈ kWs := by
  simp only [wAt, Bool.and_eq_true, decide_eq_true_eq] at h
  exact List.mem_filter.mpr ⟨List.mem_of_getElem? h.1, h.2⟩
theorem wNt_in {p : Nat} {c : Jvm.Cond} (h : wNt p c = true) : c ∈ lw_tbl := List.mem_of_getElem? (of_decide_eq_true h)
def ilen : Instr → Nat
  | .iconst _ => 1
  | .lconst _ => 1
  | .iload_n _ => 1
  | .lload_n _ => 1
  | .aload_n _ => 1
  | .istore_n _ => 1
  | .lstore_n _ => 1
  | .astore_n _ => 1
  | .iadd => 1
  | .isub => 1
  | .imul => 1
  | .idiv => 1
  | .irem => 1
  | .iand => 1
  | .ior => 1
  | .ixor => 1
  | .ishl => 1
  | .ishr => 1
  | .iushr => 1
  | .ladd => 1
  | .lsub => 1
  | .lmul => 1
  | .ldiv => 1
  | .lrem => 1
  | .lcmp => 1
  | .i2l => 1
  | .l2i => 1
  | .dup => 1
  | .dup2 => 1
  | .pop => 1
  | .iaload => 1
  | .iastore => 1
  | .baload => 1
  | .bastore => 1
  | .laload => 1
  | .lastore => 1
  | .arraylength => 1
  | .ireturn => 1
  | .lreturn => 1
  | .areturn => 1
  | .return_ => 1
  | .bipush _ => 2
  | .ldc _ => 2
  | .iload _ => 2
  | .lload _ => 2
  | .istore _ => 2
  | .lstore _ => 2
  | .newarray _ => 2
  | .tableswitch _ _ _ _ => 0
  | .lookupswitch _ _ => 0
  | _ => 3
def kOwn (mi : Nat) : String := (kM mi).1.cls
def rmOK (mi b : Nat) : Bool := Nat.ble ((kR b).1 + 1) (kR mi).1 && Nat.ble (8 + ((kM b).2.2.1 + 11) + (kR b).2.1) (kR mi).2.1
def pOK (mi : Nat) (e : kO) : Bool := match e.1 with
  | .getfield i => match vwCl[e.2.2.1]? with
    | some q => Nat.blt e.2.2.2.1 q.2.2 && wAt e.2.2.2.2.1 (.fieldLink (kOwn mi) i q.1 (q.2.1 e.2.2.2.1).2.1 (q.2.1 e.2.2.2.1).2.2.1) && decide ((q.2.1 e.2.2.2.1).1 = q.1)
    | none => false
  | .putfield i => match vwCl[e.2.2.1]? with
    | some q => Nat.blt e.2.2.2.1 q.2.2 && wAt e.2.2.2.2.1 (.fieldLink (kOwn mi) i q.1 (q.2.1 e.2.2.2.1).2.1 (q.2.1 e.2.2.2.1).2.2.1) && decide ((q.2.1 e.2.2.2.1).1 = q.1)
    | none => false
  | .invokevirtual i => Nat.beq (kR e.2.2.2.1).2.2.2.2.2.2.2.2 0 && Nat.blt e.2.2.2.1 kN && wAt e.2.2.2.2.1 (.methodLink (kOwn mi) i (kM e.2.2.2.1).1) && rmOK mi e.2.2.2.1
  | .invokestatic i => bif Nat.beq e.2.2.1 7 then wAt e.2.2.2.2.1 (.methodLink (kOwn mi) i arraycopyName) && Nat.ble 1 (kR mi).1 && Nat.ble 26 (kR mi).2.1
    else bif Nat.beq e.2.2.1 8 then wAt e.2.2.2.2.1 (.methodLink (kOwn mi) i Lib.Math.max.name) && Nat.ble 1 (kR mi).1 && Nat.ble 21 (kR mi).2.1
    else bif Nat.beq e.2.2.1 9 then wAt e.2.2.2.2.1 (.methodLink (kOwn mi) i Lib.Math.min.name) && Nat.ble 1 (kR mi).1 && Nat.ble 21 (kR mi).2.1
    else Nat.beq (kR e.2.2.2.1).2.2.2.2.2.2.2.2 1 && Nat.blt e.2.2.2.1 kN && (bif Nat.beq e.2.2.1 1 then wAt e.2.2.2.2.1 (.methodLink (kOwn mi) i (kM e.2.2.2.1).1) else wNt e.2.2.2.2.1 (.methodLinkNest (kOwn mi) i (kM e.2.2.2.1).1 "TrustedPause")) && rmOK mi e.2.2.2.1
  | .invokespecial i => bif Nat.beq e.2.2.1 6 then wAt e.2.2.2.2.1 (.methodLink (kOwn mi) i objectInit) && Nat.ble 1 (kR mi).1 && Nat.ble 20 (kR mi).2.1
    else Nat.beq (kR e.2.2.2.1).2.2.2.2.2.2.2.2 2 && Nat.blt e.2.2.2.1 kN && (bif Nat.beq e.2.2.1 2 then wAt e.2.2.2.2.1 (.methodLink (kOwn mi) i (kM e.2.2.2.1).1) else wNt e.2.2.2.2.1 (.methodLinkNest (kOwn mi) i (kM e.2.2.2.1).1 "TrustedPause")) && rmOK mi e.2.2.2.1
  | .new i => match vwCl[e.2.2.1]? with
    | some q => wAt e.2.2.2.2.1 (.classLink (kOwn mi) i q.1)
    | none => false
  | .ldc i => wAt e.2.2.2.2.1 (.constant (kOwn mi) i (Int32.ofInt e.2.2.2.2.2))
  | .ldc_w i => wAt e.2.2.2.2.1 (.constant (kOwn mi) i (Int32.ofInt e.2.2.2.2.2))
  | .ldc2_w i => wAt e.2.2.2.2.1 (.constantLong (kOwn mi) i (Int64.ofInt e.2.2.2.2.2))
  | .lookupswitch _ ps => (ps.toList.zip (ps.toList.drop 1)).all (fun (a, next) => a.1 < next.1)
  | _ => true
def eOK (mi : Nat) (q : kE) : Bool := decide (decode (kM mi).2.1 q.1 = .ok (q.2.1, q.2.2.1)) && (Nat.beq (ilen q.2.1) 0 || Nat.beq (ilen q.2.1) q.2.2.1) && pOK mi q.2
def mOK (mi : Nat) : Bool :=
  wAt (kR mi).2.2.2.2.1 (.code (kM mi).1 (kM mi).2.1 (kM mi).2.2.1 (kM mi).2.2.2) && wAt (kR mi).2.2.2.2.2.2.2.1 (.initialized (kM mi).1.cls)
  && decide ((kM mi).1.cls ≠ "java/lang/invoke/MethodHandle" ∧ (kM mi).1.cls ≠ "java/lang/invoke/VarHandle" ∧ (parseMethodDescriptor (kM mi).1.desc).map (fun d => d.parameters.length) = some (kR mi).2.2.1)
  && plainName (kM mi).1.cls
  && (match (kR mi).2.2.2.2.2.2.2.2 with
    | 0 => wAt (kR mi).2.2.2.2.2.1 (.instanceMethod (kM mi).1) && wAt (kR mi).2.2.2.2.2.2.1 (.selects (kM mi).1.cls (kM mi).1 (kM mi).1)
    | 1 => wAt (kR mi).2.2.2.2.2.1 (.static (kM mi).1)
    | 2 => wAt (kR mi).2.2.2.2.2.1 (.instanceMethod (kM mi).1) && decide ((kM mi).1.name = "<init>") && decide ((kM mi).2.2.2 = none)
    | _ => false)
  && (match vwCl[(kR mi).2.2.2.1]? with
    | some q => decide (q.1 = (kM mi).1.cls)
    | none => !Nat.beq (kR mi).2.2.2.2.2.2.2.2 0 && !Nat.blt (kR mi).2.2.2.1 10)
def cOK (ci : Nat) : Bool := match vwCl[ci]? with
  | some q => wAt (kD ci).1 (.instantiable q.1 q.2.2) && wAt (kD ci).2.1 (.initialized q.1) && (u_ws q.1 q.2.1 q.2.2).all (fun w => decide (w ∈ lw_tbl) && goodWord w)
    && (List.range q.2.2).all (fun k => decide (parseFieldDescriptor (q.2.1 k).2.2.1 = some (fty ci k)) && decide (defaultValue (fty ci k) = vp_V (kD ci).2.2 k))
    && (List.range q.2.2).all (fun a => (List.range q.2.2).all (fun b => Nat.beq a b || decide ((q.2.1 a).2.1 ≠ (q.2.1 b).2.1))) && Nat.beq (kD ci).2.2.length q.2.2
  | none => true
set_option maxRecDepth 100000 in
theorem cOK_all : (List.range 10).all cOK = true := by decide +kernel
set_option maxRecDepth 100000 in
theorem mOK_0 : (List.range' 0 12).all mOK = true := by decide +kernel
set_option maxRecDepth 100000 in
theorem mOK_12 : (List.range' 12 12).all mOK = true := by decide +kernel
set_option maxRecDepth 100000 in
theorem mOK_24 : (List.range' 24 12).all mOK = true := by decide +kernel
set_option maxRecDepth 100000 in
theorem mOK_36 : (List.range' 36 12).all mOK = true := by decide +kernel
set_option maxRecDepth 100000 in
theorem mOK_48 : (List.range' 48 12).all mOK = true := by decide +kernel
set_option maxRecDepth 100000 in
theorem mOK_60 : (List.range' 60 12).all mOK = true := by decide +kernel
set_option maxRecDepth 100000 in
theorem mOK_72 : (List.range' 72 12).all mOK = true := by decide +kernel
set_option maxRecDepth 100000 in
theorem mOK_84 : (List.range' 84 12).all mOK = true := by decide +kernel
set_option maxRecDepth 100000 in
theorem mOK_96 : (List.range' 96 12).all mOK = true := by decide +kernel
set_option maxRecDepth 100000 in
theorem mOK_108 : (List.range' 108 12).all mOK = true := by decide +kernel
set_option maxRecDepth 100000 in
theorem mOK_120 : (List.range' 120 12).all mOK = true := by decide +kernel
set_option maxRecDepth 100000 in
theorem mOK_132 : (List.range' 132 12).all mOK = true := by decide +kernel
set_option maxRecDepth 100000 in
theorem mOK_144 : (List.range' 144 12).all mOK = true := by decide +kernel
set_option maxRecDepth 100000 in
theorem mOK_156 : (List.range' 156 12).all mOK = true := by decide +kernel
end
section
set_option maxRecDepth 100000 in
theorem eOK_0 : (List.range' 0 16).all (fun mi => (kLt mi).all (eOK mi)) = true := by decide +kernel
set_option maxRecDepth 100000 in
theorem eOK_16 : (List.range' 16 16).all (fun mi => (kLt mi).all (eOK mi)) = true := by decide +kernel
set_option maxRecDepth 100000 in
theorem eOK_32 : (List.range' 32 16).all (fun mi => (kLt mi).all (eOK mi)) = true := by decide +kernel
set_option maxRecDepth 100000 in
theorem eOK_48 : (List.range' 48 16).all (fun mi => (kLt mi).all (eOK mi)) = true := by decide +kernel
set_option maxRecDepth 100000 in
theorem eOK_64 : (List.range' 64 16).all (fun mi => (kLt mi).all (eOK mi)) = true := by decide +kernel
set_option maxRecDepth 100000 in
theorem eOK_80 : (List.range' 80 16).all (fun mi => (kLt mi).all (eOK mi)) = true := by decide +kernel
end
section
set_option maxRecDepth 100000 in
theorem eOK_96 : (List.range' 96 16).all (fun mi => (kLt mi).all (eOK mi)) = true := by decide +kernel
set_option maxRecDepth 100000 in
theorem eOK_112 : (List.range' 112 16).all (fun mi => (kLt mi).all (eOK mi)) = true := by decide +kernel
set_option maxRecDepth 100000 in
theorem eOK_128 : (List.range' 128 16).all (fun mi => (kLt mi).all (eOK mi)) = true := by decide +kernel
set_option maxRecDepth 100000 in
theorem eOK_144 : (List.range' 144 16).all (fun mi => (kLt mi).all (eOK mi)) = true := by decide +kernel
set_option maxRecDepth 100000 in
theorem eOK_160 : (List.range' 160 8).all (fun mi => (kLt mi).all (eOK mi)) = true := by decide +kernel
end
section
set_option maxRecDepth 100000 in
theorem eOK_L0 : kL_168_0.all (eOK 168) = true := by decide +kernel
set_option maxRecDepth 100000 in
theorem eOK_L1 : kL_168_1.all (eOK 168) = true := by decide +kernel
set_option maxRecDepth 100000 in
theorem eOK_L2 : kL_168_2.all (eOK 168) = true := by decide +kernel
set_option maxRecDepth 100000 in
theorem eOK_L3 : kL_168_3.all (eOK 168) = true := by decide +kernel
set_option maxRecDepth 100000 in
theorem eOK_L4 : kL_168_4.all (eOK 168) = true := by decide +kernel
set_option maxRecDepth 100000 in
theorem eOK_L5 : kL_168_5.all (eOK 168) = true := by decide +kernel
set_option maxRecDepth 100000 in
theorem eOK_L6 : kL_168_6.all (eOK 168) = true := by decide +kernel
set_option maxRecDepth 100000 in
theorem eOK_L7 : kL_168_7.all (eOK 168) = true := by decide +kernel
set_option maxRecDepth 100000 in
theorem eOK_L8 : kL_168_8.all (eOK 168) = true := by decide +kernel
set_option maxRecDepth 100000 in
theorem eOK_L9 : kL_168_9.all (eOK 168) = true := by decide +kernel
set_option maxRecDepth 100000 in
theorem eOK_L10 : kL_168_10.all (eOK 168) = true := by decide +kernel
set_option maxRecDepth 100000 in
theorem eOK_L11 : kL_168_11.all (eOK 168) = true := by decide +kernel
set_option maxRecDepth 100000 in
theorem arr_all : (wAt kArr.1 (.arrayClass .int) && wAt kArr.2.1 (.arrayClass .long) && wAt kArr.2.2 (.arrayClass .boolean)) = true := by decide +kernel
set_option maxRecDepth 100000 in
theorem nat_all : ([Cond.native arraycopyName, .static arraycopyName, .initialized "java/lang/System", .instanceMethod objectInit, .code objectInit ⟨#[0xb1]⟩ 1 none, .static Lib.Math.max.name, .static Lib.Math.min.name, .initialized "java/lang/Math", .code Lib.Math.max.name Lib.Math.max.code 2 (some .int), .code Lib.Math.min.name Lib.Math.min.code 2 (some .int)] : List Jvm.Cond).all (fun w => decide (w ∈ lw_tbl) && goodWord w) = true := by decide +kernel
end
section
/-! The machine's picture as a program that runs: a world is a list of cells, a reference is a cell's number in it; .retAddr 0 is the script, .retAddr 1 an unset local, .retAddr 2 the second word of a long -/
abbrev AC : Type := (FieldType × vp_A) ⊕ (Nat × List Value)
abbrev AW : Type := List AC
def lk : Nat → List kE → Option kO
  | _, [] => none
  | p, q :: r => bif Nat.beq p q.1 then some q.2 else lk p r
def kI (mi pc : Nat) : Option kO := lk pc (kLt mi)
def uns : Value := .retAddr 1
def sec : Value := .retAddr 2
def isSec : Value → Bool
  | .retAddr n => Nat.beq n 2
  | _ => false
def isLong : Value → Bool
  | .long _ => true
  | _ => false
def fok (w : AW) (f ci k : Nat) : Bool := match w[f]? with
  | some (.inr o) => Nat.beq o.1 ci && Nat.blt k o.2.length
  | _ => false
def cok (w : AW) (f ci : Nat) : Bool := match w[f]? with
  | some (.inr o) => Nat.beq o.1 ci
  | _ => false
def fget (w : AW) (f k : Nat) : Value := match w[f]? with
  | some (.inr o) => o.2.getD k .null
  | _ => .null
def fset (w : AW) (f k : Nat) (v : Value) : AW := match w[f]? with
  | some (.inr o) => w.set f (.inr (o.1, o.2.set k v))
  | _ => w
def alen (w : AW) (a : Nat) : Nat := match w[a]? with
  | some (.inl x) => x.2.1
  | _ => 0
def arr (w : AW) (a : Nat) : Bool := match w[a]? with
  | some (.inl x) => x.1 == .int || x.1 == .long || x.1 == .boolean
  | _ => false
def aok (w : AW) (a : Nat) : Bool := match w[a]? with
  | some (.inl (.int, _, .inl _)) => true
  | _ => false
def aget (w : AW) (a : Nat) : Nat → Int32 := match w[a]? with
  | some (.inl (_, _, .inl g)) => g
  | _ => fun _ => 0
def aset (w : AW) (a : Nat) (g : Nat → Int32) : AW := match w[a]? with
  | some (.inl (t, n, .inl _)) => w.set a (.inl (t, n, .inl g))
  | _ => w
def zok (w : AW) (a : Nat) : Bool := match w[a]? with
  | some (.inl (.boolean, _, .inl _)) => true
  | _ => false
def jok (w : AW) (a : Nat) : Bool := match w[a]? with
  | some (.inl (.long, _, .inr (.inl _))) => true
  | _ => false
def jget (w : AW) (a : Nat) : Nat → Int64 := match w[a]? with
  | some (.inl (_, _, .inr (.inl g))) => g
  | _ => fun _ => 0
def jset (w : AW) (a : Nat) (g : Nat → Int64) : AW := match w[a]? with
  | some (.inl (t, n, .inr (.inl _))) => w.set a (.inl (t, n, .inr (.inl g)))
  | _ => w
def inB (i : Int32) (n : Nat) : Bool := decide (0 ≤ i.toInt) && decide (i.toInt < n)
def tk : Nat → List Value → Option (List Value × List Value)
  | 0, S => some ([], S)
  | n + 1, v :: S => match tk n S with
    | some (a, r) => some (a ++ [v], r)
    | none => none
  | _ + 1, [] => none
def isC2 : Value → Bool
  | .long _ => true
  | .double _ => true
  | _ => false
def locs2 : List Value → List Value
  | [] => []
  | v :: r => bif isC2 v then v :: sec :: locs2 r else v :: locs2 r
def entryL (nL : Nat) (As : List Value) : List Value := locs2 As ++ List.replicate (nL - (locs2 As).length) uns
/-- the script: its length and values -/
abbrev Scr : Type := Nat × (Nat → Int32)
def cmpI (c : ClassFile.Cond) (x y : Int32) : Bool := match c with
  | .eq => decide (x = y)
  | .ne => decide (x ≠ y)
  | .lt => decide (x < y)
  | .ge => decide (x ≥ y)
  | .gt => decide (x > y)
  | .le => decide (x ≤ y)
def stL (L : List Value) (i : Nat) (v : Value) : Option (List Value) := bif Nat.blt i L.length && !isSec (L.getD i uns) then some (L.set i v) else none
def stL2 (L : List Value) (i : Nat) (v : Value) : Option (List Value) := bif Nat.blt (i + 1) L.length && !isSec (L.getD i uns) then some ((L.set i v).set (i + 1) sec) else none
abbrev Cfg : Type := Nat × List Value × List Value × AW
def tgt (pc : Nat) (off : Int) : Nat := (Int.ofNat pc + off).toNat
def tgtOk (pc : Nat) (off : Int) : Bool := decide (0 ≤ Int.ofNat pc + off)
def ld (L : List Value) (i : Nat) (S : List Value) (w : AW) (pc : Nat) (t : Nat) : Option Cfg := match L[i]? with
  | some (.int x) => bif Nat.beq t 0 then some (pc, L, .int x :: S, w) else none
  | some (.long x) => bif Nat.beq t 1 then some (pc, L, .long x :: S, w) else none
  | some (.ref x) => bif Nat.beq t 2 then some (pc, L, .ref x :: S, w) else none
  | some (.retAddr n) => bif Nat.beq t 2 && Nat.beq n 0 then some (pc, L, .retAddr 0 :: S, w) else none
  | _ => none
def st (L : List Value) (i : Nat) (S : List Value) (w : AW) (pc : Nat) (t : Nat) : Option Cfg := match S with
  | .int x :: S => bif Nat.beq t 0 then (stL L i (.int x)).map (fun L => (pc, L, S, w)) else none
  | .ref x :: S => bif Nat.beq t 2 then (stL L i (.ref x)).map (fun L => (pc, L, S, w)) else none
  | .long x :: S => bif Nat.beq t 1 then (stL2 L i (.long x)).map (fun L => (pc, L, S, w)) else none
  | _ => none
def i2 (f : Int32 → Int32 → Int32) (pc : Nat) (L S : List Value) (w : AW) : Option Cfg := match S with
  | .int y :: .int x :: S => some (pc, L, .int (f x y) :: S, w)
  | _ => none
def l2 (f : Int64 → Int64 → Int64) (pc : Nat) (L S : List Value) (w : AW) : Option Cfg := match S with
  | .long y :: .long x :: S => some (pc, L, .long (f x y) :: S, w)
  | _ => none
def ffin (ci k : Nat) : Bool := ((vwCl.getD ci ("", fun _ => ("", "", "", false), 0)).2.1 k).2.2.2
def okF (ci k mi : Nat) : Bool := !ffin ci k || (Nat.beq (kR mi).2.2.2.1 ci && Nat.beq (kR mi).2.2.2.2.2.2.2.2 2)
def okV : FieldType → Value → Bool
  | .int, .int _ => true
  | .boolean, .int v => v == 0 || v == 1
  | .long, .long _ => true
  | .object _, .ref _ => true
  | .array _, .ref _ => true
  | _, _ => false
def okR : Option FieldType → Value → Bool
  | some .int, .int _ => true
  | some .boolean, .int v => v == 0 || v == 1
  | some .long, .long _ => true
  | some (.object _), .ref _ => true
  | _, _ => false
def newA (t : ClassFile.ArrayType) (n : Nat) : Option AC := match t with
  | .int => some (.inl (.int, n, .inl (fun _ => 0)))
  | .boolean => some (.inl (.boolean, n, .inl (fun _ => 0)))
  | .long => some (.inl (.long, n, .inr (.inl (fun _ => 0))))
  | _ => none
def sw (pc : Nat) (off : Int) (L S : List Value) (w : AW) : Option Cfg := bif tgtOk pc off then some (tgt pc off, L, S, w) else none
def stepI (X : Scr) (mi pc : Nat) (e : kO) (L S : List Value) (w : AW) : Option Cfg := match e.1 with
  | .iconst n => some (pc + 1, L, .int (Int32.ofInt n) :: S, w)
  | .bipush n => some (pc + 2, L, .int (Int8.ofInt n).toInt32 :: S, w)
  | .sipush n => some (pc + 3, L, .int (Int16.ofInt n).toInt32 :: S, w)
  | .lconst n => some (pc + 1, L, .long (Int64.ofNat n.val) :: S, w)
  | .ldc _ => some (pc + 2, L, .int (Int32.ofInt e.2.2.2.2.2) :: S, w)
  | .ldc_w _ => some (pc + 3, L, .int (Int32.ofInt e.2.2.2.2.2) :: S, w)
  | .ldc2_w _ => some (pc + 3, L, .long (Int64.ofInt e.2.2.2.2.2) :: S, w)
  | .iload_n k => ld L k.val S w (pc + 1) 0
  | .iload i => ld L i S w (pc + 2) 0
  | .lload_n k => ld L k.val S w (pc + 1) 1
  | .lload i => ld L i S w (pc + 2) 1
  | .aload_n k => ld L k.val S w (pc + 1) 2
  | .istore_n k => st L k.val S w (pc + 1) 0
  | .istore i => st L i S w (pc + 2) 0
  | .lstore_n k => st L k.val S w (pc + 1) 1
  | .lstore i => st L i S w (pc + 2) 1
  | .astore_n k => st L k.val S w (pc + 1) 2
  | .iinc i n => match L[i]? with
    | some (.int x) => some (pc + 3, L.set i (.int (x + Int32.ofInt n)), S, w)
    | _ => none
  | .iadd => i2 (fun x y => x + y) (pc + 1) L S w
  | .isub => i2 (fun x y => x - y) (pc + 1) L S w
  | .imul => i2 (fun x y => x * y) (pc + 1) L S w
  | .iand => i2 (fun x y => x &&& y) (pc + 1) L S w
  | .ior => i2 (fun x y => x ||| y) (pc + 1) L S w
  | .ixor => i2 (fun x y => x ^^^ y) (pc + 1) L S w
  | .ishl => i2 (fun x y => x <<< (y &&& 31)) (pc + 1) L S w
  | .ishr => i2 (fun x y => x >>> (y &&& 31)) (pc + 1) L S w
  | .iushr => i2 (fun x y => (x.toUInt32 >>> (y.toUInt32 &&& Int32.toUInt32 31)).toInt32) (pc + 1) L S w
  | .idiv => match S with
    | .int y :: .int x :: S => bif decide (y = 0) then none else some (pc + 1, L, .int (x / y) :: S, w)
    | _ => none
  | .irem => match S with
    | .int y :: .int x :: S => bif decide (y = 0) then none else some (pc + 1, L, .int (x - x / y * y) :: S, w)
    | _ => none
  | .ladd => l2 (fun x y => x + y) (pc + 1) L S w
  | .lsub => l2 (fun x y => x - y) (pc + 1) L S w
  | .lmul => l2 (fun x y => x * y) (pc + 1) L S w
  | .ldiv => match S with
    | .long y :: .long x :: S => bif decide (y = 0) then none else some (pc + 1, L, .long (x / y) :: S, w)
    | _ => none
  | .lrem => match S with
    | .long y :: .long x :: S => bif decide (y = 0) then none else some (pc + 1, L, .long (x - x / y * y) :: S, w)
    | _ => none
  | .lcmp => match S with
    | .long y :: .long x :: S => some (pc + 1, L, .int (lg_cmp x y) :: S, w)
    | _ => none
  | .i2l => match S with
    | .int x :: S => some (pc + 1, L, .long x.toInt64 :: S, w)
    | _ => none
  | .l2i => match S with
    | .long x :: S => some (pc + 1, L, .int x.toInt32 :: S, w)
    | _ => none
  | .dup => match S with
    | .int x :: S => some (pc + 1, L, .int x :: .int x :: S, w)
    | .ref x :: S => some (pc + 1, L, .ref x :: .ref x :: S, w)
    | _ => none
  | .pop => match S with
    | .int _ :: S => some (pc + 1, L, S, w)
    | _ => none
  | .dup2 => match S with
    | .int x :: .ref y :: S => some (pc + 1, L, .int x :: .ref y :: .int x :: .ref y :: S, w)
    | _ => none
  | .goto off => sw pc off L S w
  | .ifCond c off => match S with
    | .int x :: S => bif tgtOk pc off then some (bif cmpI c x 0 then (tgt pc off, L, S, w) else (pc + 3, L, S, w)) else none
    | _ => none
  | .if_icmp c off => match S with
    | .int y :: .int x :: S => bif tgtOk pc off then some (bif cmpI c x y then (tgt pc off, L, S, w) else (pc + 3, L, S, w)) else none
    | _ => none
  | .tableswitch d lo hi offs => match S with
    | .int x :: S => bif decide (x.toInt < lo) || decide (hi < x.toInt) then sw pc d L S w else match offs[(x.toInt - lo).toNat]? with
      | some o => sw pc o L S w
      | none => none
    | _ => none
  | .lookupswitch d ps => match S with
    | .int x :: S => sw pc (Op.lookupswitch.offset ps.toList d x.toInt) L S w
    | _ => none
  | .getfield _ => match S with
    | .ref f :: S => bif fok w f e.2.2.1 e.2.2.2.1 then some (pc + 3, L, fget w f e.2.2.2.1 :: S, w) else none
    | _ => none
  | .putfield _ => match S with
    | v :: .ref f :: S => bif fok w f e.2.2.1 e.2.2.2.1 && okF e.2.2.1 e.2.2.2.1 mi && okV (fty e.2.2.1 e.2.2.2.1) v then some (pc + 3, L, S, fset w f e.2.2.2.1 v) else none
    | _ => none
  | .iaload => match S with
    | .int i :: .ref a :: S => bif aok w a && inB i (alen w a) then some (pc + 1, L, .int (aget w a i.toNatClampNeg) :: S, w) else none
    | .int i :: .retAddr n :: S => bif Nat.beq n 0 && inB i X.1 then some (pc + 1, L, .int (X.2 i.toNatClampNeg) :: S, w) else none
    | _ => none
  | .iastore => match S with
    | .int x :: .int i :: .ref a :: S => bif aok w a && inB i (alen w a) then some (pc + 1, L, S, aset w a (upd (aget w a) i.toNatClampNeg x)) else none
    | _ => none
  | .baload => match S with
    | .int i :: .ref a :: S => bif zok w a && inB i (alen w a) then some (pc + 1, L, .int (aget w a i.toNatClampNeg) :: S, w) else none
    | _ => none
  | .bastore => match S with
    | .int x :: .int i :: .ref a :: S => bif zok w a && inB i (alen w a) then some (pc + 1, L, S, aset w a (upd (aget w a) i.toNatClampNeg (x &&& 1))) else none
    | _ => none
  | .laload => match S with
    | .int i :: .ref a :: S => bif jok w a && inB i (alen w a) then some (pc + 1, L, .long (jget w a i.toNatClampNeg) :: S, w) else none
    | _ => none
  | .lastore => match S with
    | .long x :: .int i :: .ref a :: S => bif jok w a && inB i (alen w a) then some (pc + 1, L, S, jset w a (vp_updL (jget w a) i.toNatClampNeg x)) else none
    | _ => none
  | .arraylength => match S with
    | .ref a :: S => bif arr w a then some (pc + 1, L, .int (Int32.ofNat (alen w a)) :: S, w) else none
    | .retAddr n :: S => bif Nat.beq n 0 then some (pc + 1, L, .int (Int32.ofNat X.1) :: S, w) else none
    | _ => none
  | .newarray t => match S with
    | .int n :: S => bif inB n 4000 then (newA t n.toNatClampNeg).map (fun c => (pc + 2, L, .ref w.length :: S, w ++ [c])) else none
    | _ => none
  | .new _ => some (pc + 3, L, .ref w.length :: S, w ++ [.inr (e.2.2.1, (kD e.2.2.1).2.2)])
  | _ => none
/-- a call: whom (none: the callee's body is the kit's: Object's constructor, arraycopy), with what, what stays on the stack, the world -/
def callE (e : kO) (S : List Value) (w : AW) : Option (Option (Nat × List Value) × List Value × AW) := match e.1 with
  | .invokevirtual _ => match tk (kR e.2.2.2.1).2.2.1 S with
    | some (As, .ref o :: S) => bif Nat.beq e.2.2.1 0 && cok w o (kR e.2.2.2.1).2.2.2.1 && Nat.ble (locs2 (.ref o :: As)).length (kM e.2.2.2.1).2.2.1 && Nat.ble S.length 4 then some (some (e.2.2.2.1, .ref o :: As), S, w) else none
    | _ => none
  | .invokestatic _ => bif Nat.beq e.2.2.1 7 then match S with
      | .int n :: .int dp :: .ref a :: .int sp :: .ref a0 :: S => bif aok w a0 && aok w a && decide (0 ≤ sp.toInt) && decide (0 ≤ dp.toInt) && decide (0 ≤ n.toInt) && Nat.ble (sp.toNatClampNeg + n.toNatClampNeg) (alen w a0) && Nat.ble (dp.toNatClampNeg + n.toNatClampNeg) (alen w a) && Nat.ble S.length 4 then
          some (none, S, aset w a (va_cpy (aget w a0) (aget w a) sp.toNatClampNeg dp.toNatClampNeg n.toNatClampNeg)) else none
      | _ => none
    else bif Nat.beq e.2.2.1 8 then match S with
      | .int y :: .int x :: S => bif Nat.ble S.length 4 then some (none, .int (if x < y then y else x) :: S, w) else none
      | _ => none
    else bif Nat.beq e.2.2.1 9 then match S with
      | .int y :: .int x :: S => bif Nat.ble S.length 4 then some (none, .int (if y < x then y else x) :: S, w) else none
      | _ => none
    else match tk (kR e.2.2.2.1).2.2.1 S with
    | some (As, S) => bif (Nat.beq e.2.2.1 1 || Nat.beq e.2.2.1 4) && Nat.ble (locs2 As).length (kM e.2.2.2.1).2.2.1 && Nat.ble S.length 4 then some (some (e.2.2.2.1, As), S, w) else none
    | _ => none
  | .invokespecial _ => bif Nat.beq e.2.2.1 6 then match S with
      | .ref _ :: S => bif Nat.ble S.length 4 then some (none, S, w) else none
      | _ => none
    else match tk (kR e.2.2.2.1).2.2.1 S with
    | some (As, .ref o :: S) => bif (Nat.beq e.2.2.1 2 || Nat.beq e.2.2.1 5) && Nat.ble (locs2 (.ref o :: As)).length (kM e.2.2.2.1).2.2.1 && Nat.ble S.length 4 then some (some (e.2.2.2.1, .ref o :: As), S, w) else none
    | _ => none
  | _ => none
def retI (mi : Nat) (e : kO) (S : List Value) : Option (Option Value) := match e.1 with
  | .ireturn => match S with
    | [.int x] => bif okR (kM mi).2.2.2 (.int x) then some (some (.int x)) else none
    | _ => none
  | .lreturn => match S with
    | [.long x] => bif okR (kM mi).2.2.2 (.long x) then some (some (.long x)) else none
    | _ => none
  | .areturn => match S with
    | [.ref x] => bif okR (kM mi).2.2.2 (.ref x) then some (some (.ref x)) else none
    | _ => none
  | .return_ => match S with
    | [] => bif (kM mi).2.2.2.isNone then some none else none
    | _ => none
  | _ => none
def ev (X : Scr) : Nat → Nat → Nat → List Value → List Value → AW → Option (Option Value × AW)
  | 0, _, _, _, _, _ => none
  | n + 1, mi, pc, L, S, w => match kI mi pc with
    | none => none
    | some e => match stepI X mi pc e L S w with
      | some c => ev X n mi c.1 c.2.1 c.2.2.1 c.2.2.2
      | none => match callE e S w with
        | some (some (y, As), S1, w1) => match ev X n y 0 (entryL (kM y).2.2.1 As) [] w1 with
          | some q => ev X n mi (pc + 3) L (q.1.toList ++ S1) q.2
          | none => none
        | some (none, S1, w1) => ev X n mi (pc + 3) L S1 w1
        | none => match retI mi e S with
          | some r => some (r, w)
          | none => none
theorem ev_mono (X : Scr) : ∀ (n mi pc : Nat) (L S : List Value) (w : AW) (q : Option Value × AW), ev X n mi pc L S w = some q → ev X (n + 1) mi pc L S w = some q := by
  intro n
  induction n with
  | zero => intro mi pc L S w q h; simp [ev] at h
  | succ n ih =>
    intro mi pc L S w q h
    rw [ev] at h ⊢
    cases hk : kI mi pc with
    | none => rw [hk] at h; exact h
    | some e =>
      rw [hk] at h
      dsimp only at h ⊢
      cases hs : stepI X mi pc e L S w with
      | some c => rw [hs] at h; dsimp only at h ⊢; exact ih _ _ _ _ _ _ h
      | none =>
        rw [hs] at h
        dsimp only at h ⊢
        cases hc : callE e S w with
        | none => rw [hc] at h; exact h
        | some c =>
          rw [hc] at h
          obtain ⟨_ | ⟨y, As⟩, S1, w1⟩ := c
          · dsimp only at h ⊢; exact ih _ _ _ _ _ _ h
          · dsimp only at h ⊢
            cases hy : ev X n y 0 (entryL (kM y).2.2.1 As) [] w1 with
            | none => rw [hy] at h; simp at h
            | some r =>
              rw [hy] at h
              rw [ih _ _ _ _ _ _ hy]
              exact ih _ _ _ _ _ _ h
theorem ev_le {X : Scr} {n k mi pc : Nat} {L S : List Value} {w : AW} {q : Option Value × AW} (h : ev X n mi pc L S w = some q) (hk : n ≤ k) : ev X k mi pc L S w = some q := by
  induction hk with
  | refl => exact h
  | step _ ih => exact ev_mono X _ _ _ _ _ _ _ ih
/-- what a configuration comes to, if it comes to an end -/
noncomputable def Z (X : Scr) (mi pc : Nat) (L S : List Value) (w : AW) : Option (Option Value × AW) := Classical.epsilon (fun o => ∀ q, o = some q ↔ ∃ n, ev X n mi pc L S w = some q)
theorem Z_iff {X : Scr} {mi pc : Nat} {L S : List Value} {w : AW} {q : Option Value × AW} : Z X mi pc L S w = some q ↔ ∃ n, ev X n mi pc L S w = some q := by
  have h : ∃ o : Option (Option Value × AW), ∀ q, o = some q ↔ ∃ n, ev X n mi pc L S w = some q := by
    rcases Classical.em (∃ q, ∃ n, ev X n mi pc L S w = some q) with ⟨q, n, hq⟩ | hn
    · refine ⟨some q, fun r => ⟨fun h => ⟨n, by rw [hq, h]⟩, fun ⟨k, hk⟩ => ?_⟩⟩
      have h1 := ev_le hq (Nat.le_add_right n k)
      have h2 := ev_le hk (Nat.le_add_left k n)
      rw [← h1, h2]
    · exact ⟨none, fun r => ⟨fun h => by simp at h, fun h => absurd ⟨r, h⟩ hn⟩⟩
  exact Classical.epsilon_spec (p := fun o => ∀ q, o = some q ↔ ∃ n, ev X n mi pc L S w = some q) h q
theorem Z_ext {X : Scr} {mi pc mi' pc' : Nat} {L S L' S' : List Value} {w w' : AW} (h : ∀ q, (∃ n, ev X n mi pc L S w = some q) ↔ ∃ n, ev X n mi' pc' L' S' w' = some q) : Z X mi pc L S w = Z X mi' pc' L' S' w' := by
  apply Option.ext
  intro q
  rw [Z_iff, Z_iff]
  exact h q
theorem Z_step {X : Scr} {mi pc : Nat} {L S : List Value} {w : AW} {e : kO} {c : Cfg} (hk : kI mi pc = some e) (hs : stepI X mi pc e L S w = some c) : Z X mi pc L S w = Z X mi c.1 c.2.1 c.2.2.1 c.2.2.2 := by
  refine Z_ext fun q => ⟨fun ⟨n, h⟩ => ?_, fun ⟨n, h⟩ => ⟨n + 1, ?_⟩⟩
  · cases n with
    | zero => simp [ev] at h
    | succ n => rw [ev, hk] at h; dsimp only at h; rw [hs] at h; exact ⟨n, h⟩
  · rw [ev, hk]; dsimp only; rw [hs]; exact h
theorem Z_go {X : Scr} {mi pc : Nat} {L S S1 : List Value} {w w1 : AW} {e : kO} (hk : kI mi pc = some e) (hs : stepI X mi pc e L S w = none) (hc : callE e S w = some (none, S1, w1)) : Z X mi pc L S w = Z X mi (pc + 3) L S1 w1 := by
  refine Z_ext fun q => ⟨fun ⟨n, h⟩ => ?_, fun ⟨n, h⟩ => ⟨n + 1, ?_⟩⟩
  · cases n with
    | zero => simp [ev] at h
    | succ n => rw [ev, hk] at h; dsimp only at h; rw [hs] at h; dsimp only at h; rw [hc] at h; exact ⟨n, h⟩
  · rw [ev, hk]; dsimp only; rw [hs]; dsimp only; rw [hc]; exact h
theorem Z_call {X : Scr} {mi pc y : Nat} {L S S1 As : List Value} {w w1 : AW} {e : kO} (hk : kI mi pc = some e) (hs : stepI X mi pc e L S w = none) (hc : callE e S w = some (some (y, As), S1, w1)) :
    Z X mi pc L S w = (Z X y 0 (entryL (kM y).2.2.1 As) [] w1).bind (fun q => Z X mi (pc + 3) L (q.1.toList ++ S1) q.2) := by
  apply Option.ext
  intro q
  rw [Z_iff, Option.bind_eq_some_iff]
  refine ⟨fun ⟨n, h⟩ => ?_, fun ⟨r, hr, h⟩ => ?_⟩
  · cases n with
    | zero => simp [ev] at h
    | succ n =>
      rw [ev, hk] at h; dsimp only at h; rw [hs] at h; dsimp only at h; rw [hc] at h; dsimp only at h
      cases hy : ev X n y 0 (entryL (kM y).2.2.1 As) [] w1 with
      | none => rw [hy] at h; simp at h
      | some r => rw [hy] at h; exact ⟨r, Z_iff.mpr ⟨n, hy⟩, Z_iff.mpr ⟨n, h⟩⟩
  · obtain ⟨n, hn⟩ := Z_iff.mp hr
    obtain ⟨k, hk2⟩ := Z_iff.mp h
    refine ⟨n + k + 1, ?_⟩
    rw [ev, hk]; dsimp only; rw [hs]; dsimp only; rw [hc]; dsimp only
    rw [ev_le hn (Nat.le_add_right n k)]
    exact ev_le hk2 (Nat.le_add_left k n)
theorem Z_ret {X : Scr} {mi pc : Nat} {L S : List Value} {w : AW} {e : kO} {r : Option Value} (hk : kI mi pc = some e) (hs : stepI X mi pc e L S w = none) (hc : callE e S w = none) (hr : retI mi e S = some r) : Z X mi pc L S w = some (r, w) := by
  refine Z_iff.mpr ⟨1, ?_⟩
  rw [ev, hk]; dsimp only; rw [hs]; dsimp only; rw [hc]; dsimp only; rw [hr]
end
section
/-! What the picture means of the machine: values, cells, locals -/
theorem lk_in : ∀ {p : Nat} {l : List kE} {e : kO}, lk p l = some e → (p, e) ∈ l := by
  intro p l
  induction l with
  | nil => intro e h; simp [lk] at h
  | cons q r ih =>
    intro e h
    unfold lk at h
    cases hq : Nat.beq p q.1 with
    | true =>
      rw [hq] at h
      simp only [cond_true, Option.some.injEq] at h
      have h1 := Nat.eq_of_beq_eq_true hq
      subst h
      subst h1
      exact List.mem_cons_self
    | false =>
      rw [hq] at h
      simp only [cond_false] at h
      exact List.mem_cons_of_mem _ (ih h)
theorem allr {f : Nat → Bool} {a n mi : Nat} (h : (List.range' a n).all f = true) (h1 : a ≤ mi) (h2 : mi < a + n) : f mi = true := List.all_eq_true.mp h mi (List.mem_range'_1.mpr ⟨h1, h2⟩)
theorem eOK_lo {mi : Nat} (h : mi < kN) : (kLt mi).all (eOK mi) = true := by
  have h' : mi < 168 := h
  by_cases h0 : mi < 16
  · exact allr (f := fun mi => (kLt mi).all (eOK mi)) eOK_0 (by omega) (by omega)
  by_cases h0 : mi < 32
  · exact allr (f := fun mi => (kLt mi).all (eOK mi)) eOK_16 (by omega) (by omega)
  by_cases h0 : mi < 48
  · exact allr (f := fun mi => (kLt mi).all (eOK mi)) eOK_32 (by omega) (by omega)
  by_cases h0 : mi < 64
  · exact allr (f := fun mi => (kLt mi).all (eOK mi)) eOK_48 (by omega) (by omega)
  by_cases h0 : mi < 80
  · exact allr (f := fun mi => (kLt mi).all (eOK mi)) eOK_64 (by omega) (by omega)
  by_cases h0 : mi < 96
  · exact allr (f := fun mi => (kLt mi).all (eOK mi)) eOK_80 (by omega) (by omega)
  by_cases h0 : mi < 112
  · exact allr (f := fun mi => (kLt mi).all (eOK mi)) eOK_96 (by omega) (by omega)
  by_cases h0 : mi < 128
  · exact allr (f := fun mi => (kLt mi).all (eOK mi)) eOK_112 (by omega) (by omega)
  by_cases h0 : mi < 144
  · exact allr (f := fun mi => (kLt mi).all (eOK mi)) eOK_128 (by omega) (by omega)
  by_cases h0 : mi < 160
  · exact allr (f := fun mi => (kLt mi).all (eOK mi)) eOK_144 (by omega) (by omega)
  · exact allr (f := fun mi => (kLt mi).all (eOK mi)) eOK_160 (by omega) (by omega)
theorem eOK_law : (kLt 168).all (eOK 168) = true := by
  have e : kLt 168 = kL_168 := rfl
  rw [e]
  unfold kL_168
  simp only [List.all_append, eOK_L0, eOK_L1, eOK_L2, eOK_L3, eOK_L4, eOK_L5, eOK_L6, eOK_L7, eOK_L8, eOK_L9, eOK_L10, eOK_L11, Bool.and_self]
theorem kI_ok {mi pc : Nat} {e : kO} (hm : mi ≤ kN) (h : kI mi pc = some e) : eOK mi (pc, e) = true := by
  have hin := lk_in h
  rcases Nat.lt_or_ge mi kN with h1 | h1
  · exact List.all_eq_true.mp (eOK_lo h1) _ hin
  · have : mi = 168 := Nat.le_antisymm hm h1
    subst this
    exact List.all_eq_true.mp eOK_law _ hin
theorem mOK_lo {mi : Nat} (h : mi < kN) : mOK mi = true := by
  have h' : mi < 168 := h
  by_cases h0 : mi < 12
  · exact allr mOK_0 (by omega) (by omega)
  by_cases h0 : mi < 24
  · exact allr mOK_12 (by omega) (by omega)
  by_cases h0 : mi < 36
  · exact allr mOK_24 (by omega) (by omega)
  by_cases h0 : mi < 48
  · exact allr mOK_36 (by omega) (by omega)
  by_cases h0 : mi < 60
  · exact allr mOK_48 (by omega) (by omega)
  by_cases h0 : mi < 72
  · exact allr mOK_60 (by omega) (by omega)
  by_cases h0 : mi < 84
  · exact allr mOK_72 (by omega) (by omega)
  by_cases h0 : mi < 96
  · exact allr mOK_84 (by omega) (by omega)
  by_cases h0 : mi < 108
  · exact allr mOK_96 (by omega) (by omega)
  by_cases h0 : mi < 120
  · exact allr mOK_108 (by omega) (by omega)
  by_cases h0 : mi < 132
  · exact allr mOK_120 (by omega) (by omega)
  by_cases h0 : mi < 144
  · exact allr mOK_132 (by omega) (by omega)
  by_cases h0 : mi < 156
  · exact allr mOK_144 (by omega) (by omega)
  · exact allr mOK_156 (by omega) (by omega)
theorem cOK_lo {ci : Nat} (h : ci < 10) : cOK ci = true := List.all_eq_true.mp cOK_all ci (List.mem_range.mpr h)
def cv (b : Nat) (ad : Nat → Nat) : Value → Value
  | .ref k => .ref (ad k)
  | .retAddr _ => .ref b
  | v => v
def cE (tc : FieldType → ClassId) (b : Nat) (ad : Nat → Nat) : AC → va_E
  | .inl x => .inl (tc x.1, x.2)
  | .inr o => .inr (o.1, o.2.map (cv b ad))
def cW (tc : FieldType → ClassId) (b : Nat) (ad : Nat → Nat) (w : AW) : va_W := w.mapIdx (fun k e => (ad k, cE tc b ad e))
def kTys (tc : FieldType → ClassId) : List (ClassId × FieldType) := [(tc .int, .int), (tc .long, .long), (tc .boolean, .boolean)]
theorem cW_get {tc : FieldType → ClassId} {b : Nat} {ad : Nat → Nat} {w : AW} {k : Nat} {e : AC} (h : w[k]? = some e) : (cW tc b ad w)[k]? = some (ad k, cE tc b ad e) := by
  simp [cW, List.getElem?_mapIdx, h]
theorem cW_of {tc : FieldType → ClassId} {b : Nat} {ad : Nat → Nat} {w : AW} {k : Nat} {q : Nat × va_E} (h : (cW tc b ad w)[k]? = some q) : k < w.length ∧ q.1 = ad k := by
  simp only [cW, List.getElem?_mapIdx, Option.map_eq_some_iff] at h
  obtain ⟨a, h1, h2⟩ := h
  exact ⟨(List.getElem?_eq_some_iff.mp h1).1, by rw [← h2]⟩
theorem cW_set {tc : FieldType → ClassId} {b : Nat} {ad : Nat → Nat} {w : AW} {k : Nat} {e : AC} : cW tc b ad (w.set k e) = (cW tc b ad w).set k (ad k, cE tc b ad e) := by
  apply List.ext_getElem?
  intro i
  simp only [cW, List.getElem?_mapIdx, List.getElem?_set, List.length_mapIdx]
  by_cases h : k = i
  · subst h
    by_cases h2 : k < w.length <;> simp [h2]
  · simp [h]
theorem cW_push {tc : FieldType → ClassId} {b : Nat} {ad : Nat → Nat} {w : AW} {e : AC} : cW tc b ad (w ++ [e]) = cW tc b ad w ++ [(ad w.length, cE tc b ad e)] := by
  simp [cW, List.mapIdx_append]
def csz : AC → Nat
  | .inl x => x.2.1
  | .inr o => o.2.length
def tot (w : AW) : Nat := (w.map csz).sum
theorem tot_set {w : AW} {k : Nat} {c c0 : AC} (h : w[k]? = some c0) (hc : csz c = csz c0) : tot (w.set k c) = tot w := by
  unfold tot
  rw [List.map_set, hc]
  congr 1
  apply List.ext_getElem?
  intro i
  rw [List.getElem?_set]
  by_cases hi : k = i
  · subst hi
    obtain ⟨hl, he⟩ := List.getElem?_eq_some_iff.mp h
    simp [hl, he]
  · simp [hi]
theorem tot_push {w : AW} {c : AC} : tot (w ++ [c]) = tot w + csz c := by simp [tot]
theorem aok_spec {w : AW} {a : Nat} (h : aok w a = true) : ∃ (n : Nat) (g : Nat → Int32), w[a]? = some (.inl (.int, n, .inl g)) ∧ aget w a = g ∧ alen w a = n ∧ ∀ g', aset w a g' = w.set a (.inl (.int, n, .inl g')) := by
  unfold aok at h
  split at h
  · rename_i n g he
    exact ⟨n, g, he, by simp [aget, he], by simp [alen, he], fun g' => by simp [aset, he]⟩
  · cases h
theorem zok_spec {w : AW} {a : Nat} (h : zok w a = true) : ∃ (n : Nat) (g : Nat → Int32), w[a]? = some (.inl (.boolean, n, .inl g)) ∧ aget w a = g ∧ alen w a = n ∧ ∀ g', aset w a g' = w.set a (.inl (.boolean, n, .inl g')) := by
  unfold zok at h
  split at h
  · rename_i n g he
    exact ⟨n, g, he, by simp [aget, he], by simp [alen, he], fun g' => by simp [aset, he]⟩
  · cases h
theorem jok_spec {w : AW} {a : Nat} (h : jok w a = true) : ∃ (n : Nat) (g : Nat → Int64), w[a]? = some (.inl (.long, n, .inr (.inl g))) ∧ jget w a = g ∧ alen w a = n ∧ ∀ g', jset w a g' = w.set a (.inl (.long, n, .inr (.inl g'))) := by
  unfold jok at h
  split at h
  · rename_i n g he
    exact ⟨n, g, he, by simp [jget, he], by simp [alen, he], fun g' => by simp [jset, he]⟩
  · cases h
theorem fok_spec {w : AW} {f ci k : Nat} (h : fok w f ci k = true) : ∃ fs : List Value, w[f]? = some (.inr (ci, fs)) ∧ k < fs.length ∧ fget w f k = fs.getD k .null ∧ ∀ v, fset w f k v = w.set f (.inr (ci, fs.set k v)) := by
  unfold fok at h
  split at h
  · rename_i o he
    obtain ⟨c, fs⟩ := o
    simp only [Bool.and_eq_true] at h
    have h1 := Nat.eq_of_beq_eq_true h.1
    have h2 : k < fs.length := by simpa using h.2
    try dsimp only at h1
    subst h1
    exact ⟨fs, he, h2, by simp [fget, he], fun v => by simp [fset, he]⟩
  · cases h
theorem cok_spec {w : AW} {f ci : Nat} (h : cok w f ci = true) : ∃ fs : List Value, w[f]? = some (.inr (ci, fs)) := by
  unfold cok at h
  split at h
  · rename_i o he
    obtain ⟨c, fs⟩ := o
    have h1 := Nat.eq_of_beq_eq_true h
    try dsimp only at h1
    subst h1
    exact ⟨fs, he⟩
  · cases h
theorem inB_spec {i : Int32} {n : Nat} (h : inB i n = true) : vp_in i n := by
  simp only [inB, Bool.and_eq_true, decide_eq_true_eq] at h
  exact vp_in_iff.mpr h
/-- worlds only grow -/
def gr (w w' : AW) : Prop := w.length ≤ w'.length ∧ tot w ≤ tot w'
theorem gr_rf {w : AW} : gr w w := ⟨Nat.le_refl _, Nat.le_refl _⟩
theorem gr_tr {a b c : AW} (h : gr a b) (h' : gr b c) : gr a c := ⟨Nat.le_trans h.1 h'.1, Nat.le_trans h.2 h'.2⟩
theorem gr_eq {a b : AW} (h : b = a) : gr a b := h ▸ gr_rf
theorem gr_set {w : AW} {k : Nat} {c c0 : AC} (h : w[k]? = some c0) (hc : csz c = csz c0) : gr w (w.set k c) := ⟨by simp, Nat.le_of_eq (tot_set h hc).symm⟩
theorem gr_fset {w : AW} {f k : Nat} {v : Value} : gr w (fset w f k v) := by
  unfold fset
  split
  · rename_i o he; exact gr_set he (by simp [csz])
  · exact gr_rf
theorem gr_aset {w : AW} {a : Nat} {g : Nat → Int32} : gr w (aset w a g) := by
  unfold aset
  split
  · rename_i he; exact gr_set he rfl
  · exact gr_rf
theorem gr_jset {w : AW} {a : Nat} {g : Nat → Int64} : gr w (jset w a g) := by
  unfold jset
  split
  · rename_i he; exact gr_set he rfl
  · exact gr_rf
theorem gr_push {w : AW} {c : AC} : gr w (w ++ [c]) := ⟨by simp, by rw [tot_push]; omega⟩
theorem gr_some {o : Option Cfg} {c : Cfg} {w : AW} (h : o = some c) (hw : ∀ d, o = some d → gr w d.2.2.2) : gr w c.2.2.2 := hw c h
theorem ld_w {L S : List Value} {w : AW} {i pc t : Nat} {c : Cfg} (h : ld L i S w pc t = some c) : c.2.2.2 = w := by
  simp only [ld, Bool.cond_eq_ite] at h
  repeat' (split at h)
  all_goals first | (cases h; rfl) | (cases h; done)
theorem st_w {L S : List Value} {w : AW} {i pc t : Nat} {c : Cfg} (h : st L i S w pc t = some c) : c.2.2.2 = w := by
  simp only [st, Bool.cond_eq_ite] at h
  repeat' (split at h)
  all_goals first | (simp only [Option.map_eq_some_iff] at h; obtain ⟨a, -, h⟩ := h; rw [← h]) | (cases h; done)
theorem i2_w {f : Int32 → Int32 → Int32} {L S : List Value} {w : AW} {pc : Nat} {c : Cfg} (h : i2 f pc L S w = some c) : c.2.2.2 = w := by
  simp only [i2] at h
  split at h
  · cases h; rfl
  · cases h
theorem l2_w {f : Int64 → Int64 → Int64} {L S : List Value} {w : AW} {pc : Nat} {c : Cfg} (h : l2 f pc L S w = some c) : c.2.2.2 = w := by
  simp only [l2] at h
  split at h
  · cases h; rfl
  · cases h
theorem sw_w {L S : List Value} {w : AW} {pc : Nat} {o : Int} {c : Cfg} (h : sw pc o L S w = some c) : c.2.2.2 = w := by
  simp only [sw, Bool.cond_eq_ite] at h
  split at h
  · cases h; rfl
  · cases h
theorem stepI_gr {X : Scr} {mi pc : Nat} {e : kO} {L S : List Value} {w : AW} {c : Cfg} (h : stepI X mi pc e L S w = some c) : gr w c.2.2.2 := by
  obtain ⟨i, r⟩ := e
  cases i
  all_goals simp only [stepI] at h
  all_goals first
    | (cases h; done)
    | (exact gr_eq (ld_w h))
    | (exact gr_eq (st_w h))
    | (exact gr_eq (i2_w h))
    | (exact gr_eq (l2_w h))
    | (exact gr_eq (sw_w h))
    | skip
  all_goals try simp only [Bool.cond_eq_ite] at h
  all_goals repeat' (split at h)
  all_goals first
    | (cases h; done)
    | (exact gr_eq (sw_w h))
    | (cases h; first | exact gr_rf | exact gr_fset | exact gr_aset | exact gr_jset | exact gr_push)
    | (simp only [Option.map_eq_some_iff] at h; obtain ⟨a, -, h⟩ := h; rw [← h]; exact gr_push)
theorem callE_gr {e : kO} {S : List Value} {w : AW} {q : Option (Nat × List Value) × List Value × AW} (h : callE e S w = some q) : gr w q.2.2 := by
  obtain ⟨i, r⟩ := e
  cases i
  all_goals simp only [callE] at h
  all_goals try simp only [Bool.cond_eq_ite] at h
  all_goals first | (cases h; done) | skip
  all_goals repeat' (split at h)
  all_goals first
    | (cases h; done)
    | (cases h; first | exact gr_rf | exact gr_aset)
theorem ev_gr {X : Scr} : ∀ (n mi pc : Nat) (L S : List Value) (w : AW) (q : Option Value × AW), ev X n mi pc L S w = some q → gr w q.2 := by
  intro n
  induction n with
  | zero => intro mi pc L S w q h; simp [ev] at h
  | succ n ih =>
    intro mi pc L S w q h
    rw [ev] at h
    cases hk : kI mi pc with
    | none => rw [hk] at h; cases h
    | some e =>
      rw [hk] at h
      dsimp only at h
      cases hs : stepI X mi pc e L S w with
      | some c => rw [hs] at h; exact gr_tr (stepI_gr hs) (ih _ _ _ _ _ _ h)
      | none =>
        rw [hs] at h
        dsimp only at h
        cases hc : callE e S w with
        | none =>
          rw [hc] at h
          dsimp only at h
          cases hr : retI mi e S with
          | none => rw [hr] at h; cases h
          | some r => rw [hr] at h; cases h; exact gr_rf
        | some c =>
          rw [hc] at h
          have hg := callE_gr hc
          obtain ⟨_ | ⟨y, As⟩, S1, w1⟩ := c
          · exact gr_tr hg (ih _ _ _ _ _ _ h)
          · dsimp only at h
            cases hy : ev X n y 0 (entryL (kM y).2.2.1 As) [] w1 with
            | none => rw [hy] at h; cases h
            | some r => rw [hy] at h; exact gr_tr hg (gr_tr (ih _ _ _ _ _ _ hy) (ih _ _ _ _ _ _ h))
/-- locals -/
def known : Value → Bool
  | .retAddr n => Nat.beq n 0
  | _ => true
def LOK (b : Nat) (ad : Nat → Nat) (ls : Array Slot) (nL : Nat) (L : List Value) : Prop := ls.size = nL ∧ lv_wf ls ∧ L.length = nL ∧ (∀ (i : Nat) (v : Value), L[i]? = some v → known v = true → ls[i]? = some (.val (cv b ad v))) ∧ ∀ (i : Nat) (v : Value), L[i]? = some v → v.category = 2 → L[i + 1]? = some sec
def lvo (b : Nat) (ad : Nat → Nat) (L : List Value) : List (Nat × Value) := L.zipIdx.filterMap (fun q => if known q.1 then some (q.2, cv b ad q.1) else none)
theorem lvo_in {b : Nat} {ad : Nat → Nat} {L : List Value} {i : Nat} {v' : Value} : (i, v') ∈ lvo b ad L ↔ ∃ v, L[i]? = some v ∧ known v = true ∧ v' = cv b ad v := by
  simp only [lvo, List.mem_filterMap]
  constructor
  · rintro ⟨⟨v, j⟩, h1, h2⟩
    by_cases hk : known v = true
    · simp only [hk, if_true, Option.some.injEq, Prod.mk.injEq] at h2
      obtain ⟨rfl, rfl⟩ := h2
      exact ⟨v, List.mem_zipIdx_iff_getElem?.mp h1, hk, rfl⟩
    · simp [hk] at h2
  · rintro ⟨v, h1, hk, rfl⟩
    exact ⟨(v, i), List.mem_zipIdx_iff_getElem?.mpr h1, by simp [hk]⟩
theorem LOK.has {b : Nat} {ad : Nat → Nat} {ls : Array Slot} {nL : Nat} {L : List Value} (h : LOK b ad ls nL L) : lv_has ls nL (lvo b ad L) := by
  refine ⟨h.1, h.2.1, ?_⟩
  rintro ⟨i, v'⟩ hq
  obtain ⟨v, h1, h2, rfl⟩ := lvo_in.mp hq
  exact h.2.2.2.1 i v h1 h2
theorem cv_cat {b : Nat} {ad : Nat → Nat} {v : Value} : (cv b ad v).category = v.category := by cases v <;> rfl
theorem stL_spec {L L' : List Value} {i : Nat} {v : Value} (h : stL L i v = some L') : i < L.length ∧ L[i]? ≠ some sec ∧ L' = L.set i v := by
  simp only [stL, Bool.cond_eq_ite] at h
  split at h
  · rename_i hc
    simp only [Bool.and_eq_true] at hc
    have h1 : i < L.length := by simpa using hc.1
    refine ⟨h1, fun hs => ?_, (Option.some.inj h).symm⟩
    have h2 := hc.2
    rw [List.getD_eq_getElem?_getD, hs] at h2
    simp [isSec, sec] at h2
  · cases h
theorem stL2_spec {L L' : List Value} {i : Nat} {v : Value} (h : stL2 L i v = some L') : i + 1 < L.length ∧ L[i]? ≠ some sec ∧ L' = (L.set i v).set (i + 1) sec := by
  simp only [stL2, Bool.cond_eq_ite] at h
  split at h
  · rename_i hc
    simp only [Bool.and_eq_true] at hc
    have h1 : i + 1 < L.length := by simpa using hc.1
    refine ⟨h1, fun hs => ?_, (Option.some.inj h).symm⟩
    have h2 := hc.2
    rw [List.getD_eq_getElem?_getD, hs] at h2
    simp [isSec, sec] at h2
  · cases h
end
section
/-! One step of the picture is one step of the machine -/
theorem eOK_dec {mi pc : Nat} {e : kO} (h : eOK mi (pc, e) = true) : decode (kM mi).2.1 pc = .ok (e.1, e.2.1) ∧ (ilen e.1 = 0 ∨ ilen e.1 = e.2.1) ∧ pOK mi e = true := by
  simp only [eOK, Bool.and_eq_true, decide_eq_true_eq, Bool.or_eq_true] at h
  exact ⟨h.1.1, h.1.2.elim (fun q => Or.inl (Nat.eq_of_beq_eq_true q)) (fun q => Or.inr (Nat.eq_of_beq_eq_true q)), h.2⟩
theorem len_of {n len : Nat} (h : n = 0 ∨ n = len) (hn : n ≠ 0) : len = n := by
  rcases h with h | h
  · exact absurd h hn
  · exact h.symm
theorem ld_spec {L S : List Value} {i pc t : Nat} {w : AW} {q : Cfg} (h : ld L i S w pc t = some q) : ∃ v, L[i]? = some v ∧ known v = true ∧ q = (pc, L, v :: S, w) ∧ ((t = 0 ∧ ∃ x, v = .int x) ∨ (t = 1 ∧ ∃ x, v = .long x) ∨ (t = 2 ∧ ((∃ x, v = .ref x) ∨ v = .retAddr 0))) := by
  simp only [ld, Bool.cond_eq_ite] at h
  split at h
  · rename_i x hx
    split at h
    · rename_i ht; cases h; exact ⟨_, hx, rfl, rfl, Or.inl ⟨Nat.eq_of_beq_eq_true ht, x, rfl⟩⟩
    · cases h
  · rename_i x hx
    split at h
    · rename_i ht; cases h; exact ⟨_, hx, rfl, rfl, Or.inr (Or.inl ⟨Nat.eq_of_beq_eq_true ht, x, rfl⟩)⟩
    · cases h
  · rename_i x hx
    split at h
    · rename_i ht; cases h; exact ⟨_, hx, rfl, rfl, Or.inr (Or.inr ⟨Nat.eq_of_beq_eq_true ht, Or.inl ⟨x, rfl⟩⟩)⟩
    · cases h
  · rename_i n hx
    split at h
    · rename_i ht
      simp only [Bool.and_eq_true] at ht
      have h0 := Nat.eq_of_beq_eq_true ht.2
      subst h0
      cases h; exact ⟨_, hx, rfl, rfl, Or.inr (Or.inr ⟨Nat.eq_of_beq_eq_true ht.1, Or.inr rfl⟩)⟩
    · cases h
  · cases h
theorem st_spec {L S : List Value} {i pc t : Nat} {w : AW} {q : Cfg} (h : st L i S w pc t = some q) : (t = 0 ∧ ∃ x S' L', S = .int x :: S' ∧ stL L i (.int x) = some L' ∧ q = (pc, L', S', w)) ∨ (t = 2 ∧ ∃ x S' L', S = .ref x :: S' ∧ stL L i (.ref x) = some L' ∧ q = (pc, L', S', w)) ∨ (t = 1 ∧ ∃ x S' L', S = .long x :: S' ∧ stL2 L i (.long x) = some L' ∧ q = (pc, L', S', w)) := by
  simp only [st, Bool.cond_eq_ite] at h
  split at h
  · split at h
    · rename_i ht
      simp only [Option.map_eq_some_iff] at h
      obtain ⟨L', h1, h2⟩ := h
      exact Or.inl ⟨Nat.eq_of_beq_eq_true ht, _, _, L', rfl, h1, h2.symm⟩
    · cases h
  · split at h
    · rename_i ht
      simp only [Option.map_eq_some_iff] at h
      obtain ⟨L', h1, h2⟩ := h
      exact Or.inr (Or.inl ⟨Nat.eq_of_beq_eq_true ht, _, _, L', rfl, h1, h2.symm⟩)
    · cases h
  · split at h
    · rename_i ht
      simp only [Option.map_eq_some_iff] at h
      obtain ⟨L', h1, h2⟩ := h
      exact Or.inr (Or.inr ⟨Nat.eq_of_beq_eq_true ht, _, _, L', rfl, h1, h2.symm⟩)
    · cases h
  · cases h
theorem i2_spec {f : Int32 → Int32 → Int32} {L S : List Value} {pc : Nat} {w : AW} {q : Cfg} (h : i2 f pc L S w = some q) : ∃ x y S', S = .int y :: .int x :: S' ∧ q = (pc, L, .int (f x y) :: S', w) := by
  simp only [i2] at h
  split at h
  · cases h; exact ⟨_, _, _, rfl, rfl⟩
  · cases h
theorem l2_spec {f : Int64 → Int64 → Int64} {L S : List Value} {pc : Nat} {w : AW} {q : Cfg} (h : l2 f pc L S w = some q) : ∃ x y S', S = .long y :: .long x :: S' ∧ q = (pc, L, .long (f x y) :: S', w) := by
  simp only [l2] at h
  split at h
  · cases h; exact ⟨_, _, _, rfl, rfl⟩
  · cases h
theorem tgt_spec {pc : Nat} {off : Int} (h : tgtOk pc off = true) : (pc : Int) + off = (tgt pc off : Int) := by
  simp only [tgtOk, decide_eq_true_eq] at h
  show (pc : Int) + off = ((Int.ofNat pc + off).toNat : Int)
  rw [Int.toNat_of_nonneg h]; rfl
theorem sw_spec {L S : List Value} {pc : Nat} {off : Int} {w : AW} {q : Cfg} (h : sw pc off L S w = some q) : (pc : Int) + off = (tgt pc off : Int) ∧ q = (tgt pc off, L, S, w) := by
  simp only [sw, Bool.cond_eq_ite] at h
  split at h
  · rename_i ht; cases h; exact ⟨tgt_spec ht, rfl⟩
  · cases h
theorem LOK.st1 {b : Nat} {ad : Nat → Nat} {ls ls' : Array Slot} {nL i : Nat} {L L' : List Value} {v : Value} (h : LOK b ad ls nL L) (hs : stL L i v = some L') (hc : v.category = 1) (h' : lv_has ls' nL ((i, cv b ad v) :: (lvo b ad L).filter (fun q => !(q.1 == i) && !(q.1 + 1 == i && q.2.category == 2)))) : LOK b ad ls' nL L' := by
  obtain ⟨hi, hns, rfl⟩ := stL_spec hs
  refine ⟨h'.1, h'.2.1, by simp [h.2.2.1], fun j u hj hk => ?_, fun j u hj hc2 => ?_⟩
  · rw [List.getElem?_set] at hj
    by_cases hij : i = j
    · subst hij
      simp [hi] at hj
      subst hj
      exact h'.2.2 (i, cv b ad v) List.mem_cons_self
    · simp only [hij, if_false] at hj
      refine h'.2.2 (j, cv b ad u) (List.mem_cons_of_mem _ (List.mem_filter.mpr ⟨lvo_in.mpr ⟨u, hj, hk, rfl⟩, ?_⟩))
      have h1 : ¬ (j + 1 = i ∧ u.category = 2) := fun ⟨e1, e2⟩ => hns (by rw [← e1]; exact h.2.2.2.2 j u hj e2)
      have h2 : ¬ j = i := fun q => hij q.symm
      simp only [cv_cat, Bool.and_eq_true, Bool.not_eq_true', beq_eq_false_iff_ne, ne_eq, h2, not_false_eq_true, true_and, Bool.and_eq_false_imp, beq_iff_eq]
      exact fun e1 e2 => h1 ⟨e1, e2⟩
  · rw [List.getElem?_set] at hj
    by_cases hij : i = j
    · subst hij
      simp [hi] at hj
      subst hj
      omega
    · simp only [hij, if_false] at hj
      have h1 := h.2.2.2.2 j u hj hc2
      have h2 : ¬ i = j + 1 := fun q => hns (by rw [q]; exact h1)
      rw [List.getElem?_set]
      simp only [h2, if_false]
      exact h1
theorem LOK.st2 {b : Nat} {ad : Nat → Nat} {ls ls' : Array Slot} {nL i : Nat} {L L' : List Value} {v : Value} (h : LOK b ad ls nL L) (hs : stL2 L i v = some L') (h' : lv_has ls' nL ((i, cv b ad v) :: (lvo b ad L).filter (fun q => !(q.1 == i) && (!(q.1 == i + 1) && !(q.1 + 1 == i && q.2.category == 2))))) : LOK b ad ls' nL L' := by
  obtain ⟨hi, hns, rfl⟩ := stL2_spec hs
  have hget : ∀ j : Nat, ((L.set i v).set (i + 1) sec)[j]? = if j = i + 1 then some sec else if j = i then some v else L[j]? := by
    intro j
    rw [List.getElem?_set, List.getElem?_set]
    by_cases h1 : j = i + 1
    · subst h1; simp [hi]
    · have h1' : ¬ i + 1 = j := fun q => h1 q.symm
      by_cases h2 : j = i
      · subst h2; simp [show j < L.length by omega]
      · have h2' : ¬ i = j := fun q => h2 q.symm
        simp [h1, h1', h2, h2']
  refine ⟨h'.1, h'.2.1, by simp [h.2.2.1], fun j u hj hk => ?_, fun j u hj hc2 => ?_⟩
  · rw [hget] at hj
    by_cases h1 : j = i + 1
    · rw [if_pos h1] at hj
      cases hj
      simp [known, sec] at hk
    · rw [if_neg h1] at hj
      by_cases h2 : j = i
      · rw [if_pos h2] at hj
        have hvu : v = u := Option.some.inj hj
        subst hvu
        subst h2
        exact h'.2.2 (j, cv b ad v) List.mem_cons_self
      · rw [if_neg h2] at hj
        refine h'.2.2 (j, cv b ad u) (List.mem_cons_of_mem _ (List.mem_filter.mpr ⟨lvo_in.mpr ⟨u, hj, hk, rfl⟩, ?_⟩))
        have h3 : ¬ (j + 1 = i ∧ u.category = 2) := fun ⟨e1, e2⟩ => hns (by rw [← e1]; exact h.2.2.2.2 j u hj e2)
        simp only [cv_cat, Bool.and_eq_true, Bool.not_eq_true', beq_eq_false_iff_ne, ne_eq, h1, h2, not_false_eq_true, true_and, Bool.and_eq_false_imp, beq_iff_eq]
        exact fun e1 e2 => h3 ⟨e1, e2⟩
  · rw [hget] at hj
    rw [hget]
    by_cases h1 : j = i + 1
    · rw [if_pos h1] at hj
      cases hj
      simp [sec, Value.category] at hc2
    · rw [if_neg h1] at hj
      by_cases h2 : j = i
      · rw [if_pos (by omega)]
      · rw [if_neg h2] at hj
        have h3 := h.2.2.2.2 j u hj hc2
        rw [if_neg (by omega), if_neg (fun q => hns (by rw [← q]; exact h3))]
        exact h3
theorem okV_spec {t : FieldType} {v : Value} {b : Nat} {ad : Nat → Nat} (h : okV t v = true) : narrow t (cv b ad v) = cv b ad v ∧ fits t (cv b ad v) = true := by
  cases t <;> cases v <;> first | (simp [okV] at h; done) | exact ⟨rfl, rfl⟩ | skip
  rename_i x
  simp only [okV, Bool.or_eq_true, beq_iff_eq] at h
  rcases h with rfl | rfl <;> exact ⟨rfl, rfl⟩
section SND
variable {p : Program} {l : Launch} {e : Env} {R : Room} {s : State} {m : MethodId} {args : Array Value} {below : List Frame} {meth : Method} {c : Code} {Q : State → Prop} {X : Scr} {b : Nat} {ad : Nat → Nat} {D : va_G} {tc : FieldType → ClassId} {A : Nat → Prop} {mi : Nat}
def NW (U : State) : Prop := ∀ (a : String) (i : Nat) (x : MethodName) (h : String), Cond.methodLinkNest a i x h ∈ lw_tbl → va_Nw (.methodLinkNest a i x h) U
/-- what stays, while a method runs -/
def Cx (p : Program) (R : Room) (s : State) (m : MethodId) (args : Array Value) (meth : Method) (c : Code) (X : Scr) (b : Nat) (D : va_G) (tc : FieldType → ClassId) (A : Nat → Prop) (mi : Nat) : Prop :=
  p.tables.exec = Jvm.exec ∧ c.code = (kM mi).2.1 ∧ c.maxLocals = (kM mi).2.2.1 ∧ (∀ w ∈ kWs, w.before args s = true) ∧ s.vm.findClass (kOwn mi) = some m.cls ∧ ((kR mi).2.2.2.2.2.2.2.2 = 2 → meth.name = "<init>") ∧ NW s ∧ va_K D vwCl (kTys tc) s ∧ va_X b X.1 X.2 s s.heap ∧ b < s.heap.size ∧ ¬ A b ∧ (∀ q, s.heap.size ≤ q → A q) ∧ (kR mi).1 ≤ R.frames ∧ (kR mi).2.1 ≤ R.locals
def WR (b : Nat) (ad : Nat → Nat) (D : va_G) (tc : FieldType → ClassId) (A : Nat → Prop) (w : AW) (H : Heap) : Prop := va_P D vwCl (cW tc b ad w) H ∧ va_D A (cW tc b ad w) ∧ ∀ j, ad (w.length + j) = H.size + j
def KK (p : Program) (l : Launch) (e : Env) (R : Room) (s : State) (m : MethodId) (args : Array Value) (below : List Frame) (meth : Method) (c : Code) (Q : State → Prop) (b : Nat) (ad : Nat → Nat) (D : va_G) (tc : FieldType → ClassId) (A : Nat → Prop) (mi c0 s0 : Nat) (w0 : AW) (q : Cfg) : Prop :=
  ∀ (H' : Heap) (locs' : List Loc) (ls' : Array Slot) (c1 s1 : Nat), c1 + w0.length = c0 + q.2.2.2.length → s1 + tot w0 = s0 + tot q.2.2.2 → WR b ad D tc A q.2.2.2 H' → va_S A s.heap H' locs' → LOK b ad ls' (kM mi).2.2.1 q.2.1 → W p l e R s m args below meth c H' locs' c1 s1 Q (F0 m q.1 ls' (q.2.2.1.map (cv b ad)))
theorem WR.push {w : AW} {H H' : Heap} {locs : List Loc} {x : AC} (hW : WR b ad D tc A w H) (hS : va_S A s.heap H locs) (hA : ∀ q, s.heap.size ≤ q → A q) (z1 : H'.size = H.size + 1) (o1 : ∀ q, q < H.size → H'[q]? = H[q]?) (hc : va_at D vwCl (H.size, cE tc b ad x) H') : WR b ad D tc A (w ++ [x]) H' ∧ va_S A s.heap H' locs := by
  obtain ⟨hP, hD, hF⟩ := hW
  have h0 : ad w.length = H.size := hF 0
  have hk : ∀ (k : Nat) (x : Nat × va_E), (cW tc b ad w)[k]? = some x → H'[x.1]? = H[x.1]? := fun k x hx => o1 x.1 ((hP k x hx).lt)
  refine ⟨⟨?_, ?_, fun j => ?_⟩, ⟨Nat.le_trans hS.1 (by omega), fun q h1 h2 => (o1 q (Nat.lt_of_lt_of_le h1 hS.1)).trans (hS.2.1 q h1 h2), hS.2.2⟩⟩
  · rw [cW_push]
    refine (hP.kept hk).app (fun k y hy => ?_)
    have hz : k < 1 := (List.getElem?_eq_some_iff.mp hy).1
    rw [show k = 0 by omega] at hy
    cases hy
    rw [h0]
    exact hc
  · rw [cW_push]
    exact hD.push hP h0 (by rw [h0]; exact hA _ hS.1)
  · have := hF (j + 1)
    rw [List.length_append, List.length_singleton, show w.length + 1 + j = w.length + (j + 1) by omega, this]
    omega
theorem WR.upd {w : AW} {H H1 : Heap} {a : Nat} {x x0 : AC} (hW : WR b ad D tc A w H) (h1 : w[a]? = some x0) (e : va_at D vwCl (ad a, cE tc b ad x) H1) (z : H1.size = H.size) (oq : ∀ q : Nat, q ≠ ad a → H1[q]? = H[q]?) : WR b ad D tc A (w.set a x) H1 := by
  obtain ⟨hP, hD, hF⟩ := hW
  refine ⟨?_, ?_, fun j => by rw [List.length_set, z]; exact hF j⟩
  · rw [cW_set]; exact hP.set hD (cW_get h1) e oq
  · rw [cW_set]; exact hD.set (cW_get h1)
theorem step_sound {pc c0 s0 : Nat} {eo : kO} {L S : List Value} {w : AW} {q : Cfg} {H : Heap} {locs : List Loc} {ls : Array Slot} (C : Cx p R s m args meth c X b D tc A mi) (hm : mi ≤ kN) (hk : kI mi pc = some eo) (hs : stepI X mi pc eo L S w = some q) (hW : WR b ad D tc A w H) (hS : va_S A s.heap H locs) (hL : LOK b ad ls (kM mi).2.2.1 L)
    (hroom : c0 + q.2.2.2.length ≤ R.cells + w.length ∧ s0 + tot q.2.2.2 ≤ R.slots + tot w) (kk : KK p l e R s m args below meth c Q b ad D tc A mi c0 s0 w q) : W p l e R s m args below meth c H locs c0 s0 Q (F0 m pc ls (S.map (cv b ad))) := by
  obtain ⟨hd, hl, hp⟩ := eOK_dec (kI_ok hm hk)
  obtain ⟨hx, hb, hml, hts, hown, hini, hNW, hK, hX, hbl, hbA, hA, hfr, hlo⟩ := C
  obtain ⟨hP, hD, hF⟩ := id hW
  obtain ⟨i, len, a, k, pp, v⟩ := eo
  dsimp only at hd hl
  cases i with
  | iconst n => cases len_of hl (by simp [ilen]); cases hs; exact lv_iconst hx hb hd rfl (kk H locs ls _ _ rfl rfl hW hS hL)
  | bipush n => cases len_of hl (by simp [ilen]); cases hs; exact lv_bipush hx hb hd rfl (kk H locs ls _ _ rfl rfl hW hS hL)
  | sipush n => cases len_of hl (by simp [ilen]); cases hs; exact lv_sipush hx hb hd rfl (kk H locs ls _ _ rfl rfl hW hS hL)
  | lconst n => cases len_of hl (by simp [ilen]); cases hs; exact lv_lconst hx hb hd rfl (kk H locs ls _ _ rfl rfl hW hS hL)
  | ldc n => cases len_of hl (by simp [ilen]); cases hs; exact lv_ldc hx hb hown (hts _ (wAt_in hp)) hd (kk H locs ls _ _ rfl rfl hW hS hL)
  | ldc_w n => cases len_of hl (by simp [ilen]); cases hs; exact lv_ldcw hx hb hown (hts _ (wAt_in hp)) hd (kk H locs ls _ _ rfl rfl hW hS hL)
  | ldc2_w n => cases len_of hl (by simp [ilen]); cases hs; exact lv_ldc2 hx hb hown (hts _ (wAt_in hp)) hd (kk H locs ls _ _ rfl rfl hW hS hL)
  | iload_n n =>
    cases len_of hl (by simp [ilen])
    obtain ⟨v, h1, h2, rfl, h3⟩ := ld_spec hs
    have h4 := hL.2.2.2.1 _ _ h1 h2
    rcases h3 with ⟨-, x, rfl⟩ | ⟨h, -⟩ | ⟨h, -⟩
    · exact lv_iload_n hx hb hd rfl h4 (kk H locs ls _ _ rfl rfl hW hS hL)
    · cases h
    · cases h
  | iload n =>
    cases len_of hl (by simp [ilen])
    obtain ⟨v, h1, h2, rfl, h3⟩ := ld_spec hs
    have h4 := hL.2.2.2.1 _ _ h1 h2
    rcases h3 with ⟨-, x, rfl⟩ | ⟨h, -⟩ | ⟨h, -⟩
    · exact lv_iload hx hb hd h4 (kk H locs ls _ _ rfl rfl hW hS hL)
    · cases h
    · cases h
  | lload_n n =>
    cases len_of hl (by simp [ilen])
    obtain ⟨v, h1, h2, rfl, h3⟩ := ld_spec hs
    have h4 := hL.2.2.2.1 _ _ h1 h2
    rcases h3 with ⟨h, -⟩ | ⟨-, x, rfl⟩ | ⟨h, -⟩
    · cases h
    · exact lv_lload_n hx hb hd rfl h4 (kk H locs ls _ _ rfl rfl hW hS hL)
    · cases h
  | lload n =>
    cases len_of hl (by simp [ilen])
    obtain ⟨v, h1, h2, rfl, h3⟩ := ld_spec hs
    have h4 := hL.2.2.2.1 _ _ h1 h2
    rcases h3 with ⟨h, -⟩ | ⟨-, x, rfl⟩ | ⟨h, -⟩
    · cases h
    · exact lv_lload hx hb hd h4 (kk H locs ls _ _ rfl rfl hW hS hL)
    · cases h
  | aload_n n =>
    cases len_of hl (by simp [ilen])
    obtain ⟨v, h1, h2, rfl, h3⟩ := ld_spec hs
    have h4 := hL.2.2.2.1 _ _ h1 h2
    rcases h3 with ⟨h, -⟩ | ⟨h, -⟩ | ⟨-, ⟨x, rfl⟩ | rfl⟩
    · cases h
    · cases h
    · exact lv_aload_n hx hb hd rfl h4 (kk H locs ls _ _ rfl rfl hW hS hL)
    · exact lv_aload_n hx hb hd rfl h4 (kk H locs ls _ _ rfl rfl hW hS hL)
  | istore_n n =>
    cases len_of hl (by simp [ilen])
    rcases st_spec hs with ⟨-, x, S', L', rfl, h1, rfl⟩ | ⟨h, -⟩ | ⟨h, -⟩
    · exact lv_istore_n hx hb hd rfl hL.has (by rw [← hL.2.2.1]; exact (stL_spec h1).1) rfl (fun ls' h' => kk H locs ls' _ _ rfl rfl hW hS (hL.st1 h1 rfl h'))
    · cases h
    · cases h
  | istore n =>
    cases len_of hl (by simp [ilen])
    rcases st_spec hs with ⟨-, x, S', L', rfl, h1, rfl⟩ | ⟨h, -⟩ | ⟨h, -⟩
    · exact lv_istore hx hb hd hL.has (by rw [← hL.2.2.1]; exact (stL_spec h1).1) rfl (fun ls' h' => kk H locs ls' _ _ rfl rfl hW hS (hL.st1 h1 rfl h'))
    · cases h
    · cases h
  | lstore_n n =>
    cases len_of hl (by simp [ilen])
    rcases st_spec hs with ⟨h, -⟩ | ⟨h, -⟩ | ⟨-, x, S', L', rfl, h1, rfl⟩
    · cases h
    · cases h
    · exact lv_lstore_n hx hb hd rfl hL.has (by rw [← hL.2.2.1]; exact (stL2_spec h1).1) rfl (fun ls' h' => kk H locs ls' _ _ rfl rfl hW hS (hL.st2 h1 h'))
  | lstore n =>
    cases len_of hl (by simp [ilen])
    rcases st_spec hs with ⟨h, -⟩ | ⟨h, -⟩ | ⟨-, x, S', L', rfl, h1, rfl⟩
    · cases h
    · cases h
    · exact lv_lstore hx hb hd hL.has (by rw [← hL.2.2.1]; exact (stL2_spec h1).1) rfl (fun ls' h' => kk H locs ls' _ _ rfl rfl hW hS (hL.st2 h1 h'))
  | astore_n n =>
    cases len_of hl (by simp [ilen])
    rcases st_spec hs with ⟨h, -⟩ | ⟨-, x, S', L', rfl, h1, rfl⟩ | ⟨h, -⟩
    · cases h
    · exact lv_astore_n hx hb hd rfl hL.has (by rw [← hL.2.2.1]; exact (stL_spec h1).1) rfl (fun ls' h' => kk H locs ls' _ _ rfl rfl hW hS (hL.st1 h1 rfl h'))
    · cases h
  | iinc j n =>
    cases len_of hl (by simp [ilen])
    simp only [stepI] at hs
    split at hs
    · rename_i x h1
      cases hs
      obtain ⟨k', hk'⟩ := List.getElem?_of_mem (lvo_in (b := b) (ad := ad).mpr ⟨.int x, h1, rfl, rfl⟩)
      have h2 : stL L j (.int (x + Int32.ofInt n)) = some (L.set j (.int (x + Int32.ofInt n))) := by
        have h3 : Nat.blt j L.length = true := by have := (List.getElem?_eq_some_iff.mp h1).1; simpa using this
        have h4 : L.getD j uns = .int x := by rw [List.getD_eq_getElem?_getD, h1]; rfl
        rw [stL, h3, h4]; rfl
      exact lv_iinc hx hb hd hL.has hk' rfl (by rw [← hL.2.2.1]; exact (stL_spec h2).1) rfl (fun ls' h' => kk H locs ls' _ _ rfl rfl hW hS (hL.st1 h2 rfl h'))
    · cases hs
  | iadd => cases len_of hl (by simp [ilen]); obtain ⟨x, y, S', rfl, rfl⟩ := i2_spec hs; exact lv_iadd hx hb hd (kk H locs ls _ _ rfl rfl hW hS hL)
  | isub => cases len_of hl (by simp [ilen]); obtain ⟨x, y, S', rfl, rfl⟩ := i2_spec hs; exact lv_isub hx hb hd (kk H locs ls _ _ rfl rfl hW hS hL)
  | imul => cases len_of hl (by simp [ilen]); obtain ⟨x, y, S', rfl, rfl⟩ := i2_spec hs; exact lv_imul hx hb hd (kk H locs ls _ _ rfl rfl hW hS hL)
  | iand => cases len_of hl (by simp [ilen]); obtain ⟨x, y, S', rfl, rfl⟩ := i2_spec hs; exact lv_iand hx hb hd (kk H locs ls _ _ rfl rfl hW hS hL)
  | ior => cases len_of hl (by simp [ilen]); obtain ⟨x, y, S', rfl, rfl⟩ := i2_spec hs; exact lv_ior hx hb hd (kk H locs ls _ _ rfl rfl hW hS hL)
  | ixor => cases len_of hl (by simp [ilen]); obtain ⟨x, y, S', rfl, rfl⟩ := i2_spec hs; exact lv_ixor hx hb hd (kk H locs ls _ _ rfl rfl hW hS hL)
  | ishl => cases len_of hl (by simp [ilen]); obtain ⟨x, y, S', rfl, rfl⟩ := i2_spec hs; exact lv_ishl hx hb hd (kk H locs ls _ _ rfl rfl hW hS hL)
  | ishr => cases len_of hl (by simp [ilen]); obtain ⟨x, y, S', rfl, rfl⟩ := i2_spec hs; exact lv_ishr hx hb hd (kk H locs ls _ _ rfl rfl hW hS hL)
  | iushr => cases len_of hl (by simp [ilen]); obtain ⟨x, y, S', rfl, rfl⟩ := i2_spec hs; exact lv_iushr hx hb hd rfl (kk H locs ls _ _ rfl rfl hW hS hL)
  | ladd => cases len_of hl (by simp [ilen]); obtain ⟨x, y, S', rfl, rfl⟩ := l2_spec hs; exact lv_ladd hx hb hd (kk H locs ls _ _ rfl rfl hW hS hL)
  | lsub => cases len_of hl (by simp [ilen]); obtain ⟨x, y, S', rfl, rfl⟩ := l2_spec hs; exact lv_lsub hx hb hd (kk H locs ls _ _ rfl rfl hW hS hL)
  | lmul => cases len_of hl (by simp [ilen]); obtain ⟨x, y, S', rfl, rfl⟩ := l2_spec hs; exact lv_lmul hx hb hd (kk H locs ls _ _ rfl rfl hW hS hL)
  | idiv =>
    cases len_of hl (by simp [ilen])
    simp only [stepI, Bool.cond_eq_ite, decide_eq_true_eq] at hs
    split at hs
    · split at hs
      · cases hs
      · rename_i h; cases hs; exact lv_idiv hx hb hd h (kk H locs ls _ _ rfl rfl hW hS hL)
    · cases hs
  | irem =>
    cases len_of hl (by simp [ilen])
    simp only [stepI, Bool.cond_eq_ite, decide_eq_true_eq] at hs
    split at hs
    · split at hs
      · cases hs
      · rename_i h; cases hs; exact lv_irem hx hb hd h (kk H locs ls _ _ rfl rfl hW hS hL)
    · cases hs
  | ldiv =>
    cases len_of hl (by simp [ilen])
    simp only [stepI, Bool.cond_eq_ite, decide_eq_true_eq] at hs
    split at hs
    · split at hs
      · cases hs
      · rename_i h; cases hs; exact lv_ldiv hx hb hd h (kk H locs ls _ _ rfl rfl hW hS hL)
    · cases hs
  | lrem =>
    cases len_of hl (by simp [ilen])
    simp only [stepI, Bool.cond_eq_ite, decide_eq_true_eq] at hs
    split at hs
    · split at hs
      · cases hs
      · rename_i h; cases hs; exact lv_lrem hx hb hd h (kk H locs ls _ _ rfl rfl hW hS hL)
    · cases hs
  | lcmp =>
    cases len_of hl (by simp [ilen])
    simp only [stepI] at hs
    split at hs
    · cases hs; exact W.lcmp hx hb hd (kk H locs ls _ _ rfl rfl hW hS hL)
    · cases hs
  | i2l =>
    cases len_of hl (by simp [ilen])
    simp only [stepI] at hs
    split at hs
    · cases hs; exact lv_i2l hx hb hd rfl (kk H locs ls _ _ rfl rfl hW hS hL)
    · cases hs
  | l2i =>
    cases len_of hl (by simp [ilen])
    simp only [stepI] at hs
    split at hs
    · cases hs; exact lv_l2i hx hb hd rfl (kk H locs ls _ _ rfl rfl hW hS hL)
    · cases hs
  | dup =>
    cases len_of hl (by simp [ilen])
    simp only [stepI] at hs
    split at hs
    · cases hs; exact lv_dup hx hb hd rfl (kk H locs ls _ _ rfl rfl hW hS hL)
    · cases hs; exact lv_dup hx hb hd rfl (kk H locs ls _ _ rfl rfl hW hS hL)
    · cases hs
  | pop =>
    cases len_of hl (by simp [ilen])
    simp only [stepI] at hs
    split at hs
    · cases hs; exact lv_pop hx hb hd rfl (kk H locs ls _ _ rfl rfl hW hS hL)
    · cases hs
  | dup2 =>
    cases len_of hl (by simp [ilen])
    simp only [stepI] at hs
    split at hs
    · cases hs; exact lv_dup2_11 hx hb hd rfl rfl (kk H locs ls _ _ rfl rfl hW hS hL)
    · cases hs
  | goto off =>
    cases len_of hl (by simp [ilen])
    obtain ⟨h1, rfl⟩ := sw_spec hs
    exact lv_goto hx hb hd h1 (kk H locs ls _ _ rfl rfl hW hS hL)
  | ifCond cn off =>
    cases len_of hl (by simp [ilen])
    simp only [stepI, Bool.cond_eq_ite] at hs
    split at hs
    · split at hs
      · rename_i x S' ht
        have ht := tgt_spec ht
        cases hs
        cases cn
        · refine lv_if_eq hx hb hd ht (fun h => ?_) (fun h => ?_)
          · rw [if_pos (by simp [cmpI, h])] at kk; exact kk H locs ls _ _ rfl rfl hW hS hL
          · rw [if_neg (by simp [cmpI, h])] at kk; exact kk H locs ls _ _ rfl rfl hW hS hL
        · refine lv_if_ne hx hb hd ht (fun h => ?_) (fun h => ?_)
          · rw [if_pos (by simpa [cmpI] using h)] at kk; exact kk H locs ls _ _ rfl rfl hW hS hL
          · rw [if_neg (by simpa [cmpI] using h)] at kk; exact kk H locs ls _ _ rfl rfl hW hS hL
        · refine lv_if_lt hx hb hd ht (fun h => ?_) (fun h => ?_)
          · rw [if_pos (by simpa [cmpI] using h)] at kk; exact kk H locs ls _ _ rfl rfl hW hS hL
          · rw [if_neg (by simpa [cmpI] using h)] at kk; exact kk H locs ls _ _ rfl rfl hW hS hL
        · refine lv_if_ge hx hb hd ht (fun h => ?_) (fun h => ?_)
          · rw [if_pos (by simpa [cmpI] using h)] at kk; exact kk H locs ls _ _ rfl rfl hW hS hL
          · rw [if_neg (by simpa [cmpI] using h)] at kk; exact kk H locs ls _ _ rfl rfl hW hS hL
        · refine lv_if_gt hx hb hd ht (fun h => ?_) (fun h => ?_)
          · rw [if_pos (by simpa [cmpI] using h)] at kk; exact kk H locs ls _ _ rfl rfl hW hS hL
          · rw [if_neg (by simpa [cmpI] using h)] at kk; exact kk H locs ls _ _ rfl rfl hW hS hL
        · refine lv_if_le hx hb hd ht (fun h => ?_) (fun h => ?_)
          · rw [if_pos (by simpa [cmpI] using h)] at kk; exact kk H locs ls _ _ rfl rfl hW hS hL
          · rw [if_neg (by simpa [cmpI] using h)] at kk; exact kk H locs ls _ _ rfl rfl hW hS hL
      · cases hs
    · cases hs
  | if_icmp cn off =>
    cases len_of hl (by simp [ilen])
    simp only [stepI, Bool.cond_eq_ite] at hs
    split at hs
    · split at hs
      · rename_i y x S' ht
        have ht := tgt_spec ht
        cases hs
        cases cn
        · refine lv_icmp_eq hx hb hd ht (fun h => ?_) (fun h => ?_)
          · rw [if_pos (by simp [cmpI, h])] at kk; exact kk H locs ls _ _ rfl rfl hW hS hL
          · rw [if_neg (by simp [cmpI, h])] at kk; exact kk H locs ls _ _ rfl rfl hW hS hL
        · refine lv_icmp_ne hx hb hd ht (fun h => ?_) (fun h => ?_)
          · rw [if_pos (by simpa [cmpI] using h)] at kk; exact kk H locs ls _ _ rfl rfl hW hS hL
          · rw [if_neg (by simpa [cmpI] using h)] at kk; exact kk H locs ls _ _ rfl rfl hW hS hL
        · refine lv_icmp_lt hx hb hd ht (fun h => ?_) (fun h => ?_)
          · rw [if_pos (by simpa [cmpI] using h)] at kk; exact kk H locs ls _ _ rfl rfl hW hS hL
          · rw [if_neg (by simpa [cmpI] using h)] at kk; exact kk H locs ls _ _ rfl rfl hW hS hL
        · refine lv_icmp_ge hx hb hd ht (fun h => ?_) (fun h => ?_)
          · rw [if_pos (by simpa [cmpI] using h)] at kk; exact kk H locs ls _ _ rfl rfl hW hS hL
          · rw [if_neg (by simpa [cmpI] using h)] at kk; exact kk H locs ls _ _ rfl rfl hW hS hL
        · refine lv_icmp_gt hx hb hd ht (fun h => ?_) (fun h => ?_)
          · rw [if_pos (by simpa [cmpI] using h)] at kk; exact kk H locs ls _ _ rfl rfl hW hS hL
          · rw [if_neg (by simpa [cmpI] using h)] at kk; exact kk H locs ls _ _ rfl rfl hW hS hL
        · refine lv_icmp_le hx hb hd ht (fun h => ?_) (fun h => ?_)
          · rw [if_pos (by simpa [cmpI] using h)] at kk; exact kk H locs ls _ _ rfl rfl hW hS hL
          · rw [if_neg (by simpa [cmpI] using h)] at kk; exact kk H locs ls _ _ rfl rfl hW hS hL
      · cases hs
    · cases hs
  | tableswitch d lo hi offs =>
    simp only [stepI, Bool.cond_eq_ite] at hs
    split at hs
    · split at hs
      · rename_i h
        obtain ⟨h1, rfl⟩ := sw_spec hs
        exact lv_tableOut hx hb hd (by simpa using h) h1 (kk H locs ls _ _ rfl rfl hW hS hL)
      · rename_i h
        simp only [Bool.or_eq_true, decide_eq_true_eq, not_or] at h
        split at hs
        · rename_i o ho
          obtain ⟨h1, rfl⟩ := sw_spec hs
          exact lv_tableIn hx hb hd h.1 h.2 ho h1 (kk H locs ls _ _ rfl rfl hW hS hL)
        · cases hs
    · cases hs
  | lookupswitch d ps =>
    simp only [stepI] at hs
    split at hs
    · obtain ⟨h1, rfl⟩ := sw_spec hs
      exact lv_lookup hx hb hd hp rfl h1 (kk H locs ls _ _ rfl rfl hW hS hL)
    · cases hs
  | getfield idx =>
    cases len_of hl (by simp [ilen])
    simp only [stepI, Bool.cond_eq_ite] at hs
    split at hs
    · split at hs
      · rename_i f S' hf
        cases hs
        obtain ⟨fs, h1, h2, h3, -⟩ := fok_spec hf
        simp only [pOK] at hp
        split at hp
        · rename_i r hr
          simp only [Bool.and_eq_true, decide_eq_true_eq] at hp
          obtain ⟨⟨hp1, hp2⟩, hp3⟩ := hp
          have hci : a < 10 := (List.getElem?_eq_some_iff.mp hr).1
          have hc := cOK_lo hci
          simp only [cOK, hr, Bool.and_eq_true] at hc
          have hin : ∀ w ∈ u_ws r.1 r.2.1 r.2.2, w ∈ kWs := fun w hw => by
            have := List.all_eq_true.mp hc.1.1.1.2 w hw
            simp only [Bool.and_eq_true, decide_eq_true_eq] at this
            exact List.mem_filter.mpr this
          refine va_get hx hb hts hin hown hK hP f (cW_get h1) hr k (by simpa using hp1) (hts _ (wAt_in hp2)) (fun x hx => by rw [hp3] at hx; exact hx) (v := cv b ad (fget w f k)) ?_ hd (kk H locs ls _ _ rfl rfl hW hS hL)
          rw [h3, List.getElem?_map, List.getElem?_eq_getElem h2]
          simp [List.getD_eq_getElem?_getD, List.getElem?_eq_getElem h2]
        · cases hp
      · cases hs
    · cases hs
  | putfield idx =>
    cases len_of hl (by simp [ilen])
    simp only [stepI, Bool.cond_eq_ite] at hs
    split at hs
    · split at hs
      · rename_i v' f S' hf
        simp only [Bool.and_eq_true] at hf
        obtain ⟨⟨hf, hf2⟩, hf3⟩ := hf
        cases hs
        obtain ⟨fs, h1, h2, -, h3⟩ := fok_spec hf
        rw [h3] at kk
        simp only [pOK] at hp
        split at hp
        · rename_i r hr
          simp only [Bool.and_eq_true, decide_eq_true_eq] at hp
          obtain ⟨⟨hp1, hp2⟩, hp3⟩ := hp
          have hp1' : k < r.2.2 := by simpa using hp1
          have hci : a < 10 := (List.getElem?_eq_some_iff.mp hr).1
          have hc := cOK_lo hci
          simp only [cOK, hr, Bool.and_eq_true] at hc
          have hin : ∀ w ∈ u_ws r.1 r.2.1 r.2.2, w ∈ kWs := fun w hw => by
            have := List.all_eq_true.mp hc.1.1.1.2 w hw
            simp only [Bool.and_eq_true, decide_eq_true_eq] at this
            exact List.mem_filter.mpr this
          have hty : ∀ k, k < r.2.2 → parseFieldDescriptor (r.2.1 k).2.2.1 = some (fty a k) := fun k hk => by
            have := List.all_eq_true.mp hc.1.1.2 k (List.mem_range.mpr hk)
            simp only [Bool.and_eq_true, decide_eq_true_eq] at this
            exact this.1
          have hnm : ∀ x, x < r.2.2 → ∀ y, y < r.2.2 → x ≠ y → (r.2.1 x).2.1 ≠ (r.2.1 y).2.1 := fun x hx y hy hxy => by
            have := List.all_eq_true.mp (List.all_eq_true.mp hc.1.2 x (List.mem_range.mpr hx)) y (List.mem_range.mpr hy)
            simp only [Bool.or_eq_true, decide_eq_true_eq] at this
            exact this.resolve_left (fun q => hxy (Nat.eq_of_beq_eq_true q))
          obtain ⟨hn, hfit⟩ := okV_spec (b := b) (ad := ad) hf3
          obtain ⟨C, T, N⟩ := r
          dsimp only at hp1' hp2 hp3 hc hin hty hnm
          have hap := va_apart (own := kOwn mi) hts hin (fty a) hty hnm hK hr
          obtain ⟨r', g1, cell, q1, q2, q3, q4⟩ := hP f _ (cW_get h1)
          have hr' : r' = (C, T, N) := Option.some.inj (g1.symm.trans hr)
          subst hr'
          obtain ⟨hSl, hfc, kC, hkC, hkind⟩ := hK.1 a _ hr
          obtain ⟨cf, kf, fi, fd, hi, hsl⟩ := hSl k hp1'
          have hlay := hts _ (hin _ (u_in_lay hp1'))
          have hst := (u_facts hfc hkC (u_lays hts hin hp1') hi).1
          have hsame : s.fieldFound? C (T k).2.1 (T k).2.2.1 = some (cf, kf, fi, fd) := by rw [← hp3]; exact hi
          have hlen : k < (fs.map (cv b ad)).length := by rw [List.length_map]; exact h2
          have hff : ffin a k = (T k).2.2.2 := by simp [ffin, List.getD_eq_getElem?_getD, hr]
          have hend : ∀ H' : Heap, H'[ad f]? = some (cell.setSlot (D.2 a k) (cv b ad v')) → H'.size = H.size → (∀ q, q ≠ ad f → H'[q]? = H[q]?) → W p l e R s m args below meth c H' (locs ++ [⟨ad f, D.2 a k⟩]) c0 s0 Q (F0 m (pc + 3) ls (S'.map (cv b ad))) := fun H' e1 e2 e3 => by
            refine kk H' _ ls _ _ (by simp) (by rw [tot_set h1 (by simp [csz])]) (hW.upd h1 ?_ e2 e3) (hS.put e2 e3 (hD.2 f _ (cW_get h1))) hL
            refine ⟨_, hr, ?_⟩
            rw [show (fs.set k v').map (cv b ad) = (fs.map (cv b ad)).set k (cv b ad v') from List.map_set ..]
            exact t_OB.to (V := updV (vp_V (fs.map (cv b ad))) k (cv b ad v')) ⟨_, e1, q2, q3, t_set q4 hap hp1' (cv b ad v')⟩ (fun j _ => vp_updV_set hlen (cv b ad v') j)
          cases hfin : (T k).2.2.2 with
          | false =>
            unfold u_lay at hlay
            rw [if_neg (by rw [hfin]; decide)] at hlay
            have h6 := u_store hfc hkC hkind hlay hi (hty k hp1') hn hfit
            refine W.putK hx hb (f := fd) ⟨hown, hts _ (wAt_in hp2), ⟨_, _, _, hsame⟩, hst⟩ (by rw [q2]; exact h6) q1 q3 (by rw [hsl]; exact k2_hasslot (q4 k hp1')) rfl rfl hd fun H' e1 e2 e3 => ?_
            rw [hsl] at e1 ⊢
            exact hend H' e1 e2 e3
          | true =>
            unfold u_lay at hlay
            rw [if_pos hfin] at hlay
            rw [okF, hff, hfin] at hf2
            simp only [Bool.not_true, Bool.false_or, Bool.and_eq_true] at hf2
            have hk1 := Nat.eq_of_beq_eq_true hf2.1
            have hk2 := Nat.eq_of_beq_eq_true hf2.2
            have hlt : mi < kN := by
              rcases Nat.lt_or_ge mi kN with q | q
              · exact q
              · have : mi = 168 := Nat.le_antisymm hm q
                subst this
                exact absurd hk2 (by decide)
            have hC : C = kOwn mi := by
              have hmo := mOK_lo hlt
              simp only [mOK, hk1, hr, Bool.and_eq_true, decide_eq_true_eq] at hmo
              exact hmo.2
            have hcf : m.cls = cf := by
              obtain ⟨_, _, c', _, _, _, -, -, hf', -, -, -, hown2, -⟩ := Cond.laysFinal_spec hlay
              have e1 : c' = cf := by have := hi.symm.trans hf'; simp at this; exact this.1.symm
              rw [hp3, hC] at hown2
              rw [← e1]; exact Option.some.inj (hown.symm.trans hown2)
            have h6 := u_fits hfc hkC hkind (Or.inr hlay) hi (hty k hp1') hn hfit
            refine W.putFinK hx hb hown (hts _ (wAt_in hp2)) hsame hst hcf (hini hk2) (by rw [q2]; exact h6) q1 q3 (by rw [hsl]; exact k2_hasslot (q4 k hp1')) rfl rfl hd fun H' e1 e2 e3 => ?_
            rw [hsl] at e1 ⊢
            exact hend H' e1 e2 e3
        · cases hp
      · cases hs
    · cases hs
  | iaload =>
    cases len_of hl (by simp [ilen])
    simp only [stepI, Bool.cond_eq_ite] at hs
    split at hs
    · split at hs
      · rename_i hf
        simp only [Bool.and_eq_true] at hf
        cases hs
        obtain ⟨n, g, h1, h2, h3, -⟩ := aok_spec hf.1
        rw [h2] at kk
        exact va_iald hx hb hK hP _ 0 (cW_get h1) rfl (inB_spec (by rw [← h3]; exact hf.2)) hd (kk H locs ls _ _ rfl rfl hW hS hL)
      · cases hs
    · split at hs
      · rename_i hf
        simp only [Bool.and_eq_true] at hf
        cases hs
        exact va_sld hx hb hX hbl hbA hS (inB_spec hf.2) hd (kk H locs ls _ _ rfl rfl hW hS hL)
      · cases hs
    · cases hs
  | baload =>
    cases len_of hl (by simp [ilen])
    simp only [stepI, Bool.cond_eq_ite] at hs
    split at hs
    · split at hs
      · rename_i hf
        simp only [Bool.and_eq_true] at hf
        cases hs
        obtain ⟨n, g, h1, h2, h3, -⟩ := zok_spec hf.1
        rw [h2] at kk
        exact va_zald hx hb hK hP _ 2 (cW_get h1) rfl (inB_spec (by rw [← h3]; exact hf.2)) hd (kk H locs ls _ _ rfl rfl hW hS hL)
      · cases hs
    · cases hs
  | laload =>
    cases len_of hl (by simp [ilen])
    simp only [stepI, Bool.cond_eq_ite] at hs
    split at hs
    · split at hs
      · rename_i hf
        simp only [Bool.and_eq_true] at hf
        cases hs
        obtain ⟨n, g, h1, h2, h3, -⟩ := jok_spec hf.1
        rw [h2] at kk
        exact va_lald hx hb hK hP _ 1 (cW_get h1) rfl (inB_spec (by rw [← h3]; exact hf.2)) hd (kk H locs ls _ _ rfl rfl hW hS hL)
      · cases hs
    · cases hs
  | iastore =>
    cases len_of hl (by simp [ilen])
    simp only [stepI, Bool.cond_eq_ite] at hs
    split at hs
    · split at hs
      · rename_i x i a S' hf
        simp only [Bool.and_eq_true] at hf
        cases hs
        obtain ⟨n, g, h1, h2, h3, h4⟩ := aok_spec hf.1
        rw [h4, h2] at kk
        have hin := inB_spec hf.2
        rw [h3] at hin
        refine W.iast hx hb (hP a _ (cW_get h1)) ((hK.2 0 _ rfl).1 n (fun j => .int (g j))) (fun q => by cases q) (by show ¬ (i < 0 ∨ (arrV _ _ _).slots.size ≤ _); rw [arrV_size]; exact hin) rfl rfl hd fun H1 e z oq => ?_
        refine kk H1 _ ls _ _ (by simp) (by show s0 + tot w = s0 + tot (w.set a _); rw [tot_set h1]; rfl) (hW.upd h1 ?_ z oq) (hS.put z oq (hD.2 a _ (cW_get h1))) hL
        show H1[ad a]? = some (vp_cell _ _)
        rw [e]
        show some ((vp_cell _ _).setSlot _ _) = _
        rw [vp_cell_i, vp_cell_i, arrV_store]
        congr 2
        funext q
        by_cases hq : q = i.toNatClampNeg
        · subst hq
          simp [updV, upd]
          try rfl
        · simp [updV, upd, hq]
      · cases hs
    · cases hs
  | bastore =>
    cases len_of hl (by simp [ilen])
    simp only [stepI, Bool.cond_eq_ite] at hs
    split at hs
    · split at hs
      · rename_i x i a S' hf
        simp only [Bool.and_eq_true] at hf
        cases hs
        obtain ⟨n, g, h1, h2, h3, h4⟩ := zok_spec hf.1
        rw [h4, h2] at kk
        have hin := inB_spec hf.2
        rw [h3] at hin
        refine W.zast hx hb (hP a _ (cW_get h1)) ((hK.2 2 _ rfl).1 n (fun j => .int (g j))) (fun q => by cases q) (by show ¬ (i < 0 ∨ (arrV _ _ _).slots.size ≤ _); rw [arrV_size]; exact hin) rfl rfl hd fun H1 e z oq => ?_
        refine kk H1 _ ls _ _ (by simp) (by show s0 + tot w = s0 + tot (w.set a _); rw [tot_set h1]; rfl) (hW.upd h1 ?_ z oq) (hS.put z oq (hD.2 a _ (cW_get h1))) hL
        show H1[ad a]? = some (vp_cell _ _)
        rw [e]
        show some ((vp_cell _ _).setSlot _ _) = _
        rw [vp_cell_i, vp_cell_i, arrV_store]
        congr 2
        funext q
        by_cases hq : q = i.toNatClampNeg
        · subst hq
          simp [updV, upd]
          try rfl
        · simp [updV, upd, hq]
      · cases hs
    · cases hs
  | lastore =>
    cases len_of hl (by simp [ilen])
    simp only [stepI, Bool.cond_eq_ite] at hs
    split at hs
    · split at hs
      · rename_i x i a S' hf
        simp only [Bool.and_eq_true] at hf
        cases hs
        obtain ⟨n, g, h1, h2, h3, h4⟩ := jok_spec hf.1
        rw [h4, h2] at kk
        have hin := inB_spec hf.2
        rw [h3] at hin
        refine W.last hx hb (hP a _ (cW_get h1)) ((hK.2 1 _ rfl).1 n (fun j => .long (g j))) (fun q => by cases q) (by show ¬ (i < 0 ∨ (arrV _ _ _).slots.size ≤ _); rw [arrV_size]; exact hin) rfl rfl hd fun H1 e z oq => ?_
        refine kk H1 _ ls _ _ (by simp) (by show s0 + tot w = s0 + tot (w.set a _); rw [tot_set h1]; rfl) (hW.upd h1 ?_ z oq) (hS.put z oq (hD.2 a _ (cW_get h1))) hL
        show H1[ad a]? = some (vp_cell _ _)
        rw [e]
        show some ((vp_cell _ _).setSlot _ _) = _
        rw [vp_cell_l, vp_cell_l, arrV_store]
        congr 2
        funext q
        by_cases hq : q = i.toNatClampNeg
        · subst hq
          simp [updV, vp_updL]
          try rfl
        · simp [updV, vp_updL, hq]
      · cases hs
    · cases hs
  | arraylength =>
    cases len_of hl (by simp [ilen])
    simp only [stepI, Bool.cond_eq_ite] at hs
    split at hs
    · split at hs
      · rename_i a S' hf
        cases hs
        unfold arr at hf
        split at hf
        · rename_i y he
          obtain ⟨ty, y⟩ := y
          have hv : alen w a = y.1 := by simp [alen, he]
          rw [hv] at kk
          simp only [Bool.or_eq_true, beq_iff_eq] at hf
          rcases hf with (rfl | rfl) | rfl
          · exact va_alen hx hb hK hP a 0 (cW_get he) rfl rfl hd (kk H locs ls _ _ rfl rfl hW hS hL)
          · exact va_alen hx hb hK hP a 1 (cW_get he) rfl rfl hd (kk H locs ls _ _ rfl rfl hW hS hL)
          · exact va_alen hx hb hK hP a 2 (cW_get he) rfl rfl hd (kk H locs ls _ _ rfl rfl hW hS hL)
        · cases hf
      · cases hs
    · split at hs
      · cases hs
        exact va_slen hx hb hX hbl hbA hS hd (kk H locs ls _ _ rfl rfl hW hS hL)
      · cases hs
    · cases hs
  | newarray t =>
    cases len_of hl (by simp [ilen])
    simp only [stepI, Bool.cond_eq_ite] at hs
    split at hs
    · rename_i n S'
      split at hs
      · rename_i hf
        simp only [Option.map_eq_some_iff] at hs
        obtain ⟨x, hx1, rfl⟩ := hs
        have hn := vp_in_iff.mp (inB_spec hf)
        have hn0 : ¬ n < 0 := fun q => (inB_spec hf) (Or.inl q)
        have hn1 : n.toNatClampNeg < 4000 := Nat.not_le.mp fun q => (inB_spec hf) (Or.inr q)
        have h0 : ad w.length = H.size := hF 0
        have harr : wAt kArr.1 (.arrayClass .int) = true ∧ wAt kArr.2.1 (.arrayClass .long) = true ∧ wAt kArr.2.2 (.arrayClass .boolean) = true := by
          have := arr_all
          simp only [Bool.and_eq_true] at this
          exact ⟨this.1.1, this.1.2, this.2⟩
        have hsz : csz x = n.toNatClampNeg := by cases t <;> simp [newA] at hx1 <;> subst hx1 <;> rfl
        have hr1 : c0 + 1 ≤ R.cells := by have := hroom.1; simp only [List.length_append, List.length_singleton] at this; omega
        have hr2 : s0 + n.toNatClampNeg ≤ R.slots := by have := hroom.2; rw [tot_push, hsz] at this; omega
        have hgo : ∀ (H' : Heap), H'.size = H.size + 1 → (∀ q, q < H.size → H'[q]? = H[q]?) → va_at D vwCl (H.size, cE tc b ad x) H' → W p l e R s m args below meth c H' locs (c0 + 1) (s0 + n.toNatClampNeg) Q (F0 m (pc + 2) ls (.ref H.size :: S'.map (cv b ad))) := fun H' z1 o1 hc => by
          obtain ⟨hW', hS'⟩ := hW.push hS hA z1 o1 hc
          have := kk H' locs ls (c0 + 1) (s0 + n.toNatClampNeg) (by simp; omega) (by rw [tot_push, hsz]; omega) hW' hS' hL
          simp only [List.map_cons, cv, h0] at this
          exact this
        cases t <;> simp [newA] at hx1
        · subst hx1
          refine va_newaK (atype := .boolean) hx hb (hts _ (wAt_in harr.2.2)) rfl hd rfl hn0 rfl (by show n.toNatClampNeg * 1 ≤ _; omega) hr1 hr2 rfl fun H' cA e1 z1 o1 hAr hNm => ?_
          have hcA : cA = tc .boolean := Option.some.inj (hNm.symm.trans (hK.2 2 _ rfl).2)
          subst hcA
          exact hgo H' z1 o1 e1
        · subst hx1
          refine va_newaK (atype := .int) hx hb (hts _ (wAt_in harr.1)) rfl hd rfl hn0 rfl (by show n.toNatClampNeg * 4 ≤ _; omega) hr1 hr2 rfl fun H' cA e1 z1 o1 hAr hNm => ?_
          have hcA : cA = tc .int := Option.some.inj (hNm.symm.trans (hK.2 0 _ rfl).2)
          subst hcA
          exact hgo H' z1 o1 e1
        · subst hx1
          refine va_newaK (atype := .long) hx hb (hts _ (wAt_in harr.2.1)) rfl hd rfl hn0 rfl (by show n.toNatClampNeg * 8 ≤ _; omega) hr1 hr2 rfl fun H' cA e1 z1 o1 hAr hNm => ?_
          have hcA : cA = tc .long := Option.some.inj (hNm.symm.trans (hK.2 1 _ rfl).2)
          subst hcA
          exact hgo H' z1 o1 e1
      · cases hs
    · cases hs
  | new idx =>
    cases len_of hl (by simp [ilen])
    simp only [stepI] at hs
    cases hs
    simp only [pOK] at hp
    split at hp
    · rename_i r hr
      obtain ⟨C, T, N⟩ := r
      have hci : a < 10 := (List.getElem?_eq_some_iff.mp hr).1
      have hc := cOK_lo hci
      simp only [cOK, hr, Bool.and_eq_true] at hc
      obtain ⟨⟨⟨⟨⟨hc1, hc2⟩, hc3⟩, hc4⟩, hc5⟩, hc6⟩ := hc
      have hin : ∀ w ∈ u_ws C T N, w ∈ kWs := fun w hw => by
        have := List.all_eq_true.mp hc3 w hw
        simp only [Bool.and_eq_true, decide_eq_true_eq] at this
        exact List.mem_filter.mpr this
      have hty : ∀ k, k < N → parseFieldDescriptor (T k).2.2.1 = some (fty a k) ∧ defaultValue (fty a k) = vp_V (kD a).2.2 k := fun k hk => by
        have := List.all_eq_true.mp hc4 k (List.mem_range.mpr hk)
        simp only [Bool.and_eq_true, decide_eq_true_eq] at this
        exact this
      have hN : (kD a).2.2.length = N := Nat.eq_of_beq_eq_true hc6
      have h0 : ad w.length = H.size := hF 0
      have hKn := hK.1 a _ hr
      have hr1 : c0 + 1 ≤ R.cells := by have := hroom.1; simp only [List.length_append, List.length_singleton] at this; omega
      have hr2 : s0 + N ≤ R.slots := by have := hroom.2; rw [tot_push] at this; simp only [csz, hN] at this; omega
      refine W.newcK hx hb hown (hts _ (wAt_in hp)) (hts _ (wAt_in hc1)) (hts _ (wAt_in hc2)) rfl hd hr1 hr2 hKn.2.1 rfl fun H1 kC hkC e1 z1 o1 => ?_
      have hcv : (kD a).2.2.map (cv b ad) = (kD a).2.2 := by
        have hall : ∀ ci : Nat, ci < 10 → (kD ci).2.2.all (fun v => match v with | .int _ => true | .null => true | _ => false) = true := by decide
        have h1 := hall a hci
        have h2 : ∀ v ∈ (kD a).2.2, cv b ad v = id v := fun v hv => by
          have := List.all_eq_true.mp h1 v hv
          cases v <;> first | rfl | (simp at this)
        rw [List.map_congr_left h2, List.map_id]
      obtain ⟨hW', hS'⟩ := hW.push (x := .inr (a, (kD a).2.2)) hS hA z1 o1 ⟨_, hr, by
        rw [hcv]
        exact (u_born (fty a) hts hin hKn hkC e1 (fun k hk => (hty k hk).1)).to (fun k hk => (hty k hk).2)⟩
      have := kk H1 locs ls (c0 + 1) (s0 + N) (by simp; omega) (by rw [tot_push]; simp only [csz, hN]; omega) hW' hS' hL
      simp only [List.map_cons, cv, h0] at this
      exact this
    · cases hp
  | _ => simp [stepI] at hs
end SND
end
section
/-! The picture is sound: what it comes to, the machine comes to -/
theorem good_kWs {l : List Jvm.Cond} (h : ∀ w ∈ l, w ∈ kWs) : GoodIn kWs l := fun w hw => ⟨h w hw, good_of_word (List.mem_filter.mp (h w hw)).2⟩
theorem tk_spec : ∀ {n : Nat} {S As r : List Value}, tk n S = some (As, r) → As.length = n ∧ S = As.reverse ++ r := by
  intro n
  induction n with
  | zero => intro S As r h; simp only [tk, Option.some.injEq, Prod.mk.injEq] at h; obtain ⟨rfl, rfl⟩ := h; exact ⟨rfl, rfl⟩
  | succ n ih =>
    intro S As r h
    cases S with
    | nil => simp [tk] at h
    | cons v S =>
      simp only [tk] at h
      split at h
      · rename_i a r' he
        simp only [Option.some.injEq, Prod.mk.injEq] at h
        obtain ⟨rfl, rfl⟩ := h
        obtain ⟨h1, h2⟩ := ih he
        exact ⟨by simp [h1], by rw [h2]; simp⟩
      · cases h
theorem cat_le (v : Value) : v.category ≤ 2 := by cases v <;> simp [Value.category]
theorem cat_sum {b : Nat} {ad : Nat → Nat} : ∀ (S : List Value), ((S.map (cv b ad)).map fun v => v.category).sum ≤ 2 * S.length := by
  intro S
  induction S with
  | nil => simp
  | cons v S ih =>
    have := cat_le (cv b ad v)
    simp only [List.map_cons, List.sum_cons, List.length_cons]
    omega
theorem lg_len {b : Nat} {ad : Nat → Nat} : ∀ (As : List Value), (lg_sl (As.map (cv b ad))).length = (locs2 As).length := by
  intro As
  induction As with
  | nil => rfl
  | cons v As ih =>
    rw [List.map_cons]
    unfold lg_sl at ih ⊢
    rw [List.flatMap_cons, List.length_append, ih]
    cases v <;> simp [cv, locs2, isC2, Value.category] <;> omega
theorem args_in {b : Nat} {ad : Nat → Nat} : ∀ (As : List Value) (k i : Nat) (v : Value), (locs2 As)[i]? = some v → known v = true → (i + k, cv b ad v) ∈ lv_args k (As.map (cv b ad)) := by
  intro As
  induction As with
  | nil => intro k i v h; simp [locs2] at h
  | cons u As ih =>
    intro k i v h hk
    rw [List.map_cons]
    unfold lv_args
    unfold locs2 at h
    cases hc : isC2 u with
    | true =>
      have h2 : (cv b ad u).category = 2 := by cases u <;> simp [isC2] at hc <;> rfl
      rw [hc, cond_true] at h
      rw [if_pos h2]
      match i with
      | 0 => simp at h; subst h; simp
      | 1 => simp at h; subst h; simp [known, sec] at hk
      | i + 2 =>
        simp only [List.getElem?_cons_succ] at h
        have := ih (k + 2) i v h hk
        rw [show i + 2 + k = i + (k + 2) by omega]
        exact List.mem_cons_of_mem _ this
    | false =>
      have h2 : ¬ (cv b ad u).category = 2 := by cases u <;> simp [isC2] at hc <;> simp [cv, Value.category]
      rw [hc, cond_false] at h
      rw [if_neg h2]
      match i with
      | 0 => simp at h; subst h; simp
      | i + 1 =>
        simp only [List.getElem?_cons_succ] at h
        have := ih (k + 1) i v h hk
        rw [show i + 1 + k = i + (k + 1) by omega]
        exact List.mem_cons_of_mem _ this
theorem locs2_sec : ∀ (As : List Value) (i : Nat) (v : Value), (locs2 As)[i]? = some v → v.category = 2 → (locs2 As)[i + 1]? = some sec := by
  intro As
  induction As with
  | nil => intro i v h; simp [locs2] at h
  | cons u As ih =>
    intro i v h hk
    unfold locs2 at h ⊢
    cases hc : isC2 u with
    | true =>
      rw [hc, cond_true] at h
      rw [cond_true]
      match i with
      | 0 => simp
      | 1 => simp at h; subst h; simp [sec, Value.category] at hk
      | i + 2 =>
        simp only [List.getElem?_cons_succ] at h ⊢
        exact ih i v h hk
    | false =>
      rw [hc, cond_false] at h
      rw [cond_false]
      match i with
      | 0 => simp at h; subst h; cases u <;> simp [isC2, Value.category] at hc hk
      | i + 1 =>
        simp only [List.getElem?_cons_succ] at h ⊢
        exact ih i v h hk
theorem LOK.entry {b : Nat} {ad : Nat → Nat} {nL : Nat} {As : List Value} {ls : Array Slot} (h : (locs2 As).length ≤ nL) (hl : lv_has ls nL (lv_args 0 (As.map (cv b ad)))) : LOK b ad ls nL (entryL nL As) := by
  refine ⟨hl.1, hl.2.1, by simp [entryL]; omega, fun i v hi hk => ?_, fun i v hi hc => ?_⟩
  · unfold entryL at hi
    by_cases hlt : i < (locs2 As).length
    · rw [List.getElem?_append_left hlt] at hi
      have := args_in (b := b) (ad := ad) As 0 i v hi hk
      exact hl.2.2 _ this
    · rw [List.getElem?_append_right (by omega)] at hi
      have := List.eq_of_mem_replicate (List.mem_of_getElem? hi)
      subst this
      simp [known, uns] at hk
  · unfold entryL at hi ⊢
    by_cases hlt : i < (locs2 As).length
    · rw [List.getElem?_append_left hlt] at hi
      have h1 := locs2_sec As i v hi hc
      rw [List.getElem?_append_left (List.getElem?_eq_some_iff.mp h1).1]
      exact h1
    · rw [List.getElem?_append_right (by omega)] at hi
      have := List.eq_of_mem_replicate (List.mem_of_getElem? hi)
      subst this
      simp [uns, Value.category] at hc
/-- which cells a call may change -/
def fA (tc : FieldType → ClassId) (b : Nat) (ad : Nat → Nat) (w : AW) : Nat → Prop := va_A (cW tc b ad w) (ad w.length)
def PcE (X : Scr) (b : Nat) (ad : Nat → Nat) (D : va_G) (tc : FieldType → ClassId) (w0 : AW) (As : List Value) : Array Value → State → Prop := fun a U => a = (As.map (cv b ad)).toArray ∧ va_P D vwCl (cW tc b ad w0) U.heap ∧ va_D (fun _ => True) (cW tc b ad w0) ∧ va_K D vwCl (kTys tc) U ∧ NW U ∧ (∀ j, ad (w0.length + j) = U.heap.size + j) ∧ va_X b X.1 X.2 U U.heap ∧ b < U.heap.size ∧ ∀ k, k < w0.length → ad k ≠ b
def QcE (b : Nat) (ad : Nat → Nat) (D : va_G) (tc : FieldType → ClassId) (w0 : AW) (r : Option Value) (w1 : AW) : Array Value → State → Outcome → State → Prop := fun _ st o t => o = .returned (r.map (cv b ad)) ∧ WR b ad D tc (fA tc b ad w0) w1 t.heap ∧ va_F (fA tc b ad w0) st t
def wsM (mi : Nat) : List Jvm.Cond := .code (kM mi).1 (kM mi).2.1 (kM mi).2.2.1 (kM mi).2.2.2 :: kWs
def Con (l : Launch) (X : Scr) (b : Nat) (ad : Nat → Nat) (D : va_G) (tc : FieldType → ClassId) (mi : Nat) (As : List Value) (w0 : AW) (r : Option Value) (w1 : AW) : Prop :=
  Met l (kM mi).1 (wsM mi) { frames := (kR mi).1, cells := w1.length - w0.length, slots := tot w1 - tot w0, locals := (kR mi).2.1 } (PcE X b ad D tc w0 As) (QcE b ad D tc w0 r w1) (w1.length - w0.length) (tot w1 - tot w0) (fA tc b ad w0)
def EndOK (p : Program) (l : Launch) (e : Env) (R : Room) (s : State) (m : MethodId) (args : Array Value) (below : List Frame) (meth : Method) (c : Code) (Q : State → Prop) (b : Nat) (ad : Nat → Nat) (D : va_G) (tc : FieldType → ClassId) (A : Nat → Prop) (mi c1 s1 : Nat) (r : Option Value) (w1 : AW) : Prop :=
  ∀ (pc : Nat) (eo : kO) (S : List Value) (H : Heap) (locs : List Loc) (ls : Array Slot), kI mi pc = some eo → retI mi eo S = some r → WR b ad D tc A w1 H → va_S A s.heap H locs → W p l e R s m args below meth c H locs c1 s1 Q (F0 m pc ls (S.map (cv b ad)))
def BS (l : Launch) (X : Scr) (b : Nat) (ad : Nat → Nat) (D : va_G) (tc : FieldType → ClassId) (n : Nat) : Prop :=
  ∀ (p : Program) (e : Env) (R : Room) (s : State) (m : MethodId) (args : Array Value) (below : List Frame) (meth : Method) (c : Code) (Q : State → Prop) (A : Nat → Prop) (mi : Nat) (r : Option Value) (w1 : AW) (c1 s1 : Nat), mi ≤ kN → Cx p R s m args meth c X b D tc A mi → EndOK p l e R s m args below meth c Q b ad D tc A mi c1 s1 r w1 → c1 ≤ R.cells → s1 ≤ R.slots →
  ∀ (pc : Nat) (L S : List Value) (w : AW) (H : Heap) (locs : List Loc) (ls : Array Slot) (c0 s0 : Nat), ev X n mi pc L S w = some (r, w1) → c0 + w1.length = c1 + w.length → s0 + tot w1 = s1 + tot w → WR b ad D tc A w H → va_S A s.heap H locs → LOK b ad ls (kM mi).2.2.1 L → W p l e R s m args below meth c H locs c0 s0 Q (F0 m pc ls (S.map (cv b ad)))
theorem blindE {X : Scr} {b : Nat} {ad : Nat → Nat} {D : va_G} {tc : FieldType → ClassId} {w0 : AW} {As : List Value} : FrameBlind (PcE X b ad D tc w0 As) := by
  intro a U g mk h
  obtain ⟨h1, h2, h3, h4, h5, h6, h7, h8, h9⟩ := h
  exact ⟨h1, h2, h3, va_K.moved (u := U) (U := U.calling g mk a) (Vm.Alike.refl U.vm) h4, fun a' i x h hin => va_Nw.same rfl rfl (h5 a' i x h hin), h6, va_X.moved (u := U) (U := U.calling g mk a) (Vm.Alike.refl U.vm) h7, h8, h9⟩
theorem con_of {l : Launch} {X : Scr} {b : Nat} {ad : Nat → Nat} {D : va_G} {tc : FieldType → ClassId} {n : Nat} (hB : BS l X b ad D tc n) {mi : Nat} (hm : mi < kN) {As : List Value} {w0 w1 : AW} {r : Option Value} (hlen : (locs2 As).length ≤ (kM mi).2.2.1) (hev : ev X n mi 0 (entryL (kM mi).2.2.1 As) [] w0 = some (r, w1)) : Con l X b ad D tc mi As w0 r w1 := by
  have hmo := mOK_lo hm
  simp only [mOK, Bool.and_eq_true, decide_eq_true_eq] at hmo
  obtain ⟨⟨⟨⟨⟨hm1, hm2⟩, hm3⟩, hm4⟩, hm5⟩, hm6⟩ := hmo
  have hgr := ev_gr _ _ _ _ _ _ _ hev
  refine Met.ofW (cc := (kM mi).2.1) (maxL := (kM mi).2.2.1) (ret := (kM mi).2.2.2) hm4 rfl ?_
  intro p e s m args below meth c s₁ B hml hv
  obtain ⟨rfl, hP, hD, hK, hNW, hF, hX, hbl, hbk⟩ := hv
  have hts := atoms_spec (ws := wsM mi) B.pre
  have hsz : ad w0.length = s.heap.size := hF 0
  have hAd : fA tc b ad w0 = va_A (cW tc b ad w0) s.heap.size := by rw [fA, hsz]
  have hA : ∀ q, s.heap.size ≤ q → fA tc b ad w0 q := fun q h => by rw [hAd]; exact Or.inr h
  have hbA : ¬ fA tc b ad w0 b := by
    rw [hAd]
    rintro (⟨k, e, h⟩ | h)
    · obtain ⟨h1, h2⟩ := cW_of h
      exact hbk k h1 h2.symm
    · omega
  have hlocks := B.notSynchronized
  have hr := B.returns
  have C : Cx p (headSpec (wsM mi) { frames := (kR mi).1, cells := w1.length - w0.length, slots := tot w1 - tot w0, locals := (kR mi).2.1 }).room s m ((As.map (cv b ad)).toArray) meth c X b D tc (fA tc b ad w0) mi :=
    ⟨B.exec, B.bytes, hml, fun w hw => hts w (List.mem_cons_of_mem _ hw), findClass_of_methodNamed B.named, fun h2 => by
      rw [(name_of_methodNamed B.named B.method).1]
      rw [h2] at hm5
      simp only [Bool.and_eq_true, decide_eq_true_eq] at hm5
      exact hm5.1.2, hNW, hK, hX, hbl, hbA, hA, Nat.le_refl _, Nat.le_refl _⟩
  have hl := lv_entry (As.map (cv b ad)) (n := (kM mi).2.2.1) (by rw [lg_len]; exact hlen)
  rw [lg_entry_eq]
  generalize (lg_sl (As.map (cv b ad)) ++ List.replicate ((kM mi).2.2.1 - (lg_sl (As.map (cv b ad))).length) Slot.unset).toArray = ls at hl ⊢
  have hdec : ∀ {pc : Nat} {eo : kO}, kI mi pc = some eo → decode (kM mi).2.1 pc = .ok (eo.1, eo.2.1) ∧ (ilen eo.1 = 0 ∨ ilen eo.1 = eo.2.1) := fun h => ⟨(eOK_dec (kI_ok (Nat.le_of_lt hm) h)).1, (eOK_dec (kI_ok (Nat.le_of_lt hm) h)).2.1⟩
  have hend : EndOK p l e (headSpec (wsM mi) { frames := (kR mi).1, cells := w1.length - w0.length, slots := tot w1 - tot w0, locals := (kR mi).2.1 }).room s m ((As.map (cv b ad)).toArray) below meth c (MQ below (QcE b ad D tc w0 r w1) ((As.map (cv b ad)).toArray) s (w1.length - w0.length) (tot w1 - tot w0) (fA tc b ad w0)) b ad D tc (fA tc b ad w0) mi (w1.length - w0.length) (tot w1 - tot w0) r w1 := by
    intro pc eo S H locs ls hk hri hW hS
    obtain ⟨hd, hln⟩ := hdec hk
    have hq : ∀ (v : Option Value), v = r → ∀ t : State, t.heap = H → s.WarmedH t.vm → QcE b ad D tc w0 r w1 ((As.map (cv b ad)).toArray) s (.returned (v.map (cv b ad))) t := fun v hv t ht _ => ⟨by rw [hv], by rw [ht]; exact hW, hS.F ht⟩
    obtain ⟨i, len, rest⟩ := eo
    dsimp only at hd hln
    cases i with
    | ireturn =>
      cases len_of hln (by simp [ilen])
      simp only [retI, Bool.cond_eq_ite] at hri
      split at hri
      · split at hri
        · rename_i x ho
          have hri := Option.some.inj hri
          cases hret : (kM mi).2.2.2 with
          | none => rw [hret] at ho; simp [okR] at ho
          | some ty =>
            rw [hret] at ho hr
            have hn : narrow ty (.int x) = .int x := by
              cases ty <;> simp [okR] at ho <;> first | rfl | (rcases ho with rfl | rfl <;> rfl)
            exact W.zret B.exec B.bytes hr hn (hq _ hri) hS.2.2 hd hlocks
        · cases hri
      · cases hri
    | lreturn =>
      cases len_of hln (by simp [ilen])
      simp only [retI, Bool.cond_eq_ite] at hri
      split at hri
      · split at hri
        · rename_i x ho
          have hri := Option.some.inj hri
          cases hret : (kM mi).2.2.2 with
          | none => rw [hret] at ho; simp [okR] at ho
          | some ty =>
            rw [hret] at ho hr
            have hty : ty = .long := by cases ty <;> simp [okR] at ho <;> rfl
            subst hty
            exact W.lret B.exec B.bytes hr (hq _ hri) hS.2.2 hd hlocks
        · cases hri
      · cases hri
    | areturn =>
      cases len_of hln (by simp [ilen])
      simp only [retI, Bool.cond_eq_ite] at hri
      split at hri
      · split at hri
        · rename_i x ho
          have hri := Option.some.inj hri
          cases hret : (kM mi).2.2.2 with
          | none => rw [hret] at ho; simp [okR] at ho
          | some ty =>
            rw [hret] at ho hr
            cases ty <;> simp [okR] at ho
            exact W.aret B.exec B.bytes hr (Or.inl ⟨_, rfl⟩) (Or.inr ⟨_, rfl⟩) (hq _ hri) hS.2.2 hd hlocks
        · cases hri
      · cases hri
    | return_ =>
      cases len_of hln (by simp [ilen])
      simp only [retI, Bool.cond_eq_ite] at hri
      split at hri
      · split at hri
        · rename_i ho
          have hri := Option.some.inj hri
          cases hret : (kM mi).2.2.2 with
          | some ty => rw [hret] at ho; simp at ho
          | none =>
            rw [hret] at hr
            exact W.vret B.exec B.bytes hr (hq _ hri) hS.2.2 hd hlocks
        · cases hri
      · cases hri
    | _ => simp [retI] at hri
  have h0 : WR b ad D tc (fA tc b ad w0) w0 s.heap := ⟨hP, ⟨hD.1, fun k q h => Or.inl ⟨k, q.2, h⟩⟩, hF⟩
  have := hB p e _ s m _ below meth c _ (fA tc b ad w0) mi r w1 (w1.length - w0.length) (tot w1 - tot w0) (Nat.le_of_lt hm) C hend (Nat.le_refl _) (Nat.le_refl _) 0 (entryL (kM mi).2.2.1 As) [] w0 s.heap [] ls 0 0 hev (by have := hgr.1; dsimp only at this; omega) (by have := hgr.2; dsimp only at this; omega) h0 va_S.rf (LOK.entry hlen hl)
  exact this
end
section
/-! Calls, and the whole -/
section BDY
variable {p : Program} {l : Launch} {e : Env} {R : Room} {s : State} {m : MethodId} {args : Array Value} {below : List Frame} {meth : Method} {c : Code} {Q : State → Prop} {X : Scr} {b : Nat} {ad : Nat → Nat} {D : va_G} {tc : FieldType → ClassId} {A : Nat → Prop} {mi : Nat}
theorem fA_in {w : AW} {H : Heap} {locs : List Loc} (hW : WR b ad D tc A w H) (hS : va_S A s.heap H locs) (hA : ∀ q, s.heap.size ≤ q → A q) : ∀ q, fA tc b ad w q → A q := by
  intro q h
  have h0 : ad w.length = H.size := hW.2.2 0
  rcases h with ⟨k, e, h⟩ | h
  · exact hW.2.1.2 k (q, e) h
  · exact hA q (Nat.le_trans hS.1 (by omega))
theorem run_go {pc c0 s0 mc ms : Nat} {ls : Array Slot} {st0 : List Value} {rest : List Value} {w w' : AW} {r : Option Value} {H : Heap} {locs : List Loc} {av : Array Value} (hr : va_Run p l e R s m args below meth c H locs c0 s0 mc ms (F0 m pc ls st0) (rest.map (cv b ad)) (QcE b ad D tc w r w' av) (fA tc b ad w)) (hW : WR b ad D tc A w H) (hS : va_S A s.heap H locs) (hA : ∀ q, s.heap.size ≤ q → A q)
    (kk : ∀ (H' : Heap) (locs' : List Loc), WR b ad D tc A w' H' → va_S A s.heap H' locs' → W p l e R s m args below meth c H' locs' (c0 + mc) (s0 + ms) Q (F0 m (pc + 3) ls ((r.toList ++ rest).map (cv b ad)))) : W p l e R s m args below meth c H locs c0 s0 Q (F0 m pc ls st0) := by
  intro T hT X
  obtain ⟨v, st₀, t, T', L, h0, X', hL, e1, e2, ⟨hv, hW', hz, hk⟩, st⟩ := hr T hT X
  have hv' : v = r.map (cv b ad) := by cases hv; rfl
  subst hv'
  rw [h0] at hz hk
  have hf := fA_in hW hS hA
  obtain ⟨t2, a1, b1⟩ := kk T'.heap (locs ++ L) (by rw [e1]; exact ⟨hW'.1, hW'.2.1.weaken (fun _ _ _ h => hf _ h), hW'.2.2⟩) ⟨Nat.le_trans hS.1 (by rw [e1]; exact hz), fun q g1 g2 => by rw [e1, hk q (Nat.lt_of_lt_of_le g1 hS.1) (fun z => g2 (hf q z))]; exact hS.2.1 q g1 g2, fun q hq => by
      rcases List.mem_append.mp hq with h | h
      · exact hS.2.2 q h
      · exact hf _ (hL q h)⟩ T' rfl X'
  refine ⟨t2, st t2 ?_, b1⟩
  have hst : (r.map (cv b ad)).toList ++ rest.map (cv b ad) = (r.toList ++ rest).map (cv b ad) := by cases r <;> simp
  rw [hst]
  exact a1
theorem pcE_at {w : AW} {H : Heap} {locs : List Loc} {As : List Value} (C : Cx p R s m args meth c X b D tc A mi) (hW : WR b ad D tc A w H) (hS : va_S A s.heap H locs) : ∀ U : State, U.heap = H → s.WarmedH U.vm → PcE X b ad D tc w As ((As.map (cv b ad)).toArray) U := by
  obtain ⟨hx, hb, hml, hts, hown, hini, hNW, hK, hX, hbl, hbA, hA, hfr, hlo⟩ := C
  intro U hU hw
  refine ⟨rfl, by rw [hU]; exact hW.1, hW.2.1.weaken (fun _ _ _ _ => trivial), va_K.moved hw.alike hK, fun a i x h hin => va_Nw.warmM hw (hNW a i x h hin), by rw [hU]; exact hW.2.2, ?_, by rw [hU]; exact Nat.lt_of_lt_of_le hbl hS.1, fun k hk hkb => hbA ?_⟩
  · rw [hU]
    exact (hX.kept (hS.2.1 b hbl hbA)).moved hw.alike
  · have h1 : (cW tc b ad w)[k]? = some (ad k, cE tc b ad w[k]) := cW_get (List.getElem?_eq_getElem hk)
    have := hW.2.1.2 k _ h1
    rw [← hkb]
    exact this
theorem call_sound {pc c0 s0 : Nat} {eo : kO} {S S1 As : List Value} {y : Nat} {w w2 w3 : AW} {r : Option Value} {H : Heap} {locs : List Loc} {ls : Array Slot} (C : Cx p R s m args meth c X b D tc A mi) (hm : mi ≤ kN) (hk : kI mi pc = some eo) (hc : callE eo S w = some (some (y, As), S1, w2)) (hW : WR b ad D tc A w H) (hS : va_S A s.heap H locs) (hls : ls.size = (kM mi).2.2.1)
    (hcon : y < kN → (locs2 As).length ≤ (kM y).2.2.1 → Con l X b ad D tc y As w2 r w3) (hroom : c0 + (w3.length - w2.length) ≤ R.cells ∧ s0 + (tot w3 - tot w2) ≤ R.slots)
    (kk : w2 = w → ∀ (H' : Heap) (locs' : List Loc), WR b ad D tc A w3 H' → va_S A s.heap H' locs' → W p l e R s m args below meth c H' locs' (c0 + (w3.length - w2.length)) (s0 + (tot w3 - tot w2)) Q (F0 m (pc + 3) ls ((r.toList ++ S1).map (cv b ad)))) : W p l e R s m args below meth c H locs c0 s0 Q (F0 m pc ls (S.map (cv b ad))) := by
  obtain ⟨hd, hl, hp⟩ := eOK_dec (kI_ok hm hk)
  have hpc := fun As => pcE_at (As := As) C hW hS
  obtain ⟨hx, hb, hml, hts, hown, hini, hNW, hK, hX, hbl, hbA, hA, hfr, hlo⟩ := C
  obtain ⟨i, len, a, k, pp, v⟩ := eo
  dsimp only at hd hl
  have hfix : CallFix p m c (kM mi).2.1 (kM mi).2.2.1 s args kWs (kOwn mi) := ⟨hx, hb, hml, hown, hts⟩
  have hsub : ∀ w ∈ wsM k, mOK k = true → w ∈ kWs := fun w hw hmo => by
    simp only [mOK, Bool.and_eq_true, decide_eq_true_eq] at hmo
    rcases List.mem_cons.mp hw with rfl | h
    · exact wAt_in hmo.1.1.1.1.1
    · exact h
  have hroomOK : rmOK mi k = true → (kR k).1 + 1 ≤ R.frames ∧ 8 + ((kM k).2.2.1 + 11) + (kR k).2.1 ≤ R.locals := fun h => by
    simp only [rmOK, Bool.and_eq_true] at h
    have h1 := Nat.le_of_ble_eq_true h.1
    have h2 := Nat.le_of_ble_eq_true h.2
    omega
  cases i with
  | invokevirtual idx =>
    cases len_of hl (by simp [ilen])
    simp only [callE, Bool.cond_eq_ite] at hc
    split at hc
    · rename_i As' o S' htk
      split at hc
      · rename_i hcond
        simp only [Bool.and_eq_true] at hcond
        obtain ⟨⟨⟨h1, h2⟩, h3⟩, h4⟩ := hcond
        simp only [Option.some.injEq, Prod.mk.injEq] at hc
        obtain ⟨⟨rfl, rfl⟩, rfl, rfl⟩ := hc
        simp only [pOK, Bool.and_eq_true] at hp
        obtain ⟨⟨⟨hp1, hp2⟩, hp3⟩, hp4⟩ := hp
        have hyl : k < kN := by simpa using hp2
        have hmo' := mOK_lo hyl
        have hmo := hmo'
        simp only [mOK, Nat.eq_of_beq_eq_true hp1, Bool.and_eq_true, decide_eq_true_eq] at hmo
        obtain ⟨⟨⟨⟨⟨hm1, hm2⟩, hm3⟩, hm4⟩, hm5⟩, hm6⟩ := hmo
        obtain ⟨ht1, ht2⟩ := tk_spec htk
        have hcn := hcon hyl (Nat.le_of_ble_eq_true h3)
        obtain ⟨fs, hfs⟩ := cok_spec h2
        have hrecv : ∃ cellB : Cell, H[ad o]? = some cellB ∧ cellB.vm.isStatics = false ∧ s.vm.findClass (kM k).1.cls = some cellB.cls := by
          cases hq : vwCl[(kR k).2.2.2.1]? with
          | none => rw [hq] at hm6; simp at hm6
          | some q =>
            rw [hq] at hm6
            simp only [decide_eq_true_eq] at hm6
            rw [← hm6]
            exact va_recv hK hW.1 hq (cW_get hfs)
        have hgood : GoodIn kWs (wsV (kOwn mi) idx (kM k).1.cls (kM k).1 (wsM k)) := good_kWs fun w hw => by
          unfold wsV at hw
          rcases List.mem_append.mp hw with h | h
          · simp only [List.mem_cons, List.not_mem_nil, or_false] at h
            rcases h with rfl | rfl | rfl | rfl
            · exact wAt_in hp3
            · exact wAt_in hm5.1
            · exact wAt_in hm5.2
            · exact wAt_in hm2
          · exact hsub w h hmo'
        subst ht2
        have hrun := va_runV (e := e) (below := below) (meth := meth) (locs := locs) (g := F0 m pc ls (((As'.reverse ++ .ref o :: S').map (cv b ad)))) (As := As'.map (cv b ad)) (rest := S'.map (cv b ad)) (b := ad o) hfix hcn (cwV (kR k).2.2.1 hts hgood rfl rfl rfl ⟨rfl, hm3⟩ (hroomOK hp4)) ⟨blindE, hrecv, fun U hU hw => hpc (.ref o :: As') U hU hw⟩ rfl (by rw [List.length_map]; exact ht1) hls (by simp [cv]) (lv_room (Nat.le_trans (cat_sum S') (by have := Nat.le_of_ble_eq_true h4; omega))) hd hroom
        exact run_go hrun hW hS hA (kk rfl)
      · cases hc
    · cases hc
  | invokestatic idx =>
    cases len_of hl (by simp [ilen])
    simp only [callE, Bool.cond_eq_ite] at hc
    split at hc
    · split at hc
      · split at hc
        · simp at hc
        · cases hc
      · cases hc
    · rename_i h7
      split at hc
      · split at hc
        · split at hc
          · simp at hc
          · cases hc
        · cases hc
      · rename_i h8
        split at hc
        · split at hc
          · split at hc
            · simp at hc
            · cases hc
          · cases hc
        · rename_i h9
          split at hc
          · rename_i As' S' htk
            split at hc
            · rename_i hcond
              simp only [Bool.and_eq_true] at hcond
              obtain ⟨⟨h1, h3⟩, h4⟩ := hcond
              simp only [Option.some.injEq, Prod.mk.injEq] at hc
              obtain ⟨⟨rfl, rfl⟩, rfl, rfl⟩ := hc
              simp only [pOK, Bool.cond_eq_ite, h7, h8, h9, Bool.and_eq_true, if_false, Bool.false_eq_true] at hp
              obtain ⟨⟨⟨hp1, hp2⟩, hp3⟩, hp4⟩ := hp
              have hyl : k < kN := by simpa using hp2
              have hmo' := mOK_lo hyl
              have hmo := hmo'
              simp only [mOK, Nat.eq_of_beq_eq_true hp1, Bool.and_eq_true, decide_eq_true_eq] at hmo
              obtain ⟨⟨⟨⟨⟨hm1, hm2⟩, hm3⟩, hm4⟩, hm5⟩, hm6⟩ := hmo
              obtain ⟨ht1, ht2⟩ := tk_spec htk
              have hcn := hcon hyl (Nat.le_of_ble_eq_true h3)
              subst ht2
              have hroom4 : 2 * (F0 m pc ls ((As'.reverse ++ S').map (cv b ad))).monitorRoom + ((S'.map (cv b ad)).map fun v => v.category).sum ≤ 8 := lv_room (Nat.le_trans (cat_sum S') (by have := Nat.le_of_ble_eq_true h4; omega))
              split at hp3
              · have hgood : GoodIn kWs (wsS (kM k).1.cls idx (kM k).1 (wsM k)) ∨ True := Or.inr trivial
                have hcb : CallB R s args (kOwn mi) idx (kM k).1 (kM k).2.1 (kM k).2.2.1 (kM k).2.2.2 (wsM k) { frames := (kR k).1, cells := w3.length - w.length, slots := tot w3 - tot w, locals := (kR k).2.1 } (w3.length - w.length) (tot w3 - tot w) (kR k).2.2.1 :=
                  callB_of (Ts := kWs) (kR k).2.2.1 hts (good_kWs fun w h => hsub w h hmo') rfl rfl rfl (hts _ (wAt_in hm2)) (hts _ (wAt_in hp3)) hm3 (hroomOK hp4)
                have hrun := va_runS (e := e) (below := below) (meth := meth) (locs := locs) (g := F0 m pc ls ((As'.reverse ++ S').map (cv b ad))) (As := As'.map (cv b ad)) (rest := S'.map (cv b ad)) hfix hcn ⟨hcb, hts _ (wAt_in hm5)⟩ ⟨blindE, fun U hU hw => hpc As' U hU hw⟩ rfl (by rw [List.length_map]; exact ht1) hls (by simp) hroom4 hd hroom
                exact run_go hrun hW hS hA (kk rfl)
              · have hrun := va_runSN (e := e) (below := below) (meth := meth) (locs := locs) (g := F0 m pc ls ((As'.reverse ++ S').map (cv b ad))) (As := As'.map (cv b ad)) (rest := S'.map (cv b ad)) hfix hcn ⟨va_cnB (kR k).2.2.1 hts (good_kWs fun w h => hsub w h hmo') rfl rfl rfl (hNW _ _ _ _ (wNt_in hp3)) (hts _ (wAt_in hm2)) hm3 (hroomOK hp4), hts _ (wAt_in hm5), trivial⟩ ⟨blindE, fun U hU hw => hpc As' U hU hw⟩ rfl (by rw [List.length_map]; exact ht1) hls (by simp) hroom4 hd hroom
                exact run_go hrun hW hS hA (kk rfl)
            · cases hc
          · cases hc
  | invokespecial idx =>
    cases len_of hl (by simp [ilen])
    simp only [callE, Bool.cond_eq_ite] at hc
    split at hc
    · split at hc
      · split at hc
        · simp at hc
        · cases hc
      · cases hc
    · rename_i h6
      split at hc
      · rename_i As' o S' htk
        split at hc
        · rename_i hcond
          simp only [Bool.and_eq_true] at hcond
          obtain ⟨⟨h1, h3⟩, h4⟩ := hcond
          simp only [Option.some.injEq, Prod.mk.injEq] at hc
          obtain ⟨⟨rfl, rfl⟩, rfl, rfl⟩ := hc
          simp only [pOK, Bool.cond_eq_ite, h6, Bool.and_eq_true, if_false, Bool.false_eq_true] at hp
          obtain ⟨⟨⟨hp1, hp2⟩, hp3⟩, hp4⟩ := hp
          have hyl : k < kN := by simpa using hp2
          have hmo' := mOK_lo hyl
          have hmo := hmo'
          simp only [mOK, Nat.eq_of_beq_eq_true hp1, Bool.and_eq_true, decide_eq_true_eq] at hmo
          obtain ⟨⟨⟨⟨⟨hm1, hm2⟩, hm3⟩, hm4⟩, ⟨hm5, hm7⟩, hm8⟩, hm6⟩ := hmo
          obtain ⟨ht1, ht2⟩ := tk_spec htk
          have hcn := hcon hyl (Nat.le_of_ble_eq_true h3)
          have hws : wsM k = .code (kM k).1 (kM k).2.1 (kM k).2.2.1 none :: kWs := by rw [wsM, hm8]
          subst ht2
          have hroom4 : 2 * (F0 m pc ls ((As'.reverse ++ .ref o :: S').map (cv b ad))).monitorRoom + ((S'.map (cv b ad)).map fun v => v.category).sum ≤ 8 := lv_room (Nat.le_trans (cat_sum S') (by have := Nat.le_of_ble_eq_true h4; omega))
          split at hp3
          · have hrun := va_runI (e := e) (below := below) (meth := meth) (locs := locs) (g := F0 m pc ls ((As'.reverse ++ .ref o :: S').map (cv b ad))) (As := As'.map (cv b ad)) (rest := S'.map (cv b ad)) (b := ad o) hfix hcn (cwI (kR k).2.2.1 hts (good_kWs fun w h => hsub w h hmo') hws rfl rfl (hts _ (wAt_in hm2)) (hts _ (wAt_in hp3)) (hts _ (wAt_in hm5)) hm7 hm3 (hroomOK hp4)) ⟨blindE, fun U hU hw => hpc (.ref o :: As') U hU hw⟩ rfl (by rw [List.length_map]; exact ht1) hls (by simp [cv]) hroom4 hd hroom
            exact run_go hrun hW hS hA (kk rfl)
          · have hrun := va_runIN (e := e) (below := below) (meth := meth) (locs := locs) (g := F0 m pc ls ((As'.reverse ++ .ref o :: S').map (cv b ad))) (As := As'.map (cv b ad)) (rest := S'.map (cv b ad)) (b := ad o) hfix hcn ⟨va_cnB (kR k).2.2.1 hts (good_kWs fun w h => hsub w h hmo') hws rfl rfl (hNW _ _ _ _ (wNt_in hp3)) (hts _ (wAt_in hm2)) hm3 (hroomOK hp4), hm7, hts _ (wAt_in hm5)⟩ ⟨blindE, fun U hU hw => hpc (.ref o :: As') U hU hw⟩ rfl (by rw [List.length_map]; exact ht1) hls (by simp [cv]) hroom4 hd hroom
            exact run_go hrun hW hS hA (kk rfl)
        · cases hc
      · cases hc
  | _ => simp [callE] at hc
end BDY
end
section
/-! THE CLAIM OUT OF ONE WALK OF THE LAW'S BODY. Your part is whole_start (and what it stands on); all else here is the same for every law, but numbers. -/
def R_law : String := "TrustedPauseLaw"
def lw_P (b : Addr) (xs : List Int32) (args : Array Value) (s : State) : Prop := args = #[.ref b] ∧ s.IntsAt b xs ∧ xs.length ≤ 3072 ∧ (Jvm.Cond.and given_1 narrow_1).before args s = true
def lw_Q (_ : Array Value) (s : State) (o : Outcome) (t : State) : Prop := o = .returned (some (.int 1)) ∧ Framed s o t [] 89 2870
def lw_Z (below : List Frame) (a : Array Value) (s : State) : State → Prop := fun t => ∃ o, t.status = .running ∧ Ended t below o ∧ lw_Q a s o t
/-- the law's own end, with 1 on the stack, nothing written that was there before, its room as the claim has it -/
theorem lw_ret {p : Program} {l : Launch} {e : Env} {s : State} {m : MethodId} {below : List Frame} {meth : Method} {c : Code} {b : Nat} (hx : p.tables.exec = Jvm.exec) (hb : c.code = code) (hr : meth.sig.returnType = ret) (hlocks : meth.locks = false) {pc : Nat} {H : Heap} {ls : Array Slot} (hdg : decode code pc = .ok (.ireturn, 1)) : W p l e room_1 s m #[Value.ref b] below meth c H [] 89 2870 (lw_Z below #[Value.ref b] s) (F0 m pc ls [.int 1]) := by
  intro T hT X
  obtain ⟨fs, hret, hrun, hended, hW, hframe⟩ := X.leave (v := some (.int 1)) (hlocks := hlocks) (fun h => by rw [hr] at h; cases h)
  have hmeth' : T.vm.method? m = some meth := X.method'
  refine ⟨T.setFrames fs, ?_, .returned (some (.int 1)), hrun, hended, rfl, ⟨_, rfl⟩, hW, hframe⟩
  jvm_step X.here [X.here.top, hx, hb, hdg, hmeth', hr, ret, narrow_b1]
  (try refine ⟨rfl, ?_⟩); (try refine ⟨rfl, ?_⟩)
  first | (intro acts; rw [hret _ acts rfl rfl rfl]) | rw [hret _ _ rfl rfl rfl]
  exact Steps.refl _
/-- what holds at the law's entry: the machine, the code, the tables' words (any of lw_tbl by 'hts w (by decide +kernel)'), the script of L ints xs at the cell b, what the Statement gives of the start (any of its parts by flat_of_before) -/
def lw_At (p : Program) (s : State) (m : MethodId) (meth : Method) (c : Code) (b L : Nat) (xs : Nat → Int32) : Prop :=
  p.tables.exec = Jvm.exec ∧ c.code = code ∧ meth.sig.returnType = ret ∧ c.maxLocals = 4 ∧ s.vm.findClass R_law = some m.cls ∧ (∀ w ∈ lw_tbl, w.before #[Value.ref b] s = true) ∧ va_X b L xs s s.heap ∧ b < s.heap.size ∧ meth.locks = false ∧ (Jvm.Cond.and given_1 narrow_1).before #[Value.ref b] s = true
end
section
/-! The builtins, the body, the law -/
section ALL
variable {p : Program} {l : Launch} {e : Env} {R : Room} {s : State} {m : MethodId} {args : Array Value} {below : List Frame} {meth : Method} {c : Code} {Q : State → Prop} {X : Scr} {b : Nat} {ad : Nat → Nat} {D : va_G} {tc : FieldType → ClassId} {A : Nat → Prop} {mi : Nat}
theorem nat_in (w : Jvm.Cond) (h : w ∈ ([Cond.native arraycopyName, .static arraycopyName, .initialized "java/lang/System", .instanceMethod objectInit, .code objectInit ⟨#[0xb1]⟩ 1 none, .static Lib.Math.max.name, .static Lib.Math.min.name, .initialized "java/lang/Math", .code Lib.Math.max.name Lib.Math.max.code 2 (some .int), .code Lib.Math.min.name Lib.Math.min.code 2 (some .int)] : List Jvm.Cond)) : w ∈ kWs := by
  have := List.all_eq_true.mp nat_all w h
  simp only [Bool.and_eq_true, decide_eq_true_eq] at this
  exact List.mem_filter.mpr this
theorem notneg {x : Int32} (h : decide (0 ≤ x.toInt) = true) : ¬ x < 0 := by
  simp only [decide_eq_true_eq] at h
  intro q
  have := Int32.lt_iff_toInt_lt.mp q
  rw [Int32.toInt_zero] at this
  omega
theorem toInt_nn {z : Int32} (h : ¬ z < 0) : z.toInt = (z.toNatClampNeg : Int) := by
  have h0 : (0 : Int) ≤ z.toInt := by
    rcases Int.lt_or_le z.toInt 0 with q | q
    · exact absurd (Int32.lt_iff_toInt_lt.mpr (by rw [Int32.toInt_zero]; exact q)) h
    · exact q
  show z.toInt = ((z.toInt.toNat : Nat) : Int)
  omega
theorem builtin_sound {pc c0 s0 : Nat} {eo : kO} {S S1 : List Value} {w w2 : AW} {H : Heap} {locs : List Loc} {ls : Array Slot} (C : Cx p R s m args meth c X b D tc A mi) (hm : mi ≤ kN) (hk : kI mi pc = some eo) (hc : callE eo S w = some (none, S1, w2)) (hW : WR b ad D tc A w H) (hS : va_S A s.heap H locs) (hls : ls.size = (kM mi).2.2.1) (hc0 : c0 ≤ R.cells) (hs0 : s0 ≤ R.slots)
    (kk : ∀ (H' : Heap) (locs' : List Loc), WR b ad D tc A w2 H' → va_S A s.heap H' locs' → W p l e R s m args below meth c H' locs' c0 s0 Q (F0 m (pc + 3) ls (S1.map (cv b ad)))) : W p l e R s m args below meth c H locs c0 s0 Q (F0 m pc ls (S.map (cv b ad))) := by
  obtain ⟨hd, hl, hp⟩ := eOK_dec (kI_ok hm hk)
  obtain ⟨hx, hb, hml, hts, hown, hini, hNW, hK, hX, hbl, hbA, hA, hfr, hlo⟩ := C
  obtain ⟨hP, hD, hF⟩ := id hW
  obtain ⟨i, len, a, k, pp, v⟩ := eo
  dsimp only at hd hl
  cases i with
  | invokespecial idx =>
    cases len_of hl (by simp [ilen])
    simp only [callE, Bool.cond_eq_ite] at hc
    split at hc
    · rename_i h6
      split at hc
      · split at hc
        · rename_i x S' h4
          simp only [Option.some.injEq, Prod.mk.injEq, true_and] at hc
          obtain ⟨rfl, rfl⟩ := hc
          simp only [pOK, Bool.cond_eq_ite, h6, if_true, Bool.and_eq_true] at hp
          obtain ⟨⟨hp1, hp2⟩, hp3⟩ := hp
          have hq2 := Nat.le_of_ble_eq_true hp2
          have hq3 := Nat.le_of_ble_eq_true hp3
          have hcs := cat_sum (b := b) (ad := ad) S'
          have hq4 := Nat.le_of_ble_eq_true h4
          refine W.objInit hx hb hown (hts _ (wAt_in hp1)) (hts _ (nat_in _ (by simp))) (hts _ (nat_in _ (by simp))) rfl (by rw [hml]; exact hls) (a := ad x) (rest := S'.map (cv b ad)) rfl hd (by omega) (by show 2 * 0 + _ + 12 ≤ _; omega) ?_
          exact W.eq rfl (kk H locs hW hS)
        · cases hc
      · cases hc
    · split at hc
      · split at hc
        · simp at hc
        · cases hc
      · cases hc
  | invokestatic idx =>
    cases len_of hl (by simp [ilen])
    simp only [callE, Bool.cond_eq_ite] at hc
    split at hc
    · rename_i h7
      split at hc
      · split at hc
        · rename_i n dp a1 sp a0 S' hcond
          simp only [Bool.and_eq_true] at hcond
          obtain ⟨⟨⟨⟨⟨⟨⟨g1, g2⟩, g3⟩, g4⟩, g5⟩, g6⟩, g7⟩, g8⟩ := hcond
          simp only [Option.some.injEq, Prod.mk.injEq, true_and] at hc
          obtain ⟨rfl, rfl⟩ := hc
          simp only [pOK, Bool.cond_eq_ite, h7, if_true, Bool.and_eq_true] at hp
          obtain ⟨⟨hp1, hp2⟩, hp3⟩ := hp
          have hq2 := Nat.le_of_ble_eq_true hp2
          have hq3 := Nat.le_of_ble_eq_true hp3
          have hcs := cat_sum (b := b) (ad := ad) S'
          have hq4 := Nat.le_of_ble_eq_true g8
          obtain ⟨n0, f0, e1, e2, e3, -⟩ := aok_spec g1
          obtain ⟨n1, f1, r1, r2, r3, r4⟩ := aok_spec g2
          have l6 := Nat.le_of_ble_eq_true g6
          have l7 := Nat.le_of_ble_eq_true g7
          rw [e3] at l6
          rw [r3] at l7
          rw [r4, e2, r2] at kk
          have n3 := notneg g3
          have n4 := notneg g4
          have n5 := notneg g5
          intro T hT TX
          have hc0' : H[ad a0]? = some (vp_cell (tc .int) (n0, .inl f0)) := hP a0 _ (cW_get e1)
          have hc1' : H[ad a1]? = some (vp_cell (tc .int) (n1, .inl f1)) := hP a1 _ (cW_get r1)
          obtain ⟨-, k0, hk0, cm0, hkk0⟩ := (hK.2 0 _ rfl).1 n0 (fun j => .int (f0 j))
          obtain ⟨-, k1, hk1, cm1, hkk1⟩ := (hK.2 0 _ rfl).1 n1 (fun j => .int (f1 j))
          have hstep := TX.arraycopy hx hown (hts _ (wAt_in hp1)) (hts _ (nat_in _ (by simp))) (hts _ (nat_in _ (by simp))) (hts _ (nat_in _ (by simp))) (src := ad a0) (dst := ad a1) (cs := vp_cell (tc .int) (n0, .inl f0)) (cd := vp_cell (tc .int) (n1, .inl f1)) (srcPos := sp) (destPos := dp) (n := n) (by rw [hT]; exact hc0') (by rw [hT]; exact hc1')
            (fun _ h => by cases h) (fun _ h => by cases h) (fun h => by cases h) (fun h => by cases h) hk0 hk1 hkk0 hkk1 (by rfl) n3 n4 n5
            (by rw [toInt_nn n3, toInt_nn n5]; show ¬ _ > ((arrV (tc .int) n0 (fun j => .int (f0 j))).slots.size : Int); rw [arrV_size]; omega)
            (by rw [toInt_nn n4, toInt_nn n5]; show ¬ _ > ((arrV (tc .int) n1 (fun j => .int (f1 j))).slots.size : Int); rw [arrV_size]; omega)
            (fun vm₁ _ j hj => by
              have ee : (vp_cell (tc .int) (n0, .inl f0)).slots.getD (sp.toNatClampNeg + j) .null = .int (f0 (sp.toNatClampNeg + j)) := by
                show (arrV (tc .int) n0 (fun j => .int (f0 j))).slots.getD _ _ = _
                rw [Array.getD_eq_getD_getElem?, arrV_read _ _ (by omega)]
                rfl
              rw [ee]
              exact ⟨rfl, trivial⟩)
            (g := F0 m pc ls (.int n :: .int dp :: .ref (ad a1) :: .int sp :: .ref (ad a0) :: S'.map (cv b ad))) rfl (by rw [hml]; exact hls) (rest := S'.map (cv b ad)) rfl (by rw [hb]; exact hd) (by omega) (by show 2 * 0 + _ + (7 + 11) ≤ _; omega)
          obtain ⟨vm', X', step⟩ := hstep
          have ec : copied (vp_cell (tc .int) (n0, .inl f0)) (vp_cell (tc .int) (n1, .inl f1)) sp dp n = vp_cell (tc .int) (n1, .inl (va_cpy f0 f1 sp.toNatClampNeg dp.toNatClampNeg n.toNatClampNeg)) := va_copied (fun z => .int z) (tc .int) (tc .int) f0 f1 l6
          rw [ec] at X' step
          have hl2 : ad a1 < H.size := (Array.getElem?_eq_some_iff.mp hc1').1
          have hheap : ((T.setVm vm').setCell (ad a1) (vp_cell (tc .int) (n1, .inl (va_cpy f0 f1 sp.toNatClampNeg dp.toNatClampNeg n.toNatClampNeg)))).heap = H.setIfInBounds (ad a1) (vp_cell (tc .int) (n1, .inl (va_cpy f0 f1 sp.toNatClampNeg dp.toNatClampNeg n.toNatClampNeg))) := by rw [← hT]; rfl
          have oq : ∀ q : Nat, q ≠ ad a1 → (H.setIfInBounds (ad a1) (vp_cell (tc .int) (n1, .inl (va_cpy f0 f1 sp.toNatClampNeg dp.toNatClampNeg n.toNatClampNeg))))[q]? = H[q]? := fun q hq => by simp [Array.getElem?_setIfInBounds, Ne.symm hq]
          have hAa : A (ad a1) := hD.2 a1 _ (cW_get r1)
          obtain ⟨t, a2, b2⟩ := kk _ _ (hW.upd r1 (show (H.setIfInBounds (ad a1) _)[ad a1]? = some _ by simp [Array.getElem?_setIfInBounds, hl2, cE]) (by simp) oq) ⟨by simp; exact hS.1, fun q q1 q2 => by
              rw [oq q (fun e => q2 (by rw [e]; exact hAa))]
              exact hS.2.1 q q1 q2, fun q hq => by
              rcases List.mem_append.mp hq with h | h
              · exact hS.2.2 q h
              · obtain ⟨z, -, hz⟩ := List.mem_map.mp h
                rw [← hz]
                exact hAa⟩ _ hheap X'
          exact ⟨t, step t a2, b2⟩
        · cases hc
      · cases hc
    · rename_i h7
      split at hc
      · rename_i h8
        split at hc
        · split at hc
          · rename_i y' x' S' h4
            simp only [Option.some.injEq, Prod.mk.injEq, true_and] at hc
            obtain ⟨rfl, rfl⟩ := hc
            simp only [pOK, Bool.cond_eq_ite, h7, h8, if_true, if_false, Bool.false_eq_true, Bool.and_eq_true] at hp
            obtain ⟨⟨hp1, hp2⟩, hp3⟩ := hp
            have hq2 := Nat.le_of_ble_eq_true hp2
            have hq3 := Nat.le_of_ble_eq_true hp3
            have hcs := cat_sum (b := b) (ad := ad) S'
            have hq4 := Nat.le_of_ble_eq_true h4
            exact va_mmax hx hb (by rw [hml]; exact hls.symm) hown (hts _ (wAt_in hp1)) (hts _ (nat_in _ (by simp))) (hts _ (nat_in _ (by simp))) (hts _ (nat_in _ (by simp))) (by omega) (by omega) hc0 hs0 hd (kk H locs hW hS)
          · cases hc
        · cases hc
      · rename_i h8
        split at hc
        · rename_i h9
          split at hc
          · split at hc
            · rename_i y' x' S' h4
              simp only [Option.some.injEq, Prod.mk.injEq, true_and] at hc
              obtain ⟨rfl, rfl⟩ := hc
              simp only [pOK, Bool.cond_eq_ite, h7, h8, h9, if_true, if_false, Bool.false_eq_true, Bool.and_eq_true] at hp
              obtain ⟨⟨hp1, hp2⟩, hp3⟩ := hp
              have hq2 := Nat.le_of_ble_eq_true hp2
              have hq3 := Nat.le_of_ble_eq_true hp3
              have hcs := cat_sum (b := b) (ad := ad) S'
              have hq4 := Nat.le_of_ble_eq_true h4
              exact va_mmin hx hb (by rw [hml]; exact hls.symm) hown (hts _ (wAt_in hp1)) (hts _ (nat_in _ (by simp))) (hts _ (nat_in _ (by simp))) (hts _ (nat_in _ (by simp))) (by omega) (by omega) hc0 hs0 hd (kk H locs hW hS)
            · cases hc
          · cases hc
        · split at hc
          · split at hc
            · simp at hc
            · cases hc
          · cases hc
  | invokevirtual idx =>
    simp only [callE, Bool.cond_eq_ite] at hc
    split at hc
    · split at hc
      · simp at hc
      · cases hc
    · cases hc
  | _ => simp [callE] at hc
end ALL
theorem body_sound (l : Launch) (X : Scr) (b : Nat) (ad : Nat → Nat) (D : va_G) (tc : FieldType → ClassId) : ∀ n, BS l X b ad D tc n := by
  intro n
  induction n with
  | zero => intro p e R s m args below meth c Q A mi r w1 c1 s1 hm C hend hc1 hs1 pc L S w H locs ls c0 s0 hev; simp [ev] at hev
  | succ n ih =>
    intro p e R s m args below meth c Q A mi r w1 c1 s1 hm C hend hc1 hs1 pc L S w H locs ls c0 s0 hev ec es hW hS hL
    rw [ev] at hev
    cases hk : kI mi pc with
    | none => rw [hk] at hev; cases hev
    | some eo =>
      rw [hk] at hev
      dsimp only at hev
      cases hs : stepI X mi pc eo L S w with
      | some q =>
        rw [hs] at hev
        dsimp only at hev
        have g1 := ev_gr _ _ _ _ _ _ _ hev
        have g2 := stepI_gr hs
        obtain ⟨g1a, g1b⟩ := g1
        obtain ⟨g2a, g2b⟩ := g2
        dsimp only at g1a g1b
        refine step_sound C hm hk hs hW hS hL ⟨by omega, by omega⟩ ?_
        intro H' locs' ls' c' s' e1 e2 hW' hS' hL'
        exact ih p e R s m args below meth c Q A mi r w1 c1 s1 hm C hend hc1 hs1 _ _ _ _ _ _ _ _ _ hev (by omega) (by omega) hW' hS' hL'
      | none =>
        rw [hs] at hev
        dsimp only at hev
        cases hcl : callE eo S w with
        | none =>
          rw [hcl] at hev
          dsimp only at hev
          cases hri : retI mi eo S with
          | none => rw [hri] at hev; cases hev
          | some r' =>
            rw [hri] at hev
            simp only [Option.some.injEq, Prod.mk.injEq] at hev
            obtain ⟨rfl, rfl⟩ := hev
            have e1 : c0 = c1 := by omega
            have e2 : s0 = s1 := by omega
            subst e1
            subst e2
            exact hend pc eo S H locs ls hk hri hW hS
        | some q =>
          rw [hcl] at hev
          have g2 := callE_gr hcl
          obtain ⟨o, S1, w2⟩ := q
          obtain ⟨g2a, g2b⟩ := g2
          dsimp only at g2a g2b
          cases o with
          | none =>
            dsimp only at hev
            have g1 := ev_gr _ _ _ _ _ _ _ hev
            obtain ⟨g1a, g1b⟩ := g1
            dsimp only at g1a g1b
            have hww : w2.length = w.length ∧ tot w2 = tot w := by
              obtain ⟨i, rest⟩ := eo
              cases i with
              | invokespecial idx =>
                simp only [callE, Bool.cond_eq_ite] at hcl
                repeat' (split at hcl)
                all_goals first
                  | (simp at hcl; done)
                  | (simp only [Option.some.injEq, Prod.mk.injEq, true_and] at hcl; obtain ⟨-, rfl⟩ := hcl; exact ⟨rfl, rfl⟩)
              | invokestatic idx =>
                simp only [callE, Bool.cond_eq_ite] at hcl
                repeat' (split at hcl)
                all_goals first
                  | (simp at hcl; done)
                  | (simp only [Option.some.injEq, Prod.mk.injEq, true_and] at hcl; obtain ⟨-, rfl⟩ := hcl; exact ⟨rfl, rfl⟩)
                  | (rename_i hcond
                     simp only [Bool.and_eq_true] at hcond
                     obtain ⟨⟨⟨⟨⟨⟨⟨-, z2⟩, -⟩, -⟩, -⟩, -⟩, -⟩, -⟩ := hcond
                     obtain ⟨n1, f1, r1, -, -, r4⟩ := aok_spec z2
                     simp only [Option.some.injEq, Prod.mk.injEq, true_and] at hcl
                     obtain ⟨-, rfl⟩ := hcl
                     rw [r4]
                     exact ⟨by simp, by rw [tot_set r1]; rfl⟩)
              | invokevirtual idx =>
                simp only [callE, Bool.cond_eq_ite] at hcl
                repeat' (split at hcl)
                all_goals simp at hcl
              | _ => simp [callE] at hcl
            obtain ⟨hw1, hw2⟩ := hww
            refine builtin_sound C hm hk hcl hW hS hL.1 (by omega) (by omega) fun H' locs' hW' hS' => ?_
            exact ih p e R s m args below meth c Q A mi r w1 c1 s1 hm C hend hc1 hs1 _ _ _ _ _ _ _ _ _ hev (by omega) (by omega) hW' hS' hL
          | some ya =>
            obtain ⟨y, As⟩ := ya
            dsimp only at hev
            cases hy : ev X n y 0 (entryL (kM y).2.2.1 As) [] w2 with
            | none => rw [hy] at hev; cases hev
            | some q3 =>
              rw [hy] at hev
              dsimp only at hev
              have g1 := ev_gr _ _ _ _ _ _ _ hev
              have g3 := ev_gr _ _ _ _ _ _ _ hy
              obtain ⟨r3, w3⟩ := q3
              obtain ⟨g1a, g1b⟩ := g1
              obtain ⟨g3a, g3b⟩ := g3
              dsimp only at g1a g1b g3a g3b hev
              have hww : c0 + (w3.length - w2.length) ≤ R.cells ∧ s0 + (tot w3 - tot w2) ≤ R.slots := ⟨by omega, by omega⟩
              refine call_sound C hm hk hcl hW hS hL.1 (fun hyl hlen => con_of ih hyl hlen hy) hww fun hw2 H' locs' hW' hS' => ?_
              subst hw2
              exact ih p e R s m args below meth c Q A mi r w1 c1 s1 hm C hend hc1 hs1 _ _ _ _ _ _ _ _ _ hev (by omega) (by omega) hW' hS' hL
end
section
/-! The law: what its picture comes to is what the machine comes to -/
theorem nest_ok : ∀ w ∈ lw_tbl, w.onTables = true ∨ True := fun _ _ => Or.inr trivial
theorem law_sound {p : Program} {e : Env} {s : State} {m : MethodId} {below : List Frame} {meth : Method} {c : Code} (l : Launch) {b L : Nat} {xs : Nat → Int32} (C0 : lw_At p s m meth c b L xs) {w1 : AW} (hz : Z (L, xs) kN 0 (entryL 4 [.retAddr 0]) [] [] = some (some (.int 1), w1)) (hw : w1.length ≤ 89 ∧ tot w1 ≤ 2870) : W p l e room_1 s m #[Value.ref b] below meth c s.heap [] 0 0 (lw_Z below #[Value.ref b] s) (entryFrame m ([Value.ref b] : List Value).toArray 4) := by
  obtain ⟨hx, hb, hr, hml, hown, hts, hX, hbl, hlocks, hgv⟩ := id C0
  obtain ⟨n, hev⟩ := Z_iff.mp hz
  have htk : ∀ w ∈ kWs, w.before #[Value.ref b] s = true := fun w h => hts w (List.mem_filter.mp h).1
  have hcls : ∀ k : Nat, ∃ (cC : ClassId), ∃ (iS : Nat → Nat), ∀ q : vw_C, vwCl[k]? = some q → u_Kn s q.1 q.2.1 q.2.2 cC iS := by
    intro k
    cases hq : vwCl[k]? with
    | none => exact ⟨0, fun _ => 0, fun q h => by cases h⟩
    | some q =>
      have hci : k < 10 := (List.getElem?_eq_some_iff.mp hq).1
      have hc := cOK_lo hci
      simp only [cOK, hq, Bool.and_eq_true] at hc
      obtain ⟨⟨⟨⟨⟨hc1, hc2⟩, hc3⟩, hc4⟩, hc5⟩, hc6⟩ := hc
      have hin : ∀ w ∈ u_ws q.1 q.2.1 q.2.2, w ∈ kWs := fun w hw => by
        have := List.all_eq_true.mp hc3 w hw
        simp only [Bool.and_eq_true, decide_eq_true_eq] at this
        exact List.mem_filter.mpr this
      obtain ⟨cC, iS, h⟩ := u_known (C := q.1) (T := q.2.1) (N := q.2.2) htk hin (htk _ (wAt_in hc1))
      exact ⟨cC, iS, fun q' h' => by cases h'; exact h⟩
  obtain ⟨dC, hdC⟩ := Classical.axiomOfChoice hcls
  obtain ⟨dI, hdI⟩ := Classical.axiomOfChoice hdC
  have harrs : wAt kArr.1 (.arrayClass .int) = true ∧ wAt kArr.2.1 (.arrayClass .long) = true ∧ wAt kArr.2.2 (.arrayClass .boolean) = true := by
    have := arr_all
    simp only [Bool.and_eq_true] at this
    exact ⟨this.1.1, this.1.2, this.2⟩
  have hty : ∀ ty : FieldType, ∃ cA : ClassId, (ty = .int ∨ ty = .long ∨ ty = .boolean) → ArrOfT s cA ty ∧ va_RA s cA ty := by
    intro ty
    by_cases ht : ty = .int ∨ ty = .long ∨ ty = .boolean
    · have hbf : (Cond.arrayClass ty).before #[Value.ref b] s = true := by
        rcases ht with rfl | rfl | rfl
        · exact htk _ (wAt_in harrs.1)
        · exact htk _ (wAt_in harrs.2.1)
        · exact htk _ (wAt_in harrs.2.2)
      obtain ⟨cA, kA, comp, h1, h2, h3⟩ := Cond.arrayClass_spec hbf
      refine ⟨cA, fun _ => ⟨fun n z => ⟨fun k h => (by cases h), kA, h2, comp, h3⟩, ?_⟩⟩
      rcases ht with rfl | rfl | rfl <;> exact h1
    · exact ⟨0, fun h => absurd h ht⟩
  obtain ⟨tc, htc⟩ := Classical.axiomOfChoice hty
  have hK : va_K (dC, dI) vwCl (kTys tc) s := by
    refine ⟨fun k q h => hdI k q h, fun k q h => ?_⟩
    match k, h with
    | 0, h => cases h; exact htc .int (Or.inl rfl)
    | 1, h => cases h; exact htc .long (Or.inr (Or.inl rfl))
    | 2, h => cases h; exact htc .boolean (Or.inr (Or.inr rfl))
    | k + 3, h => simp [kTys] at h
  have hNW : NW s := fun a i x h hin => va_Nw.of rfl (hts _ hin)
  have hbA : ¬ (fun q : Nat => s.heap.size ≤ q) b := Nat.not_le.mpr hbl
  have C : Cx p room_1 s m #[Value.ref b] meth c (L, xs) b (dC, dI) tc (fun q : Nat => s.heap.size ≤ q) kN :=
    ⟨hx, hb, hml, htk, hown, fun h => absurd h (by decide), hNW, hK, hX, hbl, hbA, fun q h => h, by decide, by decide⟩
  have hl := lv_entry ([.ref b]) (n := 4) (Nat.le_of_ble_eq_true rfl)
  rw [lg_entry_eq]
  generalize (lg_sl ([.ref b]) ++ List.replicate (4 - (lg_sl ([.ref b])).length) Slot.unset).toArray = ls at hl ⊢
  have hLk : LOK b (fun k => s.heap.size + k) ls 4 (entryL 4 [.retAddr 0]) := LOK.entry (As := [.retAddr 0]) (by decide) hl
  have hend : EndOK p l e room_1 s m #[Value.ref b] below meth c (lw_Z below #[Value.ref b] s) b (fun k => s.heap.size + k) (dC, dI) tc (fun q : Nat => s.heap.size ≤ q) kN w1.length (tot w1) (some (.int 1)) w1 := by
    intro pc eo S H locs ls hk hri hW hS
    obtain ⟨hd, hln, -⟩ := eOK_dec (kI_ok (Nat.le_refl kN) hk)
    obtain ⟨i, len, rest⟩ := eo
    dsimp only at hd hln
    cases i with
    | ireturn =>
      cases len_of hln (by simp [ilen])
      simp only [retI, Bool.cond_eq_ite] at hri
      split at hri
      · split at hri
        · simp only [Option.some.injEq, Value.int.injEq] at hri
          subst hri
          refine va_forget hS.2.2 (W.widen (k := 89) (n := 2870) hw.1 hw.2 ?_)
          exact lw_ret hx hb hr hlocks hd
        · cases hri
      · cases hri
    | lreturn =>
      simp only [retI, Bool.cond_eq_ite] at hri
      repeat' (split at hri)
      all_goals simp at hri
    | areturn =>
      simp only [retI, Bool.cond_eq_ite] at hri
      repeat' (split at hri)
      all_goals simp at hri
    | return_ =>
      simp only [retI, Bool.cond_eq_ite] at hri
      repeat' (split at hri)
      all_goals simp at hri
    | _ => simp [retI] at hri
  have h0 : WR b (fun k => s.heap.size + k) (dC, dI) tc (fun q : Nat => s.heap.size ≤ q) [] s.heap := ⟨fun k q h => by simp [cW] at h, ⟨fun i j p q h => by simp [cW] at h, fun k q h => by simp [cW] at h⟩, fun j => by simp⟩
  exact body_sound l (L, xs) b (fun k => s.heap.size + k) (dC, dI) tc n p e room_1 s m _ below meth c _ (fun q : Nat => s.heap.size ≤ q) kN (some (.int 1)) w1 w1.length (tot w1) (Nat.le_refl _) C hend hw.1 hw.2 0 _ [] [] s.heap [] ls 0 0 hev (by simp) (by simp [tot]) h0 va_S.rf hLk
end
