section
-- ===== PART A: goes FIRST, ahead of the names: the tables' words, and 'selects' of the private methods out of them =====
/-- a private method of a class that the tables say can be made, by its rows of tables_1 -/
def lw_okq (q : MethodName × Nat) : Prop := (q.1.cls ≠ "java/lang/invoke/MethodHandle" ∧ q.1.cls ≠ "java/lang/invoke/VarHandle") ∧ Cond.instantiable q.1.cls q.2 ∈ tables_1 ∧ Cond.privateMethod q.1 ∈ tables_1 ∧ Cond.instanceMethod q.1 ∈ tables_1
theorem lw_p0 : lw_okq (⟨"java/lang/Throwable", "fillInStackTrace", "(I)Ljava/lang/Throwable;"⟩, 6) := ⟨⟨by decide +kernel, by decide +kernel⟩, List.mem_of_getElem? (i := 509) (by decide +kernel), List.mem_of_getElem? (i := 507) (by decide +kernel), List.mem_of_getElem? (i := 508) (by decide +kernel)⟩
theorem lw_p1 : lw_okq (⟨"PageScribe$Reader", "charAt", "(I)C"⟩, 10) := ⟨⟨by decide +kernel, by decide +kernel⟩, List.mem_of_getElem? (i := 159) (by decide +kernel), List.mem_of_getElem? (i := 551) (by decide +kernel), List.mem_of_getElem? (i := 552) (by decide +kernel)⟩
theorem lw_p2 : lw_okq (⟨"PageScribe$Reader", "readProcedure", "()I"⟩, 10) := ⟨⟨by decide +kernel, by decide +kernel⟩, List.mem_of_getElem? (i := 159) (by decide +kernel), List.mem_of_getElem? (i := 555) (by decide +kernel), List.mem_of_getElem? (i := 556) (by decide +kernel)⟩
theorem lw_p3 : lw_okq (⟨"PageScribe$Reader", "makeProcedure", "(I)I"⟩, 10) := ⟨⟨by decide +kernel, by decide +kernel⟩, List.mem_of_getElem? (i := 159) (by decide +kernel), List.mem_of_getElem? (i := 560) (by decide +kernel), List.mem_of_getElem? (i := 561) (by decide +kernel)⟩
theorem lw_p4 : lw_okq (⟨"PageScribe$Reader", "giveToken", "(IID)V"⟩, 10) := ⟨⟨by decide +kernel, by decide +kernel⟩, List.mem_of_getElem? (i := 159) (by decide +kernel), List.mem_of_getElem? (i := 590) (by decide +kernel), List.mem_of_getElem? (i := 591) (by decide +kernel)⟩
theorem lw_p5 : lw_okq (⟨"PageScribe$Reader", "readPlain", "()I"⟩, 10) := ⟨⟨by decide +kernel, by decide +kernel⟩, List.mem_of_getElem? (i := 159) (by decide +kernel), List.mem_of_getElem? (i := 594) (by decide +kernel), List.mem_of_getElem? (i := 595) (by decide +kernel)⟩
theorem lw_p6 : lw_okq (⟨"PageScribe$Reader", "readNumber", "()I"⟩, 10) := ⟨⟨by decide +kernel, by decide +kernel⟩, List.mem_of_getElem? (i := 159) (by decide +kernel), List.mem_of_getElem? (i := 601) (by decide +kernel), List.mem_of_getElem? (i := 602) (by decide +kernel)⟩
theorem lw_p7 : lw_okq (⟨"PageScribe$Reader", "digitsFrom", "(I)I"⟩, 10) := ⟨⟨by decide +kernel, by decide +kernel⟩, List.mem_of_getElem? (i := 159) (by decide +kernel), List.mem_of_getElem? (i := 605) (by decide +kernel), List.mem_of_getElem? (i := 606) (by decide +kernel)⟩
theorem lw_p8 : lw_okq (⟨"PageScribe$Reader", "valueOf", "(II)I"⟩, 10) := ⟨⟨by decide +kernel, by decide +kernel⟩, List.mem_of_getElem? (i := 159) (by decide +kernel), List.mem_of_getElem? (i := 609) (by decide +kernel), List.mem_of_getElem? (i := 610) (by decide +kernel)⟩
theorem lw_p9 : lw_okq (⟨"PageScribe$Reader", "lettersFrom", "(I)I"⟩, 10) := ⟨⟨by decide +kernel, by decide +kernel⟩, List.mem_of_getElem? (i := 159) (by decide +kernel), List.mem_of_getElem? (i := 620) (by decide +kernel), List.mem_of_getElem? (i := 621) (by decide +kernel)⟩
theorem lw_p10 : lw_okq (⟨"PageScribe$Reader", "readName", "(III)I"⟩, 10) := ⟨⟨by decide +kernel, by decide +kernel⟩, List.mem_of_getElem? (i := 159) (by decide +kernel), List.mem_of_getElem? (i := 624) (by decide +kernel), List.mem_of_getElem? (i := 625) (by decide +kernel)⟩
theorem lw_p11 : lw_okq (⟨"PageScribe$Words", "isWord", "(Ljava/lang/String;[CII)Z"⟩, 3) := ⟨⟨by decide +kernel, by decide +kernel⟩, List.mem_of_getElem? (i := 70) (by decide +kernel), List.mem_of_getElem? (i := 632) (by decide +kernel), List.mem_of_getElem? (i := 633) (by decide +kernel)⟩
theorem lw_p12 : lw_okq (⟨"PageScribe$Words", "isKnown", "(I[CII)Z"⟩, 3) := ⟨⟨by decide +kernel, by decide +kernel⟩, List.mem_of_getElem? (i := 70) (by decide +kernel), List.mem_of_getElem? (i := 636) (by decide +kernel), List.mem_of_getElem? (i := 637) (by decide +kernel)⟩
theorem lw_p13 : lw_okq (⟨"PageScribe$Engine", "doValue", "(IID)I"⟩, 11) := ⟨⟨by decide +kernel, by decide +kernel⟩, List.mem_of_getElem? (i := 237) (by decide +kernel), List.mem_of_getElem? (i := 645) (by decide +kernel), List.mem_of_getElem? (i := 646) (by decide +kernel)⟩
theorem lw_p14 : lw_okq (⟨"PageScribe$Engine", "countStep", "()I"⟩, 11) := ⟨⟨by decide +kernel, by decide +kernel⟩, List.mem_of_getElem? (i := 237) (by decide +kernel), List.mem_of_getElem? (i := 649) (by decide +kernel), List.mem_of_getElem? (i := 650) (by decide +kernel)⟩
theorem lw_p15 : lw_okq (⟨"PageScribe$Memory", "scopeAt", "(I)I"⟩, 8) := ⟨⟨by decide +kernel, by decide +kernel⟩, List.mem_of_getElem? (i := 88) (by decide +kernel), List.mem_of_getElem? (i := 658) (by decide +kernel), List.mem_of_getElem? (i := 659) (by decide +kernel)⟩
def lw_privs_1 : List (MethodName × Nat) := [(⟨"java/lang/Throwable", "fillInStackTrace", "(I)Ljava/lang/Throwable;"⟩, 6), (⟨"PageScribe$Reader", "charAt", "(I)C"⟩, 10), (⟨"PageScribe$Reader", "readProcedure", "()I"⟩, 10), (⟨"PageScribe$Reader", "makeProcedure", "(I)I"⟩, 10), (⟨"PageScribe$Reader", "giveToken", "(IID)V"⟩, 10), (⟨"PageScribe$Reader", "readPlain", "()I"⟩, 10), (⟨"PageScribe$Reader", "readNumber", "()I"⟩, 10), (⟨"PageScribe$Reader", "digitsFrom", "(I)I"⟩, 10), (⟨"PageScribe$Reader", "valueOf", "(II)I"⟩, 10), (⟨"PageScribe$Reader", "lettersFrom", "(I)I"⟩, 10), (⟨"PageScribe$Reader", "readName", "(III)I"⟩, 10), (⟨"PageScribe$Words", "isWord", "(Ljava/lang/String;[CII)Z"⟩, 3), (⟨"PageScribe$Words", "isKnown", "(I[CII)Z"⟩, 3), (⟨"PageScribe$Engine", "doValue", "(IID)I"⟩, 11), (⟨"PageScribe$Engine", "countStep", "()I"⟩, 11), (⟨"PageScribe$Memory", "scopeAt", "(I)I"⟩, 8)]
theorem lw_r1 : ∀ q ∈ lw_privs_1, lw_okq q := List.forall_mem_cons.mpr ⟨lw_p0, List.forall_mem_cons.mpr ⟨lw_p1, List.forall_mem_cons.mpr ⟨lw_p2, List.forall_mem_cons.mpr ⟨lw_p3, List.forall_mem_cons.mpr ⟨lw_p4, List.forall_mem_cons.mpr ⟨lw_p5, List.forall_mem_cons.mpr ⟨lw_p6, List.forall_mem_cons.mpr ⟨lw_p7, List.forall_mem_cons.mpr ⟨lw_p8, List.forall_mem_cons.mpr ⟨lw_p9, List.forall_mem_cons.mpr ⟨lw_p10, List.forall_mem_cons.mpr ⟨lw_p11, List.forall_mem_cons.mpr ⟨lw_p12, List.forall_mem_cons.mpr ⟨lw_p13, List.forall_mem_cons.mpr ⟨lw_p14, List.forall_mem_cons.mpr ⟨lw_p15, fun _ h => absurd h List.not_mem_nil⟩⟩⟩⟩⟩⟩⟩⟩⟩⟩⟩⟩⟩⟩⟩⟩
theorem lw_p16 : lw_okq (⟨"PageScribe$Engine", "operate", "(I)I"⟩, 11) := ⟨⟨by decide +kernel, by decide +kernel⟩, List.mem_of_getElem? (i := 237) (by decide +kernel), List.mem_of_getElem? (i := 673) (by decide +kernel), List.mem_of_getElem? (i := 674) (by decide +kernel)⟩
theorem lw_p17 : lw_okq (⟨"PageScribe$Stack", "fits", "(Ljava/lang/String;II)Z"⟩, 4) := ⟨⟨by decide +kernel, by decide +kernel⟩, List.mem_of_getElem? (i := 38) (by decide +kernel), List.mem_of_getElem? (i := 742) (by decide +kernel), List.mem_of_getElem? (i := 743) (by decide +kernel)⟩
theorem lw_p18 : lw_okq (⟨"PageScribe$Stack", "swap", "(II)V"⟩, 4) := ⟨⟨by decide +kernel, by decide +kernel⟩, List.mem_of_getElem? (i := 38) (by decide +kernel), List.mem_of_getElem? (i := 770) (by decide +kernel), List.mem_of_getElem? (i := 771) (by decide +kernel)⟩
theorem lw_p19 : lw_okq (⟨"PageScribe$Stack", "copyBelow", "()I"⟩, 4) := ⟨⟨by decide +kernel, by decide +kernel⟩, List.mem_of_getElem? (i := 38) (by decide +kernel), List.mem_of_getElem? (i := 788) (by decide +kernel), List.mem_of_getElem? (i := 789) (by decide +kernel)⟩
theorem lw_p20 : lw_okq (⟨"PageScribe$Stack", "pickBelow", "()I"⟩, 4) := ⟨⟨by decide +kernel, by decide +kernel⟩, List.mem_of_getElem? (i := 38) (by decide +kernel), List.mem_of_getElem? (i := 793) (by decide +kernel), List.mem_of_getElem? (i := 794) (by decide +kernel)⟩
theorem lw_p21 : lw_okq (⟨"PageScribe$Stack", "roll", "()I"⟩, 4) := ⟨⟨by decide +kernel, by decide +kernel⟩, List.mem_of_getElem? (i := 38) (by decide +kernel), List.mem_of_getElem? (i := 797) (by decide +kernel), List.mem_of_getElem? (i := 798) (by decide +kernel)⟩
theorem lw_p22 : lw_okq (⟨"PageScribe$Stack", "reverse", "(II)V"⟩, 4) := ⟨⟨by decide +kernel, by decide +kernel⟩, List.mem_of_getElem? (i := 38) (by decide +kernel), List.mem_of_getElem? (i := 804) (by decide +kernel), List.mem_of_getElem? (i := 805) (by decide +kernel)⟩
theorem lw_p23 : lw_okq (⟨"PageScribe$Stack", "clearToMark", "()I"⟩, 4) := ⟨⟨by decide +kernel, by decide +kernel⟩, List.mem_of_getElem? (i := 38) (by decide +kernel), List.mem_of_getElem? (i := 813) (by decide +kernel), List.mem_of_getElem? (i := 814) (by decide +kernel)⟩
theorem lw_p24 : lw_okq (⟨"PageScribe$Sums", "divide", "()I"⟩, 1) := ⟨⟨by decide +kernel, by decide +kernel⟩, List.mem_of_getElem? (i := 243) (by decide +kernel), List.mem_of_getElem? (i := 827) (by decide +kernel), List.mem_of_getElem? (i := 828) (by decide +kernel)⟩
theorem lw_p25 : lw_okq (⟨"PageScribe$Sums", "giveReal", "(ID)I"⟩, 1) := ⟨⟨by decide +kernel, by decide +kernel⟩, List.mem_of_getElem? (i := 243) (by decide +kernel), List.mem_of_getElem? (i := 839) (by decide +kernel), List.mem_of_getElem? (i := 840) (by decide +kernel)⟩
theorem lw_p26 : lw_okq (⟨"PageScribe$Sums", "divideInts", "(Z)I"⟩, 1) := ⟨⟨by decide +kernel, by decide +kernel⟩, List.mem_of_getElem? (i := 243) (by decide +kernel), List.mem_of_getElem? (i := 849) (by decide +kernel), List.mem_of_getElem? (i := 850) (by decide +kernel)⟩
theorem lw_p27 : lw_okq (⟨"PageScribe$Sums", "giveExact", "(IJ)I"⟩, 1) := ⟨⟨by decide +kernel, by decide +kernel⟩, List.mem_of_getElem? (i := 243) (by decide +kernel), List.mem_of_getElem? (i := 854) (by decide +kernel), List.mem_of_getElem? (i := 855) (by decide +kernel)⟩
theorem lw_p28 : lw_okq (⟨"PageScribe$Sums", "negate", "()I"⟩, 1) := ⟨⟨by decide +kernel, by decide +kernel⟩, List.mem_of_getElem? (i := 243) (by decide +kernel), List.mem_of_getElem? (i := 862) (by decide +kernel), List.mem_of_getElem? (i := 863) (by decide +kernel)⟩
theorem lw_p29 : lw_okq (⟨"PageScribe$Sums", "wholeBelow", "(D)I"⟩, 1) := ⟨⟨by decide +kernel, by decide +kernel⟩, List.mem_of_getElem? (i := 243) (by decide +kernel), List.mem_of_getElem? (i := 868) (by decide +kernel), List.mem_of_getElem? (i := 869) (by decide +kernel)⟩
theorem lw_p30 : lw_okq (⟨"PageScribe$Sums", "cut", "()I"⟩, 1) := ⟨⟨by decide +kernel, by decide +kernel⟩, List.mem_of_getElem? (i := 243) (by decide +kernel), List.mem_of_getElem? (i := 873) (by decide +kernel), List.mem_of_getElem? (i := 874) (by decide +kernel)⟩
theorem lw_p31 : lw_okq (⟨"PageScribe$Sums", "shift", "()I"⟩, 1) := ⟨⟨by decide +kernel, by decide +kernel⟩, List.mem_of_getElem? (i := 243) (by decide +kernel), List.mem_of_getElem? (i := 877) (by decide +kernel), List.mem_of_getElem? (i := 878) (by decide +kernel)⟩
def lw_privs_2 : List (MethodName × Nat) := [(⟨"PageScribe$Engine", "operate", "(I)I"⟩, 11), (⟨"PageScribe$Stack", "fits", "(Ljava/lang/String;II)Z"⟩, 4), (⟨"PageScribe$Stack", "swap", "(II)V"⟩, 4), (⟨"PageScribe$Stack", "copyBelow", "()I"⟩, 4), (⟨"PageScribe$Stack", "pickBelow", "()I"⟩, 4), (⟨"PageScribe$Stack", "roll", "()I"⟩, 4), (⟨"PageScribe$Stack", "reverse", "(II)V"⟩, 4), (⟨"PageScribe$Stack", "clearToMark", "()I"⟩, 4), (⟨"PageScribe$Sums", "divide", "()I"⟩, 1), (⟨"PageScribe$Sums", "giveReal", "(ID)I"⟩, 1), (⟨"PageScribe$Sums", "divideInts", "(Z)I"⟩, 1), (⟨"PageScribe$Sums", "giveExact", "(IJ)I"⟩, 1), (⟨"PageScribe$Sums", "negate", "()I"⟩, 1), (⟨"PageScribe$Sums", "wholeBelow", "(D)I"⟩, 1), (⟨"PageScribe$Sums", "cut", "()I"⟩, 1), (⟨"PageScribe$Sums", "shift", "()I"⟩, 1)]
theorem lw_r2 : ∀ q ∈ lw_privs_2, lw_okq q := List.forall_mem_cons.mpr ⟨lw_p16, List.forall_mem_cons.mpr ⟨lw_p17, List.forall_mem_cons.mpr ⟨lw_p18, List.forall_mem_cons.mpr ⟨lw_p19, List.forall_mem_cons.mpr ⟨lw_p20, List.forall_mem_cons.mpr ⟨lw_p21, List.forall_mem_cons.mpr ⟨lw_p22, List.forall_mem_cons.mpr ⟨lw_p23, List.forall_mem_cons.mpr ⟨lw_p24, List.forall_mem_cons.mpr ⟨lw_p25, List.forall_mem_cons.mpr ⟨lw_p26, List.forall_mem_cons.mpr ⟨lw_p27, List.forall_mem_cons.mpr ⟨lw_p28, List.forall_mem_cons.mpr ⟨lw_p29, List.forall_mem_cons.mpr ⟨lw_p30, List.forall_mem_cons.mpr ⟨lw_p31, fun _ h => absurd h List.not_mem_nil⟩⟩⟩⟩⟩⟩⟩⟩⟩⟩⟩⟩⟩⟩⟩⟩
theorem lw_p32 : lw_okq (⟨"PageScribe$Sums", "combine", "(LPageScribe$Op;)I"⟩, 1) := ⟨⟨by decide +kernel, by decide +kernel⟩, List.mem_of_getElem? (i := 243) (by decide +kernel), List.mem_of_getElem? (i := 881) (by decide +kernel), List.mem_of_getElem? (i := 882) (by decide +kernel)⟩
theorem lw_p33 : lw_okq (⟨"PageScribe$Truths", "alike", "()Z"⟩, 1) := ⟨⟨by decide +kernel, by decide +kernel⟩, List.mem_of_getElem? (i := 253) (by decide +kernel), List.mem_of_getElem? (i := 901) (by decide +kernel), List.mem_of_getElem? (i := 902) (by decide +kernel)⟩
theorem lw_p34 : lw_okq (⟨"PageScribe$Truths", "join", "(Z)I"⟩, 1) := ⟨⟨by decide +kernel, by decide +kernel⟩, List.mem_of_getElem? (i := 253) (by decide +kernel), List.mem_of_getElem? (i := 919) (by decide +kernel), List.mem_of_getElem? (i := 920) (by decide +kernel)⟩
theorem lw_p35 : lw_okq (⟨"PageScribe$Truths", "turnRound", "()I"⟩, 1) := ⟨⟨by decide +kernel, by decide +kernel⟩, List.mem_of_getElem? (i := 253) (by decide +kernel), List.mem_of_getElem? (i := 925) (by decide +kernel), List.mem_of_getElem? (i := 926) (by decide +kernel)⟩
theorem lw_p36 : lw_okq (⟨"PageScribe$Truths", "setLive", "(Z)I"⟩, 1) := ⟨⟨by decide +kernel, by decide +kernel⟩, List.mem_of_getElem? (i := 253) (by decide +kernel), List.mem_of_getElem? (i := 932) (by decide +kernel), List.mem_of_getElem? (i := 933) (by decide +kernel)⟩
theorem lw_p37 : lw_okq (⟨"PageScribe$Truths", "compare", "(LPageScribe$Op;DD)Z"⟩, 1) := ⟨⟨by decide +kernel, by decide +kernel⟩, List.mem_of_getElem? (i := 253) (by decide +kernel), List.mem_of_getElem? (i := 936) (by decide +kernel), List.mem_of_getElem? (i := 937) (by decide +kernel)⟩
theorem lw_p38 : lw_okq (⟨"PageScribe$Memory", "gather", "()I"⟩, 8) := ⟨⟨by decide +kernel, by decide +kernel⟩, List.mem_of_getElem? (i := 88) (by decide +kernel), List.mem_of_getElem? (i := 946) (by decide +kernel), List.mem_of_getElem? (i := 947) (by decide +kernel)⟩
theorem lw_p39 : lw_okq (⟨"PageScribe$Memory", "makeArray", "()I"⟩, 8) := ⟨⟨by decide +kernel, by decide +kernel⟩, List.mem_of_getElem? (i := 88) (by decide +kernel), List.mem_of_getElem? (i := 954) (by decide +kernel), List.mem_of_getElem? (i := 955) (by decide +kernel)⟩
theorem lw_p40 : lw_okq (⟨"PageScribe$Memory", "tellLength", "()I"⟩, 8) := ⟨⟨by decide +kernel, by decide +kernel⟩, List.mem_of_getElem? (i := 88) (by decide +kernel), List.mem_of_getElem? (i := 962) (by decide +kernel), List.mem_of_getElem? (i := 963) (by decide +kernel)⟩
theorem lw_p41 : lw_okq (⟨"PageScribe$Memory", "getEntry", "()I"⟩, 8) := ⟨⟨by decide +kernel, by decide +kernel⟩, List.mem_of_getElem? (i := 88) (by decide +kernel), List.mem_of_getElem? (i := 973) (by decide +kernel), List.mem_of_getElem? (i := 974) (by decide +kernel)⟩
theorem lw_p42 : lw_okq (⟨"PageScribe$Memory", "getCell", "()I"⟩, 8) := ⟨⟨by decide +kernel, by decide +kernel⟩, List.mem_of_getElem? (i := 88) (by decide +kernel), List.mem_of_getElem? (i := 978) (by decide +kernel), List.mem_of_getElem? (i := 979) (by decide +kernel)⟩
theorem lw_p43 : lw_okq (⟨"PageScribe$Memory", "putEntry", "()I"⟩, 8) := ⟨⟨by decide +kernel, by decide +kernel⟩, List.mem_of_getElem? (i := 88) (by decide +kernel), List.mem_of_getElem? (i := 985) (by decide +kernel), List.mem_of_getElem? (i := 986) (by decide +kernel)⟩
theorem lw_p44 : lw_okq (⟨"PageScribe$Memory", "putCell", "()I"⟩, 8) := ⟨⟨by decide +kernel, by decide +kernel⟩, List.mem_of_getElem? (i := 88) (by decide +kernel), List.mem_of_getElem? (i := 998) (by decide +kernel), List.mem_of_getElem? (i := 999) (by decide +kernel)⟩
theorem lw_p45 : lw_okq (⟨"PageScribe$Memory", "getInterval", "()I"⟩, 8) := ⟨⟨by decide +kernel, by decide +kernel⟩, List.mem_of_getElem? (i := 88) (by decide +kernel), List.mem_of_getElem? (i := 1004) (by decide +kernel), List.mem_of_getElem? (i := 1005) (by decide +kernel)⟩
theorem lw_p46 : lw_okq (⟨"PageScribe$Memory", "unpack", "()I"⟩, 8) := ⟨⟨by decide +kernel, by decide +kernel⟩, List.mem_of_getElem? (i := 88) (by decide +kernel), List.mem_of_getElem? (i := 1008) (by decide +kernel), List.mem_of_getElem? (i := 1009) (by decide +kernel)⟩
theorem lw_p47 : lw_okq (⟨"PageScribe$Memory", "makeDict", "()I"⟩, 8) := ⟨⟨by decide +kernel, by decide +kernel⟩, List.mem_of_getElem? (i := 88) (by decide +kernel), List.mem_of_getElem? (i := 1016) (by decide +kernel), List.mem_of_getElem? (i := 1017) (by decide +kernel)⟩
def lw_privs_3 : List (MethodName × Nat) := [(⟨"PageScribe$Sums", "combine", "(LPageScribe$Op;)I"⟩, 1), (⟨"PageScribe$Truths", "alike", "()Z"⟩, 1), (⟨"PageScribe$Truths", "join", "(Z)I"⟩, 1), (⟨"PageScribe$Truths", "turnRound", "()I"⟩, 1), (⟨"PageScribe$Truths", "setLive", "(Z)I"⟩, 1), (⟨"PageScribe$Truths", "compare", "(LPageScribe$Op;DD)Z"⟩, 1), (⟨"PageScribe$Memory", "gather", "()I"⟩, 8), (⟨"PageScribe$Memory", "makeArray", "()I"⟩, 8), (⟨"PageScribe$Memory", "tellLength", "()I"⟩, 8), (⟨"PageScribe$Memory", "getEntry", "()I"⟩, 8), (⟨"PageScribe$Memory", "getCell", "()I"⟩, 8), (⟨"PageScribe$Memory", "putEntry", "()I"⟩, 8), (⟨"PageScribe$Memory", "putCell", "()I"⟩, 8), (⟨"PageScribe$Memory", "getInterval", "()I"⟩, 8), (⟨"PageScribe$Memory", "unpack", "()I"⟩, 8), (⟨"PageScribe$Memory", "makeDict", "()I"⟩, 8)]
theorem lw_r3 : ∀ q ∈ lw_privs_3, lw_okq q := List.forall_mem_cons.mpr ⟨lw_p32, List.forall_mem_cons.mpr ⟨lw_p33, List.forall_mem_cons.mpr ⟨lw_p34, List.forall_mem_cons.mpr ⟨lw_p35, List.forall_mem_cons.mpr ⟨lw_p36, List.forall_mem_cons.mpr ⟨lw_p37, List.forall_mem_cons.mpr ⟨lw_p38, List.forall_mem_cons.mpr ⟨lw_p39, List.forall_mem_cons.mpr ⟨lw_p40, List.forall_mem_cons.mpr ⟨lw_p41, List.forall_mem_cons.mpr ⟨lw_p42, List.forall_mem_cons.mpr ⟨lw_p43, List.forall_mem_cons.mpr ⟨lw_p44, List.forall_mem_cons.mpr ⟨lw_p45, List.forall_mem_cons.mpr ⟨lw_p46, List.forall_mem_cons.mpr ⟨lw_p47, fun _ h => absurd h List.not_mem_nil⟩⟩⟩⟩⟩⟩⟩⟩⟩⟩⟩⟩⟩⟩⟩⟩
theorem lw_p48 : lw_okq (⟨"PageScribe$Memory", "beginScope", "()I"⟩, 8) := ⟨⟨by decide +kernel, by decide +kernel⟩, List.mem_of_getElem? (i := 88) (by decide +kernel), List.mem_of_getElem? (i := 1024) (by decide +kernel), List.mem_of_getElem? (i := 1025) (by decide +kernel)⟩
theorem lw_p49 : lw_okq (⟨"PageScribe$Memory", "endScope", "()I"⟩, 8) := ⟨⟨by decide +kernel, by decide +kernel⟩, List.mem_of_getElem? (i := 88) (by decide +kernel), List.mem_of_getElem? (i := 1028) (by decide +kernel), List.mem_of_getElem? (i := 1029) (by decide +kernel)⟩
theorem lw_p50 : lw_okq (⟨"PageScribe$Memory", "define", "()I"⟩, 8) := ⟨⟨by decide +kernel, by decide +kernel⟩, List.mem_of_getElem? (i := 88) (by decide +kernel), List.mem_of_getElem? (i := 1032) (by decide +kernel), List.mem_of_getElem? (i := 1033) (by decide +kernel)⟩
theorem lw_p51 : lw_okq (⟨"PageScribe$Memory", "load", "()I"⟩, 8) := ⟨⟨by decide +kernel, by decide +kernel⟩, List.mem_of_getElem? (i := 88) (by decide +kernel), List.mem_of_getElem? (i := 1036) (by decide +kernel), List.mem_of_getElem? (i := 1037) (by decide +kernel)⟩
theorem lw_p52 : lw_okq (⟨"PageScribe$Memory", "keptAt", "(I)LPageScribe$Store;"⟩, 8) := ⟨⟨by decide +kernel, by decide +kernel⟩, List.mem_of_getElem? (i := 88) (by decide +kernel), List.mem_of_getElem? (i := 1048) (by decide +kernel), List.mem_of_getElem? (i := 1049) (by decide +kernel)⟩
theorem lw_p53 : lw_okq (⟨"PageScribe$Memory", "slotOf", "(I)I"⟩, 8) := ⟨⟨by decide +kernel, by decide +kernel⟩, List.mem_of_getElem? (i := 88) (by decide +kernel), List.mem_of_getElem? (i := 1071) (by decide +kernel), List.mem_of_getElem? (i := 1072) (by decide +kernel)⟩
theorem lw_p54 : lw_okq (⟨"PageScribe$Memory", "scopesMadeSince", "(LPageScribe$Store;)Z"⟩, 8) := ⟨⟨by decide +kernel, by decide +kernel⟩, List.mem_of_getElem? (i := 88) (by decide +kernel), List.mem_of_getElem? (i := 1075) (by decide +kernel), List.mem_of_getElem? (i := 1076) (by decide +kernel)⟩
theorem lw_p55 : lw_okq (⟨"PageScribe$Memory", "stackMadeSince", "(LPageScribe$Store;I)Z"⟩, 8) := ⟨⟨by decide +kernel, by decide +kernel⟩, List.mem_of_getElem? (i := 88) (by decide +kernel), List.mem_of_getElem? (i := 1080) (by decide +kernel), List.mem_of_getElem? (i := 1081) (by decide +kernel)⟩
theorem lw_p56 : lw_okq (⟨"PageScribe$Canvas", "setGray", "()I"⟩, 9) := ⟨⟨by decide +kernel, by decide +kernel⟩, List.mem_of_getElem? (i := 202) (by decide +kernel), List.mem_of_getElem? (i := 1093) (by decide +kernel), List.mem_of_getElem? (i := 1094) (by decide +kernel)⟩
theorem lw_p57 : lw_okq (⟨"PageScribe$Canvas", "addGiven", "(Z)I"⟩, 9) := ⟨⟨by decide +kernel, by decide +kernel⟩, List.mem_of_getElem? (i := 202) (by decide +kernel), List.mem_of_getElem? (i := 1101) (by decide +kernel), List.mem_of_getElem? (i := 1102) (by decide +kernel)⟩
theorem lw_p58 : lw_okq (⟨"PageScribe$Canvas", "addPoint", "(DDI)I"⟩, 9) := ⟨⟨by decide +kernel, by decide +kernel⟩, List.mem_of_getElem? (i := 202) (by decide +kernel), List.mem_of_getElem? (i := 1110) (by decide +kernel), List.mem_of_getElem? (i := 1111) (by decide +kernel)⟩
theorem lw_p59 : lw_okq (⟨"PageScribe$Canvas", "addToLatest", "(DD)I"⟩, 9) := ⟨⟨by decide +kernel, by decide +kernel⟩, List.mem_of_getElem? (i := 202) (by decide +kernel), List.mem_of_getElem? (i := 1114) (by decide +kernel), List.mem_of_getElem? (i := 1115) (by decide +kernel)⟩
theorem lw_p60 : lw_okq (⟨"PageScribe$Canvas", "latestBegin", "()I"⟩, 9) := ⟨⟨by decide +kernel, by decide +kernel⟩, List.mem_of_getElem? (i := 202) (by decide +kernel), List.mem_of_getElem? (i := 1118) (by decide +kernel), List.mem_of_getElem? (i := 1119) (by decide +kernel)⟩
theorem lw_p61 : lw_okq (⟨"PageScribe$Canvas", "closePath", "()I"⟩, 9) := ⟨⟨by decide +kernel, by decide +kernel⟩, List.mem_of_getElem? (i := 202) (by decide +kernel), List.mem_of_getElem? (i := 1122) (by decide +kernel), List.mem_of_getElem? (i := 1123) (by decide +kernel)⟩
theorem lw_p62 : lw_okq (⟨"PageScribe$Canvas", "paint", "(Z)I"⟩, 9) := ⟨⟨by decide +kernel, by decide +kernel⟩, List.mem_of_getElem? (i := 202) (by decide +kernel), List.mem_of_getElem? (i := 1128) (by decide +kernel), List.mem_of_getElem? (i := 1129) (by decide +kernel)⟩
theorem lw_p63 : lw_okq (⟨"PageScribe$Canvas", "isInside", "(DDZ)Z"⟩, 9) := ⟨⟨by decide +kernel, by decide +kernel⟩, List.mem_of_getElem? (i := 202) (by decide +kernel), List.mem_of_getElem? (i := 1135) (by decide +kernel), List.mem_of_getElem? (i := 1136) (by decide +kernel)⟩
def lw_privs_4 : List (MethodName × Nat) := [(⟨"PageScribe$Memory", "beginScope", "()I"⟩, 8), (⟨"PageScribe$Memory", "endScope", "()I"⟩, 8), (⟨"PageScribe$Memory", "define", "()I"⟩, 8), (⟨"PageScribe$Memory", "load", "()I"⟩, 8), (⟨"PageScribe$Memory", "keptAt", "(I)LPageScribe$Store;"⟩, 8), (⟨"PageScribe$Memory", "slotOf", "(I)I"⟩, 8), (⟨"PageScribe$Memory", "scopesMadeSince", "(LPageScribe$Store;)Z"⟩, 8), (⟨"PageScribe$Memory", "stackMadeSince", "(LPageScribe$Store;I)Z"⟩, 8), (⟨"PageScribe$Canvas", "setGray", "()I"⟩, 9), (⟨"PageScribe$Canvas", "addGiven", "(Z)I"⟩, 9), (⟨"PageScribe$Canvas", "addPoint", "(DDI)I"⟩, 9), (⟨"PageScribe$Canvas", "addToLatest", "(DD)I"⟩, 9), (⟨"PageScribe$Canvas", "latestBegin", "()I"⟩, 9), (⟨"PageScribe$Canvas", "closePath", "()I"⟩, 9), (⟨"PageScribe$Canvas", "paint", "(Z)I"⟩, 9), (⟨"PageScribe$Canvas", "isInside", "(DDZ)Z"⟩, 9)]
theorem lw_r4 : ∀ q ∈ lw_privs_4, lw_okq q := List.forall_mem_cons.mpr ⟨lw_p48, List.forall_mem_cons.mpr ⟨lw_p49, List.forall_mem_cons.mpr ⟨lw_p50, List.forall_mem_cons.mpr ⟨lw_p51, List.forall_mem_cons.mpr ⟨lw_p52, List.forall_mem_cons.mpr ⟨lw_p53, List.forall_mem_cons.mpr ⟨lw_p54, List.forall_mem_cons.mpr ⟨lw_p55, List.forall_mem_cons.mpr ⟨lw_p56, List.forall_mem_cons.mpr ⟨lw_p57, List.forall_mem_cons.mpr ⟨lw_p58, List.forall_mem_cons.mpr ⟨lw_p59, List.forall_mem_cons.mpr ⟨lw_p60, List.forall_mem_cons.mpr ⟨lw_p61, List.forall_mem_cons.mpr ⟨lw_p62, List.forall_mem_cons.mpr ⟨lw_p63, fun _ h => absurd h List.not_mem_nil⟩⟩⟩⟩⟩⟩⟩⟩⟩⟩⟩⟩⟩⟩⟩⟩
theorem lw_p64 : lw_okq (⟨"PageScribe$Canvas", "wayOfEdge", "(IDD)I"⟩, 9) := ⟨⟨by decide +kernel, by decide +kernel⟩, List.mem_of_getElem? (i := 202) (by decide +kernel), List.mem_of_getElem? (i := 1139) (by decide +kernel), List.mem_of_getElem? (i := 1140) (by decide +kernel)⟩
theorem lw_p65 : lw_okq (⟨"PageScribe$Canvas", "nextOf", "(I)I"⟩, 9) := ⟨⟨by decide +kernel, by decide +kernel⟩, List.mem_of_getElem? (i := 202) (by decide +kernel), List.mem_of_getElem? (i := 1143) (by decide +kernel), List.mem_of_getElem? (i := 1144) (by decide +kernel)⟩
theorem lw_p66 : lw_okq (⟨"PageScribe$Engine", "actOnRuns", "(LPageScribe$Op;)I"⟩, 11) := ⟨⟨by decide +kernel, by decide +kernel⟩, List.mem_of_getElem? (i := 237) (by decide +kernel), List.mem_of_getElem? (i := 1147) (by decide +kernel), List.mem_of_getElem? (i := 1148) (by decide +kernel)⟩
theorem lw_p67 : lw_okq (⟨"PageScribe$Engine", "execute", "()I"⟩, 11) := ⟨⟨by decide +kernel, by decide +kernel⟩, List.mem_of_getElem? (i := 237) (by decide +kernel), List.mem_of_getElem? (i := 1153) (by decide +kernel), List.mem_of_getElem? (i := 1154) (by decide +kernel)⟩
theorem lw_p68 : lw_okq (⟨"PageScribe$Engine", "runArray", "(I)I"⟩, 11) := ⟨⟨by decide +kernel, by decide +kernel⟩, List.mem_of_getElem? (i := 237) (by decide +kernel), List.mem_of_getElem? (i := 1161) (by decide +kernel), List.mem_of_getElem? (i := 1162) (by decide +kernel)⟩
theorem lw_p69 : lw_okq (⟨"PageScribe$Engine", "doUnderWay", "(II)I"⟩, 11) := ⟨⟨by decide +kernel, by decide +kernel⟩, List.mem_of_getElem? (i := 237) (by decide +kernel), List.mem_of_getElem? (i := 1173) (by decide +kernel), List.mem_of_getElem? (i := 1174) (by decide +kernel)⟩
theorem lw_p70 : lw_okq (⟨"PageScribe$Engine", "runIf", "()I"⟩, 11) := ⟨⟨by decide +kernel, by decide +kernel⟩, List.mem_of_getElem? (i := 237) (by decide +kernel), List.mem_of_getElem? (i := 1177) (by decide +kernel), List.mem_of_getElem? (i := 1178) (by decide +kernel)⟩
theorem lw_p71 : lw_okq (⟨"PageScribe$Engine", "runIfElse", "()I"⟩, 11) := ⟨⟨by decide +kernel, by decide +kernel⟩, List.mem_of_getElem? (i := 237) (by decide +kernel), List.mem_of_getElem? (i := 1181) (by decide +kernel), List.mem_of_getElem? (i := 1182) (by decide +kernel)⟩
theorem lw_p72 : lw_okq (⟨"PageScribe$Engine", "runFor", "()I"⟩, 11) := ⟨⟨by decide +kernel, by decide +kernel⟩, List.mem_of_getElem? (i := 237) (by decide +kernel), List.mem_of_getElem? (i := 1185) (by decide +kernel), List.mem_of_getElem? (i := 1186) (by decide +kernel)⟩
theorem lw_p73 : lw_okq (⟨"PageScribe$Engine", "runRepeat", "()I"⟩, 11) := ⟨⟨by decide +kernel, by decide +kernel⟩, List.mem_of_getElem? (i := 237) (by decide +kernel), List.mem_of_getElem? (i := 1191) (by decide +kernel), List.mem_of_getElem? (i := 1192) (by decide +kernel)⟩
theorem lw_p74 : lw_okq (⟨"PageScribe$Engine", "takeTurns", "(II)I"⟩, 11) := ⟨⟨by decide +kernel, by decide +kernel⟩, List.mem_of_getElem? (i := 237) (by decide +kernel), List.mem_of_getElem? (i := 1195) (by decide +kernel), List.mem_of_getElem? (i := 1196) (by decide +kernel)⟩
theorem lw_p75 : lw_okq (⟨"PageScribe$Engine", "runLoop", "()I"⟩, 11) := ⟨⟨by decide +kernel, by decide +kernel⟩, List.mem_of_getElem? (i := 237) (by decide +kernel), List.mem_of_getElem? (i := 1199) (by decide +kernel), List.mem_of_getElem? (i := 1200) (by decide +kernel)⟩
theorem lw_p76 : lw_okq (⟨"PageScribe$Engine", "runForAll", "()I"⟩, 11) := ⟨⟨by decide +kernel, by decide +kernel⟩, List.mem_of_getElem? (i := 237) (by decide +kernel), List.mem_of_getElem? (i := 1203) (by decide +kernel), List.mem_of_getElem? (i := 1204) (by decide +kernel)⟩
theorem lw_p77 : lw_okq (⟨"PageScribe$Engine", "runStopped", "()I"⟩, 11) := ⟨⟨by decide +kernel, by decide +kernel⟩, List.mem_of_getElem? (i := 237) (by decide +kernel), List.mem_of_getElem? (i := 1208) (by decide +kernel), List.mem_of_getElem? (i := 1209) (by decide +kernel)⟩
theorem lw_p78 : lw_okq (⟨"PageScribe$Engine", "doFound", "(I)I"⟩, 11) := ⟨⟨by decide +kernel, by decide +kernel⟩, List.mem_of_getElem? (i := 237) (by decide +kernel), List.mem_of_getElem? (i := 1217) (by decide +kernel), List.mem_of_getElem? (i := 1218) (by decide +kernel)⟩
theorem lw_p79 : lw_okq (⟨"PageScribeModel", "token", "()I"⟩, 45) := ⟨⟨by decide +kernel, by decide +kernel⟩, List.mem_of_getElem? (i := 1285) (by decide +kernel), List.mem_of_getElem? (i := 1506) (by decide +kernel), List.mem_of_getElem? (i := 1507) (by decide +kernel)⟩
def lw_privs_5 : List (MethodName × Nat) := [(⟨"PageScribe$Canvas", "wayOfEdge", "(IDD)I"⟩, 9), (⟨"PageScribe$Canvas", "nextOf", "(I)I"⟩, 9), (⟨"PageScribe$Engine", "actOnRuns", "(LPageScribe$Op;)I"⟩, 11), (⟨"PageScribe$Engine", "execute", "()I"⟩, 11), (⟨"PageScribe$Engine", "runArray", "(I)I"⟩, 11), (⟨"PageScribe$Engine", "doUnderWay", "(II)I"⟩, 11), (⟨"PageScribe$Engine", "runIf", "()I"⟩, 11), (⟨"PageScribe$Engine", "runIfElse", "()I"⟩, 11), (⟨"PageScribe$Engine", "runFor", "()I"⟩, 11), (⟨"PageScribe$Engine", "runRepeat", "()I"⟩, 11), (⟨"PageScribe$Engine", "takeTurns", "(II)I"⟩, 11), (⟨"PageScribe$Engine", "runLoop", "()I"⟩, 11), (⟨"PageScribe$Engine", "runForAll", "()I"⟩, 11), (⟨"PageScribe$Engine", "runStopped", "()I"⟩, 11), (⟨"PageScribe$Engine", "doFound", "(I)I"⟩, 11), (⟨"PageScribeModel", "token", "()I"⟩, 45)]
theorem lw_r5 : ∀ q ∈ lw_privs_5, lw_okq q := List.forall_mem_cons.mpr ⟨lw_p64, List.forall_mem_cons.mpr ⟨lw_p65, List.forall_mem_cons.mpr ⟨lw_p66, List.forall_mem_cons.mpr ⟨lw_p67, List.forall_mem_cons.mpr ⟨lw_p68, List.forall_mem_cons.mpr ⟨lw_p69, List.forall_mem_cons.mpr ⟨lw_p70, List.forall_mem_cons.mpr ⟨lw_p71, List.forall_mem_cons.mpr ⟨lw_p72, List.forall_mem_cons.mpr ⟨lw_p73, List.forall_mem_cons.mpr ⟨lw_p74, List.forall_mem_cons.mpr ⟨lw_p75, List.forall_mem_cons.mpr ⟨lw_p76, List.forall_mem_cons.mpr ⟨lw_p77, List.forall_mem_cons.mpr ⟨lw_p78, List.forall_mem_cons.mpr ⟨lw_p79, fun _ h => absurd h List.not_mem_nil⟩⟩⟩⟩⟩⟩⟩⟩⟩⟩⟩⟩⟩⟩⟩⟩
theorem lw_p80 : lw_okq (⟨"PageScribeModel", "close", "()I"⟩, 45) := ⟨⟨by decide +kernel, by decide +kernel⟩, List.mem_of_getElem? (i := 1285) (by decide +kernel), List.mem_of_getElem? (i := 1510) (by decide +kernel), List.mem_of_getElem? (i := 1511) (by decide +kernel)⟩
theorem lw_p81 : lw_okq (⟨"PageScribeModel", "newArray", "(III)I"⟩, 45) := ⟨⟨by decide +kernel, by decide +kernel⟩, List.mem_of_getElem? (i := 1285) (by decide +kernel), List.mem_of_getElem? (i := 1514) (by decide +kernel), List.mem_of_getElem? (i := 1515) (by decide +kernel)⟩
theorem lw_p82 : lw_okq (⟨"PageScribeModel", "move", "(II)V"⟩, 45) := ⟨⟨by decide +kernel, by decide +kernel⟩, List.mem_of_getElem? (i := 1285) (by decide +kernel), List.mem_of_getElem? (i := 1518) (by decide +kernel), List.mem_of_getElem? (i := 1519) (by decide +kernel)⟩
theorem lw_p83 : lw_okq (⟨"PageScribeModel", "set", "(IIJ)V"⟩, 45) := ⟨⟨by decide +kernel, by decide +kernel⟩, List.mem_of_getElem? (i := 1285) (by decide +kernel), List.mem_of_getElem? (i := 1523) (by decide +kernel), List.mem_of_getElem? (i := 1524) (by decide +kernel)⟩
theorem lw_p84 : lw_okq (⟨"PageScribeModel", "readSimple", "()I"⟩, 45) := ⟨⟨by decide +kernel, by decide +kernel⟩, List.mem_of_getElem? (i := 1285) (by decide +kernel), List.mem_of_getElem? (i := 1527) (by decide +kernel), List.mem_of_getElem? (i := 1528) (by decide +kernel)⟩
theorem lw_p85 : lw_okq (⟨"PageScribeModel", "readNumber", "()I"⟩, 45) := ⟨⟨by decide +kernel, by decide +kernel⟩, List.mem_of_getElem? (i := 1285) (by decide +kernel), List.mem_of_getElem? (i := 1534) (by decide +kernel), List.mem_of_getElem? (i := 1535) (by decide +kernel)⟩
theorem lw_p86 : lw_okq (⟨"PageScribeModel", "digits", "(I)I"⟩, 45) := ⟨⟨by decide +kernel, by decide +kernel⟩, List.mem_of_getElem? (i := 1285) (by decide +kernel), List.mem_of_getElem? (i := 1538) (by decide +kernel), List.mem_of_getElem? (i := 1539) (by decide +kernel)⟩
theorem lw_p87 : lw_okq (⟨"PageScribeModel", "whole", "(II)J"⟩, 45) := ⟨⟨by decide +kernel, by decide +kernel⟩, List.mem_of_getElem? (i := 1285) (by decide +kernel), List.mem_of_getElem? (i := 1542) (by decide +kernel), List.mem_of_getElem? (i := 1543) (by decide +kernel)⟩
theorem lw_p88 : lw_okq (⟨"PageScribeModel", "look", "(I)C"⟩, 45) := ⟨⟨by decide +kernel, by decide +kernel⟩, List.mem_of_getElem? (i := 1285) (by decide +kernel), List.mem_of_getElem? (i := 1548) (by decide +kernel), List.mem_of_getElem? (i := 1549) (by decide +kernel)⟩
theorem lw_p89 : lw_okq (⟨"PageScribeModel", "readWord", "(I)I"⟩, 45) := ⟨⟨by decide +kernel, by decide +kernel⟩, List.mem_of_getElem? (i := 1285) (by decide +kernel), List.mem_of_getElem? (i := 1559) (by decide +kernel), List.mem_of_getElem? (i := 1560) (by decide +kernel)⟩
theorem lw_p90 : lw_okq (⟨"PageScribeModel", "operatorOf", "(J)I"⟩, 45) := ⟨⟨by decide +kernel, by decide +kernel⟩, List.mem_of_getElem? (i := 1285) (by decide +kernel), List.mem_of_getElem? (i := 1563) (by decide +kernel), List.mem_of_getElem? (i := 1564) (by decide +kernel)⟩
theorem lw_p91 : lw_okq (⟨"PageScribeModel", "work", "()I"⟩, 45) := ⟨⟨by decide +kernel, by decide +kernel⟩, List.mem_of_getElem? (i := 1285) (by decide +kernel), List.mem_of_getElem? (i := 1569) (by decide +kernel), List.mem_of_getElem? (i := 1570) (by decide +kernel)⟩
theorem lw_p92 : lw_okq (⟨"PageScribeModel", "doValue", "()I"⟩, 45) := ⟨⟨by decide +kernel, by decide +kernel⟩, List.mem_of_getElem? (i := 1285) (by decide +kernel), List.mem_of_getElem? (i := 1573) (by decide +kernel), List.mem_of_getElem? (i := 1574) (by decide +kernel)⟩
theorem lw_p93 : lw_okq (⟨"PageScribeModel", "step", "()I"⟩, 45) := ⟨⟨by decide +kernel, by decide +kernel⟩, List.mem_of_getElem? (i := 1285) (by decide +kernel), List.mem_of_getElem? (i := 1577) (by decide +kernel), List.mem_of_getElem? (i := 1578) (by decide +kernel)⟩
theorem lw_p94 : lw_okq (⟨"PageScribeModel", "pushValue", "(I)I"⟩, 45) := ⟨⟨by decide +kernel, by decide +kernel⟩, List.mem_of_getElem? (i := 1285) (by decide +kernel), List.mem_of_getElem? (i := 1581) (by decide +kernel), List.mem_of_getElem? (i := 1582) (by decide +kernel)⟩
theorem lw_p95 : lw_okq (⟨"PageScribeModel", "found", "(J)I"⟩, 45) := ⟨⟨by decide +kernel, by decide +kernel⟩, List.mem_of_getElem? (i := 1285) (by decide +kernel), List.mem_of_getElem? (i := 1585) (by decide +kernel), List.mem_of_getElem? (i := 1586) (by decide +kernel)⟩
def lw_privs_6 : List (MethodName × Nat) := [(⟨"PageScribeModel", "close", "()I"⟩, 45), (⟨"PageScribeModel", "newArray", "(III)I"⟩, 45), (⟨"PageScribeModel", "move", "(II)V"⟩, 45), (⟨"PageScribeModel", "set", "(IIJ)V"⟩, 45), (⟨"PageScribeModel", "readSimple", "()I"⟩, 45), (⟨"PageScribeModel", "readNumber", "()I"⟩, 45), (⟨"PageScribeModel", "digits", "(I)I"⟩, 45), (⟨"PageScribeModel", "whole", "(II)J"⟩, 45), (⟨"PageScribeModel", "look", "(I)C"⟩, 45), (⟨"PageScribeModel", "readWord", "(I)I"⟩, 45), (⟨"PageScribeModel", "operatorOf", "(J)I"⟩, 45), (⟨"PageScribeModel", "work", "()I"⟩, 45), (⟨"PageScribeModel", "doValue", "()I"⟩, 45), (⟨"PageScribeModel", "step", "()I"⟩, 45), (⟨"PageScribeModel", "pushValue", "(I)I"⟩, 45), (⟨"PageScribeModel", "found", "(J)I"⟩, 45)]
theorem lw_r6 : ∀ q ∈ lw_privs_6, lw_okq q := List.forall_mem_cons.mpr ⟨lw_p80, List.forall_mem_cons.mpr ⟨lw_p81, List.forall_mem_cons.mpr ⟨lw_p82, List.forall_mem_cons.mpr ⟨lw_p83, List.forall_mem_cons.mpr ⟨lw_p84, List.forall_mem_cons.mpr ⟨lw_p85, List.forall_mem_cons.mpr ⟨lw_p86, List.forall_mem_cons.mpr ⟨lw_p87, List.forall_mem_cons.mpr ⟨lw_p88, List.forall_mem_cons.mpr ⟨lw_p89, List.forall_mem_cons.mpr ⟨lw_p90, List.forall_mem_cons.mpr ⟨lw_p91, List.forall_mem_cons.mpr ⟨lw_p92, List.forall_mem_cons.mpr ⟨lw_p93, List.forall_mem_cons.mpr ⟨lw_p94, List.forall_mem_cons.mpr ⟨lw_p95, fun _ h => absurd h List.not_mem_nil⟩⟩⟩⟩⟩⟩⟩⟩⟩⟩⟩⟩⟩⟩⟩⟩
theorem lw_p96 : lw_okq (⟨"PageScribeModel", "entry", "(IJ)I"⟩, 45) := ⟨⟨by decide +kernel, by decide +kernel⟩, List.mem_of_getElem? (i := 1285) (by decide +kernel), List.mem_of_getElem? (i := 1589) (by decide +kernel), List.mem_of_getElem? (i := 1590) (by decide +kernel)⟩
theorem lw_p97 : lw_okq (⟨"PageScribeModel", "operate", "(I)I"⟩, 45) := ⟨⟨by decide +kernel, by decide +kernel⟩, List.mem_of_getElem? (i := 1285) (by decide +kernel), List.mem_of_getElem? (i := 1596) (by decide +kernel), List.mem_of_getElem? (i := 1597) (by decide +kernel)⟩
theorem lw_p98 : lw_okq (⟨"PageScribeModel", "pattern", "(I)I"⟩, 45) := ⟨⟨by decide +kernel, by decide +kernel⟩, List.mem_of_getElem? (i := 1285) (by decide +kernel), List.mem_of_getElem? (i := 1600) (by decide +kernel), List.mem_of_getElem? (i := 1601) (by decide +kernel)⟩
theorem lw_p99 : lw_okq (⟨"PageScribeModel", "suits", "(II)Z"⟩, 45) := ⟨⟨by decide +kernel, by decide +kernel⟩, List.mem_of_getElem? (i := 1285) (by decide +kernel), List.mem_of_getElem? (i := 1604) (by decide +kernel), List.mem_of_getElem? (i := 1605) (by decide +kernel)⟩
theorem lw_p100 : lw_okq (⟨"PageScribeModel", "isNumber", "(I)Z"⟩, 45) := ⟨⟨by decide +kernel, by decide +kernel⟩, List.mem_of_getElem? (i := 1285) (by decide +kernel), List.mem_of_getElem? (i := 1608) (by decide +kernel), List.mem_of_getElem? (i := 1609) (by decide +kernel)⟩
theorem lw_p101 : lw_okq (⟨"PageScribeModel", "isProcedure", "(I)Z"⟩, 45) := ⟨⟨by decide +kernel, by decide +kernel⟩, List.mem_of_getElem? (i := 1285) (by decide +kernel), List.mem_of_getElem? (i := 1612) (by decide +kernel), List.mem_of_getElem? (i := 1613) (by decide +kernel)⟩
theorem lw_p102 : lw_okq (⟨"PageScribeModel", "kindOf", "(I)I"⟩, 45) := ⟨⟨by decide +kernel, by decide +kernel⟩, List.mem_of_getElem? (i := 1285) (by decide +kernel), List.mem_of_getElem? (i := 1616) (by decide +kernel), List.mem_of_getElem? (i := 1617) (by decide +kernel)⟩
theorem lw_p103 : lw_okq (⟨"PageScribeModel", "suitsOther", "(I)Z"⟩, 45) := ⟨⟨by decide +kernel, by decide +kernel⟩, List.mem_of_getElem? (i := 1285) (by decide +kernel), List.mem_of_getElem? (i := 1620) (by decide +kernel), List.mem_of_getElem? (i := 1621) (by decide +kernel)⟩
theorem lw_p104 : lw_okq (⟨"PageScribeModel", "stackOperator", "(I)I"⟩, 45) := ⟨⟨by decide +kernel, by decide +kernel⟩, List.mem_of_getElem? (i := 1285) (by decide +kernel), List.mem_of_getElem? (i := 1624) (by decide +kernel), List.mem_of_getElem? (i := 1625) (by decide +kernel)⟩
theorem lw_p105 : lw_okq (⟨"PageScribeModel", "roll", "(JJ)I"⟩, 45) := ⟨⟨by decide +kernel, by decide +kernel⟩, List.mem_of_getElem? (i := 1285) (by decide +kernel), List.mem_of_getElem? (i := 1629) (by decide +kernel), List.mem_of_getElem? (i := 1630) (by decide +kernel)⟩
theorem lw_p106 : lw_okq (⟨"PageScribeModel", "push", "(IJ)I"⟩, 45) := ⟨⟨by decide +kernel, by decide +kernel⟩, List.mem_of_getElem? (i := 1285) (by decide +kernel), List.mem_of_getElem? (i := 1633) (by decide +kernel), List.mem_of_getElem? (i := 1634) (by decide +kernel)⟩
theorem lw_p107 : lw_okq (⟨"PageScribeModel", "toMark", "(I)I"⟩, 45) := ⟨⟨by decide +kernel, by decide +kernel⟩, List.mem_of_getElem? (i := 1285) (by decide +kernel), List.mem_of_getElem? (i := 1637) (by decide +kernel), List.mem_of_getElem? (i := 1638) (by decide +kernel)⟩
theorem lw_p108 : lw_okq (⟨"PageScribeModel", "topMark", "()I"⟩, 45) := ⟨⟨by decide +kernel, by decide +kernel⟩, List.mem_of_getElem? (i := 1285) (by decide +kernel), List.mem_of_getElem? (i := 1641) (by decide +kernel), List.mem_of_getElem? (i := 1642) (by decide +kernel)⟩
theorem lw_p109 : lw_okq (⟨"PageScribeModel", "sum", "(I)I"⟩, 45) := ⟨⟨by decide +kernel, by decide +kernel⟩, List.mem_of_getElem? (i := 1285) (by decide +kernel), List.mem_of_getElem? (i := 1645) (by decide +kernel), List.mem_of_getElem? (i := 1646) (by decide +kernel)⟩
theorem lw_p110 : lw_okq (⟨"PageScribeModel", "numberAt", "(I)D"⟩, 45) := ⟨⟨by decide +kernel, by decide +kernel⟩, List.mem_of_getElem? (i := 1285) (by decide +kernel), List.mem_of_getElem? (i := 1649) (by decide +kernel), List.mem_of_getElem? (i := 1650) (by decide +kernel)⟩
theorem lw_p111 : lw_okq (⟨"PageScribeModel", "giveReal", "(ID)I"⟩, 45) := ⟨⟨by decide +kernel, by decide +kernel⟩, List.mem_of_getElem? (i := 1285) (by decide +kernel), List.mem_of_getElem? (i := 1653) (by decide +kernel), List.mem_of_getElem? (i := 1654) (by decide +kernel)⟩
def lw_privs_7 : List (MethodName × Nat) := [(⟨"PageScribeModel", "entry", "(IJ)I"⟩, 45), (⟨"PageScribeModel", "operate", "(I)I"⟩, 45), (⟨"PageScribeModel", "pattern", "(I)I"⟩, 45), (⟨"PageScribeModel", "suits", "(II)Z"⟩, 45), (⟨"PageScribeModel", "isNumber", "(I)Z"⟩, 45), (⟨"PageScribeModel", "isProcedure", "(I)Z"⟩, 45), (⟨"PageScribeModel", "kindOf", "(I)I"⟩, 45), (⟨"PageScribeModel", "suitsOther", "(I)Z"⟩, 45), (⟨"PageScribeModel", "stackOperator", "(I)I"⟩, 45), (⟨"PageScribeModel", "roll", "(JJ)I"⟩, 45), (⟨"PageScribeModel", "push", "(IJ)I"⟩, 45), (⟨"PageScribeModel", "toMark", "(I)I"⟩, 45), (⟨"PageScribeModel", "topMark", "()I"⟩, 45), (⟨"PageScribeModel", "sum", "(I)I"⟩, 45), (⟨"PageScribeModel", "numberAt", "(I)D"⟩, 45), (⟨"PageScribeModel", "giveReal", "(ID)I"⟩, 45)]
theorem lw_r7 : ∀ q ∈ lw_privs_7, lw_okq q := List.forall_mem_cons.mpr ⟨lw_p96, List.forall_mem_cons.mpr ⟨lw_p97, List.forall_mem_cons.mpr ⟨lw_p98, List.forall_mem_cons.mpr ⟨lw_p99, List.forall_mem_cons.mpr ⟨lw_p100, List.forall_mem_cons.mpr ⟨lw_p101, List.forall_mem_cons.mpr ⟨lw_p102, List.forall_mem_cons.mpr ⟨lw_p103, List.forall_mem_cons.mpr ⟨lw_p104, List.forall_mem_cons.mpr ⟨lw_p105, List.forall_mem_cons.mpr ⟨lw_p106, List.forall_mem_cons.mpr ⟨lw_p107, List.forall_mem_cons.mpr ⟨lw_p108, List.forall_mem_cons.mpr ⟨lw_p109, List.forall_mem_cons.mpr ⟨lw_p110, List.forall_mem_cons.mpr ⟨lw_p111, fun _ h => absurd h List.not_mem_nil⟩⟩⟩⟩⟩⟩⟩⟩⟩⟩⟩⟩⟩⟩⟩⟩
theorem lw_p112 : lw_okq (⟨"PageScribeModel", "giveExact", "(IJ)I"⟩, 45) := ⟨⟨by decide +kernel, by decide +kernel⟩, List.mem_of_getElem? (i := 1285) (by decide +kernel), List.mem_of_getElem? (i := 1659) (by decide +kernel), List.mem_of_getElem? (i := 1660) (by decide +kernel)⟩
theorem lw_p113 : lw_okq (⟨"PageScribeModel", "give", "(IIJ)I"⟩, 45) := ⟨⟨by decide +kernel, by decide +kernel⟩, List.mem_of_getElem? (i := 1285) (by decide +kernel), List.mem_of_getElem? (i := 1663) (by decide +kernel), List.mem_of_getElem? (i := 1664) (by decide +kernel)⟩
theorem lw_p114 : lw_okq (⟨"PageScribeModel", "single", "(I)I"⟩, 45) := ⟨⟨by decide +kernel, by decide +kernel⟩, List.mem_of_getElem? (i := 1285) (by decide +kernel), List.mem_of_getElem? (i := 1667) (by decide +kernel), List.mem_of_getElem? (i := 1668) (by decide +kernel)⟩
theorem lw_p115 : lw_okq (⟨"PageScribeModel", "truth", "(I)I"⟩, 45) := ⟨⟨by decide +kernel, by decide +kernel⟩, List.mem_of_getElem? (i := 1285) (by decide +kernel), List.mem_of_getElem? (i := 1675) (by decide +kernel), List.mem_of_getElem? (i := 1676) (by decide +kernel)⟩
theorem lw_p116 : lw_okq (⟨"PageScribeModel", "bits", "(II)I"⟩, 45) := ⟨⟨by decide +kernel, by decide +kernel⟩, List.mem_of_getElem? (i := 1285) (by decide +kernel), List.mem_of_getElem? (i := 1679) (by decide +kernel), List.mem_of_getElem? (i := 1680) (by decide +kernel)⟩
theorem lw_p117 : lw_okq (⟨"PageScribeModel", "alike", "(II)Z"⟩, 45) := ⟨⟨by decide +kernel, by decide +kernel⟩, List.mem_of_getElem? (i := 1285) (by decide +kernel), List.mem_of_getElem? (i := 1686) (by decide +kernel), List.mem_of_getElem? (i := 1687) (by decide +kernel)⟩
theorem lw_p118 : lw_okq (⟨"PageScribeModel", "arrayOperator", "(I)I"⟩, 45) := ⟨⟨by decide +kernel, by decide +kernel⟩, List.mem_of_getElem? (i := 1285) (by decide +kernel), List.mem_of_getElem? (i := 1693) (by decide +kernel), List.mem_of_getElem? (i := 1694) (by decide +kernel)⟩
theorem lw_p119 : lw_okq (⟨"PageScribeModel", "zeros", "(J)I"⟩, 45) := ⟨⟨by decide +kernel, by decide +kernel⟩, List.mem_of_getElem? (i := 1285) (by decide +kernel), List.mem_of_getElem? (i := 1697) (by decide +kernel), List.mem_of_getElem? (i := 1698) (by decide +kernel)⟩
theorem lw_p120 : lw_okq (⟨"PageScribeModel", "get", "(I)I"⟩, 45) := ⟨⟨by decide +kernel, by decide +kernel⟩, List.mem_of_getElem? (i := 1285) (by decide +kernel), List.mem_of_getElem? (i := 1701) (by decide +kernel), List.mem_of_getElem? (i := 1702) (by decide +kernel)⟩
theorem lw_p121 : lw_okq (⟨"PageScribeModel", "putEntry", "(IJI)I"⟩, 45) := ⟨⟨by decide +kernel, by decide +kernel⟩, List.mem_of_getElem? (i := 1285) (by decide +kernel), List.mem_of_getElem? (i := 1709) (by decide +kernel), List.mem_of_getElem? (i := 1710) (by decide +kernel)⟩
theorem lw_p122 : lw_okq (⟨"PageScribeModel", "putCell", "(I)I"⟩, 45) := ⟨⟨by decide +kernel, by decide +kernel⟩, List.mem_of_getElem? (i := 1285) (by decide +kernel), List.mem_of_getElem? (i := 1713) (by decide +kernel), List.mem_of_getElem? (i := 1714) (by decide +kernel)⟩
theorem lw_p123 : lw_okq (⟨"PageScribeModel", "part", "(JJJ)I"⟩, 45) := ⟨⟨by decide +kernel, by decide +kernel⟩, List.mem_of_getElem? (i := 1285) (by decide +kernel), List.mem_of_getElem? (i := 1717) (by decide +kernel), List.mem_of_getElem? (i := 1718) (by decide +kernel)⟩
theorem lw_p124 : lw_okq (⟨"PageScribeModel", "load", "(J)I"⟩, 45) := ⟨⟨by decide +kernel, by decide +kernel⟩, List.mem_of_getElem? (i := 1285) (by decide +kernel), List.mem_of_getElem? (i := 1721) (by decide +kernel), List.mem_of_getElem? (i := 1722) (by decide +kernel)⟩
theorem lw_p125 : lw_okq (⟨"PageScribeModel", "dictOperator", "(I)I"⟩, 45) := ⟨⟨by decide +kernel, by decide +kernel⟩, List.mem_of_getElem? (i := 1285) (by decide +kernel), List.mem_of_getElem? (i := 1725) (by decide +kernel), List.mem_of_getElem? (i := 1726) (by decide +kernel)⟩
theorem lw_p126 : lw_okq (⟨"PageScribeModel", "newDict", "(J)I"⟩, 45) := ⟨⟨by decide +kernel, by decide +kernel⟩, List.mem_of_getElem? (i := 1285) (by decide +kernel), List.mem_of_getElem? (i := 1729) (by decide +kernel), List.mem_of_getElem? (i := 1730) (by decide +kernel)⟩
theorem lw_p127 : lw_okq (⟨"PageScribeModel", "begins", "(I)I"⟩, 45) := ⟨⟨by decide +kernel, by decide +kernel⟩, List.mem_of_getElem? (i := 1285) (by decide +kernel), List.mem_of_getElem? (i := 1733) (by decide +kernel), List.mem_of_getElem? (i := 1734) (by decide +kernel)⟩
def lw_privs_8 : List (MethodName × Nat) := [(⟨"PageScribeModel", "giveExact", "(IJ)I"⟩, 45), (⟨"PageScribeModel", "give", "(IIJ)I"⟩, 45), (⟨"PageScribeModel", "single", "(I)I"⟩, 45), (⟨"PageScribeModel", "truth", "(I)I"⟩, 45), (⟨"PageScribeModel", "bits", "(II)I"⟩, 45), (⟨"PageScribeModel", "alike", "(II)Z"⟩, 45), (⟨"PageScribeModel", "arrayOperator", "(I)I"⟩, 45), (⟨"PageScribeModel", "zeros", "(J)I"⟩, 45), (⟨"PageScribeModel", "get", "(I)I"⟩, 45), (⟨"PageScribeModel", "putEntry", "(IJI)I"⟩, 45), (⟨"PageScribeModel", "putCell", "(I)I"⟩, 45), (⟨"PageScribeModel", "part", "(JJJ)I"⟩, 45), (⟨"PageScribeModel", "load", "(J)I"⟩, 45), (⟨"PageScribeModel", "dictOperator", "(I)I"⟩, 45), (⟨"PageScribeModel", "newDict", "(J)I"⟩, 45), (⟨"PageScribeModel", "begins", "(I)I"⟩, 45)]
theorem lw_r8 : ∀ q ∈ lw_privs_8, lw_okq q := List.forall_mem_cons.mpr ⟨lw_p112, List.forall_mem_cons.mpr ⟨lw_p113, List.forall_mem_cons.mpr ⟨lw_p114, List.forall_mem_cons.mpr ⟨lw_p115, List.forall_mem_cons.mpr ⟨lw_p116, List.forall_mem_cons.mpr ⟨lw_p117, List.forall_mem_cons.mpr ⟨lw_p118, List.forall_mem_cons.mpr ⟨lw_p119, List.forall_mem_cons.mpr ⟨lw_p120, List.forall_mem_cons.mpr ⟨lw_p121, List.forall_mem_cons.mpr ⟨lw_p122, List.forall_mem_cons.mpr ⟨lw_p123, List.forall_mem_cons.mpr ⟨lw_p124, List.forall_mem_cons.mpr ⟨lw_p125, List.forall_mem_cons.mpr ⟨lw_p126, List.forall_mem_cons.mpr ⟨lw_p127, fun _ h => absurd h List.not_mem_nil⟩⟩⟩⟩⟩⟩⟩⟩⟩⟩⟩⟩⟩⟩⟩⟩
theorem lw_p128 : lw_okq (⟨"PageScribeModel", "runArray", "(J)I"⟩, 45) := ⟨⟨by decide +kernel, by decide +kernel⟩, List.mem_of_getElem? (i := 1285) (by decide +kernel), List.mem_of_getElem? (i := 1737) (by decide +kernel), List.mem_of_getElem? (i := 1738) (by decide +kernel)⟩
theorem lw_p129 : lw_okq (⟨"PageScribeModel", "frame", "(IJ)V"⟩, 45) := ⟨⟨by decide +kernel, by decide +kernel⟩, List.mem_of_getElem? (i := 1285) (by decide +kernel), List.mem_of_getElem? (i := 1741) (by decide +kernel), List.mem_of_getElem? (i := 1742) (by decide +kernel)⟩
theorem lw_p130 : lw_okq (⟨"PageScribeModel", "again", "()I"⟩, 45) := ⟨⟨by decide +kernel, by decide +kernel⟩, List.mem_of_getElem? (i := 1285) (by decide +kernel), List.mem_of_getElem? (i := 1745) (by decide +kernel), List.mem_of_getElem? (i := 1746) (by decide +kernel)⟩
theorem lw_p131 : lw_okq (⟨"PageScribeModel", "control", "(I)I"⟩, 45) := ⟨⟨by decide +kernel, by decide +kernel⟩, List.mem_of_getElem? (i := 1285) (by decide +kernel), List.mem_of_getElem? (i := 1749) (by decide +kernel), List.mem_of_getElem? (i := 1750) (by decide +kernel)⟩
theorem lw_p132 : lw_okq (⟨"PageScribeModel", "exit", "()I"⟩, 45) := ⟨⟨by decide +kernel, by decide +kernel⟩, List.mem_of_getElem? (i := 1285) (by decide +kernel), List.mem_of_getElem? (i := 1753) (by decide +kernel), List.mem_of_getElem? (i := 1754) (by decide +kernel)⟩
theorem lw_p133 : lw_okq (⟨"PageScribeModel", "leave", "()V"⟩, 45) := ⟨⟨by decide +kernel, by decide +kernel⟩, List.mem_of_getElem? (i := 1285) (by decide +kernel), List.mem_of_getElem? (i := 1757) (by decide +kernel), List.mem_of_getElem? (i := 1758) (by decide +kernel)⟩
theorem lw_p134 : lw_okq (⟨"PageScribeModel", "save", "()I"⟩, 45) := ⟨⟨by decide +kernel, by decide +kernel⟩, List.mem_of_getElem? (i := 1285) (by decide +kernel), List.mem_of_getElem? (i := 1761) (by decide +kernel), List.mem_of_getElem? (i := 1762) (by decide +kernel)⟩
theorem lw_p135 : lw_okq (⟨"PageScribeModel", "copyAll", "(II)V"⟩, 45) := ⟨⟨by decide +kernel, by decide +kernel⟩, List.mem_of_getElem? (i := 1285) (by decide +kernel), List.mem_of_getElem? (i := 1765) (by decide +kernel), List.mem_of_getElem? (i := 1766) (by decide +kernel)⟩
theorem lw_p136 : lw_okq (⟨"PageScribeModel", "restore", "()I"⟩, 45) := ⟨⟨by decide +kernel, by decide +kernel⟩, List.mem_of_getElem? (i := 1285) (by decide +kernel), List.mem_of_getElem? (i := 1769) (by decide +kernel), List.mem_of_getElem? (i := 1770) (by decide +kernel)⟩
theorem lw_p137 : lw_okq (⟨"PageScribeModel", "isNewer", "(IJI)Z"⟩, 45) := ⟨⟨by decide +kernel, by decide +kernel⟩, List.mem_of_getElem? (i := 1285) (by decide +kernel), List.mem_of_getElem? (i := 1773) (by decide +kernel), List.mem_of_getElem? (i := 1774) (by decide +kernel)⟩
theorem lw_p138 : lw_okq (⟨"PageScribeModel", "paint", "(I)I"⟩, 45) := ⟨⟨by decide +kernel, by decide +kernel⟩, List.mem_of_getElem? (i := 1285) (by decide +kernel), List.mem_of_getElem? (i := 1777) (by decide +kernel), List.mem_of_getElem? (i := 1778) (by decide +kernel)⟩
theorem lw_p139 : lw_okq (⟨"PageScribeModel", "point", "(DDI)I"⟩, 45) := ⟨⟨by decide +kernel, by decide +kernel⟩, List.mem_of_getElem? (i := 1285) (by decide +kernel), List.mem_of_getElem? (i := 1783) (by decide +kernel), List.mem_of_getElem? (i := 1784) (by decide +kernel)⟩
theorem lw_p140 : lw_okq (⟨"PageScribeModel", "cover", "(IZ)V"⟩, 45) := ⟨⟨by decide +kernel, by decide +kernel⟩, List.mem_of_getElem? (i := 1285) (by decide +kernel), List.mem_of_getElem? (i := 1787) (by decide +kernel), List.mem_of_getElem? (i := 1788) (by decide +kernel)⟩
theorem lw_p141 : lw_okq (⟨"PageScribeModel", "caught", "(I)I"⟩, 45) := ⟨⟨by decide +kernel, by decide +kernel⟩, List.mem_of_getElem? (i := 1285) (by decide +kernel), List.mem_of_getElem? (i := 1794) (by decide +kernel), List.mem_of_getElem? (i := 1795) (by decide +kernel)⟩
theorem lw_p142 : lw_okq (⟨"PageScribeModel", "advance", "()I"⟩, 45) := ⟨⟨by decide +kernel, by decide +kernel⟩, List.mem_of_getElem? (i := 1285) (by decide +kernel), List.mem_of_getElem? (i := 1798) (by decide +kernel), List.mem_of_getElem? (i := 1799) (by decide +kernel)⟩
def lw_privs_9 : List (MethodName × Nat) := [(⟨"PageScribeModel", "runArray", "(J)I"⟩, 45), (⟨"PageScribeModel", "frame", "(IJ)V"⟩, 45), (⟨"PageScribeModel", "again", "()I"⟩, 45), (⟨"PageScribeModel", "control", "(I)I"⟩, 45), (⟨"PageScribeModel", "exit", "()I"⟩, 45), (⟨"PageScribeModel", "leave", "()V"⟩, 45), (⟨"PageScribeModel", "save", "()I"⟩, 45), (⟨"PageScribeModel", "copyAll", "(II)V"⟩, 45), (⟨"PageScribeModel", "restore", "()I"⟩, 45), (⟨"PageScribeModel", "isNewer", "(IJI)Z"⟩, 45), (⟨"PageScribeModel", "paint", "(I)I"⟩, 45), (⟨"PageScribeModel", "point", "(DDI)I"⟩, 45), (⟨"PageScribeModel", "cover", "(IZ)V"⟩, 45), (⟨"PageScribeModel", "caught", "(I)I"⟩, 45), (⟨"PageScribeModel", "advance", "()I"⟩, 45)]
theorem lw_r9 : ∀ q ∈ lw_privs_9, lw_okq q := List.forall_mem_cons.mpr ⟨lw_p128, List.forall_mem_cons.mpr ⟨lw_p129, List.forall_mem_cons.mpr ⟨lw_p130, List.forall_mem_cons.mpr ⟨lw_p131, List.forall_mem_cons.mpr ⟨lw_p132, List.forall_mem_cons.mpr ⟨lw_p133, List.forall_mem_cons.mpr ⟨lw_p134, List.forall_mem_cons.mpr ⟨lw_p135, List.forall_mem_cons.mpr ⟨lw_p136, List.forall_mem_cons.mpr ⟨lw_p137, List.forall_mem_cons.mpr ⟨lw_p138, List.forall_mem_cons.mpr ⟨lw_p139, List.forall_mem_cons.mpr ⟨lw_p140, List.forall_mem_cons.mpr ⟨lw_p141, List.forall_mem_cons.mpr ⟨lw_p142, fun _ h => absurd h List.not_mem_nil⟩⟩⟩⟩⟩⟩⟩⟩⟩⟩⟩⟩⟩⟩⟩
def lw_privs : List (MethodName × Nat) := lw_privs_1 ++ (lw_privs_2 ++ (lw_privs_3 ++ (lw_privs_4 ++ (lw_privs_5 ++ (lw_privs_6 ++ (lw_privs_7 ++ (lw_privs_8 ++ (lw_privs_9))))))))
def lw_tbl : List Cond := k2_sels lw_privs ++ tables_1
theorem lw_privs_ok : ∀ q ∈ lw_privs, lw_okq q := by
  show ∀ q ∈ lw_privs_1 ++ (lw_privs_2 ++ (lw_privs_3 ++ (lw_privs_4 ++ (lw_privs_5 ++ (lw_privs_6 ++ (lw_privs_7 ++ (lw_privs_8 ++ (lw_privs_9)))))))), lw_okq q
  exact List.forall_mem_append.mpr ⟨lw_r1, List.forall_mem_append.mpr ⟨lw_r2, List.forall_mem_append.mpr ⟨lw_r3, List.forall_mem_append.mpr ⟨lw_r4, List.forall_mem_append.mpr ⟨lw_r5, List.forall_mem_append.mpr ⟨lw_r6, List.forall_mem_append.mpr ⟨lw_r7, List.forall_mem_append.mpr ⟨lw_r8, lw_r9⟩⟩⟩⟩⟩⟩⟩⟩
end
section
def F_Stack : u_T := fun k => match k with
  | 0 => ("PageScribe$Row", "kinds", "[I", true)
  | 1 => ("PageScribe$Row", "numbers", "[I", true)
  | 2 => ("PageScribe$Row", "reals", "[D", true)
  | _ => ("PageScribe$Row", "size", "I", false)
def t_Stack : Nat → FieldType := fun k => match k with
  | 0 => .array .int
  | 1 => .array .int
  | 2 => .array .double
  | _ => .int
def F_Words : u_T := fun k => match k with
  | 0 => ("PageScribe$Words", "letters", "[C", true)
  | 1 => ("PageScribe$Words", "lengths", "[I", true)
  | _ => ("PageScribe$Words", "count", "I", false)
def t_Words : Nat → FieldType := fun k => match k with
  | 0 => .array .char
  | 1 => .array .int
  | _ => .int
def F_Memory : u_T := fun k => match k with
  | 0 => ("PageScribe$Memory", "stack", "LPageScribe$Stack;", true)
  | 1 => ("PageScribe$Memory", "store", "LPageScribe$Store;", true)
  | 2 => ("PageScribe$Memory", "scopes", "[I", true)
  | 3 => ("PageScribe$Memory", "scopeCount", "I", false)
  | 4 => ("PageScribe$Memory", "kept", "[LPageScribe$Store;", true)
  | 5 => ("PageScribe$Memory", "keptNumbers", "[I", true)
  | 6 => ("PageScribe$Memory", "openSaves", "I", false)
  | _ => ("PageScribe$Memory", "savesMade", "I", false)
def t_Memory : Nat → FieldType := fun k => match k with
  | 0 => .object "PageScribe$Stack"
  | 1 => .object "PageScribe$Store"
  | 2 => .array .int
  | 3 => .int
  | 4 => .array (.object "PageScribe$Store")
  | 5 => .array .int
  | 6 => .int
  | _ => .int
def F_Store : u_T := fun k => match k with
  | 0 => ("PageScribe$Store", "cells", "LPageScribe$Row;", true)
  | 1 => ("PageScribe$Store", "rooms", "[I", true)
  | 2 => ("PageScribe$Store", "counts", "[I", true)
  | 3 => ("PageScribe$Store", "names", "[I", true)
  | _ => ("PageScribe$Store", "values", "LPageScribe$Row;", true)
def t_Store : Nat → FieldType := fun k => match k with
  | 0 => .object "PageScribe$Row"
  | 1 => .array .int
  | 2 => .array .int
  | 3 => .array .int
  | _ => .object "PageScribe$Row"
def F_Row : u_T := fun k => match k with
  | 0 => ("PageScribe$Row", "kinds", "[I", true)
  | 1 => ("PageScribe$Row", "numbers", "[I", true)
  | 2 => ("PageScribe$Row", "reals", "[D", true)
  | _ => ("PageScribe$Row", "size", "I", false)
def t_Row : Nat → FieldType := fun k => match k with
  | 0 => .array .int
  | 1 => .array .int
  | 2 => .array .double
  | _ => .int
def F_Reader : u_T := fun k => match k with
  | 0 => ("PageScribe$Reader", "words", "LPageScribe$Words;", true)
  | 1 => ("PageScribe$Reader", "store", "LPageScribe$Store;", true)
  | 2 => ("PageScribe$Reader", "text", "[C", true)
  | 3 => ("PageScribe$Reader", "length", "I", false)
  | 4 => ("PageScribe$Reader", "place", "I", false)
  | 5 => ("PageScribe$Reader", "tokenKind", "I", false)
  | 6 => ("PageScribe$Reader", "tokenNumber", "I", false)
  | 7 => ("PageScribe$Reader", "tokenReal", "D", false)
  | 8 => ("PageScribe$Reader", "gathered", "LPageScribe$Row;", true)
  | _ => ("PageScribe$Reader", "begins", "[I", true)
def t_Reader : Nat → FieldType := fun k => match k with
  | 0 => .object "PageScribe$Words"
  | 1 => .object "PageScribe$Store"
  | 2 => .array .char
  | 3 => .int
  | 4 => .int
  | 5 => .int
  | 6 => .int
  | 7 => .double
  | 8 => .object "PageScribe$Row"
  | _ => .array .int
def F_Canvas : u_T := fun k => match k with
  | 0 => ("PageScribe$Canvas", "stack", "LPageScribe$Stack;", true)
  | 1 => ("PageScribe$Canvas", "columns", "I", true)
  | 2 => ("PageScribe$Canvas", "rows", "I", true)
  | 3 => ("PageScribe$Canvas", "levels", "[I", true)
  | 4 => ("PageScribe$Canvas", "gray", "F", false)
  | 5 => ("PageScribe$Canvas", "across", "[D", true)
  | 6 => ("PageScribe$Canvas", "along", "[D", true)
  | 7 => ("PageScribe$Canvas", "begins", "[I", true)
  | _ => ("PageScribe$Canvas", "points", "I", false)
def t_Canvas : Nat → FieldType := fun k => match k with
  | 0 => .object "PageScribe$Stack"
  | 1 => .int
  | 2 => .int
  | 3 => .array .int
  | 4 => .float
  | 5 => .array .double
  | 6 => .array .double
  | 7 => .array .int
  | _ => .int
def F_Engine : u_T := fun k => match k with
  | 0 => ("PageScribe$Engine", "stack", "LPageScribe$Stack;", true)
  | 1 => ("PageScribe$Engine", "memory", "LPageScribe$Memory;", true)
  | 2 => ("PageScribe$Engine", "canvas", "LPageScribe$Canvas;", true)
  | 3 => ("PageScribe$Engine", "sums", "LPageScribe$Sums;", true)
  | 4 => ("PageScribe$Engine", "truths", "LPageScribe$Truths;", true)
  | 5 => ("PageScribe$Engine", "fuelGiven", "I", false)
  | 6 => ("PageScribe$Engine", "stepsDone", "I", false)
  | 7 => ("PageScribe$Engine", "latestFault", "I", false)
  | 8 => ("PageScribe$Engine", "underWay", "I", false)
  | 9 => ("PageScribe$Engine", "reach", "I", false)
  | _ => ("PageScribe$Engine", "loops", "I", false)
def t_Engine : Nat → FieldType := fun k => match k with
  | 0 => .object "PageScribe$Stack"
  | 1 => .object "PageScribe$Memory"
  | 2 => .object "PageScribe$Canvas"
  | 3 => .object "PageScribe$Sums"
  | 4 => .object "PageScribe$Truths"
  | 5 => .int
  | 6 => .int
  | 7 => .int
  | 8 => .int
  | 9 => .int
  | _ => .int
def F_Sums : u_T := fun k => match k with
  | _ => ("PageScribe$Sums", "stack", "LPageScribe$Stack;", true)
def t_Sums : Nat → FieldType := fun k => match k with
  | _ => .object "PageScribe$Stack"
def F_Truths : u_T := fun k => match k with
  | _ => ("PageScribe$Truths", "stack", "LPageScribe$Stack;", true)
def t_Truths : Nat → FieldType := fun k => match k with
  | _ => .object "PageScribe$Stack"
def F_Ps : u_T := fun k => match k with
  | 0 => ("PageScribe", "stack", "LPageScribe$Stack;", true)
  | 1 => ("PageScribe", "words", "LPageScribe$Words;", true)
  | 2 => ("PageScribe", "memory", "LPageScribe$Memory;", true)
  | 3 => ("PageScribe", "reader", "LPageScribe$Reader;", true)
  | 4 => ("PageScribe", "canvas", "LPageScribe$Canvas;", true)
  | _ => ("PageScribe", "engine", "LPageScribe$Engine;", true)
def t_Ps : Nat → FieldType := fun k => match k with
  | 0 => .object "PageScribe$Stack"
  | 1 => .object "PageScribe$Words"
  | 2 => .object "PageScribe$Memory"
  | 3 => .object "PageScribe$Reader"
  | 4 => .object "PageScribe$Canvas"
  | _ => .object "PageScribe$Engine"
def F_Mo : u_T := fun k => match k with
  | 0 => ("PageScribeModel", "thrown", "I", false)
  | 1 => ("PageScribeModel", "kinds", "[I", true)
  | 2 => ("PageScribeModel", "codes", "[J", true)
  | 3 => ("PageScribeModel", "reals", "[D", true)
  | 4 => ("PageScribeModel", "size", "I", false)
  | 5 => ("PageScribeModel", "taken", "I", false)
  | 6 => ("PageScribeModel", "words", "[J", true)
  | 7 => ("PageScribeModel", "many", "[I", true)
  | 8 => ("PageScribeModel", "room", "[I", true)
  | 9 => ("PageScribeModel", "dicts", "[I", true)
  | 10 => ("PageScribeModel", "deep", "I", false)
  | 11 => ("PageScribeModel", "saves", "I", false)
  | 12 => ("PageScribeModel", "open", "I", false)
  | 13 => ("PageScribeModel", "numbers", "[I", true)
  | 14 => ("PageScribeModel", "cells", "[I", true)
  | 15 => ("PageScribeModel", "frames", "I", false)
  | 16 => ("PageScribeModel", "under", "I", false)
  | 17 => ("PageScribeModel", "what", "[I", true)
  | 18 => ("PageScribeModel", "array", "[J", true)
  | 19 => ("PageScribeModel", "far", "[I", true)
  | 20 => ("PageScribeModel", "value", "[J", true)
  | 21 => ("PageScribeModel", "grows", "[J", true)
  | 22 => ("PageScribeModel", "last", "[J", true)
  | 23 => ("PageScribeModel", "text", "[C", true)
  | 24 => ("PageScribeModel", "length", "I", false)
  | 25 => ("PageScribeModel", "at", "I", false)
  | 26 => ("PageScribeModel", "pending", "I", false)
  | 27 => ("PageScribeModel", "level", "I", false)
  | 28 => ("PageScribeModel", "starts", "[I", true)
  | 29 => ("PageScribeModel", "known", "[J", true)
  | 30 => ("PageScribeModel", "knows", "I", false)
  | 31 => ("PageScribeModel", "fuel", "I", false)
  | 32 => ("PageScribeModel", "steps", "I", false)
  | 33 => ("PageScribeModel", "failure", "I", false)
  | 34 => ("PageScribeModel", "columns", "I", true)
  | 35 => ("PageScribeModel", "rows", "I", true)
  | 36 => ("PageScribeModel", "pixels", "[I", true)
  | 37 => ("PageScribeModel", "gray", "F", false)
  | 38 => ("PageScribeModel", "across", "[D", true)
  | 39 => ("PageScribeModel", "along", "[D", true)
  | 40 => ("PageScribeModel", "part", "[I", true)
  | 41 => ("PageScribeModel", "points", "I", false)
  | 42 => ("PageScribeModel", "patterns", "[I", true)
  | 43 => ("PageScribeModel", "early", "[J", true)
  | _ => ("PageScribeModel", "late", "[J", true)
def t_Mo : Nat → FieldType := fun k => match k with
  | 0 => .int
  | 1 => .array .int
  | 2 => .array .long
  | 3 => .array .double
  | 4 => .int
  | 5 => .int
  | 6 => .array .long
  | 7 => .array .int
  | 8 => .array .int
  | 9 => .array .int
  | 10 => .int
  | 11 => .int
  | 12 => .int
  | 13 => .array .int
  | 14 => .array .int
  | 15 => .int
  | 16 => .int
  | 17 => .array .int
  | 18 => .array .long
  | 19 => .array .int
  | 20 => .array .long
  | 21 => .array .long
  | 22 => .array .long
  | 23 => .array .char
  | 24 => .int
  | 25 => .int
  | 26 => .int
  | 27 => .int
  | 28 => .array .int
  | 29 => .array .long
  | 30 => .int
  | 31 => .int
  | 32 => .int
  | 33 => .int
  | 34 => .int
  | 35 => .int
  | 36 => .array .int
  | 37 => .float
  | 38 => .array .double
  | 39 => .array .double
  | 40 => .array .int
  | 41 => .int
  | 42 => .array .int
  | 43 => .array .long
  | _ => .array .long
abbrev classes : List vw_C := [("PageScribe$Stack", F_Stack, 4), ("PageScribe$Words", F_Words, 3), ("PageScribe$Memory", F_Memory, 8), ("PageScribe$Store", F_Store, 5), ("PageScribe$Row", F_Row, 4), ("PageScribe$Reader", F_Reader, 10), ("PageScribe$Canvas", F_Canvas, 9), ("PageScribe$Engine", F_Engine, 11), ("PageScribe$Sums", F_Sums, 1), ("PageScribe$Truths", F_Truths, 1), ("PageScribe", F_Ps, 6), ("PageScribeModel", F_Mo, 45)]
end
section
/-! THE FRAME: words of the tables, worlds, calls: own rows -/
def gw : List Cond := lw_tbl.filter goodWord
theorem gw_of {w : Cond} (h : w ∈ lw_tbl) (g : goodWord w = true) : w ∈ gw := List.mem_filter.mpr ⟨h, g⟩
theorem gw_in {w : Cond} (h : w ∈ gw) : w ∈ lw_tbl ∧ ((w.onTables && w.keeps) = true ∨ ∃ ty, w = .arrayClass ty) := ⟨(List.mem_filter.mp h).1, good_of_word (List.mem_filter.mp h).2⟩
theorem tb_1 {w : Cond} (h : w ∈ tables_1_1) : w ∈ lw_tbl := List.mem_append_right _ (List.mem_append_left _ h)
theorem tb_2 {w : Cond} (h : w ∈ tables_1_2) : w ∈ lw_tbl := List.mem_append_right _ (List.mem_append_right _ (List.mem_append_left _ h))
theorem tb_3 {w : Cond} (h : w ∈ tables_1_3) : w ∈ lw_tbl := List.mem_append_right _ (List.mem_append_right _ (List.mem_append_right _ (List.mem_append_left _ h)))
theorem tb_4 {w : Cond} (h : w ∈ tables_1_4) : w ∈ lw_tbl := List.mem_append_right _ (List.mem_append_right _ (List.mem_append_right _ (List.mem_append_right _ (List.mem_append_left _ h))))
theorem tb_5 {w : Cond} (h : w ∈ tables_1_5) : w ∈ lw_tbl := List.mem_append_right _ (List.mem_append_right _ (List.mem_append_right _ (List.mem_append_right _ (List.mem_append_right _ (List.mem_append_left _ h)))))
theorem tb_6 {w : Cond} (h : w ∈ tables_1_6) : w ∈ lw_tbl := List.mem_append_right _ (List.mem_append_right _ (List.mem_append_right _ (List.mem_append_right _ (List.mem_append_right _ (List.mem_append_right _ (List.mem_append_left _ h))))))
theorem tb_7 {w : Cond} (h : w ∈ tables_1_7) : w ∈ lw_tbl := List.mem_append_right _ (List.mem_append_right _ (List.mem_append_right _ (List.mem_append_right _ (List.mem_append_right _ (List.mem_append_right _ (List.mem_append_right _ (List.mem_append_left _ h)))))))
theorem tb_8 {w : Cond} (h : w ∈ tables_1_8) : w ∈ lw_tbl := List.mem_append_right _ (List.mem_append_right _ (List.mem_append_right _ (List.mem_append_right _ (List.mem_append_right _ (List.mem_append_right _ (List.mem_append_right _ (List.mem_append_right _ (List.mem_append_left _ h))))))))
theorem tb_9 {w : Cond} (h : w ∈ tables_1_9) : w ∈ lw_tbl := List.mem_append_right _ (List.mem_append_right _ (List.mem_append_right _ (List.mem_append_right _ (List.mem_append_right _ (List.mem_append_right _ (List.mem_append_right _ (List.mem_append_right _ (List.mem_append_right _ h))))))))
/-- a selects word of a private method stands ahead of the tables -/
theorem tb_0 {w : Cond} (h : w ∈ k2_sels lw_privs) : w ∈ lw_tbl := List.mem_append_left _ h
/-- a method's words: its own code, and the good words -/
def wy (y : MethodName) (b : ByteArray) (n : Nat) (ret : Option FieldType) : List Cond := Cond.code y b n ret :: gw
theorem wy_pay {s : State} {args : Array Value} (hts : ∀ w ∈ gw, w.before args s = true) {y : MethodName} {b : ByteArray} {n : Nat} {ret : Option FieldType} (hc : Cond.code y b n ret ∈ gw) : ∀ w ∈ wy y b n ret, ∀ (a' : Array Value) (U : State), s.WarmedH U.vm → w.before a' U = true := by
  intro w hw a' U hW
  have h : w ∈ gw := by
    rcases List.mem_cons.mp hw with rfl | h
    · exact hc
    · exact h
  exact word_at hW (gw_in h).2 (hts w h)
def TY (T : Nat → ClassId) : List (ClassId × FieldType) := [(T 0, .int), (T 1, .long), (T 2, .char), (T 3, .double), (T 4, .object "PageScribe$Store")]
/-- a method's start: its cells, the heap's size, and what else it asks -/
abbrev Pw (D : va_G) (T : Nat → ClassId) (ws : va_W) (sz : Nat) (E : State → Prop) : State → Prop := fun U => U.heap.size = sz ∧ va_P D classes ws U.heap ∧ va_K D classes (TY T) U ∧ va_D (fun _ => True) ws ∧ E U
/-- the cells behind a method -/
abbrev Bw (D : va_G) (T : Nat → ClassId) (A : Nat → Prop) (ws : va_W) (t : State) : Prop := va_P D classes ws t.heap ∧ va_K D classes (TY T) t ∧ va_D A ws
abbrev E0 : State → Prop := fun _ => True
theorem j_met {l : Launch} {y : MethodName} {b : ByteArray} {n : Nat} {ret : Option FieldType} {rm : Room} {D : va_G} {T : Nat → ClassId} {ws : va_W} {sz : Nat} {E : State → Prop} {av : List Value} {Qc : (Nat → Prop) → Array Value → State → Outcome → State → Prop} {mc ms : Nat}
    (hy : plainName y.cls = true) (hn : (lg_sl av).length ≤ n)
    (body : ∀ (p : Program) (e : Env) (s : State) (m : MethodId) (args : Array Value) (below : List Frame) (meth : Method) (c : Code) (A : Nat → Prop) (ls : Array Slot),
      CallFix p m c b n s args gw y.cls → meth.sig.returnType = ret → meth.locks = false → meth.name = y.name → va_K D classes (TY T) s → va_P D classes ws s.heap → va_D A ws → va_S A s.heap s.heap [] → (∀ q : Nat, s.heap.size ≤ q → A q) → (∀ q : Nat, q < s.heap.size → (∀ (k : Nat) (e : va_E), ¬ ws[k]? = some (q, e)) → ¬ A q) → E s → lv_has ls n (lv_args 0 av) →
      W p l e rm s m args below meth c s.heap [] 0 0 (MQ below (Qc A) args s mc ms A) (F0 m 0 ls [])) :
    Met l y (wy y b n ret) rm (va_Pc av (Pw D T ws sz E)) (Qc (va_A ws sz)) mc ms (va_A ws sz) := by
  refine Met.ofW (cc := b) (maxL := n) (ret := ret) hy rfl ?_
  intro p e s m args below meth c s₁ B hml hv
  obtain ⟨rfl, hsz, hP, hK, hD0, hE⟩ := hv
  have hts := atoms_spec (ws := wy y b n ret) B.pre
  have hown : s.vm.findClass y.cls = some m.cls := findClass_of_methodNamed B.named
  subst hsz
  rw [lg_entry_eq]
  exact body p e s m _ below meth c _ _ ⟨B.exec, B.bytes, hml, hown, fun w h => hts w (List.mem_cons_of_mem _ h)⟩ B.returns B.notSynchronized (name_of_methodNamed B.named B.method).1 hK hP (hD0.self (sz := s.heap.size)) va_S.rf (fun q h => Or.inr h)
    (fun q h1 h2 h3 => by
      rcases h3 with ⟨k, e, h⟩ | h
      · exact h2 k e h
      · omega) hE (lv_entry av hn)
section JN
variable {p : Program} {l : Launch} {e : Env} {R : Room} {s : State} {m : MethodId} {args : Array Value} {below : List Frame} {meth : Method} {c : Code} {H : Heap} {locs : List Loc} {cells slots nL : Nat} {Q : State → Prop}
variable {cc : ByteArray} {pc : Nat} {ls : Array Slot} {rest st0 : List Value} {A : Nat → Prop} {D : va_G} {T : Nat → ClassId} {own : String} {ws wc wr : va_W} {a : Array Value} {mc ms : Nat}
theorem j_vret {S : Type} {post : S → Prop} {w1 : S → va_W} (F : CallFix p m c cc nL s args gw own) (hr : meth.sig.returnType = none) (hlocks : meth.locks = false) (hK : va_K D classes (TY T) s) (hS : va_S A s.heap H locs) (u : S) (hp : post u) (hP : va_P D classes (w1 u) H) (hD : va_D A (w1 u)) (hdg : decode cc pc = .ok (.return_, 1)) :
    W p l e R s m args below meth c H locs cells slots (MQ below (va_Qv post (fun u t => Bw D T A (w1 u) t) A) args s cells slots A) (F0 m pc ls []) :=
  W.vret F.1 F.2.1 hr (fun t ht hW => ⟨⟨u, rfl, hp, by rw [ht]; exact hP, va_K.moved hW.alike hK, hD⟩, hS.F ht⟩) hS.2.2 hdg
theorem j_iret {S : Type} {post : Int32 → S → Prop} {w1 : S → va_W} {v : Int32} (F : CallFix p m c cc nL s args gw own) (hr : meth.sig.returnType = some .int) (hlocks : meth.locks = false) (hK : va_K D classes (TY T) s) (hS : va_S A s.heap H locs) (u : S) (hp : post v u) (hP : va_P D classes (w1 u) H) (hD : va_D A (w1 u)) (hdg : decode cc pc = .ok (.ireturn, 1)) :
    W p l e R s m args below meth c H locs cells slots (MQ below (va_Qi post (fun u t => Bw D T A (w1 u) t) A) args s cells slots A) (F0 m pc ls [.int v]) :=
  W.iret F.1 F.2.1 hr (fun t ht hW => ⟨⟨v, u, rfl, hp, by rw [ht]; exact hP, va_K.moved hW.alike hK, hD⟩, hS.F ht⟩) hS.2.2 hdg
theorem j_zret {S : Type} {post : Int32 → S → Prop} {w1 : S → va_W} {v : Int32} {ty : FieldType} (F : CallFix p m c cc nL s args gw own) (hr : meth.sig.returnType = some ty) (hn : narrow ty (.int v) = .int v) (hlocks : meth.locks = false) (hK : va_K D classes (TY T) s) (hS : va_S A s.heap H locs) (u : S) (hp : post v u) (hP : va_P D classes (w1 u) H) (hD : va_D A (w1 u)) (hdg : decode cc pc = .ok (.ireturn, 1)) :
    W p l e R s m args below meth c H locs cells slots (MQ below (va_Qi post (fun u t => Bw D T A (w1 u) t) A) args s cells slots A) (F0 m pc ls [.int v]) :=
  W.zret F.1 F.2.1 hr hn (fun t ht hW => ⟨⟨v, u, rfl, hp, by rw [ht]; exact hP, va_K.moved hW.alike hK, hD⟩, hS.F ht⟩) hS.2.2 hdg
/-- the words of a call -/
theorem j_cB {y : MethodName} {b : ByteArray} {n k index : Nat} {ret : Option FieldType} {rm : Room} (hts : ∀ w ∈ gw, w.before args s = true) (hc : Cond.code y b n ret ∈ gw) (hi : Cond.initialized y.cls ∈ gw) (hl : Cond.methodLink own index y ∈ gw)
    (hd : y.cls ≠ "java/lang/invoke/MethodHandle" ∧ y.cls ≠ "java/lang/invoke/VarHandle" ∧ (parseMethodDescriptor y.desc).map (fun d => d.parameters.length) = some k) (hR : rm.frames + 1 ≤ R.frames ∧ 8 + (n + 11) + rm.locals ≤ R.locals) :
    CallB R s args own index y b n ret (wy y b n ret) rm rm.cells rm.slots k := by
  refine ⟨rfl, rfl, hR.1, hR.2, wy_pay hts hc, List.mem_cons_self, hts _ hc, hts _ hi, ⟨hd.1, hd.2.1⟩, fun sig h => ?_, hts _ hl⟩
  have h2 := hd.2.2
  rw [h] at h2
  exact (Option.some.inj h2).symm
theorem j_cV {C : String} {y : MethodName} {b : ByteArray} {n k index : Nat} {ret : Option FieldType} {rm : Room} (hts : ∀ w ∈ gw, w.before args s = true) (hc : Cond.code y b n ret ∈ gw) (hi : Cond.initialized y.cls ∈ gw) (hl : Cond.methodLink own index y ∈ gw) (him : Cond.instanceMethod y ∈ gw) (hse : Cond.selects C y y ∈ gw)
    (hd : y.cls ≠ "java/lang/invoke/MethodHandle" ∧ y.cls ≠ "java/lang/invoke/VarHandle" ∧ (parseMethodDescriptor y.desc).map (fun d => d.parameters.length) = some k) (hR : rm.frames + 1 ≤ R.frames ∧ 8 + (n + 11) + rm.locals ≤ R.locals) :
    CallW R s args own C index y b n ret (wy y b n ret) rm rm.cells rm.slots k := ⟨j_cB hts hc hi hl hd hR, hts _ him, hts _ hse⟩
theorem j_cI {y : MethodName} {b : ByteArray} {n k index : Nat} {rm : Room} (hts : ∀ w ∈ gw, w.before args s = true) (hc : Cond.code y b n none ∈ gw) (hi : Cond.initialized y.cls ∈ gw) (hl : Cond.methodLink own index y ∈ gw) (him : Cond.instanceMethod y ∈ gw) (hy1 : y.name = "<init>")
    (hd : y.cls ≠ "java/lang/invoke/MethodHandle" ∧ y.cls ≠ "java/lang/invoke/VarHandle" ∧ (parseMethodDescriptor y.desc).map (fun d => d.parameters.length) = some k) (hR : rm.frames + 1 ≤ R.frames ∧ 8 + (n + 11) + rm.locals ≤ R.locals) :
    CallB R s args own index y b n none (wy y b n none) rm rm.cells rm.slots k ∧ y.name = "<init>" ∧ (Cond.instanceMethod y).before args s = true := ⟨j_cB hts hc hi hl hd hR, hy1, hts _ him⟩
theorem j_cS {y : MethodName} {b : ByteArray} {n k index : Nat} {ret : Option FieldType} {rm : Room} (hts : ∀ w ∈ gw, w.before args s = true) (hc : Cond.code y b n ret ∈ gw) (hi : Cond.initialized y.cls ∈ gw) (hl : Cond.methodLink own index y ∈ gw) (hst : Cond.static y ∈ gw)
    (hd : y.cls ≠ "java/lang/invoke/MethodHandle" ∧ y.cls ≠ "java/lang/invoke/VarHandle" ∧ (parseMethodDescriptor y.desc).map (fun d => d.parameters.length) = some k) (hR : rm.frames + 1 ≤ R.frames ∧ 8 + (n + 11) + rm.locals ≤ R.locals) :
    CallB R s args own index y b n ret (wy y b n ret) rm rm.cells rm.slots k ∧ (Cond.static y).before args s = true := ⟨j_cB hts hc hi hl hd hR, hts _ hst⟩
/-- a private constructor of a nest mate -/
theorem j_cIN {host : String} {y : MethodName} {b : ByteArray} {n k index : Nat} {rm : Room} (hts : ∀ w ∈ gw, w.before args s = true) (hc : Cond.code y b n none ∈ gw) (hi : Cond.initialized y.cls ∈ gw) (hl : va_Nw (.methodLinkNest own index y host) s) (him : Cond.instanceMethod y ∈ gw) (hy1 : y.name = "<init>")
    (hd : y.cls ≠ "java/lang/invoke/MethodHandle" ∧ y.cls ≠ "java/lang/invoke/VarHandle" ∧ (parseMethodDescriptor y.desc).map (fun d => d.parameters.length) = some k) (hR : rm.frames + 1 ≤ R.frames ∧ 8 + (n + 11) + rm.locals ≤ R.locals) :
    va_CN R s args own index y host b n none (wy y b n none) rm rm.cells rm.slots k ∧ y.name = "<init>" ∧ (Cond.instanceMethod y).before args s = true := by
  refine ⟨⟨⟨rfl, rfl, hR.1, hR.2, wy_pay hts hc, List.mem_cons_self⟩, hts _ hc, hts _ hi, ⟨hd.1, hd.2.1⟩, fun sig h => ?_, va_Nw.use rfl hl⟩, hy1, hts _ him⟩
  have h2 := hd.2.2
  rw [h] at h2
  exact (Option.some.inj h2).symm
/-- a start's premise does not see the frames -/
theorem j_blind {av : List Value} {sz : Nat} {E : State → Prop} (hE : ∀ (U : State) (g : JFrame) (mk : MethodId) (a : Array Value), E U → E (U.calling g mk a)) : FrameBlind (va_Pc av (Pw D T ws sz E)) :=
  fun a U g mk q => ⟨q.1, q.2.1, q.2.2.1, va_K.moved (u := U) (U := U.calling g mk a) (Vm.Alike.refl U.vm) q.2.2.2.1, q.2.2.2.2.1, hE U g mk a q.2.2.2.2.2⟩
/-- the start's premise at a call: the callee's cells cut out of the caller's -/
theorem j_preS {av : List Value} {E : State → Prop} (hK : va_K D classes (TY T) s) (hP : va_P D classes ws H) (hD : va_D A ws) (isC : List Nat) (hC : isC.map (fun i => ws[i]?) = wc.map some) (hn : va_nd isC = true)
    (hEb : ∀ (U : State) (g : JFrame) (mk : MethodId) (a : Array Value), E U → E (U.calling g mk a)) (hE : ∀ U : State, U.heap = H → s.WarmedH U.vm → E U) : PreS s H (va_Pc av (Pw D T wc H.size E)) av := by
  refine ⟨j_blind hEb, fun U hU hW => ⟨rfl, by rw [hU], ?_, va_K.moved hW.alike hK, (hD.sub isC hn hC).weaken (fun _ _ _ _ => trivial), hE U hU hW⟩⟩
  rw [hU]
  refine hP.sub isC ?_
  have h : isC.filterMap (fun i => ws[i]?) = (isC.map (fun i => ws[i]?)).filterMap id := by rw [List.filterMap_map]; rfl
  rw [h, hC, List.filterMap_map]
  simp
theorem j_preV {b q0 ci : Nat} {q : vw_C} {fs av : List Value} {E : State → Prop} (hK : va_K D classes (TY T) s) (hP : va_P D classes ws H) (hD : va_D A ws) (isC : List Nat) (hC : isC.map (fun i => ws[i]?) = wc.map some) (hn : va_nd isC = true)
    (hc : classes[ci]? = some q) (he : ws[q0]? = some (b, .inr (ci, fs)))
    (hEb : ∀ (U : State) (g : JFrame) (mk : MethodId) (a : Array Value), E U → E (U.calling g mk a)) (hE : ∀ U : State, U.heap = H → s.WarmedH U.vm → E U) : PreV s H q.1 b (va_Pc (.ref b :: av) (Pw D T wc H.size E)) av :=
  ⟨(j_preS (av := .ref b :: av) hK hP hD isC hC hn hEb hE).1, va_recv hK hP hc he, (j_preS (av := .ref b :: av) hK hP hD isC hC hn hEb hE).2⟩
theorem j_ci {S : Type} {post : Int32 → S → Prop} {w1 : S → va_W} (hK : va_K D classes (TY T) s) (hP : va_P D classes ws H) (hD : va_D A ws) (hS : va_S A s.heap H locs) (hA : ∀ q : Nat, s.heap.size ≤ q → A q) (isC isR : List Nat) (hC : isC.map (fun i => ws[i]?) = wc.map some) (hR : isR.map (fun i => ws[i]?) = wr.map some) (hn : va_nd isR = true) (hdis : ∀ i ∈ isR, i ∉ isC)
    (hr : va_Run p l e R s m args below meth c H locs cells slots mc ms (F0 m pc ls st0) rest (va_Qi post (fun u t => Bw D T (va_A wc H.size) (w1 u) t) (va_A wc H.size) a) (va_A wc H.size))
    (kk : ∀ (r : Int32) (u : S) (H1 : Heap) (locs1 : List Loc), post r u → va_P D classes (wr ++ w1 u) H1 → va_D A (wr ++ w1 u) → va_S A s.heap H1 locs1 → W p l e R s m args below meth c H1 locs1 (cells + mc) (slots + ms) Q (F0 m (pc + 3) ls (.int r :: rest))) : W p l e R s m args below meth c H locs cells slots Q (F0 m pc ls st0) := by
  have hF := va_free hD hS hA isC hC
  refine va_calli hr hS (fun q _ h => hF q h) hF (fun r u t H1 locs1 ht hvm hp hB hz hk hS1 => ?_)
  obtain ⟨b1, b2, b3⟩ := hB
  rw [ht] at b1
  obtain ⟨hP1, hD1⟩ := va_join hP hD isC isR hC hR hn hdis hk hF b1 b3
  exact kk r u H1 locs1 hp hP1 hD1 hS1
theorem j_cv {S : Type} {post : S → Prop} {w1 : S → va_W} (hK : va_K D classes (TY T) s) (hP : va_P D classes ws H) (hD : va_D A ws) (hS : va_S A s.heap H locs) (hA : ∀ q : Nat, s.heap.size ≤ q → A q) (isC isR : List Nat) (hC : isC.map (fun i => ws[i]?) = wc.map some) (hR : isR.map (fun i => ws[i]?) = wr.map some) (hn : va_nd isR = true) (hdis : ∀ i ∈ isR, i ∉ isC)
    (hr : va_Run p l e R s m args below meth c H locs cells slots mc ms (F0 m pc ls st0) rest (va_Qv post (fun u t => Bw D T (va_A wc H.size) (w1 u) t) (va_A wc H.size) a) (va_A wc H.size))
    (kk : ∀ (u : S) (H1 : Heap) (locs1 : List Loc), post u → va_P D classes (wr ++ w1 u) H1 → va_D A (wr ++ w1 u) → va_S A s.heap H1 locs1 → W p l e R s m args below meth c H1 locs1 (cells + mc) (slots + ms) Q (F0 m (pc + 3) ls rest)) : W p l e R s m args below meth c H locs cells slots Q (F0 m pc ls st0) := by
  have hF := va_free hD hS hA isC hC
  refine va_callv hr hS (fun q _ h => hF q h) hF (fun u t H1 locs1 ht hvm hp hB hz hk hS1 => ?_)
  obtain ⟨b1, b2, b3⟩ := hB
  rw [ht] at b1
  obtain ⟨hP1, hD1⟩ := va_join hP hD isC isR hC hR hn hdis hk hF b1 b3
  exact kk u H1 locs1 hp hP1 hD1 hS1
theorem j_cd {S : Type} {post : UInt64 → S → Prop} {w1 : S → va_W} (hK : va_K D classes (TY T) s) (hP : va_P D classes ws H) (hD : va_D A ws) (hS : va_S A s.heap H locs) (hA : ∀ q : Nat, s.heap.size ≤ q → A q) (isC isR : List Nat) (hC : isC.map (fun i => ws[i]?) = wc.map some) (hR : isR.map (fun i => ws[i]?) = wr.map some) (hn : va_nd isR = true) (hdis : ∀ i ∈ isR, i ∉ isC)
    (hr : va_Run p l e R s m args below meth c H locs cells slots mc ms (F0 m pc ls st0) rest (va_Qd post (fun u t => Bw D T (va_A wc H.size) (w1 u) t) (va_A wc H.size) a) (va_A wc H.size))
    (kk : ∀ (r : UInt64) (u : S) (H1 : Heap) (locs1 : List Loc), post r u → va_P D classes (wr ++ w1 u) H1 → va_D A (wr ++ w1 u) → va_S A s.heap H1 locs1 → W p l e R s m args below meth c H1 locs1 (cells + mc) (slots + ms) Q (F0 m (pc + 3) ls (.double r :: rest))) : W p l e R s m args below meth c H locs cells slots Q (F0 m pc ls st0) := by
  have hF := va_free hD hS hA isC hC
  refine va_calld hr hS (fun q _ h => hF q h) hF (fun r u t H1 locs1 ht hvm hp hB hz hk hS1 => ?_)
  obtain ⟨b1, b2, b3⟩ := hB
  rw [ht] at b1
  obtain ⟨hP1, hD1⟩ := va_join hP hD isC isR hC hR hn hdis hk hF b1 b3
  exact kk r u H1 locs1 hp hP1 hD1 hS1
/-- Object.<init> -/
theorem j_obj {a : Addr} {idx : Nat} (F : CallFix p m c cc nL s args gw own) (hlen : ls.size = nL) (hl : Cond.methodLink own idx Lib.objectInit ∈ gw) (h1 : Cond.instanceMethod Lib.objectInit ∈ gw) (h2 : Cond.code Lib.objectInit ⟨#[0xb1]⟩ 1 none ∈ gw) (hd : decode cc pc = .ok (.invokespecial idx, 3)) (hf : 1 ≤ R.frames) (hlo : (rest.map fun v => v.category).sum + 12 ≤ R.locals)
    (kk : W p l e R s m args below meth c H locs cells slots Q (F0 m (pc + 3) ls rest)) : W p l e R s m args below meth c H locs cells slots Q (F0 m pc ls (.ref a :: rest)) := by
  refine W.objInit F.1 F.2.1 F.2.2.2.1 (F.2.2.2.2 _ hl) (F.2.2.2.2 _ h1) (F.2.2.2.2 _ h2) rfl (by rw [F.2.2.1]; exact hlen) rfl hd hf (by simpa [JFrame.monitorRoom] using hlo) ?_
  exact W.eq (g2 := F0 m (pc + 3) ls rest) rfl kk
/-- two array classes of one type are one -/
theorem j_cls {cA cB : ClassId} {ty : FieldType} (h1 : va_RA s cA ty) (h2 : va_RA s cB ty) : cA = cB := by
  cases ty with
  | object C =>
    obtain ⟨kA, comp, a1, a2, a3, a4⟩ := h1
    obtain ⟨kB, comp', b1, b2, b3, b4⟩ := h2
    exact Option.some.inj (a4.symm.trans b4)
  | _ => exact Option.some.inj (Eq.trans (Eq.symm h1) h2)
/-- newarray, of the world's own array classes -/
theorem j_newa {atype : ArrayType} {ty : FieldType} (F : CallFix p m c cc nL s args gw own) (harr : Cond.arrayClass (newarray.typeOf atype) ∈ gw) (hty : newarray.typeOf atype = ty) (hK : va_K D classes (TY T) s) (hP : va_P D classes ws H) (hD : va_D A ws) (hS : va_S A s.heap H locs) (hA : ∀ q : Nat, s.heap.size ≤ q → A q) (t0 : Nat) (cI : ClassId) (ht : (TY T)[t0]? = some (cI, ty))
    {n : Int32} {N' : Nat} (a0 : vp_A) (ha : ∀ cA : ClassId, vp_cell cA a0 = arrV cA N' (fun _ => defaultValue ty)) (hn : ¬ n < 0) (hN : n.toNatClampNeg = N') (hbytes : N' * componentBytes ty ≤ 536870912) (hcells : cells + 1 ≤ R.cells) (hslots : slots + N' ≤ R.slots) (hdg : decode cc pc = .ok (.newarray atype, 2))
    (kk : ∀ (q : Nat) (H1 : Heap), va_P D classes (ws ++ [(q, .inl (cI, a0))]) H1 → va_D A (ws ++ [(q, .inl (cI, a0))]) → va_S A s.heap H1 locs →
      W p l e R s m args below meth c H1 locs (cells + 1) (slots + N') Q (F0 m (pc + 2) ls (.ref q :: rest))) : W p l e R s m args below meth c H locs cells slots Q (F0 m pc ls (.int n :: rest)) := by
  refine va_newa F.1 F.2.1 (F.2.2.2.2 _ harr) hty hK hP hD hS hA ha hn hN hbytes hcells hslots hdg (fun q cA H1 hK1 hP1 hD1 hS1 => ?_)
  have e : cA = cI := j_cls (hK1.2 (TY T).length (cA, ty) (by rw [List.getElem?_append_right (Nat.le_refl _)]; simp)).2 (hK.2 t0 _ ht).2
  subst e
  exact kk q H1 hP1 hD1 hS1
theorem j_eqi {x y : Int32} (h : x = y) (k : W p l e R s m args below meth c H locs cells slots Q (F0 m pc ls (.int y :: rest))) : W p l e R s m args below meth c H locs cells slots Q (F0 m pc ls (.int x :: rest)) := by rw [h]; exact k
/-- stores, the content forgotten -/
theorem j_iast (F : CallFix p m c cc nL s args gw own) (hK : va_K D classes (TY T) s) (hP : va_P D classes ws H) (hD : va_D A ws) (hS : va_S A s.heap H locs) (q0 t0 : Nat) {b : Nat} {cA : ClassId} {n : Nat} {f : Nat → Int32} (ha : ws[q0]? = some (b, .inl (cA, n, .inl f))) (ht : (TY T)[t0]? = some (cA, .int)) {i : Int32} {x : Int32} (hin : vp_in i n) (hdg : decode cc pc = .ok (.iastore, 1))
    (kk : ∀ (g : Nat → Int32) (H1 : Heap) (locs1 : List Loc), va_P D classes (ws.set q0 (b, .inl (cA, n, .inl g))) H1 → va_D A (ws.set q0 (b, .inl (cA, n, .inl g))) → va_S A s.heap H1 locs1 → W p l e R s m args below meth c H1 locs1 cells slots Q (F0 m (pc + 1) ls rest)) : W p l e R s m args below meth c H locs cells slots Q (F0 m pc ls (.int x :: .int i :: .ref b :: rest)) :=
  va_iast F.1 F.2.1 hK hP hD hS q0 t0 ha ht hin hdg (fun H1 locs1 h1 h2 h3 => kk _ H1 locs1 h1 h2 h3)
theorem j_cast (F : CallFix p m c cc nL s args gw own) (hK : va_K D classes (TY T) s) (hP : va_P D classes ws H) (hD : va_D A ws) (hS : va_S A s.heap H locs) (q0 t0 : Nat) {b : Nat} {cA : ClassId} {n : Nat} {f : Nat → Int32} (ha : ws[q0]? = some (b, .inl (cA, n, .inl f))) (ht : (TY T)[t0]? = some (cA, .char)) {i : Int32} {x : Int32} (hin : vp_in i n) (hdg : decode cc pc = .ok (.castore, 1))
    (kk : ∀ (g : Nat → Int32) (H1 : Heap) (locs1 : List Loc), va_P D classes (ws.set q0 (b, .inl (cA, n, .inl g))) H1 → va_D A (ws.set q0 (b, .inl (cA, n, .inl g))) → va_S A s.heap H1 locs1 → W p l e R s m args below meth c H1 locs1 cells slots Q (F0 m (pc + 1) ls rest)) : W p l e R s m args below meth c H locs cells slots Q (F0 m pc ls (.int x :: .int i :: .ref b :: rest)) :=
  va_cast F.1 F.2.1 hK hP hD hS q0 t0 ha ht hin hdg (fun H1 locs1 h1 h2 h3 => kk _ H1 locs1 h1 h2 h3)
theorem j_last (F : CallFix p m c cc nL s args gw own) (hK : va_K D classes (TY T) s) (hP : va_P D classes ws H) (hD : va_D A ws) (hS : va_S A s.heap H locs) (q0 t0 : Nat) {b : Nat} {cA : ClassId} {n : Nat} {f : Nat → Int64} (ha : ws[q0]? = some (b, .inl (cA, n, .inr (.inl f)))) (ht : (TY T)[t0]? = some (cA, .long)) {i : Int32} {x : Int64} (hin : vp_in i n) (hdg : decode cc pc = .ok (.lastore, 1))
    (kk : ∀ (g : Nat → Int64) (H1 : Heap) (locs1 : List Loc), va_P D classes (ws.set q0 (b, .inl (cA, n, .inr (.inl g)))) H1 → va_D A (ws.set q0 (b, .inl (cA, n, .inr (.inl g)))) → va_S A s.heap H1 locs1 → W p l e R s m args below meth c H1 locs1 cells slots Q (F0 m (pc + 1) ls rest)) : W p l e R s m args below meth c H locs cells slots Q (F0 m pc ls (.long x :: .int i :: .ref b :: rest)) :=
  va_last F.1 F.2.1 hK hP hD hS q0 t0 ha ht hin hdg (fun H1 locs1 h1 h2 h3 => kk _ H1 locs1 h1 h2 h3)
theorem j_dast (F : CallFix p m c cc nL s args gw own) (hK : va_K D classes (TY T) s) (hP : va_P D classes ws H) (hD : va_D A ws) (hS : va_S A s.heap H locs) (q0 t0 : Nat) {b : Nat} {cA : ClassId} {n : Nat} {f : Nat → UInt64} (ha : ws[q0]? = some (b, .inl (cA, n, .inr (.inr (.inr (.inl f)))))) (ht : (TY T)[t0]? = some (cA, .double)) {i : Int32} {x : UInt64} (hin : vp_in i n) (hdg : decode cc pc = .ok (.dastore, 1))
    (kk : ∀ (g : Nat → UInt64) (H1 : Heap) (locs1 : List Loc), va_P D classes (ws.set q0 (b, .inl (cA, n, .inr (.inr (.inr (.inl g)))))) H1 → va_D A (ws.set q0 (b, .inl (cA, n, .inr (.inr (.inr (.inl g)))))) → va_S A s.heap H1 locs1 → W p l e R s m args below meth c H1 locs1 cells slots Q (F0 m (pc + 1) ls rest)) : W p l e R s m args below meth c H locs cells slots Q (F0 m pc ls (.double x :: .int i :: .ref b :: rest)) :=
  va_dast F.1 F.2.1 hK hP hD hS q0 t0 ha ht hin hdg (fun H1 locs1 h1 h2 h3 => kk _ H1 locs1 h1 h2 h3)
theorem j_astq (F : CallFix p m c cc nL s args gw own) (hK : va_K D classes (TY T) s) (hP : va_P D classes ws H) (hD : va_D A ws) (hS : va_S A s.heap H locs) (q0 t0 qk ci : Nat) {b : Nat} {cA : ClassId} {r : vw_C} {n v : Nat} {vs : List Value} {f : Nat → Option Nat} (ha : ws[q0]? = some (b, .inl (cA, n, .inr (.inr (.inr (.inr f)))))) (ht : (TY T)[t0]? = some (cA, .object r.1)) (hv : ws[qk]? = some (v, .inr (ci, vs))) (hc : classes[ci]? = some r) {i : Int32} (hin : vp_in i n) (hdg : decode cc pc = .ok (.aastore, 1))
    (kk : ∀ (g : Nat → Option Nat) (H1 : Heap) (locs1 : List Loc), va_P D classes (ws.set q0 (b, .inl (cA, n, .inr (.inr (.inr (.inr g)))))) H1 → va_D A (ws.set q0 (b, .inl (cA, n, .inr (.inr (.inr (.inr g)))))) → va_S A s.heap H1 locs1 → W p l e R s m args below meth c H1 locs1 cells slots Q (F0 m (pc + 1) ls rest)) : W p l e R s m args below meth c H locs cells slots Q (F0 m pc ls (.ref v :: .int i :: .ref b :: rest)) :=
  va_astq F.1 F.2.1 hK hP hD hS q0 t0 qk ci ha ht hv hc hin hdg (fun H1 locs1 h1 h2 h3 => kk _ H1 locs1 h1 h2 h3)
/-- anewarray of the one class that has one -/
theorem j_newq {index : Nat} (F : CallFix p m c cc nL s args gw own) (hcl : Cond.classLink own index "PageScribe$Store" ∈ gw) (hover : va_AO "PageScribe$Store" s) (hK : va_K D classes (TY T) s) (hP : va_P D classes ws H) (hD : va_D A ws) (hS : va_S A s.heap H locs) (hA : ∀ q : Nat, s.heap.size ≤ q → A q)
    {n : Int32} {N' : Nat} (hn : ¬ n < 0) (hN : n.toNatClampNeg = N') (hbytes : N' * 4 ≤ 536870912) (hcells : cells + 1 ≤ R.cells) (hslots : slots + N' ≤ R.slots) (hdg : decode cc pc = .ok (.anewarray index, 3))
    (kk : ∀ (q : Nat) (H1 : Heap), va_P D classes (ws ++ [(q, .inl (T 4, N', .inr (.inr (.inr (.inr (fun _ => none))))))]) H1 → va_D A (ws ++ [(q, .inl (T 4, N', .inr (.inr (.inr (.inr (fun _ => none))))))]) → va_S A s.heap H1 locs →
      W p l e R s m args below meth c H1 locs (cells + 1) (slots + N') Q (F0 m (pc + 3) ls (.ref q :: rest))) : W p l e R s m args below meth c H locs cells slots Q (F0 m pc ls (.int n :: rest)) := by
  refine va_newq F.1 F.2.1 F.2.2.2.1 (F.2.2.2.2 _ hcl) hover hK hP hD hS hA hn hN hbytes hcells hslots hdg (fun q cA H1 hK1 hP1 hD1 hS1 => ?_)
  have e : cA = T 4 := j_cls (hK1.2 (TY T).length (cA, .object "PageScribe$Store") (by rw [List.getElem?_append_right (Nat.le_refl _)]; simp)).2 (hK.2 4 (T 4, .object "PageScribe$Store") rfl).2
  subst e
  exact kk q H1 hP1 hD1 hS1
/-- where two roads meet -/
theorem j_join {α : Type} {g0 : JFrame} (Pv : α → Prop) (g : α → JFrame) (k : ∀ v : α, Pv v → W p l e R s m args below meth c H locs cells slots Q (g v)) (kk : (∀ v : α, Pv v → W p l e R s m args below meth c H locs cells slots Q (g v)) → W p l e R s m args below meth c H locs cells slots Q g0) : W p l e R s m args below meth c H locs cells slots Q g0 := kk k
/-- a loop: a measure falls -/
theorem j_loop {α : Type} (I : Nat → α → Heap → List Loc → Array Slot → Prop) (g : Nat → α → Array Slot → JFrame)
    (step : ∀ (k : Nat) (x : α) (H : Heap) (locs : List Loc) (ls : Array Slot), I k x H locs ls → (∀ (k' : Nat) (x' : α) (H' : Heap) (locs' : List Loc) (ls' : Array Slot), k' < k → I k' x' H' locs' ls' → W p l e R s m args below meth c H' locs' cells slots Q (g k' x' ls')) → W p l e R s m args below meth c H locs cells slots Q (g k x ls)) :
    ∀ (k : Nat) (x : α) (H : Heap) (locs : List Loc) (ls : Array Slot), I k x H locs ls → W p l e R s m args below meth c H locs cells slots Q (g k x ls) := by
  intro k
  induction k using Nat.strongRecOn with
  | ind k ih => exact fun x H locs ls h => step k x H locs ls h (fun k' x' H' locs' ls' hk h' => ih k' hk x' H' locs' ls' h')
/-- the words of a call of an inherited method -/
theorem j_cU {C owner : String} {x y : MethodName} {b : ByteArray} {n k index : Nat} {ret : Option FieldType} {rm : Room} (hts : ∀ w ∈ gw, w.before args s = true) (hc : Cond.code y b n ret ∈ gw) (h1 : Cond.methodLink own index x ∈ gw) (h2 : Cond.sameMethod x.cls owner x.name x.desc ∈ gw) (h3 : Cond.selects C x y ∈ gw) (h4 : Cond.instanceMethod y ∈ gw) (h5 : Cond.initialized y.cls ∈ gw)
    (hyx : y = ⟨owner, x.name, x.desc⟩) (hd : owner ≠ "java/lang/invoke/MethodHandle" ∧ owner ≠ "java/lang/invoke/VarHandle" ∧ (parseMethodDescriptor x.desc).map (fun d => d.parameters.length) = some k) (hR : rm.frames + 1 ≤ R.frames ∧ 8 + (n + 11) + rm.locals ≤ R.locals) :
    va_CU R s args own C owner index x y b n ret (wy y b n ret) rm rm.cells rm.slots k := by
  refine va_cwU k hts (fun w h => ?_) rfl rfl rfl hyx hd hR
  have hw : w ∈ gw := by
    unfold va_wsU at h
    rcases List.mem_append.mp h with h | h
    · simp only [List.mem_cons, List.not_mem_nil, or_false] at h
      rcases h with rfl | rfl | rfl | rfl | rfl
      · exact h1
      · exact h2
      · exact h3
      · exact h4
      · exact h5
    · rcases List.mem_cons.mp h with rfl | h
      · exact hc
      · exact h
  exact ⟨hw, (gw_in hw).2⟩
end JN
end
section
theorem n_Stack : ∀ a, a < 4 → ∀ b, b < 4 → a ≠ b → (F_Stack a).2.1 ≠ (F_Stack b).2.1 := by decide +kernel
theorem t_Stack_ok : ∀ k, k < 4 → parseFieldDescriptor (F_Stack k).2.2.1 = some (t_Stack k) := by decide +kernel
theorem k_1_58 : Cond.laysFinal "PageScribe$Stack" "PageScribe$Row" "kinds" "[I" ∈ gw := gw_of (tb_1 (List.mem_of_getElem? (i := 58) (by decide +kernel))) (by decide +kernel)
theorem k_1_60 : Cond.laysFinal "PageScribe$Stack" "PageScribe$Row" "numbers" "[I" ∈ gw := gw_of (tb_1 (List.mem_of_getElem? (i := 60) (by decide +kernel))) (by decide +kernel)
theorem k_1_62 : Cond.laysFinal "PageScribe$Stack" "PageScribe$Row" "reals" "[D" ∈ gw := gw_of (tb_1 (List.mem_of_getElem? (i := 62) (by decide +kernel))) (by decide +kernel)
theorem k_1_64 : Cond.lays "PageScribe$Stack" "PageScribe$Row" "size" "I" ∈ gw := gw_of (tb_1 (List.mem_of_getElem? (i := 64) (by decide +kernel))) (by decide +kernel)
theorem i_Stack : ∀ w ∈ u_ws "PageScribe$Stack" F_Stack 4, w ∈ gw := List.forall_mem_cons.mpr ⟨k_1_58, List.forall_mem_cons.mpr ⟨k_1_60, List.forall_mem_cons.mpr ⟨k_1_62, List.forall_mem_cons.mpr ⟨k_1_64, List.forall_mem_nil _⟩⟩⟩⟩
theorem z_Stack : ∀ j, j < 4 → defaultValue (t_Stack j) = vp_V [.null, .null, .null, .int 0] j := by decide +kernel
theorem n_Words : ∀ a, a < 3 → ∀ b, b < 3 → a ≠ b → (F_Words a).2.1 ≠ (F_Words b).2.1 := by decide +kernel
theorem t_Words_ok : ∀ k, k < 3 → parseFieldDescriptor (F_Words k).2.2.1 = some (t_Words k) := by decide +kernel
theorem k_1_79 : Cond.laysFinal "PageScribe$Words" "PageScribe$Words" "letters" "[C" ∈ gw := gw_of (tb_1 (List.mem_of_getElem? (i := 79) (by decide +kernel))) (by decide +kernel)
theorem k_1_81 : Cond.laysFinal "PageScribe$Words" "PageScribe$Words" "lengths" "[I" ∈ gw := gw_of (tb_1 (List.mem_of_getElem? (i := 81) (by decide +kernel))) (by decide +kernel)
theorem k_1_83 : Cond.lays "PageScribe$Words" "PageScribe$Words" "count" "I" ∈ gw := gw_of (tb_1 (List.mem_of_getElem? (i := 83) (by decide +kernel))) (by decide +kernel)
theorem i_Words : ∀ w ∈ u_ws "PageScribe$Words" F_Words 3, w ∈ gw := List.forall_mem_cons.mpr ⟨k_1_79, List.forall_mem_cons.mpr ⟨k_1_81, List.forall_mem_cons.mpr ⟨k_1_83, List.forall_mem_nil _⟩⟩⟩
theorem z_Words : ∀ j, j < 3 → defaultValue (t_Words j) = vp_V [.null, .null, .int 0] j := by decide +kernel
theorem n_Memory : ∀ a, a < 8 → ∀ b, b < 8 → a ≠ b → (F_Memory a).2.1 ≠ (F_Memory b).2.1 := by decide +kernel
theorem t_Memory_ok : ∀ k, k < 8 → parseFieldDescriptor (F_Memory k).2.2.1 = some (t_Memory k) := by decide +kernel
theorem k_1_141 : Cond.laysFinal "PageScribe$Memory" "PageScribe$Memory" "stack" "LPageScribe$Stack;" ∈ gw := gw_of (tb_1 (List.mem_of_getElem? (i := 141) (by decide +kernel))) (by decide +kernel)
theorem k_1_143 : Cond.laysFinal "PageScribe$Memory" "PageScribe$Memory" "store" "LPageScribe$Store;" ∈ gw := gw_of (tb_1 (List.mem_of_getElem? (i := 143) (by decide +kernel))) (by decide +kernel)
theorem k_1_145 : Cond.laysFinal "PageScribe$Memory" "PageScribe$Memory" "scopes" "[I" ∈ gw := gw_of (tb_1 (List.mem_of_getElem? (i := 145) (by decide +kernel))) (by decide +kernel)
theorem k_1_147 : Cond.lays "PageScribe$Memory" "PageScribe$Memory" "scopeCount" "I" ∈ gw := gw_of (tb_1 (List.mem_of_getElem? (i := 147) (by decide +kernel))) (by decide +kernel)
theorem k_1_149 : Cond.laysFinal "PageScribe$Memory" "PageScribe$Memory" "kept" "[LPageScribe$Store;" ∈ gw := gw_of (tb_1 (List.mem_of_getElem? (i := 149) (by decide +kernel))) (by decide +kernel)
theorem k_1_151 : Cond.laysFinal "PageScribe$Memory" "PageScribe$Memory" "keptNumbers" "[I" ∈ gw := gw_of (tb_1 (List.mem_of_getElem? (i := 151) (by decide +kernel))) (by decide +kernel)
theorem k_1_153 : Cond.lays "PageScribe$Memory" "PageScribe$Memory" "openSaves" "I" ∈ gw := gw_of (tb_1 (List.mem_of_getElem? (i := 153) (by decide +kernel))) (by decide +kernel)
theorem k_1_155 : Cond.lays "PageScribe$Memory" "PageScribe$Memory" "savesMade" "I" ∈ gw := gw_of (tb_1 (List.mem_of_getElem? (i := 155) (by decide +kernel))) (by decide +kernel)
theorem i_Memory : ∀ w ∈ u_ws "PageScribe$Memory" F_Memory 8, w ∈ gw := List.forall_mem_cons.mpr ⟨k_1_141, List.forall_mem_cons.mpr ⟨k_1_143, List.forall_mem_cons.mpr ⟨k_1_145, List.forall_mem_cons.mpr ⟨k_1_147, List.forall_mem_cons.mpr ⟨k_1_149, List.forall_mem_cons.mpr ⟨k_1_151, List.forall_mem_cons.mpr ⟨k_1_153, List.forall_mem_cons.mpr ⟨k_1_155, List.forall_mem_nil _⟩⟩⟩⟩⟩⟩⟩⟩
theorem z_Memory : ∀ j, j < 8 → defaultValue (t_Memory j) = vp_V [.null, .null, .null, .int 0, .null, .null, .int 0, .int 0] j := by decide +kernel
theorem n_Store : ∀ a, a < 5 → ∀ b, b < 5 → a ≠ b → (F_Store a).2.1 ≠ (F_Store b).2.1 := by decide +kernel
theorem t_Store_ok : ∀ k, k < 5 → parseFieldDescriptor (F_Store k).2.2.1 = some (t_Store k) := by decide +kernel
theorem k_1_117 : Cond.laysFinal "PageScribe$Store" "PageScribe$Store" "cells" "LPageScribe$Row;" ∈ gw := gw_of (tb_1 (List.mem_of_getElem? (i := 117) (by decide +kernel))) (by decide +kernel)
theorem k_1_119 : Cond.laysFinal "PageScribe$Store" "PageScribe$Store" "rooms" "[I" ∈ gw := gw_of (tb_1 (List.mem_of_getElem? (i := 119) (by decide +kernel))) (by decide +kernel)
theorem k_1_121 : Cond.laysFinal "PageScribe$Store" "PageScribe$Store" "counts" "[I" ∈ gw := gw_of (tb_1 (List.mem_of_getElem? (i := 121) (by decide +kernel))) (by decide +kernel)
theorem k_1_123 : Cond.laysFinal "PageScribe$Store" "PageScribe$Store" "names" "[I" ∈ gw := gw_of (tb_1 (List.mem_of_getElem? (i := 123) (by decide +kernel))) (by decide +kernel)
theorem k_1_125 : Cond.laysFinal "PageScribe$Store" "PageScribe$Store" "values" "LPageScribe$Row;" ∈ gw := gw_of (tb_1 (List.mem_of_getElem? (i := 125) (by decide +kernel))) (by decide +kernel)
theorem i_Store : ∀ w ∈ u_ws "PageScribe$Store" F_Store 5, w ∈ gw := List.forall_mem_cons.mpr ⟨k_1_117, List.forall_mem_cons.mpr ⟨k_1_119, List.forall_mem_cons.mpr ⟨k_1_121, List.forall_mem_cons.mpr ⟨k_1_123, List.forall_mem_cons.mpr ⟨k_1_125, List.forall_mem_nil _⟩⟩⟩⟩⟩
theorem z_Store : ∀ j, j < 5 → defaultValue (t_Store j) = vp_V [.null, .null, .null, .null, .null] j := by decide +kernel
theorem n_Row : ∀ a, a < 4 → ∀ b, b < 4 → a ≠ b → (F_Row a).2.1 ≠ (F_Row b).2.1 := by decide +kernel
theorem t_Row_ok : ∀ k, k < 4 → parseFieldDescriptor (F_Row k).2.2.1 = some (t_Row k) := by decide +kernel
theorem k_1_102 : Cond.laysFinal "PageScribe$Row" "PageScribe$Row" "kinds" "[I" ∈ gw := gw_of (tb_1 (List.mem_of_getElem? (i := 102) (by decide +kernel))) (by decide +kernel)
theorem k_1_103 : Cond.laysFinal "PageScribe$Row" "PageScribe$Row" "numbers" "[I" ∈ gw := gw_of (tb_1 (List.mem_of_getElem? (i := 103) (by decide +kernel))) (by decide +kernel)
theorem k_1_104 : Cond.laysFinal "PageScribe$Row" "PageScribe$Row" "reals" "[D" ∈ gw := gw_of (tb_1 (List.mem_of_getElem? (i := 104) (by decide +kernel))) (by decide +kernel)
theorem k_1_105 : Cond.lays "PageScribe$Row" "PageScribe$Row" "size" "I" ∈ gw := gw_of (tb_1 (List.mem_of_getElem? (i := 105) (by decide +kernel))) (by decide +kernel)
theorem i_Row : ∀ w ∈ u_ws "PageScribe$Row" F_Row 4, w ∈ gw := List.forall_mem_cons.mpr ⟨k_1_102, List.forall_mem_cons.mpr ⟨k_1_103, List.forall_mem_cons.mpr ⟨k_1_104, List.forall_mem_cons.mpr ⟨k_1_105, List.forall_mem_nil _⟩⟩⟩⟩
theorem z_Row : ∀ j, j < 4 → defaultValue (t_Row j) = vp_V [.null, .null, .null, .int 0] j := by decide +kernel
theorem n_Reader : ∀ a, a < 10 → ∀ b, b < 10 → a ≠ b → (F_Reader a).2.1 ≠ (F_Reader b).2.1 := by decide +kernel
theorem t_Reader_ok : ∀ k, k < 10 → parseFieldDescriptor (F_Reader k).2.2.1 = some (t_Reader k) := by decide +kernel
theorem k_1_180 : Cond.laysFinal "PageScribe$Reader" "PageScribe$Reader" "words" "LPageScribe$Words;" ∈ gw := gw_of (tb_1 (List.mem_of_getElem? (i := 180) (by decide +kernel))) (by decide +kernel)
theorem k_1_182 : Cond.laysFinal "PageScribe$Reader" "PageScribe$Reader" "store" "LPageScribe$Store;" ∈ gw := gw_of (tb_1 (List.mem_of_getElem? (i := 182) (by decide +kernel))) (by decide +kernel)
theorem k_1_184 : Cond.laysFinal "PageScribe$Reader" "PageScribe$Reader" "text" "[C" ∈ gw := gw_of (tb_1 (List.mem_of_getElem? (i := 184) (by decide +kernel))) (by decide +kernel)
theorem k_1_186 : Cond.lays "PageScribe$Reader" "PageScribe$Reader" "length" "I" ∈ gw := gw_of (tb_1 (List.mem_of_getElem? (i := 186) (by decide +kernel))) (by decide +kernel)
theorem k_1_188 : Cond.lays "PageScribe$Reader" "PageScribe$Reader" "place" "I" ∈ gw := gw_of (tb_1 (List.mem_of_getElem? (i := 188) (by decide +kernel))) (by decide +kernel)
theorem k_1_190 : Cond.lays "PageScribe$Reader" "PageScribe$Reader" "tokenKind" "I" ∈ gw := gw_of (tb_1 (List.mem_of_getElem? (i := 190) (by decide +kernel))) (by decide +kernel)
theorem k_1_192 : Cond.lays "PageScribe$Reader" "PageScribe$Reader" "tokenNumber" "I" ∈ gw := gw_of (tb_1 (List.mem_of_getElem? (i := 192) (by decide +kernel))) (by decide +kernel)
theorem k_1_194 : Cond.lays "PageScribe$Reader" "PageScribe$Reader" "tokenReal" "D" ∈ gw := gw_of (tb_1 (List.mem_of_getElem? (i := 194) (by decide +kernel))) (by decide +kernel)
theorem k_1_196 : Cond.laysFinal "PageScribe$Reader" "PageScribe$Reader" "gathered" "LPageScribe$Row;" ∈ gw := gw_of (tb_1 (List.mem_of_getElem? (i := 196) (by decide +kernel))) (by decide +kernel)
theorem k_1_198 : Cond.laysFinal "PageScribe$Reader" "PageScribe$Reader" "begins" "[I" ∈ gw := gw_of (tb_1 (List.mem_of_getElem? (i := 198) (by decide +kernel))) (by decide +kernel)
theorem i_Reader : ∀ w ∈ u_ws "PageScribe$Reader" F_Reader 10, w ∈ gw := List.forall_mem_cons.mpr ⟨k_1_180, List.forall_mem_cons.mpr ⟨k_1_182, List.forall_mem_cons.mpr ⟨k_1_184, List.forall_mem_cons.mpr ⟨k_1_186, List.forall_mem_cons.mpr ⟨k_1_188, List.forall_mem_cons.mpr ⟨k_1_190, List.forall_mem_cons.mpr ⟨k_1_192, List.forall_mem_cons.mpr ⟨k_1_194, List.forall_mem_cons.mpr ⟨k_1_196, List.forall_mem_cons.mpr ⟨k_1_198, List.forall_mem_nil _⟩⟩⟩⟩⟩⟩⟩⟩⟩⟩
theorem z_Reader : ∀ j, j < 10 → defaultValue (t_Reader j) = vp_V [.null, .null, .null, .int 0, .int 0, .int 0, .int 0, .double 0, .null, .null] j := by decide +kernel
theorem n_Canvas : ∀ a, a < 9 → ∀ b, b < 9 → a ≠ b → (F_Canvas a).2.1 ≠ (F_Canvas b).2.1 := by decide +kernel
theorem t_Canvas_ok : ∀ k, k < 9 → parseFieldDescriptor (F_Canvas k).2.2.1 = some (t_Canvas k) := by decide +kernel
theorem k_1_217 : Cond.laysFinal "PageScribe$Canvas" "PageScribe$Canvas" "stack" "LPageScribe$Stack;" ∈ gw := gw_of (tb_1 (List.mem_of_getElem? (i := 217) (by decide +kernel))) (by decide +kernel)
theorem k_1_219 : Cond.laysFinal "PageScribe$Canvas" "PageScribe$Canvas" "columns" "I" ∈ gw := gw_of (tb_1 (List.mem_of_getElem? (i := 219) (by decide +kernel))) (by decide +kernel)
theorem k_1_221 : Cond.laysFinal "PageScribe$Canvas" "PageScribe$Canvas" "rows" "I" ∈ gw := gw_of (tb_1 (List.mem_of_getElem? (i := 221) (by decide +kernel))) (by decide +kernel)
theorem k_1_223 : Cond.laysFinal "PageScribe$Canvas" "PageScribe$Canvas" "levels" "[I" ∈ gw := gw_of (tb_1 (List.mem_of_getElem? (i := 223) (by decide +kernel))) (by decide +kernel)
theorem k_1_225 : Cond.lays "PageScribe$Canvas" "PageScribe$Canvas" "gray" "F" ∈ gw := gw_of (tb_1 (List.mem_of_getElem? (i := 225) (by decide +kernel))) (by decide +kernel)
theorem k_1_227 : Cond.laysFinal "PageScribe$Canvas" "PageScribe$Canvas" "across" "[D" ∈ gw := gw_of (tb_1 (List.mem_of_getElem? (i := 227) (by decide +kernel))) (by decide +kernel)
theorem k_1_229 : Cond.laysFinal "PageScribe$Canvas" "PageScribe$Canvas" "along" "[D" ∈ gw := gw_of (tb_1 (List.mem_of_getElem? (i := 229) (by decide +kernel))) (by decide +kernel)
theorem k_1_231 : Cond.laysFinal "PageScribe$Canvas" "PageScribe$Canvas" "begins" "[I" ∈ gw := gw_of (tb_1 (List.mem_of_getElem? (i := 231) (by decide +kernel))) (by decide +kernel)
theorem k_1_233 : Cond.lays "PageScribe$Canvas" "PageScribe$Canvas" "points" "I" ∈ gw := gw_of (tb_1 (List.mem_of_getElem? (i := 233) (by decide +kernel))) (by decide +kernel)
theorem i_Canvas : ∀ w ∈ u_ws "PageScribe$Canvas" F_Canvas 9, w ∈ gw := List.forall_mem_cons.mpr ⟨k_1_217, List.forall_mem_cons.mpr ⟨k_1_219, List.forall_mem_cons.mpr ⟨k_1_221, List.forall_mem_cons.mpr ⟨k_1_223, List.forall_mem_cons.mpr ⟨k_1_225, List.forall_mem_cons.mpr ⟨k_1_227, List.forall_mem_cons.mpr ⟨k_1_229, List.forall_mem_cons.mpr ⟨k_1_231, List.forall_mem_cons.mpr ⟨k_1_233, List.forall_mem_nil _⟩⟩⟩⟩⟩⟩⟩⟩⟩
theorem z_Canvas : ∀ j, j < 9 → defaultValue (t_Canvas j) = vp_V [.null, .int 0, .int 0, .null, .float 0, .null, .null, .null, .int 0] j := by decide +kernel
theorem n_Engine : ∀ a, a < 11 → ∀ b, b < 11 → a ≠ b → (F_Engine a).2.1 ≠ (F_Engine b).2.1 := by decide +kernel
theorem t_Engine_ok : ∀ k, k < 11 → parseFieldDescriptor (F_Engine k).2.2.1 = some (t_Engine k) := by decide +kernel
theorem k_2_35 : Cond.laysFinal "PageScribe$Engine" "PageScribe$Engine" "stack" "LPageScribe$Stack;" ∈ gw := gw_of (tb_2 (List.mem_of_getElem? (i := 35) (by decide +kernel))) (by decide +kernel)
theorem k_2_37 : Cond.laysFinal "PageScribe$Engine" "PageScribe$Engine" "memory" "LPageScribe$Memory;" ∈ gw := gw_of (tb_2 (List.mem_of_getElem? (i := 37) (by decide +kernel))) (by decide +kernel)
theorem k_2_39 : Cond.laysFinal "PageScribe$Engine" "PageScribe$Engine" "canvas" "LPageScribe$Canvas;" ∈ gw := gw_of (tb_2 (List.mem_of_getElem? (i := 39) (by decide +kernel))) (by decide +kernel)
theorem k_2_41 : Cond.laysFinal "PageScribe$Engine" "PageScribe$Engine" "sums" "LPageScribe$Sums;" ∈ gw := gw_of (tb_2 (List.mem_of_getElem? (i := 41) (by decide +kernel))) (by decide +kernel)
theorem k_2_43 : Cond.laysFinal "PageScribe$Engine" "PageScribe$Engine" "truths" "LPageScribe$Truths;" ∈ gw := gw_of (tb_2 (List.mem_of_getElem? (i := 43) (by decide +kernel))) (by decide +kernel)
theorem k_2_45 : Cond.lays "PageScribe$Engine" "PageScribe$Engine" "fuelGiven" "I" ∈ gw := gw_of (tb_2 (List.mem_of_getElem? (i := 45) (by decide +kernel))) (by decide +kernel)
theorem k_2_47 : Cond.lays "PageScribe$Engine" "PageScribe$Engine" "stepsDone" "I" ∈ gw := gw_of (tb_2 (List.mem_of_getElem? (i := 47) (by decide +kernel))) (by decide +kernel)
theorem k_2_49 : Cond.lays "PageScribe$Engine" "PageScribe$Engine" "latestFault" "I" ∈ gw := gw_of (tb_2 (List.mem_of_getElem? (i := 49) (by decide +kernel))) (by decide +kernel)
theorem k_2_51 : Cond.lays "PageScribe$Engine" "PageScribe$Engine" "underWay" "I" ∈ gw := gw_of (tb_2 (List.mem_of_getElem? (i := 51) (by decide +kernel))) (by decide +kernel)
theorem k_2_53 : Cond.lays "PageScribe$Engine" "PageScribe$Engine" "reach" "I" ∈ gw := gw_of (tb_2 (List.mem_of_getElem? (i := 53) (by decide +kernel))) (by decide +kernel)
theorem k_2_55 : Cond.lays "PageScribe$Engine" "PageScribe$Engine" "loops" "I" ∈ gw := gw_of (tb_2 (List.mem_of_getElem? (i := 55) (by decide +kernel))) (by decide +kernel)
theorem i_Engine : ∀ w ∈ u_ws "PageScribe$Engine" F_Engine 11, w ∈ gw := List.forall_mem_cons.mpr ⟨k_2_35, List.forall_mem_cons.mpr ⟨k_2_37, List.forall_mem_cons.mpr ⟨k_2_39, List.forall_mem_cons.mpr ⟨k_2_41, List.forall_mem_cons.mpr ⟨k_2_43, List.forall_mem_cons.mpr ⟨k_2_45, List.forall_mem_cons.mpr ⟨k_2_47, List.forall_mem_cons.mpr ⟨k_2_49, List.forall_mem_cons.mpr ⟨k_2_51, List.forall_mem_cons.mpr ⟨k_2_53, List.forall_mem_cons.mpr ⟨k_2_55, List.forall_mem_nil _⟩⟩⟩⟩⟩⟩⟩⟩⟩⟩⟩
theorem z_Engine : ∀ j, j < 11 → defaultValue (t_Engine j) = vp_V [.null, .null, .null, .null, .null, .int 0, .int 0, .int 0, .int 0, .int 0, .int 0] j := by decide +kernel
theorem n_Sums : ∀ a, a < 1 → ∀ b, b < 1 → a ≠ b → (F_Sums a).2.1 ≠ (F_Sums b).2.1 := by decide +kernel
theorem t_Sums_ok : ∀ k, k < 1 → parseFieldDescriptor (F_Sums k).2.2.1 = some (t_Sums k) := by decide +kernel
theorem k_2_9 : Cond.laysFinal "PageScribe$Sums" "PageScribe$Sums" "stack" "LPageScribe$Stack;" ∈ gw := gw_of (tb_2 (List.mem_of_getElem? (i := 9) (by decide +kernel))) (by decide +kernel)
theorem i_Sums : ∀ w ∈ u_ws "PageScribe$Sums" F_Sums 1, w ∈ gw := List.forall_mem_cons.mpr ⟨k_2_9, List.forall_mem_nil _⟩
theorem z_Sums : ∀ j, j < 1 → defaultValue (t_Sums j) = vp_V [.null] j := by decide +kernel
theorem n_Truths : ∀ a, a < 1 → ∀ b, b < 1 → a ≠ b → (F_Truths a).2.1 ≠ (F_Truths b).2.1 := by decide +kernel
theorem t_Truths_ok : ∀ k, k < 1 → parseFieldDescriptor (F_Truths k).2.2.1 = some (t_Truths k) := by decide +kernel
theorem k_2_19 : Cond.laysFinal "PageScribe$Truths" "PageScribe$Truths" "stack" "LPageScribe$Stack;" ∈ gw := gw_of (tb_2 (List.mem_of_getElem? (i := 19) (by decide +kernel))) (by decide +kernel)
theorem i_Truths : ∀ w ∈ u_ws "PageScribe$Truths" F_Truths 1, w ∈ gw := List.forall_mem_cons.mpr ⟨k_2_19, List.forall_mem_nil _⟩
theorem z_Truths : ∀ j, j < 1 → defaultValue (t_Truths j) = vp_V [.null] j := by decide +kernel
theorem n_Ps : ∀ a, a < 6 → ∀ b, b < 6 → a ≠ b → (F_Ps a).2.1 ≠ (F_Ps b).2.1 := by decide +kernel
theorem t_Ps_ok : ∀ k, k < 6 → parseFieldDescriptor (F_Ps k).2.2.1 = some (t_Ps k) := by decide +kernel
theorem k_2_64 : Cond.laysFinal "PageScribe" "PageScribe" "stack" "LPageScribe$Stack;" ∈ gw := gw_of (tb_2 (List.mem_of_getElem? (i := 64) (by decide +kernel))) (by decide +kernel)
theorem k_2_66 : Cond.laysFinal "PageScribe" "PageScribe" "words" "LPageScribe$Words;" ∈ gw := gw_of (tb_2 (List.mem_of_getElem? (i := 66) (by decide +kernel))) (by decide +kernel)
theorem k_2_68 : Cond.laysFinal "PageScribe" "PageScribe" "memory" "LPageScribe$Memory;" ∈ gw := gw_of (tb_2 (List.mem_of_getElem? (i := 68) (by decide +kernel))) (by decide +kernel)
theorem k_2_70 : Cond.laysFinal "PageScribe" "PageScribe" "reader" "LPageScribe$Reader;" ∈ gw := gw_of (tb_2 (List.mem_of_getElem? (i := 70) (by decide +kernel))) (by decide +kernel)
theorem k_2_72 : Cond.laysFinal "PageScribe" "PageScribe" "canvas" "LPageScribe$Canvas;" ∈ gw := gw_of (tb_2 (List.mem_of_getElem? (i := 72) (by decide +kernel))) (by decide +kernel)
theorem k_2_74 : Cond.laysFinal "PageScribe" "PageScribe" "engine" "LPageScribe$Engine;" ∈ gw := gw_of (tb_2 (List.mem_of_getElem? (i := 74) (by decide +kernel))) (by decide +kernel)
theorem i_Ps : ∀ w ∈ u_ws "PageScribe" F_Ps 6, w ∈ gw := List.forall_mem_cons.mpr ⟨k_2_64, List.forall_mem_cons.mpr ⟨k_2_66, List.forall_mem_cons.mpr ⟨k_2_68, List.forall_mem_cons.mpr ⟨k_2_70, List.forall_mem_cons.mpr ⟨k_2_72, List.forall_mem_cons.mpr ⟨k_2_74, List.forall_mem_nil _⟩⟩⟩⟩⟩⟩
theorem z_Ps : ∀ j, j < 6 → defaultValue (t_Ps j) = vp_V [.null, .null, .null, .null, .null, .null] j := by decide +kernel
theorem n_Mo : ∀ a, a < 45 → ∀ b, b < 45 → a ≠ b → (F_Mo a).2.1 ≠ (F_Mo b).2.1 := by decide +kernel
theorem t_Mo_ok : ∀ k, k < 45 → parseFieldDescriptor (F_Mo k).2.2.1 = some (t_Mo k) := by decide +kernel
theorem k_6_205 : Cond.lays "PageScribeModel" "PageScribeModel" "thrown" "I" ∈ gw := gw_of (tb_6 (List.mem_of_getElem? (i := 205) (by decide +kernel))) (by decide +kernel)
theorem k_6_207 : Cond.laysFinal "PageScribeModel" "PageScribeModel" "kinds" "[I" ∈ gw := gw_of (tb_6 (List.mem_of_getElem? (i := 207) (by decide +kernel))) (by decide +kernel)
theorem k_6_209 : Cond.laysFinal "PageScribeModel" "PageScribeModel" "codes" "[J" ∈ gw := gw_of (tb_6 (List.mem_of_getElem? (i := 209) (by decide +kernel))) (by decide +kernel)
theorem k_6_211 : Cond.laysFinal "PageScribeModel" "PageScribeModel" "reals" "[D" ∈ gw := gw_of (tb_6 (List.mem_of_getElem? (i := 211) (by decide +kernel))) (by decide +kernel)
theorem k_6_213 : Cond.lays "PageScribeModel" "PageScribeModel" "size" "I" ∈ gw := gw_of (tb_6 (List.mem_of_getElem? (i := 213) (by decide +kernel))) (by decide +kernel)
theorem k_6_215 : Cond.lays "PageScribeModel" "PageScribeModel" "taken" "I" ∈ gw := gw_of (tb_6 (List.mem_of_getElem? (i := 215) (by decide +kernel))) (by decide +kernel)
theorem k_6_217 : Cond.laysFinal "PageScribeModel" "PageScribeModel" "words" "[J" ∈ gw := gw_of (tb_6 (List.mem_of_getElem? (i := 217) (by decide +kernel))) (by decide +kernel)
theorem k_6_219 : Cond.laysFinal "PageScribeModel" "PageScribeModel" "many" "[I" ∈ gw := gw_of (tb_6 (List.mem_of_getElem? (i := 219) (by decide +kernel))) (by decide +kernel)
theorem k_6_221 : Cond.laysFinal "PageScribeModel" "PageScribeModel" "room" "[I" ∈ gw := gw_of (tb_6 (List.mem_of_getElem? (i := 221) (by decide +kernel))) (by decide +kernel)
theorem k_6_223 : Cond.laysFinal "PageScribeModel" "PageScribeModel" "dicts" "[I" ∈ gw := gw_of (tb_6 (List.mem_of_getElem? (i := 223) (by decide +kernel))) (by decide +kernel)
theorem k_6_225 : Cond.lays "PageScribeModel" "PageScribeModel" "deep" "I" ∈ gw := gw_of (tb_6 (List.mem_of_getElem? (i := 225) (by decide +kernel))) (by decide +kernel)
theorem k_6_227 : Cond.lays "PageScribeModel" "PageScribeModel" "saves" "I" ∈ gw := gw_of (tb_6 (List.mem_of_getElem? (i := 227) (by decide +kernel))) (by decide +kernel)
theorem k_6_229 : Cond.lays "PageScribeModel" "PageScribeModel" "open" "I" ∈ gw := gw_of (tb_6 (List.mem_of_getElem? (i := 229) (by decide +kernel))) (by decide +kernel)
theorem k_6_231 : Cond.laysFinal "PageScribeModel" "PageScribeModel" "numbers" "[I" ∈ gw := gw_of (tb_6 (List.mem_of_getElem? (i := 231) (by decide +kernel))) (by decide +kernel)
theorem k_6_233 : Cond.laysFinal "PageScribeModel" "PageScribeModel" "cells" "[I" ∈ gw := gw_of (tb_6 (List.mem_of_getElem? (i := 233) (by decide +kernel))) (by decide +kernel)
theorem k_6_235 : Cond.lays "PageScribeModel" "PageScribeModel" "frames" "I" ∈ gw := gw_of (tb_6 (List.mem_of_getElem? (i := 235) (by decide +kernel))) (by decide +kernel)
theorem k_6_237 : Cond.lays "PageScribeModel" "PageScribeModel" "under" "I" ∈ gw := gw_of (tb_6 (List.mem_of_getElem? (i := 237) (by decide +kernel))) (by decide +kernel)
theorem k_6_239 : Cond.laysFinal "PageScribeModel" "PageScribeModel" "what" "[I" ∈ gw := gw_of (tb_6 (List.mem_of_getElem? (i := 239) (by decide +kernel))) (by decide +kernel)
theorem k_7_1 : Cond.laysFinal "PageScribeModel" "PageScribeModel" "array" "[J" ∈ gw := gw_of (tb_7 (List.mem_of_getElem? (i := 1) (by decide +kernel))) (by decide +kernel)
theorem k_7_3 : Cond.laysFinal "PageScribeModel" "PageScribeModel" "far" "[I" ∈ gw := gw_of (tb_7 (List.mem_of_getElem? (i := 3) (by decide +kernel))) (by decide +kernel)
theorem k_7_5 : Cond.laysFinal "PageScribeModel" "PageScribeModel" "value" "[J" ∈ gw := gw_of (tb_7 (List.mem_of_getElem? (i := 5) (by decide +kernel))) (by decide +kernel)
theorem k_7_7 : Cond.laysFinal "PageScribeModel" "PageScribeModel" "grows" "[J" ∈ gw := gw_of (tb_7 (List.mem_of_getElem? (i := 7) (by decide +kernel))) (by decide +kernel)
theorem k_7_9 : Cond.laysFinal "PageScribeModel" "PageScribeModel" "last" "[J" ∈ gw := gw_of (tb_7 (List.mem_of_getElem? (i := 9) (by decide +kernel))) (by decide +kernel)
theorem k_7_11 : Cond.laysFinal "PageScribeModel" "PageScribeModel" "text" "[C" ∈ gw := gw_of (tb_7 (List.mem_of_getElem? (i := 11) (by decide +kernel))) (by decide +kernel)
theorem k_7_13 : Cond.lays "PageScribeModel" "PageScribeModel" "length" "I" ∈ gw := gw_of (tb_7 (List.mem_of_getElem? (i := 13) (by decide +kernel))) (by decide +kernel)
theorem k_7_15 : Cond.lays "PageScribeModel" "PageScribeModel" "at" "I" ∈ gw := gw_of (tb_7 (List.mem_of_getElem? (i := 15) (by decide +kernel))) (by decide +kernel)
theorem k_7_17 : Cond.lays "PageScribeModel" "PageScribeModel" "pending" "I" ∈ gw := gw_of (tb_7 (List.mem_of_getElem? (i := 17) (by decide +kernel))) (by decide +kernel)
theorem k_7_19 : Cond.lays "PageScribeModel" "PageScribeModel" "level" "I" ∈ gw := gw_of (tb_7 (List.mem_of_getElem? (i := 19) (by decide +kernel))) (by decide +kernel)
theorem k_7_21 : Cond.laysFinal "PageScribeModel" "PageScribeModel" "starts" "[I" ∈ gw := gw_of (tb_7 (List.mem_of_getElem? (i := 21) (by decide +kernel))) (by decide +kernel)
theorem k_7_23 : Cond.laysFinal "PageScribeModel" "PageScribeModel" "known" "[J" ∈ gw := gw_of (tb_7 (List.mem_of_getElem? (i := 23) (by decide +kernel))) (by decide +kernel)
theorem k_7_25 : Cond.lays "PageScribeModel" "PageScribeModel" "knows" "I" ∈ gw := gw_of (tb_7 (List.mem_of_getElem? (i := 25) (by decide +kernel))) (by decide +kernel)
theorem k_7_27 : Cond.lays "PageScribeModel" "PageScribeModel" "fuel" "I" ∈ gw := gw_of (tb_7 (List.mem_of_getElem? (i := 27) (by decide +kernel))) (by decide +kernel)
theorem k_7_29 : Cond.lays "PageScribeModel" "PageScribeModel" "steps" "I" ∈ gw := gw_of (tb_7 (List.mem_of_getElem? (i := 29) (by decide +kernel))) (by decide +kernel)
theorem k_7_31 : Cond.lays "PageScribeModel" "PageScribeModel" "failure" "I" ∈ gw := gw_of (tb_7 (List.mem_of_getElem? (i := 31) (by decide +kernel))) (by decide +kernel)
theorem k_7_33 : Cond.laysFinal "PageScribeModel" "PageScribeModel" "columns" "I" ∈ gw := gw_of (tb_7 (List.mem_of_getElem? (i := 33) (by decide +kernel))) (by decide +kernel)
theorem k_7_35 : Cond.laysFinal "PageScribeModel" "PageScribeModel" "rows" "I" ∈ gw := gw_of (tb_7 (List.mem_of_getElem? (i := 35) (by decide +kernel))) (by decide +kernel)
theorem k_7_37 : Cond.laysFinal "PageScribeModel" "PageScribeModel" "pixels" "[I" ∈ gw := gw_of (tb_7 (List.mem_of_getElem? (i := 37) (by decide +kernel))) (by decide +kernel)
theorem k_7_39 : Cond.lays "PageScribeModel" "PageScribeModel" "gray" "F" ∈ gw := gw_of (tb_7 (List.mem_of_getElem? (i := 39) (by decide +kernel))) (by decide +kernel)
theorem k_7_41 : Cond.laysFinal "PageScribeModel" "PageScribeModel" "across" "[D" ∈ gw := gw_of (tb_7 (List.mem_of_getElem? (i := 41) (by decide +kernel))) (by decide +kernel)
theorem k_7_43 : Cond.laysFinal "PageScribeModel" "PageScribeModel" "along" "[D" ∈ gw := gw_of (tb_7 (List.mem_of_getElem? (i := 43) (by decide +kernel))) (by decide +kernel)
theorem k_7_45 : Cond.laysFinal "PageScribeModel" "PageScribeModel" "part" "[I" ∈ gw := gw_of (tb_7 (List.mem_of_getElem? (i := 45) (by decide +kernel))) (by decide +kernel)
theorem k_7_47 : Cond.lays "PageScribeModel" "PageScribeModel" "points" "I" ∈ gw := gw_of (tb_7 (List.mem_of_getElem? (i := 47) (by decide +kernel))) (by decide +kernel)
theorem k_7_49 : Cond.laysFinal "PageScribeModel" "PageScribeModel" "patterns" "[I" ∈ gw := gw_of (tb_7 (List.mem_of_getElem? (i := 49) (by decide +kernel))) (by decide +kernel)
theorem k_7_51 : Cond.laysFinal "PageScribeModel" "PageScribeModel" "early" "[J" ∈ gw := gw_of (tb_7 (List.mem_of_getElem? (i := 51) (by decide +kernel))) (by decide +kernel)
theorem k_7_53 : Cond.laysFinal "PageScribeModel" "PageScribeModel" "late" "[J" ∈ gw := gw_of (tb_7 (List.mem_of_getElem? (i := 53) (by decide +kernel))) (by decide +kernel)
theorem i_Mo : ∀ w ∈ u_ws "PageScribeModel" F_Mo 45, w ∈ gw := List.forall_mem_cons.mpr ⟨k_6_205, List.forall_mem_cons.mpr ⟨k_6_207, List.forall_mem_cons.mpr ⟨k_6_209, List.forall_mem_cons.mpr ⟨k_6_211, List.forall_mem_cons.mpr ⟨k_6_213, List.forall_mem_cons.mpr ⟨k_6_215, List.forall_mem_cons.mpr ⟨k_6_217, List.forall_mem_cons.mpr ⟨k_6_219, List.forall_mem_cons.mpr ⟨k_6_221, List.forall_mem_cons.mpr ⟨k_6_223, List.forall_mem_cons.mpr ⟨k_6_225, List.forall_mem_cons.mpr ⟨k_6_227, List.forall_mem_cons.mpr ⟨k_6_229, List.forall_mem_cons.mpr ⟨k_6_231, List.forall_mem_cons.mpr ⟨k_6_233, List.forall_mem_cons.mpr ⟨k_6_235, List.forall_mem_cons.mpr ⟨k_6_237, List.forall_mem_cons.mpr ⟨k_6_239, List.forall_mem_cons.mpr ⟨k_7_1, List.forall_mem_cons.mpr ⟨k_7_3, List.forall_mem_cons.mpr ⟨k_7_5, List.forall_mem_cons.mpr ⟨k_7_7, List.forall_mem_cons.mpr ⟨k_7_9, List.forall_mem_cons.mpr ⟨k_7_11, List.forall_mem_cons.mpr ⟨k_7_13, List.forall_mem_cons.mpr ⟨k_7_15, List.forall_mem_cons.mpr ⟨k_7_17, List.forall_mem_cons.mpr ⟨k_7_19, List.forall_mem_cons.mpr ⟨k_7_21, List.forall_mem_cons.mpr ⟨k_7_23, List.forall_mem_cons.mpr ⟨k_7_25, List.forall_mem_cons.mpr ⟨k_7_27, List.forall_mem_cons.mpr ⟨k_7_29, List.forall_mem_cons.mpr ⟨k_7_31, List.forall_mem_cons.mpr ⟨k_7_33, List.forall_mem_cons.mpr ⟨k_7_35, List.forall_mem_cons.mpr ⟨k_7_37, List.forall_mem_cons.mpr ⟨k_7_39, List.forall_mem_cons.mpr ⟨k_7_41, List.forall_mem_cons.mpr ⟨k_7_43, List.forall_mem_cons.mpr ⟨k_7_45, List.forall_mem_cons.mpr ⟨k_7_47, List.forall_mem_cons.mpr ⟨k_7_49, List.forall_mem_cons.mpr ⟨k_7_51, List.forall_mem_cons.mpr ⟨k_7_53, List.forall_mem_nil _⟩⟩⟩⟩⟩⟩⟩⟩⟩⟩⟩⟩⟩⟩⟩⟩⟩⟩⟩⟩⟩⟩⟩⟩⟩⟩⟩⟩⟩⟩⟩⟩⟩⟩⟩⟩⟩⟩⟩⟩⟩⟩⟩⟩⟩
theorem z_Mo : ∀ j, j < 45 → defaultValue (t_Mo j) = vp_V [.int 0, .null, .null, .null, .int 0, .int 0, .null, .null, .null, .null, .int 0, .int 0, .int 0, .null, .null, .int 0, .int 0, .null, .null, .null, .null, .null, .null, .null, .int 0, .int 0, .int 0, .int 0, .null, .null, .int 0, .int 0, .int 0, .int 0, .int 0, .int 0, .null, .float 0, .null, .null, .null, .int 0, .null, .null, .null] j := by decide +kernel
abbrev zI : Nat → Int32 := fun _ => 0
abbrev zJ : Nat → Int64 := fun _ => 0
abbrev zD : Nat → UInt64 := fun _ => 0
abbrev zQ : Nat → Option Nat := fun _ => none
end
section
def roomF : Nat → Int32 := fun k => if k = 0 then 20 else 0
theorem roomF_up : upd zI (0 : Int32).toNatClampNeg 20 = roomF := by
  funext k
  have h : (0 : Int32).toNatClampNeg = 0 := by decide +kernel
  rw [h]
  by_cases hk : k = 0
  · subst hk; rfl
  · simp [upd, roomF, hk]
theorem d_Row_init_0 : decode prog_8_method_1_code 0 = .ok (.aload_n 0, 1) := by decide +kernel
theorem d_Row_init_1 : decode prog_8_method_1_code 1 = .ok (.invokespecial 3, 3) := by decide +kernel
theorem k_1_45 : Cond.methodLink "PageScribe$Row" 3 ⟨"java/lang/Object", "<init>", "()V"⟩ ∈ gw := gw_of (tb_1 (List.mem_of_getElem? (i := 45) (by decide +kernel))) (by decide +kernel)
theorem k_1_35 : Cond.instanceMethod ⟨"java/lang/Object", "<init>", "()V"⟩ ∈ gw := gw_of (tb_1 (List.mem_of_getElem? (i := 35) (by decide +kernel))) (by decide +kernel)
theorem k_1_36 : Cond.code ⟨"java/lang/Object", "<init>", "()V"⟩ object_method_1_code 1 none ∈ gw := gw_of (tb_1 (List.mem_of_getElem? (i := 36) (by decide +kernel))) (by decide +kernel)
theorem d_Row_init_4 : decode prog_8_method_1_code 4 = .ok (.aload_n 0, 1) := by decide +kernel
theorem d_Row_init_5 : decode prog_8_method_1_code 5 = .ok (.iconst 0, 1) := by decide +kernel
theorem d_Row_init_6 : decode prog_8_method_1_code 6 = .ok (.putfield 9, 3) := by decide +kernel
theorem k_1_49 : Cond.fieldLink "PageScribe$Row" 9 "PageScribe$Row" "size" "I" ∈ gw := gw_of (tb_1 (List.mem_of_getElem? (i := 49) (by decide +kernel))) (by decide +kernel)
theorem d_Row_init_9 : decode prog_8_method_1_code 9 = .ok (.aload_n 0, 1) := by decide +kernel
theorem d_Row_init_10 : decode prog_8_method_1_code 10 = .ok (.iload_n 1, 1) := by decide +kernel
theorem d_Row_init_11 : decode prog_8_method_1_code 11 = .ok (.newarray .int, 2) := by decide +kernel
theorem k_1_67 : Cond.arrayClass .int ∈ gw := gw_of (tb_1 (List.mem_of_getElem? (i := 67) (by decide +kernel))) (by decide +kernel)
theorem d_Row_init_13 : decode prog_8_method_1_code 13 = .ok (.putfield 15, 3) := by decide +kernel
theorem k_1_46 : Cond.fieldLink "PageScribe$Row" 15 "PageScribe$Row" "kinds" "[I" ∈ gw := gw_of (tb_1 (List.mem_of_getElem? (i := 46) (by decide +kernel))) (by decide +kernel)
theorem d_Row_init_16 : decode prog_8_method_1_code 16 = .ok (.aload_n 0, 1) := by decide +kernel
theorem d_Row_init_17 : decode prog_8_method_1_code 17 = .ok (.iload_n 1, 1) := by decide +kernel
theorem d_Row_init_18 : decode prog_8_method_1_code 18 = .ok (.newarray .int, 2) := by decide +kernel
theorem d_Row_init_20 : decode prog_8_method_1_code 20 = .ok (.putfield 19, 3) := by decide +kernel
theorem k_1_47 : Cond.fieldLink "PageScribe$Row" 19 "PageScribe$Row" "numbers" "[I" ∈ gw := gw_of (tb_1 (List.mem_of_getElem? (i := 47) (by decide +kernel))) (by decide +kernel)
theorem d_Row_init_23 : decode prog_8_method_1_code 23 = .ok (.aload_n 0, 1) := by decide +kernel
theorem d_Row_init_24 : decode prog_8_method_1_code 24 = .ok (.iload_n 1, 1) := by decide +kernel
theorem d_Row_init_25 : decode prog_8_method_1_code 25 = .ok (.newarray .double, 2) := by decide +kernel
theorem k_1_68 : Cond.arrayClass .double ∈ gw := gw_of (tb_1 (List.mem_of_getElem? (i := 68) (by decide +kernel))) (by decide +kernel)
theorem d_Row_init_27 : decode prog_8_method_1_code 27 = .ok (.putfield 22, 3) := by decide +kernel
theorem k_1_48 : Cond.fieldLink "PageScribe$Row" 22 "PageScribe$Row" "reals" "[D" ∈ gw := gw_of (tb_1 (List.mem_of_getElem? (i := 48) (by decide +kernel))) (by decide +kernel)
theorem d_Row_init_30 : decode prog_8_method_1_code 30 = .ok (.return_, 1) := by decide +kernel
set_option maxHeartbeats 4000000 in
set_option maxRecDepth 100000 in
theorem c_Row_init_Stack40 (l : Launch) (D : va_G) (T : Nat → ClassId) (h0 : Nat) (sz : Nat) : Met l ⟨"PageScribe$Row", "<init>", "(I)V"⟩ (wy ⟨"PageScribe$Row", "<init>", "(I)V"⟩ prog_8_method_1_code 2 none) ({ frames := 1, cells := 3, slots := 120, locals := 70 }) (va_Pc [.ref h0, .int 40] (Pw D T [(h0, .inr (0, [.null, .null, .null, .int 0]))] sz E0)) (va_Qv (fun (u : Nat × Nat × Nat) => True) (fun u t => Bw D T (va_A [(h0, .inr (0, [.null, .null, .null, .int 0]))] sz) [(h0, .inr (0, [.ref u.1, .ref u.2.1, .ref u.2.2, .int 0])), (u.1, .inl (T 0, 40, .inl zI)), (u.2.1, .inl (T 0, 40, .inl zI)), (u.2.2, .inl (T 3, 40, .inr (.inr (.inr (.inl zD)))))] t) (va_A [(h0, .inr (0, [.null, .null, .null, .int 0]))] sz)) 3 120 (va_A [(h0, .inr (0, [.null, .null, .null, .int 0]))] sz) := by
  refine j_met (Qc := fun A => va_Qv (fun (u : Nat × Nat × Nat) => True) (fun u t => Bw D T A [(h0, .inr (0, [.ref u.1, .ref u.2.1, .ref u.2.2, .int 0])), (u.1, .inl (T 0, 40, .inl zI)), (u.2.1, .inl (T 0, 40, .inl zI)), (u.2.2, .inl (T 3, 40, .inr (.inr (.inr (.inl zD)))))] t) A) (by decide +kernel) (Nat.le_of_ble_eq_true rfl) (fun p e s m args below meth c A ls F hr hlocks hnm hK hP hD hS hA hN hE hl => ?_)
  obtain ⟨hx, hb, hml, hown, hts⟩ := id F
  have hin := hnm
  have hl : lv_has ls 2 [(0, .ref h0), (1, .int 40)] := hl
  refine lv_aload_n hx hb d_Row_init_0 rfl (lv_at hl 0 rfl) ?_
  refine j_obj F hl.1 k_1_45 k_1_35 k_1_36 d_Row_init_1 (Nat.le_of_ble_eq_true rfl) (Nat.le_of_ble_eq_true rfl) ?_
  refine lv_aload_n hx hb d_Row_init_4 rfl (lv_at hl 0 rfl) ?_
  refine lv_iconst (v := 0) hx hb d_Row_init_5 (by decide) ?_
  refine va_put (D := D) (ci := 0) (v := .int 0) (ty := .int) (C := "PageScribe$Stack") (T := F_Stack) (N := 4) hx hb hts i_Stack t_Stack t_Stack_ok n_Stack hown hK hP hD hS 0 rfl rfl 3 (by decide) (hts _ k_1_49) (fun _ h9 => h9) rfl (by decide +kernel) rfl rfl (Nat.le_of_ble_eq_true rfl) d_Row_init_6 (fun H locs hP hD hS => ?_)
  have hP : va_P D classes [(h0, .inr (0, [.null, .null, .null, .int 0]))] H := hP
  have hD : va_D A [(h0, .inr (0, [.null, .null, .null, .int 0]))] := hD
  refine lv_aload_n hx hb d_Row_init_9 rfl (lv_at hl 0 rfl) ?_
  refine lv_iload_n hx hb d_Row_init_10 rfl (lv_at hl 1 rfl) ?_
  refine j_newa (atype := .int) (ty := .int) F k_1_67 rfl hK hP hD hS hA 0 (T 0) rfl (40, .inl zI) (fun _ => rfl) (by decide +kernel) (by decide +kernel) (by decide +kernel) (Nat.le_of_ble_eq_true rfl) (Nat.le_of_ble_eq_true rfl) d_Row_init_11 (fun q1 H hP hD hS => ?_)
  have hP : va_P D classes [(h0, .inr (0, [.null, .null, .null, .int 0])), (q1, .inl (T 0, 40, .inl zI))] H := hP
  have hD : va_D A [(h0, .inr (0, [.null, .null, .null, .int 0])), (q1, .inl (T 0, 40, .inl zI))] := hD
  refine va_putF (D := D) (ci := 0) (v := .ref q1) (ty := .array .int) (C := "PageScribe$Stack") (T := F_Stack) (N := 4) hx hb hts i_Stack t_Stack t_Stack_ok n_Stack hown hK hP hD hS 0 rfl rfl 0 (by decide) (hts _ k_1_46) (fun _ h9 => h9) rfl hin rfl (by decide +kernel) rfl rfl (Nat.le_of_ble_eq_true rfl) d_Row_init_13 (fun H locs hP hD hS => ?_)
  have hP : va_P D classes [(h0, .inr (0, [.ref q1, .null, .null, .int 0])), (q1, .inl (T 0, 40, .inl zI))] H := hP
  have hD : va_D A [(h0, .inr (0, [.ref q1, .null, .null, .int 0])), (q1, .inl (T 0, 40, .inl zI))] := hD
  refine lv_aload_n hx hb d_Row_init_16 rfl (lv_at hl 0 rfl) ?_
  refine lv_iload_n hx hb d_Row_init_17 rfl (lv_at hl 1 rfl) ?_
  refine j_newa (atype := .int) (ty := .int) F k_1_67 rfl hK hP hD hS hA 0 (T 0) rfl (40, .inl zI) (fun _ => rfl) (by decide +kernel) (by decide +kernel) (by decide +kernel) (Nat.le_of_ble_eq_true rfl) (Nat.le_of_ble_eq_true rfl) d_Row_init_18 (fun q2 H hP hD hS => ?_)
  have hP : va_P D classes [(h0, .inr (0, [.ref q1, .null, .null, .int 0])), (q1, .inl (T 0, 40, .inl zI)), (q2, .inl (T 0, 40, .inl zI))] H := hP
  have hD : va_D A [(h0, .inr (0, [.ref q1, .null, .null, .int 0])), (q1, .inl (T 0, 40, .inl zI)), (q2, .inl (T 0, 40, .inl zI))] := hD
  refine va_putF (D := D) (ci := 0) (v := .ref q2) (ty := .array .int) (C := "PageScribe$Stack") (T := F_Stack) (N := 4) hx hb hts i_Stack t_Stack t_Stack_ok n_Stack hown hK hP hD hS 0 rfl rfl 1 (by decide) (hts _ k_1_47) (fun _ h9 => h9) rfl hin rfl (by decide +kernel) rfl rfl (Nat.le_of_ble_eq_true rfl) d_Row_init_20 (fun H locs hP hD hS => ?_)
  have hP : va_P D classes [(h0, .inr (0, [.ref q1, .ref q2, .null, .int 0])), (q1, .inl (T 0, 40, .inl zI)), (q2, .inl (T 0, 40, .inl zI))] H := hP
  have hD : va_D A [(h0, .inr (0, [.ref q1, .ref q2, .null, .int 0])), (q1, .inl (T 0, 40, .inl zI)), (q2, .inl (T 0, 40, .inl zI))] := hD
  refine lv_aload_n hx hb d_Row_init_23 rfl (lv_at hl 0 rfl) ?_
  refine lv_iload_n hx hb d_Row_init_24 rfl (lv_at hl 1 rfl) ?_
  refine j_newa (atype := .double) (ty := .double) F k_1_68 rfl hK hP hD hS hA 3 (T 3) rfl (40, .inr (.inr (.inr (.inl zD)))) (fun _ => rfl) (by decide +kernel) (by decide +kernel) (by decide +kernel) (Nat.le_of_ble_eq_true rfl) (Nat.le_of_ble_eq_true rfl) d_Row_init_25 (fun q3 H hP hD hS => ?_)
  have hP : va_P D classes [(h0, .inr (0, [.ref q1, .ref q2, .null, .int 0])), (q1, .inl (T 0, 40, .inl zI)), (q2, .inl (T 0, 40, .inl zI)), (q3, .inl (T 3, 40, .inr (.inr (.inr (.inl zD)))))] H := hP
  have hD : va_D A [(h0, .inr (0, [.ref q1, .ref q2, .null, .int 0])), (q1, .inl (T 0, 40, .inl zI)), (q2, .inl (T 0, 40, .inl zI)), (q3, .inl (T 3, 40, .inr (.inr (.inr (.inl zD)))))] := hD
  refine va_putF (D := D) (ci := 0) (v := .ref q3) (ty := .array .double) (C := "PageScribe$Stack") (T := F_Stack) (N := 4) hx hb hts i_Stack t_Stack t_Stack_ok n_Stack hown hK hP hD hS 0 rfl rfl 2 (by decide) (hts _ k_1_48) (fun _ h9 => h9) rfl hin rfl (by decide +kernel) rfl rfl (Nat.le_of_ble_eq_true rfl) d_Row_init_27 (fun H locs hP hD hS => ?_)
  have hP : va_P D classes [(h0, .inr (0, [.ref q1, .ref q2, .ref q3, .int 0])), (q1, .inl (T 0, 40, .inl zI)), (q2, .inl (T 0, 40, .inl zI)), (q3, .inl (T 3, 40, .inr (.inr (.inr (.inl zD)))))] H := hP
  have hD : va_D A [(h0, .inr (0, [.ref q1, .ref q2, .ref q3, .int 0])), (q1, .inl (T 0, 40, .inl zI)), (q2, .inl (T 0, 40, .inl zI)), (q3, .inl (T 3, 40, .inr (.inr (.inr (.inl zD)))))] := hD
  have hP9 := hP.sub (ws' := [(h0, .inr (0, [.ref q1, .ref q2, .ref q3, .int 0])), (q1, .inl (T 0, 40, .inl zI)), (q2, .inl (T 0, 40, .inl zI)), (q3, .inl (T 3, 40, .inr (.inr (.inr (.inl zD)))))]) [0, 1, 2, 3] rfl
  have hD9 := hD.sub (ws' := [(h0, .inr (0, [.ref q1, .ref q2, .ref q3, .int 0])), (q1, .inl (T 0, 40, .inl zI)), (q2, .inl (T 0, 40, .inl zI)), (q3, .inl (T 3, 40, .inr (.inr (.inr (.inl zD)))))]) [0, 1, 2, 3] (by decide) rfl
  refine W.widen (k := 3) (n := 120) (Nat.le_of_ble_eq_true rfl) (Nat.le_of_ble_eq_true rfl) ?_
  exact j_vret F hr hlocks hK hS (q1, q2, q3) trivial hP9 hD9 d_Row_init_30
set_option maxHeartbeats 4000000 in
set_option maxRecDepth 100000 in
theorem c_Row_init_Row160 (l : Launch) (D : va_G) (T : Nat → ClassId) (h0 : Nat) (sz : Nat) : Met l ⟨"PageScribe$Row", "<init>", "(I)V"⟩ (wy ⟨"PageScribe$Row", "<init>", "(I)V"⟩ prog_8_method_1_code 2 none) ({ frames := 1, cells := 3, slots := 480, locals := 70 }) (va_Pc [.ref h0, .int 160] (Pw D T [(h0, .inr (4, [.null, .null, .null, .int 0]))] sz E0)) (va_Qv (fun (u : Nat × Nat × Nat) => True) (fun u t => Bw D T (va_A [(h0, .inr (4, [.null, .null, .null, .int 0]))] sz) [(h0, .inr (4, [.ref u.1, .ref u.2.1, .ref u.2.2, .int 0]))] t) (va_A [(h0, .inr (4, [.null, .null, .null, .int 0]))] sz)) 3 480 (va_A [(h0, .inr (4, [.null, .null, .null, .int 0]))] sz) := by
  refine j_met (Qc := fun A => va_Qv (fun (u : Nat × Nat × Nat) => True) (fun u t => Bw D T A [(h0, .inr (4, [.ref u.1, .ref u.2.1, .ref u.2.2, .int 0]))] t) A) (by decide +kernel) (Nat.le_of_ble_eq_true rfl) (fun p e s m args below meth c A ls F hr hlocks hnm hK hP hD hS hA hN hE hl => ?_)
  obtain ⟨hx, hb, hml, hown, hts⟩ := id F
  have hin := hnm
  have hl : lv_has ls 2 [(0, .ref h0), (1, .int 160)] := hl
  refine lv_aload_n hx hb d_Row_init_0 rfl (lv_at hl 0 rfl) ?_
  refine j_obj F hl.1 k_1_45 k_1_35 k_1_36 d_Row_init_1 (Nat.le_of_ble_eq_true rfl) (Nat.le_of_ble_eq_true rfl) ?_
  refine lv_aload_n hx hb d_Row_init_4 rfl (lv_at hl 0 rfl) ?_
  refine lv_iconst (v := 0) hx hb d_Row_init_5 (by decide) ?_
  refine va_put (D := D) (ci := 4) (v := .int 0) (ty := .int) (C := "PageScribe$Row") (T := F_Row) (N := 4) hx hb hts i_Row t_Row t_Row_ok n_Row hown hK hP hD hS 0 rfl rfl 3 (by decide) (hts _ k_1_49) (fun _ h9 => h9) rfl (by decide +kernel) rfl rfl (Nat.le_of_ble_eq_true rfl) d_Row_init_6 (fun H locs hP hD hS => ?_)
  have hP : va_P D classes [(h0, .inr (4, [.null, .null, .null, .int 0]))] H := hP
  have hD : va_D A [(h0, .inr (4, [.null, .null, .null, .int 0]))] := hD
  refine lv_aload_n hx hb d_Row_init_9 rfl (lv_at hl 0 rfl) ?_
  refine lv_iload_n hx hb d_Row_init_10 rfl (lv_at hl 1 rfl) ?_
  refine j_newa (atype := .int) (ty := .int) F k_1_67 rfl hK hP hD hS hA 0 (T 0) rfl (160, .inl zI) (fun _ => rfl) (by decide +kernel) (by decide +kernel) (by decide +kernel) (Nat.le_of_ble_eq_true rfl) (Nat.le_of_ble_eq_true rfl) d_Row_init_11 (fun q1 H hP hD hS => ?_)
  have hP : va_P D classes [(h0, .inr (4, [.null, .null, .null, .int 0])), (q1, .inl (T 0, 160, .inl zI))] H := hP
  have hD : va_D A [(h0, .inr (4, [.null, .null, .null, .int 0])), (q1, .inl (T 0, 160, .inl zI))] := hD
  refine va_putF (D := D) (ci := 4) (v := .ref q1) (ty := .array .int) (C := "PageScribe$Row") (T := F_Row) (N := 4) hx hb hts i_Row t_Row t_Row_ok n_Row hown hK hP hD hS 0 rfl rfl 0 (by decide) (hts _ k_1_46) (fun _ h9 => h9) rfl hin rfl (by decide +kernel) rfl rfl (Nat.le_of_ble_eq_true rfl) d_Row_init_13 (fun H locs hP hD hS => ?_)
  have hP : va_P D classes [(h0, .inr (4, [.ref q1, .null, .null, .int 0])), (q1, .inl (T 0, 160, .inl zI))] H := hP
  have hD : va_D A [(h0, .inr (4, [.ref q1, .null, .null, .int 0])), (q1, .inl (T 0, 160, .inl zI))] := hD
  refine lv_aload_n hx hb d_Row_init_16 rfl (lv_at hl 0 rfl) ?_
  refine lv_iload_n hx hb d_Row_init_17 rfl (lv_at hl 1 rfl) ?_
  refine j_newa (atype := .int) (ty := .int) F k_1_67 rfl hK hP hD hS hA 0 (T 0) rfl (160, .inl zI) (fun _ => rfl) (by decide +kernel) (by decide +kernel) (by decide +kernel) (Nat.le_of_ble_eq_true rfl) (Nat.le_of_ble_eq_true rfl) d_Row_init_18 (fun q2 H hP hD hS => ?_)
  have hP : va_P D classes [(h0, .inr (4, [.ref q1, .null, .null, .int 0])), (q1, .inl (T 0, 160, .inl zI)), (q2, .inl (T 0, 160, .inl zI))] H := hP
  have hD : va_D A [(h0, .inr (4, [.ref q1, .null, .null, .int 0])), (q1, .inl (T 0, 160, .inl zI)), (q2, .inl (T 0, 160, .inl zI))] := hD
  refine va_putF (D := D) (ci := 4) (v := .ref q2) (ty := .array .int) (C := "PageScribe$Row") (T := F_Row) (N := 4) hx hb hts i_Row t_Row t_Row_ok n_Row hown hK hP hD hS 0 rfl rfl 1 (by decide) (hts _ k_1_47) (fun _ h9 => h9) rfl hin rfl (by decide +kernel) rfl rfl (Nat.le_of_ble_eq_true rfl) d_Row_init_20 (fun H locs hP hD hS => ?_)
  have hP : va_P D classes [(h0, .inr (4, [.ref q1, .ref q2, .null, .int 0])), (q1, .inl (T 0, 160, .inl zI)), (q2, .inl (T 0, 160, .inl zI))] H := hP
  have hD : va_D A [(h0, .inr (4, [.ref q1, .ref q2, .null, .int 0])), (q1, .inl (T 0, 160, .inl zI)), (q2, .inl (T 0, 160, .inl zI))] := hD
  refine lv_aload_n hx hb d_Row_init_23 rfl (lv_at hl 0 rfl) ?_
  refine lv_iload_n hx hb d_Row_init_24 rfl (lv_at hl 1 rfl) ?_
  refine j_newa (atype := .double) (ty := .double) F k_1_68 rfl hK hP hD hS hA 3 (T 3) rfl (160, .inr (.inr (.inr (.inl zD)))) (fun _ => rfl) (by decide +kernel) (by decide +kernel) (by decide +kernel) (Nat.le_of_ble_eq_true rfl) (Nat.le_of_ble_eq_true rfl) d_Row_init_25 (fun q3 H hP hD hS => ?_)
  have hP : va_P D classes [(h0, .inr (4, [.ref q1, .ref q2, .null, .int 0])), (q1, .inl (T 0, 160, .inl zI)), (q2, .inl (T 0, 160, .inl zI)), (q3, .inl (T 3, 160, .inr (.inr (.inr (.inl zD)))))] H := hP
  have hD : va_D A [(h0, .inr (4, [.ref q1, .ref q2, .null, .int 0])), (q1, .inl (T 0, 160, .inl zI)), (q2, .inl (T 0, 160, .inl zI)), (q3, .inl (T 3, 160, .inr (.inr (.inr (.inl zD)))))] := hD
  refine va_putF (D := D) (ci := 4) (v := .ref q3) (ty := .array .double) (C := "PageScribe$Row") (T := F_Row) (N := 4) hx hb hts i_Row t_Row t_Row_ok n_Row hown hK hP hD hS 0 rfl rfl 2 (by decide) (hts _ k_1_48) (fun _ h9 => h9) rfl hin rfl (by decide +kernel) rfl rfl (Nat.le_of_ble_eq_true rfl) d_Row_init_27 (fun H locs hP hD hS => ?_)
  have hP : va_P D classes [(h0, .inr (4, [.ref q1, .ref q2, .ref q3, .int 0])), (q1, .inl (T 0, 160, .inl zI)), (q2, .inl (T 0, 160, .inl zI)), (q3, .inl (T 3, 160, .inr (.inr (.inr (.inl zD)))))] H := hP
  have hD : va_D A [(h0, .inr (4, [.ref q1, .ref q2, .ref q3, .int 0])), (q1, .inl (T 0, 160, .inl zI)), (q2, .inl (T 0, 160, .inl zI)), (q3, .inl (T 3, 160, .inr (.inr (.inr (.inl zD)))))] := hD
  have hP9 := hP.sub (ws' := [(h0, .inr (4, [.ref q1, .ref q2, .ref q3, .int 0]))]) [0] rfl
  have hD9 := hD.sub (ws' := [(h0, .inr (4, [.ref q1, .ref q2, .ref q3, .int 0]))]) [0] (by decide) rfl
  refine W.widen (k := 3) (n := 480) (Nat.le_of_ble_eq_true rfl) (Nat.le_of_ble_eq_true rfl) ?_
  exact j_vret F hr hlocks hK hS (q1, q2, q3) trivial hP9 hD9 d_Row_init_30
set_option maxHeartbeats 4000000 in
set_option maxRecDepth 100000 in
theorem c_Row_init_Row80 (l : Launch) (D : va_G) (T : Nat → ClassId) (h0 : Nat) (sz : Nat) : Met l ⟨"PageScribe$Row", "<init>", "(I)V"⟩ (wy ⟨"PageScribe$Row", "<init>", "(I)V"⟩ prog_8_method_1_code 2 none) ({ frames := 1, cells := 3, slots := 240, locals := 70 }) (va_Pc [.ref h0, .int 80] (Pw D T [(h0, .inr (4, [.null, .null, .null, .int 0]))] sz E0)) (va_Qv (fun (u : Nat × Nat × Nat) => True) (fun u t => Bw D T (va_A [(h0, .inr (4, [.null, .null, .null, .int 0]))] sz) [(h0, .inr (4, [.ref u.1, .ref u.2.1, .ref u.2.2, .int 0]))] t) (va_A [(h0, .inr (4, [.null, .null, .null, .int 0]))] sz)) 3 240 (va_A [(h0, .inr (4, [.null, .null, .null, .int 0]))] sz) := by
  refine j_met (Qc := fun A => va_Qv (fun (u : Nat × Nat × Nat) => True) (fun u t => Bw D T A [(h0, .inr (4, [.ref u.1, .ref u.2.1, .ref u.2.2, .int 0]))] t) A) (by decide +kernel) (Nat.le_of_ble_eq_true rfl) (fun p e s m args below meth c A ls F hr hlocks hnm hK hP hD hS hA hN hE hl => ?_)
  obtain ⟨hx, hb, hml, hown, hts⟩ := id F
  have hin := hnm
  have hl : lv_has ls 2 [(0, .ref h0), (1, .int 80)] := hl
  refine lv_aload_n hx hb d_Row_init_0 rfl (lv_at hl 0 rfl) ?_
  refine j_obj F hl.1 k_1_45 k_1_35 k_1_36 d_Row_init_1 (Nat.le_of_ble_eq_true rfl) (Nat.le_of_ble_eq_true rfl) ?_
  refine lv_aload_n hx hb d_Row_init_4 rfl (lv_at hl 0 rfl) ?_
  refine lv_iconst (v := 0) hx hb d_Row_init_5 (by decide) ?_
  refine va_put (D := D) (ci := 4) (v := .int 0) (ty := .int) (C := "PageScribe$Row") (T := F_Row) (N := 4) hx hb hts i_Row t_Row t_Row_ok n_Row hown hK hP hD hS 0 rfl rfl 3 (by decide) (hts _ k_1_49) (fun _ h9 => h9) rfl (by decide +kernel) rfl rfl (Nat.le_of_ble_eq_true rfl) d_Row_init_6 (fun H locs hP hD hS => ?_)
  have hP : va_P D classes [(h0, .inr (4, [.null, .null, .null, .int 0]))] H := hP
  have hD : va_D A [(h0, .inr (4, [.null, .null, .null, .int 0]))] := hD
  refine lv_aload_n hx hb d_Row_init_9 rfl (lv_at hl 0 rfl) ?_
  refine lv_iload_n hx hb d_Row_init_10 rfl (lv_at hl 1 rfl) ?_
  refine j_newa (atype := .int) (ty := .int) F k_1_67 rfl hK hP hD hS hA 0 (T 0) rfl (80, .inl zI) (fun _ => rfl) (by decide +kernel) (by decide +kernel) (by decide +kernel) (Nat.le_of_ble_eq_true rfl) (Nat.le_of_ble_eq_true rfl) d_Row_init_11 (fun q1 H hP hD hS => ?_)
  have hP : va_P D classes [(h0, .inr (4, [.null, .null, .null, .int 0])), (q1, .inl (T 0, 80, .inl zI))] H := hP
  have hD : va_D A [(h0, .inr (4, [.null, .null, .null, .int 0])), (q1, .inl (T 0, 80, .inl zI))] := hD
  refine va_putF (D := D) (ci := 4) (v := .ref q1) (ty := .array .int) (C := "PageScribe$Row") (T := F_Row) (N := 4) hx hb hts i_Row t_Row t_Row_ok n_Row hown hK hP hD hS 0 rfl rfl 0 (by decide) (hts _ k_1_46) (fun _ h9 => h9) rfl hin rfl (by decide +kernel) rfl rfl (Nat.le_of_ble_eq_true rfl) d_Row_init_13 (fun H locs hP hD hS => ?_)
  have hP : va_P D classes [(h0, .inr (4, [.ref q1, .null, .null, .int 0])), (q1, .inl (T 0, 80, .inl zI))] H := hP
  have hD : va_D A [(h0, .inr (4, [.ref q1, .null, .null, .int 0])), (q1, .inl (T 0, 80, .inl zI))] := hD
  refine lv_aload_n hx hb d_Row_init_16 rfl (lv_at hl 0 rfl) ?_
  refine lv_iload_n hx hb d_Row_init_17 rfl (lv_at hl 1 rfl) ?_
  refine j_newa (atype := .int) (ty := .int) F k_1_67 rfl hK hP hD hS hA 0 (T 0) rfl (80, .inl zI) (fun _ => rfl) (by decide +kernel) (by decide +kernel) (by decide +kernel) (Nat.le_of_ble_eq_true rfl) (Nat.le_of_ble_eq_true rfl) d_Row_init_18 (fun q2 H hP hD hS => ?_)
  have hP : va_P D classes [(h0, .inr (4, [.ref q1, .null, .null, .int 0])), (q1, .inl (T 0, 80, .inl zI)), (q2, .inl (T 0, 80, .inl zI))] H := hP
  have hD : va_D A [(h0, .inr (4, [.ref q1, .null, .null, .int 0])), (q1, .inl (T 0, 80, .inl zI)), (q2, .inl (T 0, 80, .inl zI))] := hD
  refine va_putF (D := D) (ci := 4) (v := .ref q2) (ty := .array .int) (C := "PageScribe$Row") (T := F_Row) (N := 4) hx hb hts i_Row t_Row t_Row_ok n_Row hown hK hP hD hS 0 rfl rfl 1 (by decide) (hts _ k_1_47) (fun _ h9 => h9) rfl hin rfl (by decide +kernel) rfl rfl (Nat.le_of_ble_eq_true rfl) d_Row_init_20 (fun H locs hP hD hS => ?_)
  have hP : va_P D classes [(h0, .inr (4, [.ref q1, .ref q2, .null, .int 0])), (q1, .inl (T 0, 80, .inl zI)), (q2, .inl (T 0, 80, .inl zI))] H := hP
  have hD : va_D A [(h0, .inr (4, [.ref q1, .ref q2, .null, .int 0])), (q1, .inl (T 0, 80, .inl zI)), (q2, .inl (T 0, 80, .inl zI))] := hD
  refine lv_aload_n hx hb d_Row_init_23 rfl (lv_at hl 0 rfl) ?_
  refine lv_iload_n hx hb d_Row_init_24 rfl (lv_at hl 1 rfl) ?_
  refine j_newa (atype := .double) (ty := .double) F k_1_68 rfl hK hP hD hS hA 3 (T 3) rfl (80, .inr (.inr (.inr (.inl zD)))) (fun _ => rfl) (by decide +kernel) (by decide +kernel) (by decide +kernel) (Nat.le_of_ble_eq_true rfl) (Nat.le_of_ble_eq_true rfl) d_Row_init_25 (fun q3 H hP hD hS => ?_)
  have hP : va_P D classes [(h0, .inr (4, [.ref q1, .ref q2, .null, .int 0])), (q1, .inl (T 0, 80, .inl zI)), (q2, .inl (T 0, 80, .inl zI)), (q3, .inl (T 3, 80, .inr (.inr (.inr (.inl zD)))))] H := hP
  have hD : va_D A [(h0, .inr (4, [.ref q1, .ref q2, .null, .int 0])), (q1, .inl (T 0, 80, .inl zI)), (q2, .inl (T 0, 80, .inl zI)), (q3, .inl (T 3, 80, .inr (.inr (.inr (.inl zD)))))] := hD
  refine va_putF (D := D) (ci := 4) (v := .ref q3) (ty := .array .double) (C := "PageScribe$Row") (T := F_Row) (N := 4) hx hb hts i_Row t_Row t_Row_ok n_Row hown hK hP hD hS 0 rfl rfl 2 (by decide) (hts _ k_1_48) (fun _ h9 => h9) rfl hin rfl (by decide +kernel) rfl rfl (Nat.le_of_ble_eq_true rfl) d_Row_init_27 (fun H locs hP hD hS => ?_)
  have hP : va_P D classes [(h0, .inr (4, [.ref q1, .ref q2, .ref q3, .int 0])), (q1, .inl (T 0, 80, .inl zI)), (q2, .inl (T 0, 80, .inl zI)), (q3, .inl (T 3, 80, .inr (.inr (.inr (.inl zD)))))] H := hP
  have hD : va_D A [(h0, .inr (4, [.ref q1, .ref q2, .ref q3, .int 0])), (q1, .inl (T 0, 80, .inl zI)), (q2, .inl (T 0, 80, .inl zI)), (q3, .inl (T 3, 80, .inr (.inr (.inr (.inl zD)))))] := hD
  have hP9 := hP.sub (ws' := [(h0, .inr (4, [.ref q1, .ref q2, .ref q3, .int 0]))]) [0] rfl
  have hD9 := hD.sub (ws' := [(h0, .inr (4, [.ref q1, .ref q2, .ref q3, .int 0]))]) [0] (by decide) rfl
  refine W.widen (k := 3) (n := 240) (Nat.le_of_ble_eq_true rfl) (Nat.le_of_ble_eq_true rfl) ?_
  exact j_vret F hr hlocks hK hS (q1, q2, q3) trivial hP9 hD9 d_Row_init_30
set_option maxHeartbeats 4000000 in
set_option maxRecDepth 100000 in
theorem c_Row_init_Row120 (l : Launch) (D : va_G) (T : Nat → ClassId) (h0 : Nat) (sz : Nat) : Met l ⟨"PageScribe$Row", "<init>", "(I)V"⟩ (wy ⟨"PageScribe$Row", "<init>", "(I)V"⟩ prog_8_method_1_code 2 none) ({ frames := 1, cells := 3, slots := 360, locals := 70 }) (va_Pc [.ref h0, .int 120] (Pw D T [(h0, .inr (4, [.null, .null, .null, .int 0]))] sz E0)) (va_Qv (fun (u : Nat × Nat × Nat) => True) (fun u t => Bw D T (va_A [(h0, .inr (4, [.null, .null, .null, .int 0]))] sz) [(h0, .inr (4, [.ref u.1, .ref u.2.1, .ref u.2.2, .int 0]))] t) (va_A [(h0, .inr (4, [.null, .null, .null, .int 0]))] sz)) 3 360 (va_A [(h0, .inr (4, [.null, .null, .null, .int 0]))] sz) := by
  refine j_met (Qc := fun A => va_Qv (fun (u : Nat × Nat × Nat) => True) (fun u t => Bw D T A [(h0, .inr (4, [.ref u.1, .ref u.2.1, .ref u.2.2, .int 0]))] t) A) (by decide +kernel) (Nat.le_of_ble_eq_true rfl) (fun p e s m args below meth c A ls F hr hlocks hnm hK hP hD hS hA hN hE hl => ?_)
  obtain ⟨hx, hb, hml, hown, hts⟩ := id F
  have hin := hnm
  have hl : lv_has ls 2 [(0, .ref h0), (1, .int 120)] := hl
  refine lv_aload_n hx hb d_Row_init_0 rfl (lv_at hl 0 rfl) ?_
  refine j_obj F hl.1 k_1_45 k_1_35 k_1_36 d_Row_init_1 (Nat.le_of_ble_eq_true rfl) (Nat.le_of_ble_eq_true rfl) ?_
  refine lv_aload_n hx hb d_Row_init_4 rfl (lv_at hl 0 rfl) ?_
  refine lv_iconst (v := 0) hx hb d_Row_init_5 (by decide) ?_
  refine va_put (D := D) (ci := 4) (v := .int 0) (ty := .int) (C := "PageScribe$Row") (T := F_Row) (N := 4) hx hb hts i_Row t_Row t_Row_ok n_Row hown hK hP hD hS 0 rfl rfl 3 (by decide) (hts _ k_1_49) (fun _ h9 => h9) rfl (by decide +kernel) rfl rfl (Nat.le_of_ble_eq_true rfl) d_Row_init_6 (fun H locs hP hD hS => ?_)
  have hP : va_P D classes [(h0, .inr (4, [.null, .null, .null, .int 0]))] H := hP
  have hD : va_D A [(h0, .inr (4, [.null, .null, .null, .int 0]))] := hD
  refine lv_aload_n hx hb d_Row_init_9 rfl (lv_at hl 0 rfl) ?_
  refine lv_iload_n hx hb d_Row_init_10 rfl (lv_at hl 1 rfl) ?_
  refine j_newa (atype := .int) (ty := .int) F k_1_67 rfl hK hP hD hS hA 0 (T 0) rfl (120, .inl zI) (fun _ => rfl) (by decide +kernel) (by decide +kernel) (by decide +kernel) (Nat.le_of_ble_eq_true rfl) (Nat.le_of_ble_eq_true rfl) d_Row_init_11 (fun q1 H hP hD hS => ?_)
  have hP : va_P D classes [(h0, .inr (4, [.null, .null, .null, .int 0])), (q1, .inl (T 0, 120, .inl zI))] H := hP
  have hD : va_D A [(h0, .inr (4, [.null, .null, .null, .int 0])), (q1, .inl (T 0, 120, .inl zI))] := hD
  refine va_putF (D := D) (ci := 4) (v := .ref q1) (ty := .array .int) (C := "PageScribe$Row") (T := F_Row) (N := 4) hx hb hts i_Row t_Row t_Row_ok n_Row hown hK hP hD hS 0 rfl rfl 0 (by decide) (hts _ k_1_46) (fun _ h9 => h9) rfl hin rfl (by decide +kernel) rfl rfl (Nat.le_of_ble_eq_true rfl) d_Row_init_13 (fun H locs hP hD hS => ?_)
  have hP : va_P D classes [(h0, .inr (4, [.ref q1, .null, .null, .int 0])), (q1, .inl (T 0, 120, .inl zI))] H := hP
  have hD : va_D A [(h0, .inr (4, [.ref q1, .null, .null, .int 0])), (q1, .inl (T 0, 120, .inl zI))] := hD
  refine lv_aload_n hx hb d_Row_init_16 rfl (lv_at hl 0 rfl) ?_
  refine lv_iload_n hx hb d_Row_init_17 rfl (lv_at hl 1 rfl) ?_
  refine j_newa (atype := .int) (ty := .int) F k_1_67 rfl hK hP hD hS hA 0 (T 0) rfl (120, .inl zI) (fun _ => rfl) (by decide +kernel) (by decide +kernel) (by decide +kernel) (Nat.le_of_ble_eq_true rfl) (Nat.le_of_ble_eq_true rfl) d_Row_init_18 (fun q2 H hP hD hS => ?_)
  have hP : va_P D classes [(h0, .inr (4, [.ref q1, .null, .null, .int 0])), (q1, .inl (T 0, 120, .inl zI)), (q2, .inl (T 0, 120, .inl zI))] H := hP
  have hD : va_D A [(h0, .inr (4, [.ref q1, .null, .null, .int 0])), (q1, .inl (T 0, 120, .inl zI)), (q2, .inl (T 0, 120, .inl zI))] := hD
  refine va_putF (D := D) (ci := 4) (v := .ref q2) (ty := .array .int) (C := "PageScribe$Row") (T := F_Row) (N := 4) hx hb hts i_Row t_Row t_Row_ok n_Row hown hK hP hD hS 0 rfl rfl 1 (by decide) (hts _ k_1_47) (fun _ h9 => h9) rfl hin rfl (by decide +kernel) rfl rfl (Nat.le_of_ble_eq_true rfl) d_Row_init_20 (fun H locs hP hD hS => ?_)
  have hP : va_P D classes [(h0, .inr (4, [.ref q1, .ref q2, .null, .int 0])), (q1, .inl (T 0, 120, .inl zI)), (q2, .inl (T 0, 120, .inl zI))] H := hP
  have hD : va_D A [(h0, .inr (4, [.ref q1, .ref q2, .null, .int 0])), (q1, .inl (T 0, 120, .inl zI)), (q2, .inl (T 0, 120, .inl zI))] := hD
  refine lv_aload_n hx hb d_Row_init_23 rfl (lv_at hl 0 rfl) ?_
  refine lv_iload_n hx hb d_Row_init_24 rfl (lv_at hl 1 rfl) ?_
  refine j_newa (atype := .double) (ty := .double) F k_1_68 rfl hK hP hD hS hA 3 (T 3) rfl (120, .inr (.inr (.inr (.inl zD)))) (fun _ => rfl) (by decide +kernel) (by decide +kernel) (by decide +kernel) (Nat.le_of_ble_eq_true rfl) (Nat.le_of_ble_eq_true rfl) d_Row_init_25 (fun q3 H hP hD hS => ?_)
  have hP : va_P D classes [(h0, .inr (4, [.ref q1, .ref q2, .null, .int 0])), (q1, .inl (T 0, 120, .inl zI)), (q2, .inl (T 0, 120, .inl zI)), (q3, .inl (T 3, 120, .inr (.inr (.inr (.inl zD)))))] H := hP
  have hD : va_D A [(h0, .inr (4, [.ref q1, .ref q2, .null, .int 0])), (q1, .inl (T 0, 120, .inl zI)), (q2, .inl (T 0, 120, .inl zI)), (q3, .inl (T 3, 120, .inr (.inr (.inr (.inl zD)))))] := hD
  refine va_putF (D := D) (ci := 4) (v := .ref q3) (ty := .array .double) (C := "PageScribe$Row") (T := F_Row) (N := 4) hx hb hts i_Row t_Row t_Row_ok n_Row hown hK hP hD hS 0 rfl rfl 2 (by decide) (hts _ k_1_48) (fun _ h9 => h9) rfl hin rfl (by decide +kernel) rfl rfl (Nat.le_of_ble_eq_true rfl) d_Row_init_27 (fun H locs hP hD hS => ?_)
  have hP : va_P D classes [(h0, .inr (4, [.ref q1, .ref q2, .ref q3, .int 0])), (q1, .inl (T 0, 120, .inl zI)), (q2, .inl (T 0, 120, .inl zI)), (q3, .inl (T 3, 120, .inr (.inr (.inr (.inl zD)))))] H := hP
  have hD : va_D A [(h0, .inr (4, [.ref q1, .ref q2, .ref q3, .int 0])), (q1, .inl (T 0, 120, .inl zI)), (q2, .inl (T 0, 120, .inl zI)), (q3, .inl (T 3, 120, .inr (.inr (.inr (.inl zD)))))] := hD
  have hP9 := hP.sub (ws' := [(h0, .inr (4, [.ref q1, .ref q2, .ref q3, .int 0]))]) [0] rfl
  have hD9 := hD.sub (ws' := [(h0, .inr (4, [.ref q1, .ref q2, .ref q3, .int 0]))]) [0] (by decide) rfl
  refine W.widen (k := 3) (n := 360) (Nat.le_of_ble_eq_true rfl) (Nat.le_of_ble_eq_true rfl) ?_
  exact j_vret F hr hlocks hK hS (q1, q2, q3) trivial hP9 hD9 d_Row_init_30
theorem d_Stack_init_0 : decode prog_9_method_1_code 0 = .ok (.aload_n 0, 1) := by decide +kernel
theorem d_Stack_init_1 : decode prog_9_method_1_code 1 = .ok (.bipush 40, 2) := by decide +kernel
theorem d_Stack_init_3 : decode prog_9_method_1_code 3 = .ok (.invokespecial 3, 3) := by decide +kernel
theorem k_1_44 : Cond.code ⟨"PageScribe$Row", "<init>", "(I)V"⟩ prog_8_method_1_code 2 none ∈ gw := gw_of (tb_1 (List.mem_of_getElem? (i := 44) (by decide +kernel))) (by decide +kernel)
theorem k_1_2 : Cond.initialized "PageScribe$Row" ∈ gw := gw_of (tb_1 (List.mem_of_getElem? (i := 2) (by decide +kernel))) (by decide +kernel)
theorem k_1_42 : Cond.methodLink "PageScribe$Stack" 3 ⟨"PageScribe$Row", "<init>", "(I)V"⟩ ∈ gw := gw_of (tb_1 (List.mem_of_getElem? (i := 42) (by decide +kernel))) (by decide +kernel)
theorem k_1_43 : Cond.instanceMethod ⟨"PageScribe$Row", "<init>", "(I)V"⟩ ∈ gw := gw_of (tb_1 (List.mem_of_getElem? (i := 43) (by decide +kernel))) (by decide +kernel)
theorem d_Stack_init_6 : decode prog_9_method_1_code 6 = .ok (.return_, 1) := by decide +kernel
set_option maxHeartbeats 4000000 in
set_option maxRecDepth 100000 in
theorem c_Stack_init (l : Launch) (D : va_G) (T : Nat → ClassId) (h0 : Nat) (sz : Nat) : Met l ⟨"PageScribe$Stack", "<init>", "()V"⟩ (wy ⟨"PageScribe$Stack", "<init>", "()V"⟩ prog_9_method_1_code 1 none) ({ frames := 2, cells := 3, slots := 120, locals := 140 }) (va_Pc [.ref h0] (Pw D T [(h0, .inr (0, [.null, .null, .null, .int 0]))] sz E0)) (va_Qv (fun (u : Nat × Nat × Nat) => True) (fun u t => Bw D T (va_A [(h0, .inr (0, [.null, .null, .null, .int 0]))] sz) [(h0, .inr (0, [.ref u.1, .ref u.2.1, .ref u.2.2, .int 0])), (u.1, .inl (T 0, 40, .inl zI)), (u.2.1, .inl (T 0, 40, .inl zI)), (u.2.2, .inl (T 3, 40, .inr (.inr (.inr (.inl zD)))))] t) (va_A [(h0, .inr (0, [.null, .null, .null, .int 0]))] sz)) 3 120 (va_A [(h0, .inr (0, [.null, .null, .null, .int 0]))] sz) := by
  refine j_met (Qc := fun A => va_Qv (fun (u : Nat × Nat × Nat) => True) (fun u t => Bw D T A [(h0, .inr (0, [.ref u.1, .ref u.2.1, .ref u.2.2, .int 0])), (u.1, .inl (T 0, 40, .inl zI)), (u.2.1, .inl (T 0, 40, .inl zI)), (u.2.2, .inl (T 3, 40, .inr (.inr (.inr (.inl zD)))))] t) A) (by decide +kernel) (Nat.le_of_ble_eq_true rfl) (fun p e s m args below meth c A ls F hr hlocks hnm hK hP hD hS hA hN hE hl => ?_)
  obtain ⟨hx, hb, hml, hown, hts⟩ := id F
  have hin := hnm
  have hl : lv_has ls 1 [(0, .ref h0)] := hl
  refine lv_aload_n hx hb d_Stack_init_0 rfl (lv_at hl 0 rfl) ?_
  refine lv_bipush (v := 40) hx hb d_Stack_init_1 (by decide) ?_
  refine j_cv (wc := [(h0, .inr (0, [.null, .null, .null, .int 0]))]) (wr := []) hK hP hD hS hA [0] [] rfl rfl (by decide) (by decide) (va_runI (As := [.int 40]) (rest := []) F (c_Row_init_Stack40 l D T h0 s.heap.size) (j_cI (k := 1) hts k_1_44 k_1_2 k_1_42 k_1_43 rfl (by decide +kernel) ⟨Nat.le_of_ble_eq_true rfl, Nat.le_of_ble_eq_true rfl⟩) (j_preS hK hP hD [0] rfl (by decide) (fun _ _ _ _ h => h) (fun _ _ _ => trivial)) rfl rfl hl.1 rfl (lv_room (Nat.le_of_ble_eq_true rfl)) d_Stack_init_3 ⟨Nat.le_of_ble_eq_true rfl, Nat.le_of_ble_eq_true rfl⟩) (fun u1 H locs hw hP hD hS => ?_)
  obtain ⟨a1_1, a2_1, a3_1⟩ := u1
  have hP : va_P D classes [(h0, .inr (0, [.ref a1_1, .ref a2_1, .ref a3_1, .int 0])), (a1_1, .inl (T 0, 40, .inl zI)), (a2_1, .inl (T 0, 40, .inl zI)), (a3_1, .inl (T 3, 40, .inr (.inr (.inr (.inl zD)))))] H := hP
  have hD : va_D A [(h0, .inr (0, [.ref a1_1, .ref a2_1, .ref a3_1, .int 0])), (a1_1, .inl (T 0, 40, .inl zI)), (a2_1, .inl (T 0, 40, .inl zI)), (a3_1, .inl (T 3, 40, .inr (.inr (.inr (.inl zD)))))] := hD
  have hP9 := hP.sub (ws' := [(h0, .inr (0, [.ref a1_1, .ref a2_1, .ref a3_1, .int 0])), (a1_1, .inl (T 0, 40, .inl zI)), (a2_1, .inl (T 0, 40, .inl zI)), (a3_1, .inl (T 3, 40, .inr (.inr (.inr (.inl zD)))))]) [0, 1, 2, 3] rfl
  have hD9 := hD.sub (ws' := [(h0, .inr (0, [.ref a1_1, .ref a2_1, .ref a3_1, .int 0])), (a1_1, .inl (T 0, 40, .inl zI)), (a2_1, .inl (T 0, 40, .inl zI)), (a3_1, .inl (T 3, 40, .inr (.inr (.inr (.inl zD)))))]) [0, 1, 2, 3] (by decide) rfl
  refine W.widen (k := 3) (n := 120) (Nat.le_of_ble_eq_true rfl) (Nat.le_of_ble_eq_true rfl) ?_
  exact j_vret F hr hlocks hK hS (a1_1, a2_1, a3_1) trivial hP9 hD9 d_Stack_init_6
theorem d_Words_init_0 : decode prog_13_method_1_code 0 = .ok (.aload_n 0, 1) := by decide +kernel
theorem d_Words_init_1 : decode prog_13_method_1_code 1 = .ok (.invokespecial 3, 3) := by decide +kernel
theorem k_1_74 : Cond.methodLink "PageScribe$Words" 3 ⟨"java/lang/Object", "<init>", "()V"⟩ ∈ gw := gw_of (tb_1 (List.mem_of_getElem? (i := 74) (by decide +kernel))) (by decide +kernel)
theorem d_Words_init_4 : decode prog_13_method_1_code 4 = .ok (.aload_n 0, 1) := by decide +kernel
theorem d_Words_init_5 : decode prog_13_method_1_code 5 = .ok (.sipush 320, 3) := by decide +kernel
theorem d_Words_init_8 : decode prog_13_method_1_code 8 = .ok (.newarray .char, 2) := by decide +kernel
theorem k_1_86 : Cond.arrayClass .char ∈ gw := gw_of (tb_1 (List.mem_of_getElem? (i := 86) (by decide +kernel))) (by decide +kernel)
theorem d_Words_init_10 : decode prog_13_method_1_code 10 = .ok (.putfield 9, 3) := by decide +kernel
theorem k_1_75 : Cond.fieldLink "PageScribe$Words" 9 "PageScribe$Words" "letters" "[C" ∈ gw := gw_of (tb_1 (List.mem_of_getElem? (i := 75) (by decide +kernel))) (by decide +kernel)
theorem d_Words_init_13 : decode prog_13_method_1_code 13 = .ok (.aload_n 0, 1) := by decide +kernel
theorem d_Words_init_14 : decode prog_13_method_1_code 14 = .ok (.bipush 40, 2) := by decide +kernel
theorem d_Words_init_16 : decode prog_13_method_1_code 16 = .ok (.newarray .int, 2) := by decide +kernel
theorem d_Words_init_18 : decode prog_13_method_1_code 18 = .ok (.putfield 15, 3) := by decide +kernel
theorem k_1_76 : Cond.fieldLink "PageScribe$Words" 15 "PageScribe$Words" "lengths" "[I" ∈ gw := gw_of (tb_1 (List.mem_of_getElem? (i := 76) (by decide +kernel))) (by decide +kernel)
theorem d_Words_init_21 : decode prog_13_method_1_code 21 = .ok (.aload_n 0, 1) := by decide +kernel
theorem d_Words_init_22 : decode prog_13_method_1_code 22 = .ok (.iconst 0, 1) := by decide +kernel
theorem d_Words_init_23 : decode prog_13_method_1_code 23 = .ok (.putfield 19, 3) := by decide +kernel
theorem k_1_77 : Cond.fieldLink "PageScribe$Words" 19 "PageScribe$Words" "count" "I" ∈ gw := gw_of (tb_1 (List.mem_of_getElem? (i := 77) (by decide +kernel))) (by decide +kernel)
theorem d_Words_init_26 : decode prog_13_method_1_code 26 = .ok (.return_, 1) := by decide +kernel
set_option maxHeartbeats 4000000 in
set_option maxRecDepth 100000 in
theorem c_Words_init (l : Launch) (D : va_G) (T : Nat → ClassId) (h0 : Nat) (sz : Nat) : Met l ⟨"PageScribe$Words", "<init>", "()V"⟩ (wy ⟨"PageScribe$Words", "<init>", "()V"⟩ prog_13_method_1_code 1 none) ({ frames := 1, cells := 2, slots := 360, locals := 70 }) (va_Pc [.ref h0] (Pw D T [(h0, .inr (1, [.null, .null, .int 0]))] sz E0)) (va_Qv (fun (u : Nat × Nat) => True) (fun u t => Bw D T (va_A [(h0, .inr (1, [.null, .null, .int 0]))] sz) [(h0, .inr (1, [.ref u.1, .ref u.2, .int 0]))] t) (va_A [(h0, .inr (1, [.null, .null, .int 0]))] sz)) 2 360 (va_A [(h0, .inr (1, [.null, .null, .int 0]))] sz) := by
  refine j_met (Qc := fun A => va_Qv (fun (u : Nat × Nat) => True) (fun u t => Bw D T A [(h0, .inr (1, [.ref u.1, .ref u.2, .int 0]))] t) A) (by decide +kernel) (Nat.le_of_ble_eq_true rfl) (fun p e s m args below meth c A ls F hr hlocks hnm hK hP hD hS hA hN hE hl => ?_)
  obtain ⟨hx, hb, hml, hown, hts⟩ := id F
  have hin := hnm
  have hl : lv_has ls 1 [(0, .ref h0)] := hl
  refine lv_aload_n hx hb d_Words_init_0 rfl (lv_at hl 0 rfl) ?_
  refine j_obj F hl.1 k_1_74 k_1_35 k_1_36 d_Words_init_1 (Nat.le_of_ble_eq_true rfl) (Nat.le_of_ble_eq_true rfl) ?_
  refine lv_aload_n hx hb d_Words_init_4 rfl (lv_at hl 0 rfl) ?_
  refine lv_sipush (v := 320) hx hb d_Words_init_5 (by decide) ?_
  refine j_newa (atype := .char) (ty := .char) F k_1_86 rfl hK hP hD hS hA 2 (T 2) rfl (320, .inl zI) (fun _ => rfl) (by decide +kernel) (by decide +kernel) (by decide +kernel) (Nat.le_of_ble_eq_true rfl) (Nat.le_of_ble_eq_true rfl) d_Words_init_8 (fun q1 H hP hD hS => ?_)
  have hP : va_P D classes [(h0, .inr (1, [.null, .null, .int 0])), (q1, .inl (T 2, 320, .inl zI))] H := hP
  have hD : va_D A [(h0, .inr (1, [.null, .null, .int 0])), (q1, .inl (T 2, 320, .inl zI))] := hD
  refine va_putF (D := D) (ci := 1) (v := .ref q1) (ty := .array .char) (C := "PageScribe$Words") (T := F_Words) (N := 3) hx hb hts i_Words t_Words t_Words_ok n_Words hown hK hP hD hS 0 rfl rfl 0 (by decide) (hts _ k_1_75) (fun _ h9 => h9) rfl hin rfl (by decide +kernel) rfl rfl (Nat.le_of_ble_eq_true rfl) d_Words_init_10 (fun H locs hP hD hS => ?_)
  have hP : va_P D classes [(h0, .inr (1, [.ref q1, .null, .int 0])), (q1, .inl (T 2, 320, .inl zI))] H := hP
  have hD : va_D A [(h0, .inr (1, [.ref q1, .null, .int 0])), (q1, .inl (T 2, 320, .inl zI))] := hD
  refine lv_aload_n hx hb d_Words_init_13 rfl (lv_at hl 0 rfl) ?_
  refine lv_bipush (v := 40) hx hb d_Words_init_14 (by decide) ?_
  refine j_newa (atype := .int) (ty := .int) F k_1_67 rfl hK hP hD hS hA 0 (T 0) rfl (40, .inl zI) (fun _ => rfl) (by decide +kernel) (by decide +kernel) (by decide +kernel) (Nat.le_of_ble_eq_true rfl) (Nat.le_of_ble_eq_true rfl) d_Words_init_16 (fun q2 H hP hD hS => ?_)
  have hP : va_P D classes [(h0, .inr (1, [.ref q1, .null, .int 0])), (q1, .inl (T 2, 320, .inl zI)), (q2, .inl (T 0, 40, .inl zI))] H := hP
  have hD : va_D A [(h0, .inr (1, [.ref q1, .null, .int 0])), (q1, .inl (T 2, 320, .inl zI)), (q2, .inl (T 0, 40, .inl zI))] := hD
  refine va_putF (D := D) (ci := 1) (v := .ref q2) (ty := .array .int) (C := "PageScribe$Words") (T := F_Words) (N := 3) hx hb hts i_Words t_Words t_Words_ok n_Words hown hK hP hD hS 0 rfl rfl 1 (by decide) (hts _ k_1_76) (fun _ h9 => h9) rfl hin rfl (by decide +kernel) rfl rfl (Nat.le_of_ble_eq_true rfl) d_Words_init_18 (fun H locs hP hD hS => ?_)
  have hP : va_P D classes [(h0, .inr (1, [.ref q1, .ref q2, .int 0])), (q1, .inl (T 2, 320, .inl zI)), (q2, .inl (T 0, 40, .inl zI))] H := hP
  have hD : va_D A [(h0, .inr (1, [.ref q1, .ref q2, .int 0])), (q1, .inl (T 2, 320, .inl zI)), (q2, .inl (T 0, 40, .inl zI))] := hD
  refine lv_aload_n hx hb d_Words_init_21 rfl (lv_at hl 0 rfl) ?_
  refine lv_iconst (v := 0) hx hb d_Words_init_22 (by decide) ?_
  refine va_put (D := D) (ci := 1) (v := .int 0) (ty := .int) (C := "PageScribe$Words") (T := F_Words) (N := 3) hx hb hts i_Words t_Words t_Words_ok n_Words hown hK hP hD hS 0 rfl rfl 2 (by decide) (hts _ k_1_77) (fun _ h9 => h9) rfl (by decide +kernel) rfl rfl (Nat.le_of_ble_eq_true rfl) d_Words_init_23 (fun H locs hP hD hS => ?_)
  have hP : va_P D classes [(h0, .inr (1, [.ref q1, .ref q2, .int 0])), (q1, .inl (T 2, 320, .inl zI)), (q2, .inl (T 0, 40, .inl zI))] H := hP
  have hD : va_D A [(h0, .inr (1, [.ref q1, .ref q2, .int 0])), (q1, .inl (T 2, 320, .inl zI)), (q2, .inl (T 0, 40, .inl zI))] := hD
  have hP9 := hP.sub (ws' := [(h0, .inr (1, [.ref q1, .ref q2, .int 0]))]) [0] rfl
  have hD9 := hD.sub (ws' := [(h0, .inr (1, [.ref q1, .ref q2, .int 0]))]) [0] (by decide) rfl
  refine W.widen (k := 2) (n := 360) (Nat.le_of_ble_eq_true rfl) (Nat.le_of_ble_eq_true rfl) ?_
  exact j_vret F hr hlocks hK hS (q1, q2) trivial hP9 hD9 d_Words_init_26
theorem d_Store_init_0 : decode prog_10_method_1_code 0 = .ok (.aload_n 0, 1) := by decide +kernel
theorem d_Store_init_1 : decode prog_10_method_1_code 1 = .ok (.invokespecial 3, 3) := by decide +kernel
theorem k_1_98 : Cond.methodLink "PageScribe$Store" 3 ⟨"java/lang/Object", "<init>", "()V"⟩ ∈ gw := gw_of (tb_1 (List.mem_of_getElem? (i := 98) (by decide +kernel))) (by decide +kernel)
theorem d_Store_init_4 : decode prog_10_method_1_code 4 = .ok (.aload_n 0, 1) := by decide +kernel
theorem d_Store_init_5 : decode prog_10_method_1_code 5 = .ok (.new 9, 3) := by decide +kernel
theorem k_1_99 : Cond.classLink "PageScribe$Store" 9 "PageScribe$Row" ∈ gw := gw_of (tb_1 (List.mem_of_getElem? (i := 99) (by decide +kernel))) (by decide +kernel)
theorem k_1_100 : Cond.instantiable "PageScribe$Row" 4 ∈ gw := gw_of (tb_1 (List.mem_of_getElem? (i := 100) (by decide +kernel))) (by decide +kernel)
theorem d_Store_init_8 : decode prog_10_method_1_code 8 = .ok (.dup, 1) := by decide +kernel
theorem d_Store_init_9 : decode prog_10_method_1_code 9 = .ok (.sipush 160, 3) := by decide +kernel
theorem d_Store_init_12 : decode prog_10_method_1_code 12 = .ok (.invokespecial 11, 3) := by decide +kernel
theorem k_1_101 : Cond.methodLink "PageScribe$Store" 11 ⟨"PageScribe$Row", "<init>", "(I)V"⟩ ∈ gw := gw_of (tb_1 (List.mem_of_getElem? (i := 101) (by decide +kernel))) (by decide +kernel)
theorem d_Store_init_15 : decode prog_10_method_1_code 15 = .ok (.putfield 14, 3) := by decide +kernel
theorem k_1_107 : Cond.fieldLink "PageScribe$Store" 14 "PageScribe$Store" "cells" "LPageScribe$Row;" ∈ gw := gw_of (tb_1 (List.mem_of_getElem? (i := 107) (by decide +kernel))) (by decide +kernel)
theorem d_Store_init_18 : decode prog_10_method_1_code 18 = .ok (.aload_n 0, 1) := by decide +kernel
theorem d_Store_init_19 : decode prog_10_method_1_code 19 = .ok (.bipush 7, 2) := by decide +kernel
theorem d_Store_init_21 : decode prog_10_method_1_code 21 = .ok (.newarray .int, 2) := by decide +kernel
theorem d_Store_init_23 : decode prog_10_method_1_code 23 = .ok (.putfield 20, 3) := by decide +kernel
theorem k_1_111 : Cond.fieldLink "PageScribe$Store" 20 "PageScribe$Store" "rooms" "[I" ∈ gw := gw_of (tb_1 (List.mem_of_getElem? (i := 111) (by decide +kernel))) (by decide +kernel)
theorem d_Store_init_26 : decode prog_10_method_1_code 26 = .ok (.aload_n 0, 1) := by decide +kernel
theorem d_Store_init_27 : decode prog_10_method_1_code 27 = .ok (.bipush 7, 2) := by decide +kernel
theorem d_Store_init_29 : decode prog_10_method_1_code 29 = .ok (.newarray .int, 2) := by decide +kernel
theorem d_Store_init_31 : decode prog_10_method_1_code 31 = .ok (.putfield 24, 3) := by decide +kernel
theorem k_1_112 : Cond.fieldLink "PageScribe$Store" 24 "PageScribe$Store" "counts" "[I" ∈ gw := gw_of (tb_1 (List.mem_of_getElem? (i := 112) (by decide +kernel))) (by decide +kernel)
theorem d_Store_init_34 : decode prog_10_method_1_code 34 = .ok (.aload_n 0, 1) := by decide +kernel
theorem d_Store_init_35 : decode prog_10_method_1_code 35 = .ok (.bipush 80, 2) := by decide +kernel
theorem d_Store_init_37 : decode prog_10_method_1_code 37 = .ok (.newarray .int, 2) := by decide +kernel
theorem d_Store_init_39 : decode prog_10_method_1_code 39 = .ok (.putfield 27, 3) := by decide +kernel
theorem k_1_113 : Cond.fieldLink "PageScribe$Store" 27 "PageScribe$Store" "names" "[I" ∈ gw := gw_of (tb_1 (List.mem_of_getElem? (i := 113) (by decide +kernel))) (by decide +kernel)
theorem d_Store_init_42 : decode prog_10_method_1_code 42 = .ok (.aload_n 0, 1) := by decide +kernel
theorem d_Store_init_43 : decode prog_10_method_1_code 43 = .ok (.new 9, 3) := by decide +kernel
theorem d_Store_init_46 : decode prog_10_method_1_code 46 = .ok (.dup, 1) := by decide +kernel
theorem d_Store_init_47 : decode prog_10_method_1_code 47 = .ok (.bipush 80, 2) := by decide +kernel
theorem d_Store_init_49 : decode prog_10_method_1_code 49 = .ok (.invokespecial 11, 3) := by decide +kernel
theorem d_Store_init_52 : decode prog_10_method_1_code 52 = .ok (.putfield 30, 3) := by decide +kernel
theorem k_1_114 : Cond.fieldLink "PageScribe$Store" 30 "PageScribe$Store" "values" "LPageScribe$Row;" ∈ gw := gw_of (tb_1 (List.mem_of_getElem? (i := 114) (by decide +kernel))) (by decide +kernel)
theorem d_Store_init_55 : decode prog_10_method_1_code 55 = .ok (.aload_n 0, 1) := by decide +kernel
theorem d_Store_init_56 : decode prog_10_method_1_code 56 = .ok (.getfield 20, 3) := by decide +kernel
theorem d_Store_init_59 : decode prog_10_method_1_code 59 = .ok (.iconst 0, 1) := by decide +kernel
theorem d_Store_init_60 : decode prog_10_method_1_code 60 = .ok (.bipush 20, 2) := by decide +kernel
theorem d_Store_init_62 : decode prog_10_method_1_code 62 = .ok (.iastore, 1) := by decide +kernel
theorem d_Store_init_63 : decode prog_10_method_1_code 63 = .ok (.return_, 1) := by decide +kernel
set_option maxHeartbeats 4000000 in
set_option maxRecDepth 100000 in
theorem c_Store_init (l : Launch) (D : va_G) (T : Nat → ClassId) (h0 : Nat) (sz : Nat) : Met l ⟨"PageScribe$Store", "<init>", "()V"⟩ (wy ⟨"PageScribe$Store", "<init>", "()V"⟩ prog_10_method_1_code 1 none) ({ frames := 3, cells := 11, slots := 822, locals := 210 }) (va_Pc [.ref h0] (Pw D T [(h0, .inr (3, [.null, .null, .null, .null, .null]))] sz E0)) (va_Qv (fun (u : Nat × Nat × Nat × Nat × Nat × Nat × Nat × Nat) => True) (fun u t => Bw D T (va_A [(h0, .inr (3, [.null, .null, .null, .null, .null]))] sz) [(h0, .inr (3, [.ref u.1, .ref u.2.1, .ref u.2.2.1, .ref u.2.2.2.1, .ref u.2.2.2.2.1])), (u.1, .inr (4, [.ref u.2.2.2.2.2.1, .ref u.2.2.2.2.2.2.1, .ref u.2.2.2.2.2.2.2, .int 0])), (u.2.1, .inl (T 0, 7, .inl roomF))] t) (va_A [(h0, .inr (3, [.null, .null, .null, .null, .null]))] sz)) 11 822 (va_A [(h0, .inr (3, [.null, .null, .null, .null, .null]))] sz) := by
  refine j_met (Qc := fun A => va_Qv (fun (u : Nat × Nat × Nat × Nat × Nat × Nat × Nat × Nat) => True) (fun u t => Bw D T A [(h0, .inr (3, [.ref u.1, .ref u.2.1, .ref u.2.2.1, .ref u.2.2.2.1, .ref u.2.2.2.2.1])), (u.1, .inr (4, [.ref u.2.2.2.2.2.1, .ref u.2.2.2.2.2.2.1, .ref u.2.2.2.2.2.2.2, .int 0])), (u.2.1, .inl (T 0, 7, .inl roomF))] t) A) (by decide +kernel) (Nat.le_of_ble_eq_true rfl) (fun p e s m args below meth c A ls F hr hlocks hnm hK hP hD hS hA hN hE hl => ?_)
  obtain ⟨hx, hb, hml, hown, hts⟩ := id F
  have hin := hnm
  have hl : lv_has ls 1 [(0, .ref h0)] := hl
  refine lv_aload_n hx hb d_Store_init_0 rfl (lv_at hl 0 rfl) ?_
  refine j_obj F hl.1 k_1_98 k_1_35 k_1_36 d_Store_init_1 (Nat.le_of_ble_eq_true rfl) (Nat.le_of_ble_eq_true rfl) ?_
  refine lv_aload_n hx hb d_Store_init_4 rfl (lv_at hl 0 rfl) ?_
  refine va_new (ci := 4) (fs := [.null, .null, .null, .int 0]) (C := "PageScribe$Row") (T := F_Row) (N := 4) hx hb hts i_Row t_Row t_Row_ok hown (hts _ k_1_99) (hts _ k_1_100) (hts _ k_1_2) hK hP hD hS hA rfl z_Row (Nat.le_of_ble_eq_true rfl) (Nat.le_of_ble_eq_true rfl) d_Store_init_5 (fun q1 H hP hD hS => ?_)
  have hP : va_P D classes [(h0, .inr (3, [.null, .null, .null, .null, .null])), (q1, .inr (4, [.null, .null, .null, .int 0]))] H := hP
  have hD : va_D A [(h0, .inr (3, [.null, .null, .null, .null, .null])), (q1, .inr (4, [.null, .null, .null, .int 0]))] := hD
  refine lv_dup hx hb d_Store_init_8 rfl ?_
  refine lv_sipush (v := 160) hx hb d_Store_init_9 (by decide) ?_
  refine j_cv (wc := [(q1, .inr (4, [.null, .null, .null, .int 0]))]) (wr := [(h0, .inr (3, [.null, .null, .null, .null, .null]))]) hK hP hD hS hA [1] [0] rfl rfl (by decide) (by decide) (va_runI (As := [.int 160]) (rest := [.ref q1, .ref h0]) F (c_Row_init_Row160 l D T q1 H.size) (j_cI (k := 1) hts k_1_44 k_1_2 k_1_101 k_1_43 rfl (by decide +kernel) ⟨Nat.le_of_ble_eq_true rfl, Nat.le_of_ble_eq_true rfl⟩) (j_preS hK hP hD [1] rfl (by decide) (fun _ _ _ _ h => h) (fun _ _ _ => trivial)) rfl rfl hl.1 rfl (lv_room (Nat.le_of_ble_eq_true rfl)) d_Store_init_12 ⟨Nat.le_of_ble_eq_true rfl, Nat.le_of_ble_eq_true rfl⟩) (fun u1 H locs hw hP hD hS => ?_)
  obtain ⟨a1_1, a2_1, a3_1⟩ := u1
  have hP : va_P D classes [(h0, .inr (3, [.null, .null, .null, .null, .null])), (q1, .inr (4, [.ref a1_1, .ref a2_1, .ref a3_1, .int 0]))] H := hP
  have hD : va_D A [(h0, .inr (3, [.null, .null, .null, .null, .null])), (q1, .inr (4, [.ref a1_1, .ref a2_1, .ref a3_1, .int 0]))] := hD
  refine va_putF (D := D) (ci := 3) (v := .ref q1) (ty := .object "PageScribe$Row") (C := "PageScribe$Store") (T := F_Store) (N := 5) hx hb hts i_Store t_Store t_Store_ok n_Store hown hK hP hD hS 0 rfl rfl 0 (by decide) (hts _ k_1_107) (fun _ h9 => h9) rfl hin rfl (by decide +kernel) rfl rfl (Nat.le_of_ble_eq_true rfl) d_Store_init_15 (fun H locs hP hD hS => ?_)
  have hP : va_P D classes [(h0, .inr (3, [.ref q1, .null, .null, .null, .null])), (q1, .inr (4, [.ref a1_1, .ref a2_1, .ref a3_1, .int 0]))] H := hP
  have hD : va_D A [(h0, .inr (3, [.ref q1, .null, .null, .null, .null])), (q1, .inr (4, [.ref a1_1, .ref a2_1, .ref a3_1, .int 0]))] := hD
  refine lv_aload_n hx hb d_Store_init_18 rfl (lv_at hl 0 rfl) ?_
  refine lv_bipush (v := 7) hx hb d_Store_init_19 (by decide) ?_
  refine j_newa (atype := .int) (ty := .int) F k_1_67 rfl hK hP hD hS hA 0 (T 0) rfl (7, .inl zI) (fun _ => rfl) (by decide +kernel) (by decide +kernel) (by decide +kernel) (Nat.le_of_ble_eq_true rfl) (Nat.le_of_ble_eq_true rfl) d_Store_init_21 (fun q2 H hP hD hS => ?_)
  have hP : va_P D classes [(h0, .inr (3, [.ref q1, .null, .null, .null, .null])), (q1, .inr (4, [.ref a1_1, .ref a2_1, .ref a3_1, .int 0])), (q2, .inl (T 0, 7, .inl zI))] H := hP
  have hD : va_D A [(h0, .inr (3, [.ref q1, .null, .null, .null, .null])), (q1, .inr (4, [.ref a1_1, .ref a2_1, .ref a3_1, .int 0])), (q2, .inl (T 0, 7, .inl zI))] := hD
  refine va_putF (D := D) (ci := 3) (v := .ref q2) (ty := .array .int) (C := "PageScribe$Store") (T := F_Store) (N := 5) hx hb hts i_Store t_Store t_Store_ok n_Store hown hK hP hD hS 0 rfl rfl 1 (by decide) (hts _ k_1_111) (fun _ h9 => h9) rfl hin rfl (by decide +kernel) rfl rfl (Nat.le_of_ble_eq_true rfl) d_Store_init_23 (fun H locs hP hD hS => ?_)
  have hP : va_P D classes [(h0, .inr (3, [.ref q1, .ref q2, .null, .null, .null])), (q1, .inr (4, [.ref a1_1, .ref a2_1, .ref a3_1, .int 0])), (q2, .inl (T 0, 7, .inl zI))] H := hP
  have hD : va_D A [(h0, .inr (3, [.ref q1, .ref q2, .null, .null, .null])), (q1, .inr (4, [.ref a1_1, .ref a2_1, .ref a3_1, .int 0])), (q2, .inl (T 0, 7, .inl zI))] := hD
  refine lv_aload_n hx hb d_Store_init_26 rfl (lv_at hl 0 rfl) ?_
  refine lv_bipush (v := 7) hx hb d_Store_init_27 (by decide) ?_
  refine j_newa (atype := .int) (ty := .int) F k_1_67 rfl hK hP hD hS hA 0 (T 0) rfl (7, .inl zI) (fun _ => rfl) (by decide +kernel) (by decide +kernel) (by decide +kernel) (Nat.le_of_ble_eq_true rfl) (Nat.le_of_ble_eq_true rfl) d_Store_init_29 (fun q3 H hP hD hS => ?_)
  have hP : va_P D classes [(h0, .inr (3, [.ref q1, .ref q2, .null, .null, .null])), (q1, .inr (4, [.ref a1_1, .ref a2_1, .ref a3_1, .int 0])), (q2, .inl (T 0, 7, .inl zI)), (q3, .inl (T 0, 7, .inl zI))] H := hP
  have hD : va_D A [(h0, .inr (3, [.ref q1, .ref q2, .null, .null, .null])), (q1, .inr (4, [.ref a1_1, .ref a2_1, .ref a3_1, .int 0])), (q2, .inl (T 0, 7, .inl zI)), (q3, .inl (T 0, 7, .inl zI))] := hD
  refine va_putF (D := D) (ci := 3) (v := .ref q3) (ty := .array .int) (C := "PageScribe$Store") (T := F_Store) (N := 5) hx hb hts i_Store t_Store t_Store_ok n_Store hown hK hP hD hS 0 rfl rfl 2 (by decide) (hts _ k_1_112) (fun _ h9 => h9) rfl hin rfl (by decide +kernel) rfl rfl (Nat.le_of_ble_eq_true rfl) d_Store_init_31 (fun H locs hP hD hS => ?_)
  have hP : va_P D classes [(h0, .inr (3, [.ref q1, .ref q2, .ref q3, .null, .null])), (q1, .inr (4, [.ref a1_1, .ref a2_1, .ref a3_1, .int 0])), (q2, .inl (T 0, 7, .inl zI)), (q3, .inl (T 0, 7, .inl zI))] H := hP
  have hD : va_D A [(h0, .inr (3, [.ref q1, .ref q2, .ref q3, .null, .null])), (q1, .inr (4, [.ref a1_1, .ref a2_1, .ref a3_1, .int 0])), (q2, .inl (T 0, 7, .inl zI)), (q3, .inl (T 0, 7, .inl zI))] := hD
  refine lv_aload_n hx hb d_Store_init_34 rfl (lv_at hl 0 rfl) ?_
  refine lv_bipush (v := 80) hx hb d_Store_init_35 (by decide) ?_
  refine j_newa (atype := .int) (ty := .int) F k_1_67 rfl hK hP hD hS hA 0 (T 0) rfl (80, .inl zI) (fun _ => rfl) (by decide +kernel) (by decide +kernel) (by decide +kernel) (Nat.le_of_ble_eq_true rfl) (Nat.le_of_ble_eq_true rfl) d_Store_init_37 (fun q4 H hP hD hS => ?_)
  have hP : va_P D classes [(h0, .inr (3, [.ref q1, .ref q2, .ref q3, .null, .null])), (q1, .inr (4, [.ref a1_1, .ref a2_1, .ref a3_1, .int 0])), (q2, .inl (T 0, 7, .inl zI)), (q3, .inl (T 0, 7, .inl zI)), (q4, .inl (T 0, 80, .inl zI))] H := hP
  have hD : va_D A [(h0, .inr (3, [.ref q1, .ref q2, .ref q3, .null, .null])), (q1, .inr (4, [.ref a1_1, .ref a2_1, .ref a3_1, .int 0])), (q2, .inl (T 0, 7, .inl zI)), (q3, .inl (T 0, 7, .inl zI)), (q4, .inl (T 0, 80, .inl zI))] := hD
  refine va_putF (D := D) (ci := 3) (v := .ref q4) (ty := .array .int) (C := "PageScribe$Store") (T := F_Store) (N := 5) hx hb hts i_Store t_Store t_Store_ok n_Store hown hK hP hD hS 0 rfl rfl 3 (by decide) (hts _ k_1_113) (fun _ h9 => h9) rfl hin rfl (by decide +kernel) rfl rfl (Nat.le_of_ble_eq_true rfl) d_Store_init_39 (fun H locs hP hD hS => ?_)
  have hP : va_P D classes [(h0, .inr (3, [.ref q1, .ref q2, .ref q3, .ref q4, .null])), (q1, .inr (4, [.ref a1_1, .ref a2_1, .ref a3_1, .int 0])), (q2, .inl (T 0, 7, .inl zI)), (q3, .inl (T 0, 7, .inl zI)), (q4, .inl (T 0, 80, .inl zI))] H := hP
  have hD : va_D A [(h0, .inr (3, [.ref q1, .ref q2, .ref q3, .ref q4, .null])), (q1, .inr (4, [.ref a1_1, .ref a2_1, .ref a3_1, .int 0])), (q2, .inl (T 0, 7, .inl zI)), (q3, .inl (T 0, 7, .inl zI)), (q4, .inl (T 0, 80, .inl zI))] := hD
  refine lv_aload_n hx hb d_Store_init_42 rfl (lv_at hl 0 rfl) ?_
  refine va_new (ci := 4) (fs := [.null, .null, .null, .int 0]) (C := "PageScribe$Row") (T := F_Row) (N := 4) hx hb hts i_Row t_Row t_Row_ok hown (hts _ k_1_99) (hts _ k_1_100) (hts _ k_1_2) hK hP hD hS hA rfl z_Row (Nat.le_of_ble_eq_true rfl) (Nat.le_of_ble_eq_true rfl) d_Store_init_43 (fun q5 H hP hD hS => ?_)
  have hP : va_P D classes [(h0, .inr (3, [.ref q1, .ref q2, .ref q3, .ref q4, .null])), (q1, .inr (4, [.ref a1_1, .ref a2_1, .ref a3_1, .int 0])), (q2, .inl (T 0, 7, .inl zI)), (q3, .inl (T 0, 7, .inl zI)), (q4, .inl (T 0, 80, .inl zI)), (q5, .inr (4, [.null, .null, .null, .int 0]))] H := hP
  have hD : va_D A [(h0, .inr (3, [.ref q1, .ref q2, .ref q3, .ref q4, .null])), (q1, .inr (4, [.ref a1_1, .ref a2_1, .ref a3_1, .int 0])), (q2, .inl (T 0, 7, .inl zI)), (q3, .inl (T 0, 7, .inl zI)), (q4, .inl (T 0, 80, .inl zI)), (q5, .inr (4, [.null, .null, .null, .int 0]))] := hD
  refine lv_dup hx hb d_Store_init_46 rfl ?_
  refine lv_bipush (v := 80) hx hb d_Store_init_47 (by decide) ?_
  refine j_cv (wc := [(q5, .inr (4, [.null, .null, .null, .int 0]))]) (wr := [(h0, .inr (3, [.ref q1, .ref q2, .ref q3, .ref q4, .null])), (q1, .inr (4, [.ref a1_1, .ref a2_1, .ref a3_1, .int 0])), (q2, .inl (T 0, 7, .inl zI)), (q3, .inl (T 0, 7, .inl zI)), (q4, .inl (T 0, 80, .inl zI))]) hK hP hD hS hA [5] [0, 1, 2, 3, 4] rfl rfl (by decide) (by decide) (va_runI (As := [.int 80]) (rest := [.ref q5, .ref h0]) F (c_Row_init_Row80 l D T q5 H.size) (j_cI (k := 1) hts k_1_44 k_1_2 k_1_101 k_1_43 rfl (by decide +kernel) ⟨Nat.le_of_ble_eq_true rfl, Nat.le_of_ble_eq_true rfl⟩) (j_preS hK hP hD [5] rfl (by decide) (fun _ _ _ _ h => h) (fun _ _ _ => trivial)) rfl rfl hl.1 rfl (lv_room (Nat.le_of_ble_eq_true rfl)) d_Store_init_49 ⟨Nat.le_of_ble_eq_true rfl, Nat.le_of_ble_eq_true rfl⟩) (fun u2 H locs hw hP hD hS => ?_)
  obtain ⟨a1_2, a2_2, a3_2⟩ := u2
  have hP : va_P D classes [(h0, .inr (3, [.ref q1, .ref q2, .ref q3, .ref q4, .null])), (q1, .inr (4, [.ref a1_1, .ref a2_1, .ref a3_1, .int 0])), (q2, .inl (T 0, 7, .inl zI)), (q3, .inl (T 0, 7, .inl zI)), (q4, .inl (T 0, 80, .inl zI)), (q5, .inr (4, [.ref a1_2, .ref a2_2, .ref a3_2, .int 0]))] H := hP
  have hD : va_D A [(h0, .inr (3, [.ref q1, .ref q2, .ref q3, .ref q4, .null])), (q1, .inr (4, [.ref a1_1, .ref a2_1, .ref a3_1, .int 0])), (q2, .inl (T 0, 7, .inl zI)), (q3, .inl (T 0, 7, .inl zI)), (q4, .inl (T 0, 80, .inl zI)), (q5, .inr (4, [.ref a1_2, .ref a2_2, .ref a3_2, .int 0]))] := hD
  refine va_putF (D := D) (ci := 3) (v := .ref q5) (ty := .object "PageScribe$Row") (C := "PageScribe$Store") (T := F_Store) (N := 5) hx hb hts i_Store t_Store t_Store_ok n_Store hown hK hP hD hS 0 rfl rfl 4 (by decide) (hts _ k_1_114) (fun _ h9 => h9) rfl hin rfl (by decide +kernel) rfl rfl (Nat.le_of_ble_eq_true rfl) d_Store_init_52 (fun H locs hP hD hS => ?_)
  have hP : va_P D classes [(h0, .inr (3, [.ref q1, .ref q2, .ref q3, .ref q4, .ref q5])), (q1, .inr (4, [.ref a1_1, .ref a2_1, .ref a3_1, .int 0])), (q2, .inl (T 0, 7, .inl zI)), (q3, .inl (T 0, 7, .inl zI)), (q4, .inl (T 0, 80, .inl zI)), (q5, .inr (4, [.ref a1_2, .ref a2_2, .ref a3_2, .int 0]))] H := hP
  have hD : va_D A [(h0, .inr (3, [.ref q1, .ref q2, .ref q3, .ref q4, .ref q5])), (q1, .inr (4, [.ref a1_1, .ref a2_1, .ref a3_1, .int 0])), (q2, .inl (T 0, 7, .inl zI)), (q3, .inl (T 0, 7, .inl zI)), (q4, .inl (T 0, 80, .inl zI)), (q5, .inr (4, [.ref a1_2, .ref a2_2, .ref a3_2, .int 0]))] := hD
  refine lv_aload_n hx hb d_Store_init_55 rfl (lv_at hl 0 rfl) ?_
  refine va_get (D := D) (ci := 3) (v := .ref q2) (C := "PageScribe$Store") (T := F_Store) (N := 5) hx hb hts i_Store hown hK hP 0 rfl rfl 1 (by decide) (hts _ k_1_111) (fun _ h9 => h9) rfl d_Store_init_56 ?_
  refine lv_iconst (v := 0) hx hb d_Store_init_59 (by decide) ?_
  refine lv_bipush (v := 20) hx hb d_Store_init_60 (by decide) ?_
  refine va_iast hx hb hK hP hD hS 2 0 rfl rfl (by unfold vp_in; decide +kernel) d_Store_init_62 (fun H locs hP hD hS => ?_)
  have hP : va_P D classes [(h0, .inr (3, [.ref q1, .ref q2, .ref q3, .ref q4, .ref q5])), (q1, .inr (4, [.ref a1_1, .ref a2_1, .ref a3_1, .int 0])), (q2, .inl (T 0, 7, .inl (upd zI (0 : Int32).toNatClampNeg 20))), (q3, .inl (T 0, 7, .inl zI)), (q4, .inl (T 0, 80, .inl zI)), (q5, .inr (4, [.ref a1_2, .ref a2_2, .ref a3_2, .int 0]))] H := hP
  have hD : va_D A [(h0, .inr (3, [.ref q1, .ref q2, .ref q3, .ref q4, .ref q5])), (q1, .inr (4, [.ref a1_1, .ref a2_1, .ref a3_1, .int 0])), (q2, .inl (T 0, 7, .inl (upd zI (0 : Int32).toNatClampNeg 20))), (q3, .inl (T 0, 7, .inl zI)), (q4, .inl (T 0, 80, .inl zI)), (q5, .inr (4, [.ref a1_2, .ref a2_2, .ref a3_2, .int 0]))] := hD
  rw [roomF_up] at hP hD
  have hP : va_P D classes [(h0, .inr (3, [.ref q1, .ref q2, .ref q3, .ref q4, .ref q5])), (q1, .inr (4, [.ref a1_1, .ref a2_1, .ref a3_1, .int 0])), (q2, .inl (T 0, 7, .inl roomF)), (q3, .inl (T 0, 7, .inl zI)), (q4, .inl (T 0, 80, .inl zI)), (q5, .inr (4, [.ref a1_2, .ref a2_2, .ref a3_2, .int 0]))] H := hP
  have hD : va_D A [(h0, .inr (3, [.ref q1, .ref q2, .ref q3, .ref q4, .ref q5])), (q1, .inr (4, [.ref a1_1, .ref a2_1, .ref a3_1, .int 0])), (q2, .inl (T 0, 7, .inl roomF)), (q3, .inl (T 0, 7, .inl zI)), (q4, .inl (T 0, 80, .inl zI)), (q5, .inr (4, [.ref a1_2, .ref a2_2, .ref a3_2, .int 0]))] := hD
  have hP9 := hP.sub (ws' := [(h0, .inr (3, [.ref q1, .ref q2, .ref q3, .ref q4, .ref q5])), (q1, .inr (4, [.ref a1_1, .ref a2_1, .ref a3_1, .int 0])), (q2, .inl (T 0, 7, .inl roomF))]) [0, 1, 2] rfl
  have hD9 := hD.sub (ws' := [(h0, .inr (3, [.ref q1, .ref q2, .ref q3, .ref q4, .ref q5])), (q1, .inr (4, [.ref a1_1, .ref a2_1, .ref a3_1, .int 0])), (q2, .inl (T 0, 7, .inl roomF))]) [0, 1, 2] (by decide) rfl
  refine W.widen (k := 11) (n := 822) (Nat.le_of_ble_eq_true rfl) (Nat.le_of_ble_eq_true rfl) ?_
  exact j_vret F hr hlocks hK hS (q1, q2, q3, q4, q5, a1_1, a2_1, a3_1) trivial hP9 hD9 d_Store_init_63
theorem d_Memory_init_0 : decode prog_5_method_1_code 0 = .ok (.aload_n 0, 1) := by decide +kernel
theorem d_Memory_init_1 : decode prog_5_method_1_code 1 = .ok (.invokespecial 3, 3) := by decide +kernel
theorem k_1_92 : Cond.methodLink "PageScribe$Memory" 3 ⟨"java/lang/Object", "<init>", "()V"⟩ ∈ gw := gw_of (tb_1 (List.mem_of_getElem? (i := 92) (by decide +kernel))) (by decide +kernel)
theorem d_Memory_init_4 : decode prog_5_method_1_code 4 = .ok (.aload_n 0, 1) := by decide +kernel
theorem d_Memory_init_5 : decode prog_5_method_1_code 5 = .ok (.new 9, 3) := by decide +kernel
theorem k_1_93 : Cond.classLink "PageScribe$Memory" 9 "PageScribe$Store" ∈ gw := gw_of (tb_1 (List.mem_of_getElem? (i := 93) (by decide +kernel))) (by decide +kernel)
theorem k_1_94 : Cond.instantiable "PageScribe$Store" 5 ∈ gw := gw_of (tb_1 (List.mem_of_getElem? (i := 94) (by decide +kernel))) (by decide +kernel)
theorem k_1_6 : Cond.initialized "PageScribe$Store" ∈ gw := gw_of (tb_1 (List.mem_of_getElem? (i := 6) (by decide +kernel))) (by decide +kernel)
theorem d_Memory_init_8 : decode prog_5_method_1_code 8 = .ok (.dup, 1) := by decide +kernel
theorem d_Memory_init_9 : decode prog_5_method_1_code 9 = .ok (.invokespecial 11, 3) := by decide +kernel
theorem k_1_97 : Cond.code ⟨"PageScribe$Store", "<init>", "()V"⟩ prog_10_method_1_code 1 none ∈ gw := gw_of (tb_1 (List.mem_of_getElem? (i := 97) (by decide +kernel))) (by decide +kernel)
theorem k_1_95 : Cond.methodLink "PageScribe$Memory" 11 ⟨"PageScribe$Store", "<init>", "()V"⟩ ∈ gw := gw_of (tb_1 (List.mem_of_getElem? (i := 95) (by decide +kernel))) (by decide +kernel)
theorem k_1_96 : Cond.instanceMethod ⟨"PageScribe$Store", "<init>", "()V"⟩ ∈ gw := gw_of (tb_1 (List.mem_of_getElem? (i := 96) (by decide +kernel))) (by decide +kernel)
theorem d_Memory_init_12 : decode prog_5_method_1_code 12 = .ok (.putfield 12, 3) := by decide +kernel
theorem k_1_130 : Cond.fieldLink "PageScribe$Memory" 12 "PageScribe$Memory" "store" "LPageScribe$Store;" ∈ gw := gw_of (tb_1 (List.mem_of_getElem? (i := 130) (by decide +kernel))) (by decide +kernel)
theorem d_Memory_init_15 : decode prog_5_method_1_code 15 = .ok (.aload_n 0, 1) := by decide +kernel
theorem d_Memory_init_16 : decode prog_5_method_1_code 16 = .ok (.bipush 6, 2) := by decide +kernel
theorem d_Memory_init_18 : decode prog_5_method_1_code 18 = .ok (.newarray .int, 2) := by decide +kernel
theorem d_Memory_init_20 : decode prog_5_method_1_code 20 = .ok (.putfield 18, 3) := by decide +kernel
theorem k_1_133 : Cond.fieldLink "PageScribe$Memory" 18 "PageScribe$Memory" "scopes" "[I" ∈ gw := gw_of (tb_1 (List.mem_of_getElem? (i := 133) (by decide +kernel))) (by decide +kernel)
theorem d_Memory_init_23 : decode prog_5_method_1_code 23 = .ok (.aload_n 0, 1) := by decide +kernel
theorem d_Memory_init_24 : decode prog_5_method_1_code 24 = .ok (.iconst 1, 1) := by decide +kernel
theorem d_Memory_init_25 : decode prog_5_method_1_code 25 = .ok (.putfield 22, 3) := by decide +kernel
theorem k_1_134 : Cond.fieldLink "PageScribe$Memory" 22 "PageScribe$Memory" "scopeCount" "I" ∈ gw := gw_of (tb_1 (List.mem_of_getElem? (i := 134) (by decide +kernel))) (by decide +kernel)
theorem d_Memory_init_28 : decode prog_5_method_1_code 28 = .ok (.aload_n 0, 1) := by decide +kernel
theorem d_Memory_init_29 : decode prog_5_method_1_code 29 = .ok (.iconst 3, 1) := by decide +kernel
theorem d_Memory_init_30 : decode prog_5_method_1_code 30 = .ok (.anewarray 9, 3) := by decide +kernel
theorem d_Memory_init_33 : decode prog_5_method_1_code 33 = .ok (.putfield 26, 3) := by decide +kernel
theorem k_1_136 : Cond.fieldLink "PageScribe$Memory" 26 "PageScribe$Memory" "kept" "[LPageScribe$Store;" ∈ gw := gw_of (tb_1 (List.mem_of_getElem? (i := 136) (by decide +kernel))) (by decide +kernel)
theorem d_Memory_init_36 : decode prog_5_method_1_code 36 = .ok (.aload_n 0, 1) := by decide +kernel
theorem d_Memory_init_37 : decode prog_5_method_1_code 37 = .ok (.iconst 3, 1) := by decide +kernel
theorem d_Memory_init_38 : decode prog_5_method_1_code 38 = .ok (.newarray .int, 2) := by decide +kernel
theorem d_Memory_init_40 : decode prog_5_method_1_code 40 = .ok (.putfield 30, 3) := by decide +kernel
theorem k_1_137 : Cond.fieldLink "PageScribe$Memory" 30 "PageScribe$Memory" "keptNumbers" "[I" ∈ gw := gw_of (tb_1 (List.mem_of_getElem? (i := 137) (by decide +kernel))) (by decide +kernel)
theorem d_Memory_init_43 : decode prog_5_method_1_code 43 = .ok (.aload_n 0, 1) := by decide +kernel
theorem d_Memory_init_44 : decode prog_5_method_1_code 44 = .ok (.iconst 0, 1) := by decide +kernel
theorem d_Memory_init_45 : decode prog_5_method_1_code 45 = .ok (.putfield 33, 3) := by decide +kernel
theorem k_1_138 : Cond.fieldLink "PageScribe$Memory" 33 "PageScribe$Memory" "openSaves" "I" ∈ gw := gw_of (tb_1 (List.mem_of_getElem? (i := 138) (by decide +kernel))) (by decide +kernel)
theorem d_Memory_init_48 : decode prog_5_method_1_code 48 = .ok (.aload_n 0, 1) := by decide +kernel
theorem d_Memory_init_49 : decode prog_5_method_1_code 49 = .ok (.iconst 0, 1) := by decide +kernel
theorem d_Memory_init_50 : decode prog_5_method_1_code 50 = .ok (.putfield 36, 3) := by decide +kernel
theorem k_1_140 : Cond.fieldLink "PageScribe$Memory" 36 "PageScribe$Memory" "savesMade" "I" ∈ gw := gw_of (tb_1 (List.mem_of_getElem? (i := 140) (by decide +kernel))) (by decide +kernel)
theorem d_Memory_init_53 : decode prog_5_method_1_code 53 = .ok (.aload_n 0, 1) := by decide +kernel
theorem d_Memory_init_54 : decode prog_5_method_1_code 54 = .ok (.aload_n 1, 1) := by decide +kernel
theorem d_Memory_init_55 : decode prog_5_method_1_code 55 = .ok (.putfield 39, 3) := by decide +kernel
theorem k_1_129 : Cond.fieldLink "PageScribe$Memory" 39 "PageScribe$Memory" "stack" "LPageScribe$Stack;" ∈ gw := gw_of (tb_1 (List.mem_of_getElem? (i := 129) (by decide +kernel))) (by decide +kernel)
theorem d_Memory_init_58 : decode prog_5_method_1_code 58 = .ok (.iconst 0, 1) := by decide +kernel
theorem d_Memory_init_59 : decode prog_5_method_1_code 59 = .ok (.istore_n 2, 1) := by decide +kernel
theorem d_Memory_init_60 : decode prog_5_method_1_code 60 = .ok (.iload_n 2, 1) := by decide +kernel
theorem d_Memory_init_61 : decode prog_5_method_1_code 61 = .ok (.iconst 3, 1) := by decide +kernel
theorem d_Memory_init_62 : decode prog_5_method_1_code 62 = .ok (.if_icmp .ge 22, 3) := by decide +kernel
theorem d_Memory_init_65 : decode prog_5_method_1_code 65 = .ok (.aload_n 0, 1) := by decide +kernel
theorem d_Memory_init_66 : decode prog_5_method_1_code 66 = .ok (.getfield 26, 3) := by decide +kernel
theorem d_Memory_init_69 : decode prog_5_method_1_code 69 = .ok (.iload_n 2, 1) := by decide +kernel
theorem d_Memory_init_70 : decode prog_5_method_1_code 70 = .ok (.new 9, 3) := by decide +kernel
theorem d_Memory_init_73 : decode prog_5_method_1_code 73 = .ok (.dup, 1) := by decide +kernel
theorem d_Memory_init_74 : decode prog_5_method_1_code 74 = .ok (.invokespecial 11, 3) := by decide +kernel
theorem d_Memory_init_77 : decode prog_5_method_1_code 77 = .ok (.aastore, 1) := by decide +kernel
theorem d_Memory_init_78 : decode prog_5_method_1_code 78 = .ok (.iinc 2 1, 3) := by decide +kernel
theorem d_Memory_init_81 : decode prog_5_method_1_code 81 = .ok (.goto (-21), 3) := by decide +kernel
theorem d_Memory_init_84 : decode prog_5_method_1_code 84 = .ok (.return_, 1) := by decide +kernel
set_option maxHeartbeats 4000000 in
set_option maxRecDepth 100000 in
theorem c_Memory_init (l : Launch) (D : va_G) (T : Nat → ClassId) (h0 : Nat) (h1 : Nat) (sz : Nat) : Met l ⟨"PageScribe$Memory", "<init>", "(LPageScribe$Stack;)V"⟩ (wy ⟨"PageScribe$Memory", "<init>", "(LPageScribe$Stack;)V"⟩ prog_5_method_1_code 3 none) ({ frames := 4, cells := 51, slots := 3320, locals := 280 }) (va_Pc [.ref h0, .ref h1] (Pw D T [(h0, .inr (2, [.null, .null, .null, .int 0, .null, .null, .int 0, .int 0]))] sz (fun U => va_AO "PageScribe$Store" U))) (va_Qv (fun (u : Nat × Nat × Nat × Nat × Nat × Nat × Nat × Nat × Nat × Nat × Nat × Nat) => True) (fun u t => Bw D T (va_A [(h0, .inr (2, [.null, .null, .null, .int 0, .null, .null, .int 0, .int 0]))] sz) [(h0, .inr (2, [.ref h1, .ref u.1, .ref u.2.1, .int 1, .ref u.2.2.1, .ref u.2.2.2.1, .int 0, .int 0])), (u.1, .inr (3, [.ref u.2.2.2.2.1, .ref u.2.2.2.2.2.1, .ref u.2.2.2.2.2.2.1, .ref u.2.2.2.2.2.2.2.1, .ref u.2.2.2.2.2.2.2.2.1])), (u.2.2.2.2.1, .inr (4, [.ref u.2.2.2.2.2.2.2.2.2.1, .ref u.2.2.2.2.2.2.2.2.2.2.1, .ref u.2.2.2.2.2.2.2.2.2.2.2, .int 0])), (u.2.2.2.2.2.1, .inl (T 0, 7, .inl roomF))] t) (va_A [(h0, .inr (2, [.null, .null, .null, .int 0, .null, .null, .int 0, .int 0]))] sz)) 51 3320 (va_A [(h0, .inr (2, [.null, .null, .null, .int 0, .null, .null, .int 0, .int 0]))] sz) := by
  refine j_met (Qc := fun A => va_Qv (fun (u : Nat × Nat × Nat × Nat × Nat × Nat × Nat × Nat × Nat × Nat × Nat × Nat) => True) (fun u t => Bw D T A [(h0, .inr (2, [.ref h1, .ref u.1, .ref u.2.1, .int 1, .ref u.2.2.1, .ref u.2.2.2.1, .int 0, .int 0])), (u.1, .inr (3, [.ref u.2.2.2.2.1, .ref u.2.2.2.2.2.1, .ref u.2.2.2.2.2.2.1, .ref u.2.2.2.2.2.2.2.1, .ref u.2.2.2.2.2.2.2.2.1])), (u.2.2.2.2.1, .inr (4, [.ref u.2.2.2.2.2.2.2.2.2.1, .ref u.2.2.2.2.2.2.2.2.2.2.1, .ref u.2.2.2.2.2.2.2.2.2.2.2, .int 0])), (u.2.2.2.2.2.1, .inl (T 0, 7, .inl roomF))] t) A) (by decide +kernel) (Nat.le_of_ble_eq_true rfl) (fun p e s m args below meth c A ls F hr hlocks hnm hK hP hD hS hA hN hE hl => ?_)
  obtain ⟨hx, hb, hml, hown, hts⟩ := id F
  have hin := hnm
  have hl : lv_has ls 3 [(0, .ref h0), (1, .ref h1)] := hl
  have hAO := hE
  refine lv_aload_n hx hb d_Memory_init_0 rfl (lv_at hl 0 rfl) ?_
  refine j_obj F hl.1 k_1_92 k_1_35 k_1_36 d_Memory_init_1 (Nat.le_of_ble_eq_true rfl) (Nat.le_of_ble_eq_true rfl) ?_
  refine lv_aload_n hx hb d_Memory_init_4 rfl (lv_at hl 0 rfl) ?_
  refine va_new (ci := 3) (fs := [.null, .null, .null, .null, .null]) (C := "PageScribe$Store") (T := F_Store) (N := 5) hx hb hts i_Store t_Store t_Store_ok hown (hts _ k_1_93) (hts _ k_1_94) (hts _ k_1_6) hK hP hD hS hA rfl z_Store (Nat.le_of_ble_eq_true rfl) (Nat.le_of_ble_eq_true rfl) d_Memory_init_5 (fun q1 H hP hD hS => ?_)
  have hP : va_P D classes [(h0, .inr (2, [.null, .null, .null, .int 0, .null, .null, .int 0, .int 0])), (q1, .inr (3, [.null, .null, .null, .null, .null]))] H := hP
  have hD : va_D A [(h0, .inr (2, [.null, .null, .null, .int 0, .null, .null, .int 0, .int 0])), (q1, .inr (3, [.null, .null, .null, .null, .null]))] := hD
  refine lv_dup hx hb d_Memory_init_8 rfl ?_
  refine j_cv (wc := [(q1, .inr (3, [.null, .null, .null, .null, .null]))]) (wr := [(h0, .inr (2, [.null, .null, .null, .int 0, .null, .null, .int 0, .int 0]))]) hK hP hD hS hA [1] [0] rfl rfl (by decide) (by decide) (va_runI (As := []) (rest := [.ref q1, .ref h0]) F (c_Store_init l D T q1 H.size) (j_cI (k := 0) hts k_1_97 k_1_6 k_1_95 k_1_96 rfl (by decide +kernel) ⟨Nat.le_of_ble_eq_true rfl, Nat.le_of_ble_eq_true rfl⟩) (j_preS hK hP hD [1] rfl (by decide) (fun _ _ _ _ h => h) (fun _ _ _ => trivial)) rfl rfl hl.1 rfl (lv_room (Nat.le_of_ble_eq_true rfl)) d_Memory_init_9 ⟨Nat.le_of_ble_eq_true rfl, Nat.le_of_ble_eq_true rfl⟩) (fun u1 H locs hw hP hD hS => ?_)
  obtain ⟨b1_1, b2_1, b3_1, b4_1, b5_1, r1_1, r2_1, r3_1⟩ := u1
  have hP : va_P D classes [(h0, .inr (2, [.null, .null, .null, .int 0, .null, .null, .int 0, .int 0])), (q1, .inr (3, [.ref b1_1, .ref b2_1, .ref b3_1, .ref b4_1, .ref b5_1])), (b1_1, .inr (4, [.ref r1_1, .ref r2_1, .ref r3_1, .int 0])), (b2_1, .inl (T 0, 7, .inl roomF))] H := hP
  have hD : va_D A [(h0, .inr (2, [.null, .null, .null, .int 0, .null, .null, .int 0, .int 0])), (q1, .inr (3, [.ref b1_1, .ref b2_1, .ref b3_1, .ref b4_1, .ref b5_1])), (b1_1, .inr (4, [.ref r1_1, .ref r2_1, .ref r3_1, .int 0])), (b2_1, .inl (T 0, 7, .inl roomF))] := hD
  refine va_putF (D := D) (ci := 2) (v := .ref q1) (ty := .object "PageScribe$Store") (C := "PageScribe$Memory") (T := F_Memory) (N := 8) hx hb hts i_Memory t_Memory t_Memory_ok n_Memory hown hK hP hD hS 0 rfl rfl 1 (by decide) (hts _ k_1_130) (fun _ h9 => h9) rfl hin rfl (by decide +kernel) rfl rfl (Nat.le_of_ble_eq_true rfl) d_Memory_init_12 (fun H locs hP hD hS => ?_)
  have hP : va_P D classes [(h0, .inr (2, [.null, .ref q1, .null, .int 0, .null, .null, .int 0, .int 0])), (q1, .inr (3, [.ref b1_1, .ref b2_1, .ref b3_1, .ref b4_1, .ref b5_1])), (b1_1, .inr (4, [.ref r1_1, .ref r2_1, .ref r3_1, .int 0])), (b2_1, .inl (T 0, 7, .inl roomF))] H := hP
  have hD : va_D A [(h0, .inr (2, [.null, .ref q1, .null, .int 0, .null, .null, .int 0, .int 0])), (q1, .inr (3, [.ref b1_1, .ref b2_1, .ref b3_1, .ref b4_1, .ref b5_1])), (b1_1, .inr (4, [.ref r1_1, .ref r2_1, .ref r3_1, .int 0])), (b2_1, .inl (T 0, 7, .inl roomF))] := hD
  refine lv_aload_n hx hb d_Memory_init_15 rfl (lv_at hl 0 rfl) ?_
  refine lv_bipush (v := 6) hx hb d_Memory_init_16 (by decide) ?_
  refine j_newa (atype := .int) (ty := .int) F k_1_67 rfl hK hP hD hS hA 0 (T 0) rfl (6, .inl zI) (fun _ => rfl) (by decide +kernel) (by decide +kernel) (by decide +kernel) (Nat.le_of_ble_eq_true rfl) (Nat.le_of_ble_eq_true rfl) d_Memory_init_18 (fun q2 H hP hD hS => ?_)
  have hP : va_P D classes [(h0, .inr (2, [.null, .ref q1, .null, .int 0, .null, .null, .int 0, .int 0])), (q1, .inr (3, [.ref b1_1, .ref b2_1, .ref b3_1, .ref b4_1, .ref b5_1])), (b1_1, .inr (4, [.ref r1_1, .ref r2_1, .ref r3_1, .int 0])), (b2_1, .inl (T 0, 7, .inl roomF)), (q2, .inl (T 0, 6, .inl zI))] H := hP
  have hD : va_D A [(h0, .inr (2, [.null, .ref q1, .null, .int 0, .null, .null, .int 0, .int 0])), (q1, .inr (3, [.ref b1_1, .ref b2_1, .ref b3_1, .ref b4_1, .ref b5_1])), (b1_1, .inr (4, [.ref r1_1, .ref r2_1, .ref r3_1, .int 0])), (b2_1, .inl (T 0, 7, .inl roomF)), (q2, .inl (T 0, 6, .inl zI))] := hD
  refine va_putF (D := D) (ci := 2) (v := .ref q2) (ty := .array .int) (C := "PageScribe$Memory") (T := F_Memory) (N := 8) hx hb hts i_Memory t_Memory t_Memory_ok n_Memory hown hK hP hD hS 0 rfl rfl 2 (by decide) (hts _ k_1_133) (fun _ h9 => h9) rfl hin rfl (by decide +kernel) rfl rfl (Nat.le_of_ble_eq_true rfl) d_Memory_init_20 (fun H locs hP hD hS => ?_)
  have hP : va_P D classes [(h0, .inr (2, [.null, .ref q1, .ref q2, .int 0, .null, .null, .int 0, .int 0])), (q1, .inr (3, [.ref b1_1, .ref b2_1, .ref b3_1, .ref b4_1, .ref b5_1])), (b1_1, .inr (4, [.ref r1_1, .ref r2_1, .ref r3_1, .int 0])), (b2_1, .inl (T 0, 7, .inl roomF)), (q2, .inl (T 0, 6, .inl zI))] H := hP
  have hD : va_D A [(h0, .inr (2, [.null, .ref q1, .ref q2, .int 0, .null, .null, .int 0, .int 0])), (q1, .inr (3, [.ref b1_1, .ref b2_1, .ref b3_1, .ref b4_1, .ref b5_1])), (b1_1, .inr (4, [.ref r1_1, .ref r2_1, .ref r3_1, .int 0])), (b2_1, .inl (T 0, 7, .inl roomF)), (q2, .inl (T 0, 6, .inl zI))] := hD
  refine lv_aload_n hx hb d_Memory_init_23 rfl (lv_at hl 0 rfl) ?_
  refine lv_iconst (v := 1) hx hb d_Memory_init_24 (by decide) ?_
  refine va_put (D := D) (ci := 2) (v := .int 1) (ty := .int) (C := "PageScribe$Memory") (T := F_Memory) (N := 8) hx hb hts i_Memory t_Memory t_Memory_ok n_Memory hown hK hP hD hS 0 rfl rfl 3 (by decide) (hts _ k_1_134) (fun _ h9 => h9) rfl (by decide +kernel) rfl rfl (Nat.le_of_ble_eq_true rfl) d_Memory_init_25 (fun H locs hP hD hS => ?_)
  have hP : va_P D classes [(h0, .inr (2, [.null, .ref q1, .ref q2, .int 1, .null, .null, .int 0, .int 0])), (q1, .inr (3, [.ref b1_1, .ref b2_1, .ref b3_1, .ref b4_1, .ref b5_1])), (b1_1, .inr (4, [.ref r1_1, .ref r2_1, .ref r3_1, .int 0])), (b2_1, .inl (T 0, 7, .inl roomF)), (q2, .inl (T 0, 6, .inl zI))] H := hP
  have hD : va_D A [(h0, .inr (2, [.null, .ref q1, .ref q2, .int 1, .null, .null, .int 0, .int 0])), (q1, .inr (3, [.ref b1_1, .ref b2_1, .ref b3_1, .ref b4_1, .ref b5_1])), (b1_1, .inr (4, [.ref r1_1, .ref r2_1, .ref r3_1, .int 0])), (b2_1, .inl (T 0, 7, .inl roomF)), (q2, .inl (T 0, 6, .inl zI))] := hD
  refine lv_aload_n hx hb d_Memory_init_28 rfl (lv_at hl 0 rfl) ?_
  refine lv_iconst (v := 3) hx hb d_Memory_init_29 (by decide) ?_
  refine j_newq (N' := 3) F k_1_93 hAO hK hP hD hS hA (by decide +kernel) (by decide +kernel) (by decide +kernel) (Nat.le_of_ble_eq_true rfl) (Nat.le_of_ble_eq_true rfl) d_Memory_init_30 (fun q3 H hP hD hS => ?_)
  have hP : va_P D classes [(h0, .inr (2, [.null, .ref q1, .ref q2, .int 1, .null, .null, .int 0, .int 0])), (q1, .inr (3, [.ref b1_1, .ref b2_1, .ref b3_1, .ref b4_1, .ref b5_1])), (b1_1, .inr (4, [.ref r1_1, .ref r2_1, .ref r3_1, .int 0])), (b2_1, .inl (T 0, 7, .inl roomF)), (q2, .inl (T 0, 6, .inl zI)), (q3, .inl (T 4, 3, .inr (.inr (.inr (.inr zQ)))))] H := hP
  have hD : va_D A [(h0, .inr (2, [.null, .ref q1, .ref q2, .int 1, .null, .null, .int 0, .int 0])), (q1, .inr (3, [.ref b1_1, .ref b2_1, .ref b3_1, .ref b4_1, .ref b5_1])), (b1_1, .inr (4, [.ref r1_1, .ref r2_1, .ref r3_1, .int 0])), (b2_1, .inl (T 0, 7, .inl roomF)), (q2, .inl (T 0, 6, .inl zI)), (q3, .inl (T 4, 3, .inr (.inr (.inr (.inr zQ)))))] := hD
  refine va_putF (D := D) (ci := 2) (v := .ref q3) (ty := .array (.object "PageScribe$Store")) (C := "PageScribe$Memory") (T := F_Memory) (N := 8) hx hb hts i_Memory t_Memory t_Memory_ok n_Memory hown hK hP hD hS 0 rfl rfl 4 (by decide) (hts _ k_1_136) (fun _ h9 => h9) rfl hin rfl (by decide +kernel) rfl rfl (Nat.le_of_ble_eq_true rfl) d_Memory_init_33 (fun H locs hP hD hS => ?_)
  have hP : va_P D classes [(h0, .inr (2, [.null, .ref q1, .ref q2, .int 1, .ref q3, .null, .int 0, .int 0])), (q1, .inr (3, [.ref b1_1, .ref b2_1, .ref b3_1, .ref b4_1, .ref b5_1])), (b1_1, .inr (4, [.ref r1_1, .ref r2_1, .ref r3_1, .int 0])), (b2_1, .inl (T 0, 7, .inl roomF)), (q2, .inl (T 0, 6, .inl zI)), (q3, .inl (T 4, 3, .inr (.inr (.inr (.inr zQ)))))] H := hP
  have hD : va_D A [(h0, .inr (2, [.null, .ref q1, .ref q2, .int 1, .ref q3, .null, .int 0, .int 0])), (q1, .inr (3, [.ref b1_1, .ref b2_1, .ref b3_1, .ref b4_1, .ref b5_1])), (b1_1, .inr (4, [.ref r1_1, .ref r2_1, .ref r3_1, .int 0])), (b2_1, .inl (T 0, 7, .inl roomF)), (q2, .inl (T 0, 6, .inl zI)), (q3, .inl (T 4, 3, .inr (.inr (.inr (.inr zQ)))))] := hD
  refine lv_aload_n hx hb d_Memory_init_36 rfl (lv_at hl 0 rfl) ?_
  refine lv_iconst (v := 3) hx hb d_Memory_init_37 (by decide) ?_
  refine j_newa (atype := .int) (ty := .int) F k_1_67 rfl hK hP hD hS hA 0 (T 0) rfl (3, .inl zI) (fun _ => rfl) (by decide +kernel) (by decide +kernel) (by decide +kernel) (Nat.le_of_ble_eq_true rfl) (Nat.le_of_ble_eq_true rfl) d_Memory_init_38 (fun q4 H hP hD hS => ?_)
  have hP : va_P D classes [(h0, .inr (2, [.null, .ref q1, .ref q2, .int 1, .ref q3, .null, .int 0, .int 0])), (q1, .inr (3, [.ref b1_1, .ref b2_1, .ref b3_1, .ref b4_1, .ref b5_1])), (b1_1, .inr (4, [.ref r1_1, .ref r2_1, .ref r3_1, .int 0])), (b2_1, .inl (T 0, 7, .inl roomF)), (q2, .inl (T 0, 6, .inl zI)), (q3, .inl (T 4, 3, .inr (.inr (.inr (.inr zQ))))), (q4, .inl (T 0, 3, .inl zI))] H := hP
  have hD : va_D A [(h0, .inr (2, [.null, .ref q1, .ref q2, .int 1, .ref q3, .null, .int 0, .int 0])), (q1, .inr (3, [.ref b1_1, .ref b2_1, .ref b3_1, .ref b4_1, .ref b5_1])), (b1_1, .inr (4, [.ref r1_1, .ref r2_1, .ref r3_1, .int 0])), (b2_1, .inl (T 0, 7, .inl roomF)), (q2, .inl (T 0, 6, .inl zI)), (q3, .inl (T 4, 3, .inr (.inr (.inr (.inr zQ))))), (q4, .inl (T 0, 3, .inl zI))] := hD
  refine va_putF (D := D) (ci := 2) (v := .ref q4) (ty := .array .int) (C := "PageScribe$Memory") (T := F_Memory) (N := 8) hx hb hts i_Memory t_Memory t_Memory_ok n_Memory hown hK hP hD hS 0 rfl rfl 5 (by decide) (hts _ k_1_137) (fun _ h9 => h9) rfl hin rfl (by decide +kernel) rfl rfl (Nat.le_of_ble_eq_true rfl) d_Memory_init_40 (fun H locs hP hD hS => ?_)
  have hP : va_P D classes [(h0, .inr (2, [.null, .ref q1, .ref q2, .int 1, .ref q3, .ref q4, .int 0, .int 0])), (q1, .inr (3, [.ref b1_1, .ref b2_1, .ref b3_1, .ref b4_1, .ref b5_1])), (b1_1, .inr (4, [.ref r1_1, .ref r2_1, .ref r3_1, .int 0])), (b2_1, .inl (T 0, 7, .inl roomF)), (q2, .inl (T 0, 6, .inl zI)), (q3, .inl (T 4, 3, .inr (.inr (.inr (.inr zQ))))), (q4, .inl (T 0, 3, .inl zI))] H := hP
  have hD : va_D A [(h0, .inr (2, [.null, .ref q1, .ref q2, .int 1, .ref q3, .ref q4, .int 0, .int 0])), (q1, .inr (3, [.ref b1_1, .ref b2_1, .ref b3_1, .ref b4_1, .ref b5_1])), (b1_1, .inr (4, [.ref r1_1, .ref r2_1, .ref r3_1, .int 0])), (b2_1, .inl (T 0, 7, .inl roomF)), (q2, .inl (T 0, 6, .inl zI)), (q3, .inl (T 4, 3, .inr (.inr (.inr (.inr zQ))))), (q4, .inl (T 0, 3, .inl zI))] := hD
  refine lv_aload_n hx hb d_Memory_init_43 rfl (lv_at hl 0 rfl) ?_
  refine lv_iconst (v := 0) hx hb d_Memory_init_44 (by decide) ?_
  refine va_put (D := D) (ci := 2) (v := .int 0) (ty := .int) (C := "PageScribe$Memory") (T := F_Memory) (N := 8) hx hb hts i_Memory t_Memory t_Memory_ok n_Memory hown hK hP hD hS 0 rfl rfl 6 (by decide) (hts _ k_1_138) (fun _ h9 => h9) rfl (by decide +kernel) rfl rfl (Nat.le_of_ble_eq_true rfl) d_Memory_init_45 (fun H locs hP hD hS => ?_)
  have hP : va_P D classes [(h0, .inr (2, [.null, .ref q1, .ref q2, .int 1, .ref q3, .ref q4, .int 0, .int 0])), (q1, .inr (3, [.ref b1_1, .ref b2_1, .ref b3_1, .ref b4_1, .ref b5_1])), (b1_1, .inr (4, [.ref r1_1, .ref r2_1, .ref r3_1, .int 0])), (b2_1, .inl (T 0, 7, .inl roomF)), (q2, .inl (T 0, 6, .inl zI)), (q3, .inl (T 4, 3, .inr (.inr (.inr (.inr zQ))))), (q4, .inl (T 0, 3, .inl zI))] H := hP
  have hD : va_D A [(h0, .inr (2, [.null, .ref q1, .ref q2, .int 1, .ref q3, .ref q4, .int 0, .int 0])), (q1, .inr (3, [.ref b1_1, .ref b2_1, .ref b3_1, .ref b4_1, .ref b5_1])), (b1_1, .inr (4, [.ref r1_1, .ref r2_1, .ref r3_1, .int 0])), (b2_1, .inl (T 0, 7, .inl roomF)), (q2, .inl (T 0, 6, .inl zI)), (q3, .inl (T 4, 3, .inr (.inr (.inr (.inr zQ))))), (q4, .inl (T 0, 3, .inl zI))] := hD
  refine lv_aload_n hx hb d_Memory_init_48 rfl (lv_at hl 0 rfl) ?_
  refine lv_iconst (v := 0) hx hb d_Memory_init_49 (by decide) ?_
  refine va_put (D := D) (ci := 2) (v := .int 0) (ty := .int) (C := "PageScribe$Memory") (T := F_Memory) (N := 8) hx hb hts i_Memory t_Memory t_Memory_ok n_Memory hown hK hP hD hS 0 rfl rfl 7 (by decide) (hts _ k_1_140) (fun _ h9 => h9) rfl (by decide +kernel) rfl rfl (Nat.le_of_ble_eq_true rfl) d_Memory_init_50 (fun H locs hP hD hS => ?_)
  have hP : va_P D classes [(h0, .inr (2, [.null, .ref q1, .ref q2, .int 1, .ref q3, .ref q4, .int 0, .int 0])), (q1, .inr (3, [.ref b1_1, .ref b2_1, .ref b3_1, .ref b4_1, .ref b5_1])), (b1_1, .inr (4, [.ref r1_1, .ref r2_1, .ref r3_1, .int 0])), (b2_1, .inl (T 0, 7, .inl roomF)), (q2, .inl (T 0, 6, .inl zI)), (q3, .inl (T 4, 3, .inr (.inr (.inr (.inr zQ))))), (q4, .inl (T 0, 3, .inl zI))] H := hP
  have hD : va_D A [(h0, .inr (2, [.null, .ref q1, .ref q2, .int 1, .ref q3, .ref q4, .int 0, .int 0])), (q1, .inr (3, [.ref b1_1, .ref b2_1, .ref b3_1, .ref b4_1, .ref b5_1])), (b1_1, .inr (4, [.ref r1_1, .ref r2_1, .ref r3_1, .int 0])), (b2_1, .inl (T 0, 7, .inl roomF)), (q2, .inl (T 0, 6, .inl zI)), (q3, .inl (T 4, 3, .inr (.inr (.inr (.inr zQ))))), (q4, .inl (T 0, 3, .inl zI))] := hD
  refine lv_aload_n hx hb d_Memory_init_53 rfl (lv_at hl 0 rfl) ?_
  refine lv_aload_n hx hb d_Memory_init_54 rfl (lv_at hl 1 rfl) ?_
  refine va_putF (D := D) (ci := 2) (v := .ref h1) (ty := .object "PageScribe$Stack") (C := "PageScribe$Memory") (T := F_Memory) (N := 8) hx hb hts i_Memory t_Memory t_Memory_ok n_Memory hown hK hP hD hS 0 rfl rfl 0 (by decide) (hts _ k_1_129) (fun _ h9 => h9) rfl hin rfl (by decide +kernel) rfl rfl (Nat.le_of_ble_eq_true rfl) d_Memory_init_55 (fun H locs hP hD hS => ?_)
  have hP : va_P D classes [(h0, .inr (2, [.ref h1, .ref q1, .ref q2, .int 1, .ref q3, .ref q4, .int 0, .int 0])), (q1, .inr (3, [.ref b1_1, .ref b2_1, .ref b3_1, .ref b4_1, .ref b5_1])), (b1_1, .inr (4, [.ref r1_1, .ref r2_1, .ref r3_1, .int 0])), (b2_1, .inl (T 0, 7, .inl roomF)), (q2, .inl (T 0, 6, .inl zI)), (q3, .inl (T 4, 3, .inr (.inr (.inr (.inr zQ))))), (q4, .inl (T 0, 3, .inl zI))] H := hP
  have hD : va_D A [(h0, .inr (2, [.ref h1, .ref q1, .ref q2, .int 1, .ref q3, .ref q4, .int 0, .int 0])), (q1, .inr (3, [.ref b1_1, .ref b2_1, .ref b3_1, .ref b4_1, .ref b5_1])), (b1_1, .inr (4, [.ref r1_1, .ref r2_1, .ref r3_1, .int 0])), (b2_1, .inl (T 0, 7, .inl roomF)), (q2, .inl (T 0, 6, .inl zI)), (q3, .inl (T 4, 3, .inr (.inr (.inr (.inr zQ))))), (q4, .inl (T 0, 3, .inl zI))] := hD
  refine lv_iconst (v := 0) hx hb d_Memory_init_58 (by decide) ?_
  refine lv_istore_n (lv' := [(2, .int 0), (0, .ref h0), (1, .ref h1)]) hx hb d_Memory_init_59 rfl hl (by decide) rfl (fun ls hl => ?_)
  refine lv_iload_n hx hb d_Memory_init_60 rfl (lv_at hl 0 rfl) ?_
  refine lv_iconst (v := 3) hx hb d_Memory_init_61 (by decide) ?_
  refine lv_icmp_ge (tgt := 84) hx hb d_Memory_init_62 (by decide) (fun c9 => absurd c9 (by decide +kernel)) (fun _ => ?_)
  refine lv_aload_n hx hb d_Memory_init_65 rfl (lv_at hl 1 rfl) ?_
  refine va_get (D := D) (ci := 2) (v := .ref q3) (C := "PageScribe$Memory") (T := F_Memory) (N := 8) hx hb hts i_Memory hown hK hP 0 rfl rfl 4 (by decide) (hts _ k_1_136) (fun _ h9 => h9) rfl d_Memory_init_66 ?_
  refine lv_iload_n hx hb d_Memory_init_69 rfl (lv_at hl 0 rfl) ?_
  refine va_new (ci := 3) (fs := [.null, .null, .null, .null, .null]) (C := "PageScribe$Store") (T := F_Store) (N := 5) hx hb hts i_Store t_Store t_Store_ok hown (hts _ k_1_93) (hts _ k_1_94) (hts _ k_1_6) hK hP hD hS hA rfl z_Store (Nat.le_of_ble_eq_true rfl) (Nat.le_of_ble_eq_true rfl) d_Memory_init_70 (fun q5 H hP hD hS => ?_)
  have hP : va_P D classes [(h0, .inr (2, [.ref h1, .ref q1, .ref q2, .int 1, .ref q3, .ref q4, .int 0, .int 0])), (q1, .inr (3, [.ref b1_1, .ref b2_1, .ref b3_1, .ref b4_1, .ref b5_1])), (b1_1, .inr (4, [.ref r1_1, .ref r2_1, .ref r3_1, .int 0])), (b2_1, .inl (T 0, 7, .inl roomF)), (q2, .inl (T 0, 6, .inl zI)), (q3, .inl (T 4, 3, .inr (.inr (.inr (.inr zQ))))), (q4, .inl (T 0, 3, .inl zI)), (q5, .inr (3, [.null, .null, .null, .null, .null]))] H := hP
  have hD : va_D A [(h0, .inr (2, [.ref h1, .ref q1, .ref q2, .int 1, .ref q3, .ref q4, .int 0, .int 0])), (q1, .inr (3, [.ref b1_1, .ref b2_1, .ref b3_1, .ref b4_1, .ref b5_1])), (b1_1, .inr (4, [.ref r1_1, .ref r2_1, .ref r3_1, .int 0])), (b2_1, .inl (T 0, 7, .inl roomF)), (q2, .inl (T 0, 6, .inl zI)), (q3, .inl (T 4, 3, .inr (.inr (.inr (.inr zQ))))), (q4, .inl (T 0, 3, .inl zI)), (q5, .inr (3, [.null, .null, .null, .null, .null]))] := hD
  refine lv_dup hx hb d_Memory_init_73 rfl ?_
  refine j_cv (wc := [(q5, .inr (3, [.null, .null, .null, .null, .null]))]) (wr := [(h0, .inr (2, [.ref h1, .ref q1, .ref q2, .int 1, .ref q3, .ref q4, .int 0, .int 0])), (q1, .inr (3, [.ref b1_1, .ref b2_1, .ref b3_1, .ref b4_1, .ref b5_1])), (b1_1, .inr (4, [.ref r1_1, .ref r2_1, .ref r3_1, .int 0])), (b2_1, .inl (T 0, 7, .inl roomF)), (q2, .inl (T 0, 6, .inl zI)), (q3, .inl (T 4, 3, .inr (.inr (.inr (.inr zQ))))), (q4, .inl (T 0, 3, .inl zI))]) hK hP hD hS hA [7] [0, 1, 2, 3, 4, 5, 6] rfl rfl (by decide) (by decide) (va_runI (As := []) (rest := [.ref q5, .int 0, .ref q3]) F (c_Store_init l D T q5 H.size) (j_cI (k := 0) hts k_1_97 k_1_6 k_1_95 k_1_96 rfl (by decide +kernel) ⟨Nat.le_of_ble_eq_true rfl, Nat.le_of_ble_eq_true rfl⟩) (j_preS hK hP hD [7] rfl (by decide) (fun _ _ _ _ h => h) (fun _ _ _ => trivial)) rfl rfl hl.1 rfl (lv_room (Nat.le_of_ble_eq_true rfl)) d_Memory_init_74 ⟨Nat.le_of_ble_eq_true rfl, Nat.le_of_ble_eq_true rfl⟩) (fun u2 H locs hw hP hD hS => ?_)
  obtain ⟨b1_2, b2_2, b3_2, b4_2, b5_2, r1_2, r2_2, r3_2⟩ := u2
  have hP : va_P D classes [(h0, .inr (2, [.ref h1, .ref q1, .ref q2, .int 1, .ref q3, .ref q4, .int 0, .int 0])), (q1, .inr (3, [.ref b1_1, .ref b2_1, .ref b3_1, .ref b4_1, .ref b5_1])), (b1_1, .inr (4, [.ref r1_1, .ref r2_1, .ref r3_1, .int 0])), (b2_1, .inl (T 0, 7, .inl roomF)), (q2, .inl (T 0, 6, .inl zI)), (q3, .inl (T 4, 3, .inr (.inr (.inr (.inr zQ))))), (q4, .inl (T 0, 3, .inl zI)), (q5, .inr (3, [.ref b1_2, .ref b2_2, .ref b3_2, .ref b4_2, .ref b5_2])), (b1_2, .inr (4, [.ref r1_2, .ref r2_2, .ref r3_2, .int 0])), (b2_2, .inl (T 0, 7, .inl roomF))] H := hP
  have hD : va_D A [(h0, .inr (2, [.ref h1, .ref q1, .ref q2, .int 1, .ref q3, .ref q4, .int 0, .int 0])), (q1, .inr (3, [.ref b1_1, .ref b2_1, .ref b3_1, .ref b4_1, .ref b5_1])), (b1_1, .inr (4, [.ref r1_1, .ref r2_1, .ref r3_1, .int 0])), (b2_1, .inl (T 0, 7, .inl roomF)), (q2, .inl (T 0, 6, .inl zI)), (q3, .inl (T 4, 3, .inr (.inr (.inr (.inr zQ))))), (q4, .inl (T 0, 3, .inl zI)), (q5, .inr (3, [.ref b1_2, .ref b2_2, .ref b3_2, .ref b4_2, .ref b5_2])), (b1_2, .inr (4, [.ref r1_2, .ref r2_2, .ref r3_2, .int 0])), (b2_2, .inl (T 0, 7, .inl roomF))] := hD
  refine j_astq F hK hP hD hS 5 4 7 3 rfl rfl rfl rfl (by unfold vp_in; decide +kernel) d_Memory_init_77 (fun g1 H locs hP hD hS => ?_)
  have hP : va_P D classes [(h0, .inr (2, [.ref h1, .ref q1, .ref q2, .int 1, .ref q3, .ref q4, .int 0, .int 0])), (q1, .inr (3, [.ref b1_1, .ref b2_1, .ref b3_1, .ref b4_1, .ref b5_1])), (b1_1, .inr (4, [.ref r1_1, .ref r2_1, .ref r3_1, .int 0])), (b2_1, .inl (T 0, 7, .inl roomF)), (q2, .inl (T 0, 6, .inl zI)), (q3, .inl (T 4, 3, .inr (.inr (.inr (.inr g1))))), (q4, .inl (T 0, 3, .inl zI)), (q5, .inr (3, [.ref b1_2, .ref b2_2, .ref b3_2, .ref b4_2, .ref b5_2])), (b1_2, .inr (4, [.ref r1_2, .ref r2_2, .ref r3_2, .int 0])), (b2_2, .inl (T 0, 7, .inl roomF))] H := hP
  have hD : va_D A [(h0, .inr (2, [.ref h1, .ref q1, .ref q2, .int 1, .ref q3, .ref q4, .int 0, .int 0])), (q1, .inr (3, [.ref b1_1, .ref b2_1, .ref b3_1, .ref b4_1, .ref b5_1])), (b1_1, .inr (4, [.ref r1_1, .ref r2_1, .ref r3_1, .int 0])), (b2_1, .inl (T 0, 7, .inl roomF)), (q2, .inl (T 0, 6, .inl zI)), (q3, .inl (T 4, 3, .inr (.inr (.inr (.inr g1))))), (q4, .inl (T 0, 3, .inl zI)), (q5, .inr (3, [.ref b1_2, .ref b2_2, .ref b3_2, .ref b4_2, .ref b5_2])), (b1_2, .inr (4, [.ref r1_2, .ref r2_2, .ref r3_2, .int 0])), (b2_2, .inl (T 0, 7, .inl roomF))] := hD
  have hP := hP.sub (ws' := [(h0, .inr (2, [.ref h1, .ref q1, .ref q2, .int 1, .ref q3, .ref q4, .int 0, .int 0])), (q1, .inr (3, [.ref b1_1, .ref b2_1, .ref b3_1, .ref b4_1, .ref b5_1])), (b1_1, .inr (4, [.ref r1_1, .ref r2_1, .ref r3_1, .int 0])), (b2_1, .inl (T 0, 7, .inl roomF)), (q3, .inl (T 4, 3, .inr (.inr (.inr (.inr g1)))))]) [0, 1, 2, 3, 5] rfl
  have hD := hD.sub (ws' := [(h0, .inr (2, [.ref h1, .ref q1, .ref q2, .int 1, .ref q3, .ref q4, .int 0, .int 0])), (q1, .inr (3, [.ref b1_1, .ref b2_1, .ref b3_1, .ref b4_1, .ref b5_1])), (b1_1, .inr (4, [.ref r1_1, .ref r2_1, .ref r3_1, .int 0])), (b2_1, .inl (T 0, 7, .inl roomF)), (q3, .inl (T 4, 3, .inr (.inr (.inr (.inr g1)))))]) [0, 1, 2, 3, 5] (by decide) rfl
  refine lv_iinc (v := 1) (lv' := [(2, .int 1), (0, .ref h0), (1, .ref h1)]) hx hb d_Memory_init_78 hl (k := 0) rfl (by decide +kernel) (by decide) rfl (fun ls hl => ?_)
  refine lv_goto (tgt := 60) hx hb d_Memory_init_81 (by decide) ?_
  refine lv_iload_n hx hb d_Memory_init_60 rfl (lv_at hl 0 rfl) ?_
  refine lv_iconst (v := 3) hx hb d_Memory_init_61 (by decide) ?_
  refine lv_icmp_ge (tgt := 84) hx hb d_Memory_init_62 (by decide) (fun c9 => absurd c9 (by decide +kernel)) (fun _ => ?_)
  refine lv_aload_n hx hb d_Memory_init_65 rfl (lv_at hl 1 rfl) ?_
  refine va_get (D := D) (ci := 2) (v := .ref q3) (C := "PageScribe$Memory") (T := F_Memory) (N := 8) hx hb hts i_Memory hown hK hP 0 rfl rfl 4 (by decide) (hts _ k_1_136) (fun _ h9 => h9) rfl d_Memory_init_66 ?_
  refine lv_iload_n hx hb d_Memory_init_69 rfl (lv_at hl 0 rfl) ?_
  refine va_new (ci := 3) (fs := [.null, .null, .null, .null, .null]) (C := "PageScribe$Store") (T := F_Store) (N := 5) hx hb hts i_Store t_Store t_Store_ok hown (hts _ k_1_93) (hts _ k_1_94) (hts _ k_1_6) hK hP hD hS hA rfl z_Store (Nat.le_of_ble_eq_true rfl) (Nat.le_of_ble_eq_true rfl) d_Memory_init_70 (fun q6 H hP hD hS => ?_)
  have hP : va_P D classes [(h0, .inr (2, [.ref h1, .ref q1, .ref q2, .int 1, .ref q3, .ref q4, .int 0, .int 0])), (q1, .inr (3, [.ref b1_1, .ref b2_1, .ref b3_1, .ref b4_1, .ref b5_1])), (b1_1, .inr (4, [.ref r1_1, .ref r2_1, .ref r3_1, .int 0])), (b2_1, .inl (T 0, 7, .inl roomF)), (q3, .inl (T 4, 3, .inr (.inr (.inr (.inr g1))))), (q6, .inr (3, [.null, .null, .null, .null, .null]))] H := hP
  have hD : va_D A [(h0, .inr (2, [.ref h1, .ref q1, .ref q2, .int 1, .ref q3, .ref q4, .int 0, .int 0])), (q1, .inr (3, [.ref b1_1, .ref b2_1, .ref b3_1, .ref b4_1, .ref b5_1])), (b1_1, .inr (4, [.ref r1_1, .ref r2_1, .ref r3_1, .int 0])), (b2_1, .inl (T 0, 7, .inl roomF)), (q3, .inl (T 4, 3, .inr (.inr (.inr (.inr g1))))), (q6, .inr (3, [.null, .null, .null, .null, .null]))] := hD
  refine lv_dup hx hb d_Memory_init_73 rfl ?_
  refine j_cv (wc := [(q6, .inr (3, [.null, .null, .null, .null, .null]))]) (wr := [(h0, .inr (2, [.ref h1, .ref q1, .ref q2, .int 1, .ref q3, .ref q4, .int 0, .int 0])), (q1, .inr (3, [.ref b1_1, .ref b2_1, .ref b3_1, .ref b4_1, .ref b5_1])), (b1_1, .inr (4, [.ref r1_1, .ref r2_1, .ref r3_1, .int 0])), (b2_1, .inl (T 0, 7, .inl roomF)), (q3, .inl (T 4, 3, .inr (.inr (.inr (.inr g1)))))]) hK hP hD hS hA [5] [0, 1, 2, 3, 4] rfl rfl (by decide) (by decide) (va_runI (As := []) (rest := [.ref q6, .int 1, .ref q3]) F (c_Store_init l D T q6 H.size) (j_cI (k := 0) hts k_1_97 k_1_6 k_1_95 k_1_96 rfl (by decide +kernel) ⟨Nat.le_of_ble_eq_true rfl, Nat.le_of_ble_eq_true rfl⟩) (j_preS hK hP hD [5] rfl (by decide) (fun _ _ _ _ h => h) (fun _ _ _ => trivial)) rfl rfl hl.1 rfl (lv_room (Nat.le_of_ble_eq_true rfl)) d_Memory_init_74 ⟨Nat.le_of_ble_eq_true rfl, Nat.le_of_ble_eq_true rfl⟩) (fun u3 H locs hw hP hD hS => ?_)
  obtain ⟨b1_3, b2_3, b3_3, b4_3, b5_3, r1_3, r2_3, r3_3⟩ := u3
  have hP : va_P D classes [(h0, .inr (2, [.ref h1, .ref q1, .ref q2, .int 1, .ref q3, .ref q4, .int 0, .int 0])), (q1, .inr (3, [.ref b1_1, .ref b2_1, .ref b3_1, .ref b4_1, .ref b5_1])), (b1_1, .inr (4, [.ref r1_1, .ref r2_1, .ref r3_1, .int 0])), (b2_1, .inl (T 0, 7, .inl roomF)), (q3, .inl (T 4, 3, .inr (.inr (.inr (.inr g1))))), (q6, .inr (3, [.ref b1_3, .ref b2_3, .ref b3_3, .ref b4_3, .ref b5_3])), (b1_3, .inr (4, [.ref r1_3, .ref r2_3, .ref r3_3, .int 0])), (b2_3, .inl (T 0, 7, .inl roomF))] H := hP
  have hD : va_D A [(h0, .inr (2, [.ref h1, .ref q1, .ref q2, .int 1, .ref q3, .ref q4, .int 0, .int 0])), (q1, .inr (3, [.ref b1_1, .ref b2_1, .ref b3_1, .ref b4_1, .ref b5_1])), (b1_1, .inr (4, [.ref r1_1, .ref r2_1, .ref r3_1, .int 0])), (b2_1, .inl (T 0, 7, .inl roomF)), (q3, .inl (T 4, 3, .inr (.inr (.inr (.inr g1))))), (q6, .inr (3, [.ref b1_3, .ref b2_3, .ref b3_3, .ref b4_3, .ref b5_3])), (b1_3, .inr (4, [.ref r1_3, .ref r2_3, .ref r3_3, .int 0])), (b2_3, .inl (T 0, 7, .inl roomF))] := hD
  refine j_astq F hK hP hD hS 4 4 5 3 rfl rfl rfl rfl (by unfold vp_in; decide +kernel) d_Memory_init_77 (fun g2 H locs hP hD hS => ?_)
  have hP : va_P D classes [(h0, .inr (2, [.ref h1, .ref q1, .ref q2, .int 1, .ref q3, .ref q4, .int 0, .int 0])), (q1, .inr (3, [.ref b1_1, .ref b2_1, .ref b3_1, .ref b4_1, .ref b5_1])), (b1_1, .inr (4, [.ref r1_1, .ref r2_1, .ref r3_1, .int 0])), (b2_1, .inl (T 0, 7, .inl roomF)), (q3, .inl (T 4, 3, .inr (.inr (.inr (.inr g2))))), (q6, .inr (3, [.ref b1_3, .ref b2_3, .ref b3_3, .ref b4_3, .ref b5_3])), (b1_3, .inr (4, [.ref r1_3, .ref r2_3, .ref r3_3, .int 0])), (b2_3, .inl (T 0, 7, .inl roomF))] H := hP
  have hD : va_D A [(h0, .inr (2, [.ref h1, .ref q1, .ref q2, .int 1, .ref q3, .ref q4, .int 0, .int 0])), (q1, .inr (3, [.ref b1_1, .ref b2_1, .ref b3_1, .ref b4_1, .ref b5_1])), (b1_1, .inr (4, [.ref r1_1, .ref r2_1, .ref r3_1, .int 0])), (b2_1, .inl (T 0, 7, .inl roomF)), (q3, .inl (T 4, 3, .inr (.inr (.inr (.inr g2))))), (q6, .inr (3, [.ref b1_3, .ref b2_3, .ref b3_3, .ref b4_3, .ref b5_3])), (b1_3, .inr (4, [.ref r1_3, .ref r2_3, .ref r3_3, .int 0])), (b2_3, .inl (T 0, 7, .inl roomF))] := hD
  have hP := hP.sub (ws' := [(h0, .inr (2, [.ref h1, .ref q1, .ref q2, .int 1, .ref q3, .ref q4, .int 0, .int 0])), (q1, .inr (3, [.ref b1_1, .ref b2_1, .ref b3_1, .ref b4_1, .ref b5_1])), (b1_1, .inr (4, [.ref r1_1, .ref r2_1, .ref r3_1, .int 0])), (b2_1, .inl (T 0, 7, .inl roomF)), (q3, .inl (T 4, 3, .inr (.inr (.inr (.inr g2)))))]) [0, 1, 2, 3, 4] rfl
  have hD := hD.sub (ws' := [(h0, .inr (2, [.ref h1, .ref q1, .ref q2, .int 1, .ref q3, .ref q4, .int 0, .int 0])), (q1, .inr (3, [.ref b1_1, .ref b2_1, .ref b3_1, .ref b4_1, .ref b5_1])), (b1_1, .inr (4, [.ref r1_1, .ref r2_1, .ref r3_1, .int 0])), (b2_1, .inl (T 0, 7, .inl roomF)), (q3, .inl (T 4, 3, .inr (.inr (.inr (.inr g2)))))]) [0, 1, 2, 3, 4] (by decide) rfl
  refine lv_iinc (v := 2) (lv' := [(2, .int 2), (0, .ref h0), (1, .ref h1)]) hx hb d_Memory_init_78 hl (k := 0) rfl (by decide +kernel) (by decide) rfl (fun ls hl => ?_)
  refine lv_goto (tgt := 60) hx hb d_Memory_init_81 (by decide) ?_
  refine lv_iload_n hx hb d_Memory_init_60 rfl (lv_at hl 0 rfl) ?_
  refine lv_iconst (v := 3) hx hb d_Memory_init_61 (by decide) ?_
  refine lv_icmp_ge (tgt := 84) hx hb d_Memory_init_62 (by decide) (fun c9 => absurd c9 (by decide +kernel)) (fun _ => ?_)
  refine lv_aload_n hx hb d_Memory_init_65 rfl (lv_at hl 1 rfl) ?_
  refine va_get (D := D) (ci := 2) (v := .ref q3) (C := "PageScribe$Memory") (T := F_Memory) (N := 8) hx hb hts i_Memory hown hK hP 0 rfl rfl 4 (by decide) (hts _ k_1_136) (fun _ h9 => h9) rfl d_Memory_init_66 ?_
  refine lv_iload_n hx hb d_Memory_init_69 rfl (lv_at hl 0 rfl) ?_
  refine va_new (ci := 3) (fs := [.null, .null, .null, .null, .null]) (C := "PageScribe$Store") (T := F_Store) (N := 5) hx hb hts i_Store t_Store t_Store_ok hown (hts _ k_1_93) (hts _ k_1_94) (hts _ k_1_6) hK hP hD hS hA rfl z_Store (Nat.le_of_ble_eq_true rfl) (Nat.le_of_ble_eq_true rfl) d_Memory_init_70 (fun q7 H hP hD hS => ?_)
  have hP : va_P D classes [(h0, .inr (2, [.ref h1, .ref q1, .ref q2, .int 1, .ref q3, .ref q4, .int 0, .int 0])), (q1, .inr (3, [.ref b1_1, .ref b2_1, .ref b3_1, .ref b4_1, .ref b5_1])), (b1_1, .inr (4, [.ref r1_1, .ref r2_1, .ref r3_1, .int 0])), (b2_1, .inl (T 0, 7, .inl roomF)), (q3, .inl (T 4, 3, .inr (.inr (.inr (.inr g2))))), (q7, .inr (3, [.null, .null, .null, .null, .null]))] H := hP
  have hD : va_D A [(h0, .inr (2, [.ref h1, .ref q1, .ref q2, .int 1, .ref q3, .ref q4, .int 0, .int 0])), (q1, .inr (3, [.ref b1_1, .ref b2_1, .ref b3_1, .ref b4_1, .ref b5_1])), (b1_1, .inr (4, [.ref r1_1, .ref r2_1, .ref r3_1, .int 0])), (b2_1, .inl (T 0, 7, .inl roomF)), (q3, .inl (T 4, 3, .inr (.inr (.inr (.inr g2))))), (q7, .inr (3, [.null, .null, .null, .null, .null]))] := hD
  refine lv_dup hx hb d_Memory_init_73 rfl ?_
  refine j_cv (wc := [(q7, .inr (3, [.null, .null, .null, .null, .null]))]) (wr := [(h0, .inr (2, [.ref h1, .ref q1, .ref q2, .int 1, .ref q3, .ref q4, .int 0, .int 0])), (q1, .inr (3, [.ref b1_1, .ref b2_1, .ref b3_1, .ref b4_1, .ref b5_1])), (b1_1, .inr (4, [.ref r1_1, .ref r2_1, .ref r3_1, .int 0])), (b2_1, .inl (T 0, 7, .inl roomF)), (q3, .inl (T 4, 3, .inr (.inr (.inr (.inr g2)))))]) hK hP hD hS hA [5] [0, 1, 2, 3, 4] rfl rfl (by decide) (by decide) (va_runI (As := []) (rest := [.ref q7, .int 2, .ref q3]) F (c_Store_init l D T q7 H.size) (j_cI (k := 0) hts k_1_97 k_1_6 k_1_95 k_1_96 rfl (by decide +kernel) ⟨Nat.le_of_ble_eq_true rfl, Nat.le_of_ble_eq_true rfl⟩) (j_preS hK hP hD [5] rfl (by decide) (fun _ _ _ _ h => h) (fun _ _ _ => trivial)) rfl rfl hl.1 rfl (lv_room (Nat.le_of_ble_eq_true rfl)) d_Memory_init_74 ⟨Nat.le_of_ble_eq_true rfl, Nat.le_of_ble_eq_true rfl⟩) (fun u4 H locs hw hP hD hS => ?_)
  obtain ⟨b1_4, b2_4, b3_4, b4_4, b5_4, r1_4, r2_4, r3_4⟩ := u4
  have hP : va_P D classes [(h0, .inr (2, [.ref h1, .ref q1, .ref q2, .int 1, .ref q3, .ref q4, .int 0, .int 0])), (q1, .inr (3, [.ref b1_1, .ref b2_1, .ref b3_1, .ref b4_1, .ref b5_1])), (b1_1, .inr (4, [.ref r1_1, .ref r2_1, .ref r3_1, .int 0])), (b2_1, .inl (T 0, 7, .inl roomF)), (q3, .inl (T 4, 3, .inr (.inr (.inr (.inr g2))))), (q7, .inr (3, [.ref b1_4, .ref b2_4, .ref b3_4, .ref b4_4, .ref b5_4])), (b1_4, .inr (4, [.ref r1_4, .ref r2_4, .ref r3_4, .int 0])), (b2_4, .inl (T 0, 7, .inl roomF))] H := hP
  have hD : va_D A [(h0, .inr (2, [.ref h1, .ref q1, .ref q2, .int 1, .ref q3, .ref q4, .int 0, .int 0])), (q1, .inr (3, [.ref b1_1, .ref b2_1, .ref b3_1, .ref b4_1, .ref b5_1])), (b1_1, .inr (4, [.ref r1_1, .ref r2_1, .ref r3_1, .int 0])), (b2_1, .inl (T 0, 7, .inl roomF)), (q3, .inl (T 4, 3, .inr (.inr (.inr (.inr g2))))), (q7, .inr (3, [.ref b1_4, .ref b2_4, .ref b3_4, .ref b4_4, .ref b5_4])), (b1_4, .inr (4, [.ref r1_4, .ref r2_4, .ref r3_4, .int 0])), (b2_4, .inl (T 0, 7, .inl roomF))] := hD
  refine j_astq F hK hP hD hS 4 4 5 3 rfl rfl rfl rfl (by unfold vp_in; decide +kernel) d_Memory_init_77 (fun g3 H locs hP hD hS => ?_)
  have hP : va_P D classes [(h0, .inr (2, [.ref h1, .ref q1, .ref q2, .int 1, .ref q3, .ref q4, .int 0, .int 0])), (q1, .inr (3, [.ref b1_1, .ref b2_1, .ref b3_1, .ref b4_1, .ref b5_1])), (b1_1, .inr (4, [.ref r1_1, .ref r2_1, .ref r3_1, .int 0])), (b2_1, .inl (T 0, 7, .inl roomF)), (q3, .inl (T 4, 3, .inr (.inr (.inr (.inr g3))))), (q7, .inr (3, [.ref b1_4, .ref b2_4, .ref b3_4, .ref b4_4, .ref b5_4])), (b1_4, .inr (4, [.ref r1_4, .ref r2_4, .ref r3_4, .int 0])), (b2_4, .inl (T 0, 7, .inl roomF))] H := hP
  have hD : va_D A [(h0, .inr (2, [.ref h1, .ref q1, .ref q2, .int 1, .ref q3, .ref q4, .int 0, .int 0])), (q1, .inr (3, [.ref b1_1, .ref b2_1, .ref b3_1, .ref b4_1, .ref b5_1])), (b1_1, .inr (4, [.ref r1_1, .ref r2_1, .ref r3_1, .int 0])), (b2_1, .inl (T 0, 7, .inl roomF)), (q3, .inl (T 4, 3, .inr (.inr (.inr (.inr g3))))), (q7, .inr (3, [.ref b1_4, .ref b2_4, .ref b3_4, .ref b4_4, .ref b5_4])), (b1_4, .inr (4, [.ref r1_4, .ref r2_4, .ref r3_4, .int 0])), (b2_4, .inl (T 0, 7, .inl roomF))] := hD
  have hP := hP.sub (ws' := [(h0, .inr (2, [.ref h1, .ref q1, .ref q2, .int 1, .ref q3, .ref q4, .int 0, .int 0])), (q1, .inr (3, [.ref b1_1, .ref b2_1, .ref b3_1, .ref b4_1, .ref b5_1])), (b1_1, .inr (4, [.ref r1_1, .ref r2_1, .ref r3_1, .int 0])), (b2_1, .inl (T 0, 7, .inl roomF)), (q3, .inl (T 4, 3, .inr (.inr (.inr (.inr g3)))))]) [0, 1, 2, 3, 4] rfl
  have hD := hD.sub (ws' := [(h0, .inr (2, [.ref h1, .ref q1, .ref q2, .int 1, .ref q3, .ref q4, .int 0, .int 0])), (q1, .inr (3, [.ref b1_1, .ref b2_1, .ref b3_1, .ref b4_1, .ref b5_1])), (b1_1, .inr (4, [.ref r1_1, .ref r2_1, .ref r3_1, .int 0])), (b2_1, .inl (T 0, 7, .inl roomF)), (q3, .inl (T 4, 3, .inr (.inr (.inr (.inr g3)))))]) [0, 1, 2, 3, 4] (by decide) rfl
  refine lv_iinc (v := 3) (lv' := [(2, .int 3), (0, .ref h0), (1, .ref h1)]) hx hb d_Memory_init_78 hl (k := 0) rfl (by decide +kernel) (by decide) rfl (fun ls hl => ?_)
  refine lv_goto (tgt := 60) hx hb d_Memory_init_81 (by decide) ?_
  refine lv_iload_n hx hb d_Memory_init_60 rfl (lv_at hl 0 rfl) ?_
  refine lv_iconst (v := 3) hx hb d_Memory_init_61 (by decide) ?_
  refine lv_icmp_ge (tgt := 84) hx hb d_Memory_init_62 (by decide) (fun _ => ?_) (fun c9 => absurd c9 (by decide +kernel))
  have hP9 := hP.sub (ws' := [(h0, .inr (2, [.ref h1, .ref q1, .ref q2, .int 1, .ref q3, .ref q4, .int 0, .int 0])), (q1, .inr (3, [.ref b1_1, .ref b2_1, .ref b3_1, .ref b4_1, .ref b5_1])), (b1_1, .inr (4, [.ref r1_1, .ref r2_1, .ref r3_1, .int 0])), (b2_1, .inl (T 0, 7, .inl roomF))]) [0, 1, 2, 3] rfl
  have hD9 := hD.sub (ws' := [(h0, .inr (2, [.ref h1, .ref q1, .ref q2, .int 1, .ref q3, .ref q4, .int 0, .int 0])), (q1, .inr (3, [.ref b1_1, .ref b2_1, .ref b3_1, .ref b4_1, .ref b5_1])), (b1_1, .inr (4, [.ref r1_1, .ref r2_1, .ref r3_1, .int 0])), (b2_1, .inl (T 0, 7, .inl roomF))]) [0, 1, 2, 3] (by decide) rfl
  refine W.widen (k := 51) (n := 3320) (Nat.le_of_ble_eq_true rfl) (Nat.le_of_ble_eq_true rfl) ?_
  exact j_vret F hr hlocks hK hS (q1, q2, q3, q4, b1_1, b2_1, b3_1, b4_1, b5_1, r1_1, r2_1, r3_1) trivial hP9 hD9 d_Memory_init_84
theorem d_Reader_init_0 : decode prog_7_method_1_code 0 = .ok (.aload_n 0, 1) := by decide +kernel
theorem d_Reader_init_1 : decode prog_7_method_1_code 1 = .ok (.invokespecial 3, 3) := by decide +kernel
theorem k_1_163 : Cond.methodLink "PageScribe$Reader" 3 ⟨"java/lang/Object", "<init>", "()V"⟩ ∈ gw := gw_of (tb_1 (List.mem_of_getElem? (i := 163) (by decide +kernel))) (by decide +kernel)
theorem d_Reader_init_4 : decode prog_7_method_1_code 4 = .ok (.aload_n 0, 1) := by decide +kernel
theorem d_Reader_init_5 : decode prog_7_method_1_code 5 = .ok (.bipush 120, 2) := by decide +kernel
theorem d_Reader_init_7 : decode prog_7_method_1_code 7 = .ok (.newarray .char, 2) := by decide +kernel
theorem d_Reader_init_9 : decode prog_7_method_1_code 9 = .ok (.putfield 9, 3) := by decide +kernel
theorem k_1_168 : Cond.fieldLink "PageScribe$Reader" 9 "PageScribe$Reader" "text" "[C" ∈ gw := gw_of (tb_1 (List.mem_of_getElem? (i := 168) (by decide +kernel))) (by decide +kernel)
theorem d_Reader_init_12 : decode prog_7_method_1_code 12 = .ok (.aload_n 0, 1) := by decide +kernel
theorem d_Reader_init_13 : decode prog_7_method_1_code 13 = .ok (.iconst 0, 1) := by decide +kernel
theorem d_Reader_init_14 : decode prog_7_method_1_code 14 = .ok (.putfield 15, 3) := by decide +kernel
theorem k_1_169 : Cond.fieldLink "PageScribe$Reader" 15 "PageScribe$Reader" "length" "I" ∈ gw := gw_of (tb_1 (List.mem_of_getElem? (i := 169) (by decide +kernel))) (by decide +kernel)
theorem d_Reader_init_17 : decode prog_7_method_1_code 17 = .ok (.aload_n 0, 1) := by decide +kernel
theorem d_Reader_init_18 : decode prog_7_method_1_code 18 = .ok (.iconst 0, 1) := by decide +kernel
theorem d_Reader_init_19 : decode prog_7_method_1_code 19 = .ok (.putfield 19, 3) := by decide +kernel
theorem k_1_171 : Cond.fieldLink "PageScribe$Reader" 19 "PageScribe$Reader" "place" "I" ∈ gw := gw_of (tb_1 (List.mem_of_getElem? (i := 171) (by decide +kernel))) (by decide +kernel)
theorem d_Reader_init_22 : decode prog_7_method_1_code 22 = .ok (.aload_n 0, 1) := by decide +kernel
theorem d_Reader_init_23 : decode prog_7_method_1_code 23 = .ok (.iconst 0, 1) := by decide +kernel
theorem d_Reader_init_24 : decode prog_7_method_1_code 24 = .ok (.putfield 22, 3) := by decide +kernel
theorem k_1_172 : Cond.fieldLink "PageScribe$Reader" 22 "PageScribe$Reader" "tokenKind" "I" ∈ gw := gw_of (tb_1 (List.mem_of_getElem? (i := 172) (by decide +kernel))) (by decide +kernel)
theorem d_Reader_init_27 : decode prog_7_method_1_code 27 = .ok (.aload_n 0, 1) := by decide +kernel
theorem d_Reader_init_28 : decode prog_7_method_1_code 28 = .ok (.iconst 0, 1) := by decide +kernel
theorem d_Reader_init_29 : decode prog_7_method_1_code 29 = .ok (.putfield 25, 3) := by decide +kernel
theorem k_1_174 : Cond.fieldLink "PageScribe$Reader" 25 "PageScribe$Reader" "tokenNumber" "I" ∈ gw := gw_of (tb_1 (List.mem_of_getElem? (i := 174) (by decide +kernel))) (by decide +kernel)
theorem d_Reader_init_32 : decode prog_7_method_1_code 32 = .ok (.aload_n 0, 1) := by decide +kernel
theorem d_Reader_init_33 : decode prog_7_method_1_code 33 = .ok (.dconst 0, 1) := by decide +kernel
theorem d_Reader_init_34 : decode prog_7_method_1_code 34 = .ok (.putfield 28, 3) := by decide +kernel
theorem k_1_176 : Cond.fieldLink "PageScribe$Reader" 28 "PageScribe$Reader" "tokenReal" "D" ∈ gw := gw_of (tb_1 (List.mem_of_getElem? (i := 176) (by decide +kernel))) (by decide +kernel)
theorem d_Reader_init_37 : decode prog_7_method_1_code 37 = .ok (.aload_n 0, 1) := by decide +kernel
theorem d_Reader_init_38 : decode prog_7_method_1_code 38 = .ok (.new 32, 3) := by decide +kernel
theorem k_1_164 : Cond.classLink "PageScribe$Reader" 32 "PageScribe$Row" ∈ gw := gw_of (tb_1 (List.mem_of_getElem? (i := 164) (by decide +kernel))) (by decide +kernel)
theorem d_Reader_init_41 : decode prog_7_method_1_code 41 = .ok (.dup, 1) := by decide +kernel
theorem d_Reader_init_42 : decode prog_7_method_1_code 42 = .ok (.bipush 120, 2) := by decide +kernel
theorem d_Reader_init_44 : decode prog_7_method_1_code 44 = .ok (.invokespecial 34, 3) := by decide +kernel
theorem k_1_165 : Cond.methodLink "PageScribe$Reader" 34 ⟨"PageScribe$Row", "<init>", "(I)V"⟩ ∈ gw := gw_of (tb_1 (List.mem_of_getElem? (i := 165) (by decide +kernel))) (by decide +kernel)
theorem d_Reader_init_47 : decode prog_7_method_1_code 47 = .ok (.putfield 37, 3) := by decide +kernel
theorem k_1_178 : Cond.fieldLink "PageScribe$Reader" 37 "PageScribe$Reader" "gathered" "LPageScribe$Row;" ∈ gw := gw_of (tb_1 (List.mem_of_getElem? (i := 178) (by decide +kernel))) (by decide +kernel)
theorem d_Reader_init_50 : decode prog_7_method_1_code 50 = .ok (.aload_n 0, 1) := by decide +kernel
theorem d_Reader_init_51 : decode prog_7_method_1_code 51 = .ok (.iconst 4, 1) := by decide +kernel
theorem d_Reader_init_52 : decode prog_7_method_1_code 52 = .ok (.newarray .int, 2) := by decide +kernel
theorem d_Reader_init_54 : decode prog_7_method_1_code 54 = .ok (.putfield 41, 3) := by decide +kernel
theorem k_1_179 : Cond.fieldLink "PageScribe$Reader" 41 "PageScribe$Reader" "begins" "[I" ∈ gw := gw_of (tb_1 (List.mem_of_getElem? (i := 179) (by decide +kernel))) (by decide +kernel)
theorem d_Reader_init_57 : decode prog_7_method_1_code 57 = .ok (.aload_n 0, 1) := by decide +kernel
theorem d_Reader_init_58 : decode prog_7_method_1_code 58 = .ok (.aload_n 1, 1) := by decide +kernel
theorem d_Reader_init_59 : decode prog_7_method_1_code 59 = .ok (.putfield 45, 3) := by decide +kernel
theorem k_1_166 : Cond.fieldLink "PageScribe$Reader" 45 "PageScribe$Reader" "words" "LPageScribe$Words;" ∈ gw := gw_of (tb_1 (List.mem_of_getElem? (i := 166) (by decide +kernel))) (by decide +kernel)
theorem d_Reader_init_62 : decode prog_7_method_1_code 62 = .ok (.aload_n 0, 1) := by decide +kernel
theorem d_Reader_init_63 : decode prog_7_method_1_code 63 = .ok (.aload_n 2, 1) := by decide +kernel
theorem d_Reader_init_64 : decode prog_7_method_1_code 64 = .ok (.putfield 49, 3) := by decide +kernel
theorem k_1_167 : Cond.fieldLink "PageScribe$Reader" 49 "PageScribe$Reader" "store" "LPageScribe$Store;" ∈ gw := gw_of (tb_1 (List.mem_of_getElem? (i := 167) (by decide +kernel))) (by decide +kernel)
theorem d_Reader_init_67 : decode prog_7_method_1_code 67 = .ok (.return_, 1) := by decide +kernel
set_option maxHeartbeats 4000000 in
set_option maxRecDepth 100000 in
theorem c_Reader_init (l : Launch) (D : va_G) (T : Nat → ClassId) (h0 : Nat) (h1 : Nat) (h2 : Nat) (sz : Nat) : Met l ⟨"PageScribe$Reader", "<init>", "(LPageScribe$Words;LPageScribe$Store;)V"⟩ (wy ⟨"PageScribe$Reader", "<init>", "(LPageScribe$Words;LPageScribe$Store;)V"⟩ prog_7_method_1_code 3 none) ({ frames := 2, cells := 6, slots := 488, locals := 140 }) (va_Pc [.ref h0, .ref h1, .ref h2] (Pw D T [(h0, .inr (5, [.null, .null, .null, .int 0, .int 0, .int 0, .int 0, .double 0, .null, .null]))] sz E0)) (va_Qv (fun (u : Nat × Nat × Nat) => True) (fun u t => Bw D T (va_A [(h0, .inr (5, [.null, .null, .null, .int 0, .int 0, .int 0, .int 0, .double 0, .null, .null]))] sz) [(h0, .inr (5, [.ref h1, .ref h2, .ref u.1, .int 0, .int 0, .int 0, .int 0, .double 0, .ref u.2.1, .ref u.2.2])), (u.1, .inl (T 2, 120, .inl zI))] t) (va_A [(h0, .inr (5, [.null, .null, .null, .int 0, .int 0, .int 0, .int 0, .double 0, .null, .null]))] sz)) 6 488 (va_A [(h0, .inr (5, [.null, .null, .null, .int 0, .int 0, .int 0, .int 0, .double 0, .null, .null]))] sz) := by
  refine j_met (Qc := fun A => va_Qv (fun (u : Nat × Nat × Nat) => True) (fun u t => Bw D T A [(h0, .inr (5, [.ref h1, .ref h2, .ref u.1, .int 0, .int 0, .int 0, .int 0, .double 0, .ref u.2.1, .ref u.2.2])), (u.1, .inl (T 2, 120, .inl zI))] t) A) (by decide +kernel) (Nat.le_of_ble_eq_true rfl) (fun p e s m args below meth c A ls F hr hlocks hnm hK hP hD hS hA hN hE hl => ?_)
  obtain ⟨hx, hb, hml, hown, hts⟩ := id F
  have hin := hnm
  have hl : lv_has ls 3 [(0, .ref h0), (1, .ref h1), (2, .ref h2)] := hl
  refine lv_aload_n hx hb d_Reader_init_0 rfl (lv_at hl 0 rfl) ?_
  refine j_obj F hl.1 k_1_163 k_1_35 k_1_36 d_Reader_init_1 (Nat.le_of_ble_eq_true rfl) (Nat.le_of_ble_eq_true rfl) ?_
  refine lv_aload_n hx hb d_Reader_init_4 rfl (lv_at hl 0 rfl) ?_
  refine lv_bipush (v := 120) hx hb d_Reader_init_5 (by decide) ?_
  refine j_newa (atype := .char) (ty := .char) F k_1_86 rfl hK hP hD hS hA 2 (T 2) rfl (120, .inl zI) (fun _ => rfl) (by decide +kernel) (by decide +kernel) (by decide +kernel) (Nat.le_of_ble_eq_true rfl) (Nat.le_of_ble_eq_true rfl) d_Reader_init_7 (fun q1 H hP hD hS => ?_)
  have hP : va_P D classes [(h0, .inr (5, [.null, .null, .null, .int 0, .int 0, .int 0, .int 0, .double 0, .null, .null])), (q1, .inl (T 2, 120, .inl zI))] H := hP
  have hD : va_D A [(h0, .inr (5, [.null, .null, .null, .int 0, .int 0, .int 0, .int 0, .double 0, .null, .null])), (q1, .inl (T 2, 120, .inl zI))] := hD
  refine va_putF (D := D) (ci := 5) (v := .ref q1) (ty := .array .char) (C := "PageScribe$Reader") (T := F_Reader) (N := 10) hx hb hts i_Reader t_Reader t_Reader_ok n_Reader hown hK hP hD hS 0 rfl rfl 2 (by decide) (hts _ k_1_168) (fun _ h9 => h9) rfl hin rfl (by decide +kernel) rfl rfl (Nat.le_of_ble_eq_true rfl) d_Reader_init_9 (fun H locs hP hD hS => ?_)
  have hP : va_P D classes [(h0, .inr (5, [.null, .null, .ref q1, .int 0, .int 0, .int 0, .int 0, .double 0, .null, .null])), (q1, .inl (T 2, 120, .inl zI))] H := hP
  have hD : va_D A [(h0, .inr (5, [.null, .null, .ref q1, .int 0, .int 0, .int 0, .int 0, .double 0, .null, .null])), (q1, .inl (T 2, 120, .inl zI))] := hD
  refine lv_aload_n hx hb d_Reader_init_12 rfl (lv_at hl 0 rfl) ?_
  refine lv_iconst (v := 0) hx hb d_Reader_init_13 (by decide) ?_
  refine va_put (D := D) (ci := 5) (v := .int 0) (ty := .int) (C := "PageScribe$Reader") (T := F_Reader) (N := 10) hx hb hts i_Reader t_Reader t_Reader_ok n_Reader hown hK hP hD hS 0 rfl rfl 3 (by decide) (hts _ k_1_169) (fun _ h9 => h9) rfl (by decide +kernel) rfl rfl (Nat.le_of_ble_eq_true rfl) d_Reader_init_14 (fun H locs hP hD hS => ?_)
  have hP : va_P D classes [(h0, .inr (5, [.null, .null, .ref q1, .int 0, .int 0, .int 0, .int 0, .double 0, .null, .null])), (q1, .inl (T 2, 120, .inl zI))] H := hP
  have hD : va_D A [(h0, .inr (5, [.null, .null, .ref q1, .int 0, .int 0, .int 0, .int 0, .double 0, .null, .null])), (q1, .inl (T 2, 120, .inl zI))] := hD
  refine lv_aload_n hx hb d_Reader_init_17 rfl (lv_at hl 0 rfl) ?_
  refine lv_iconst (v := 0) hx hb d_Reader_init_18 (by decide) ?_
  refine va_put (D := D) (ci := 5) (v := .int 0) (ty := .int) (C := "PageScribe$Reader") (T := F_Reader) (N := 10) hx hb hts i_Reader t_Reader t_Reader_ok n_Reader hown hK hP hD hS 0 rfl rfl 4 (by decide) (hts _ k_1_171) (fun _ h9 => h9) rfl (by decide +kernel) rfl rfl (Nat.le_of_ble_eq_true rfl) d_Reader_init_19 (fun H locs hP hD hS => ?_)
  have hP : va_P D classes [(h0, .inr (5, [.null, .null, .ref q1, .int 0, .int 0, .int 0, .int 0, .double 0, .null, .null])), (q1, .inl (T 2, 120, .inl zI))] H := hP
  have hD : va_D A [(h0, .inr (5, [.null, .null, .ref q1, .int 0, .int 0, .int 0, .int 0, .double 0, .null, .null])), (q1, .inl (T 2, 120, .inl zI))] := hD
  refine lv_aload_n hx hb d_Reader_init_22 rfl (lv_at hl 0 rfl) ?_
  refine lv_iconst (v := 0) hx hb d_Reader_init_23 (by decide) ?_
  refine va_put (D := D) (ci := 5) (v := .int 0) (ty := .int) (C := "PageScribe$Reader") (T := F_Reader) (N := 10) hx hb hts i_Reader t_Reader t_Reader_ok n_Reader hown hK hP hD hS 0 rfl rfl 5 (by decide) (hts _ k_1_172) (fun _ h9 => h9) rfl (by decide +kernel) rfl rfl (Nat.le_of_ble_eq_true rfl) d_Reader_init_24 (fun H locs hP hD hS => ?_)
  have hP : va_P D classes [(h0, .inr (5, [.null, .null, .ref q1, .int 0, .int 0, .int 0, .int 0, .double 0, .null, .null])), (q1, .inl (T 2, 120, .inl zI))] H := hP
  have hD : va_D A [(h0, .inr (5, [.null, .null, .ref q1, .int 0, .int 0, .int 0, .int 0, .double 0, .null, .null])), (q1, .inl (T 2, 120, .inl zI))] := hD
  refine lv_aload_n hx hb d_Reader_init_27 rfl (lv_at hl 0 rfl) ?_
  refine lv_iconst (v := 0) hx hb d_Reader_init_28 (by decide) ?_
  refine va_put (D := D) (ci := 5) (v := .int 0) (ty := .int) (C := "PageScribe$Reader") (T := F_Reader) (N := 10) hx hb hts i_Reader t_Reader t_Reader_ok n_Reader hown hK hP hD hS 0 rfl rfl 6 (by decide) (hts _ k_1_174) (fun _ h9 => h9) rfl (by decide +kernel) rfl rfl (Nat.le_of_ble_eq_true rfl) d_Reader_init_29 (fun H locs hP hD hS => ?_)
  have hP : va_P D classes [(h0, .inr (5, [.null, .null, .ref q1, .int 0, .int 0, .int 0, .int 0, .double 0, .null, .null])), (q1, .inl (T 2, 120, .inl zI))] H := hP
  have hD : va_D A [(h0, .inr (5, [.null, .null, .ref q1, .int 0, .int 0, .int 0, .int 0, .double 0, .null, .null])), (q1, .inl (T 2, 120, .inl zI))] := hD
  refine lv_aload_n hx hb d_Reader_init_32 rfl (lv_at hl 0 rfl) ?_
  refine lv_dconst0 hx hb d_Reader_init_33 ?_
  refine va_put (D := D) (ci := 5) (v := .double 0) (ty := .double) (C := "PageScribe$Reader") (T := F_Reader) (N := 10) hx hb hts i_Reader t_Reader t_Reader_ok n_Reader hown hK hP hD hS 0 rfl rfl 7 (by decide) (hts _ k_1_176) (fun _ h9 => h9) rfl (by decide +kernel) rfl rfl (Nat.le_of_ble_eq_true rfl) d_Reader_init_34 (fun H locs hP hD hS => ?_)
  have hP : va_P D classes [(h0, .inr (5, [.null, .null, .ref q1, .int 0, .int 0, .int 0, .int 0, .double 0, .null, .null])), (q1, .inl (T 2, 120, .inl zI))] H := hP
  have hD : va_D A [(h0, .inr (5, [.null, .null, .ref q1, .int 0, .int 0, .int 0, .int 0, .double 0, .null, .null])), (q1, .inl (T 2, 120, .inl zI))] := hD
  refine lv_aload_n hx hb d_Reader_init_37 rfl (lv_at hl 0 rfl) ?_
  refine va_new (ci := 4) (fs := [.null, .null, .null, .int 0]) (C := "PageScribe$Row") (T := F_Row) (N := 4) hx hb hts i_Row t_Row t_Row_ok hown (hts _ k_1_164) (hts _ k_1_100) (hts _ k_1_2) hK hP hD hS hA rfl z_Row (Nat.le_of_ble_eq_true rfl) (Nat.le_of_ble_eq_true rfl) d_Reader_init_38 (fun q2 H hP hD hS => ?_)
  have hP : va_P D classes [(h0, .inr (5, [.null, .null, .ref q1, .int 0, .int 0, .int 0, .int 0, .double 0, .null, .null])), (q1, .inl (T 2, 120, .inl zI)), (q2, .inr (4, [.null, .null, .null, .int 0]))] H := hP
  have hD : va_D A [(h0, .inr (5, [.null, .null, .ref q1, .int 0, .int 0, .int 0, .int 0, .double 0, .null, .null])), (q1, .inl (T 2, 120, .inl zI)), (q2, .inr (4, [.null, .null, .null, .int 0]))] := hD
  refine lv_dup hx hb d_Reader_init_41 rfl ?_
  refine lv_bipush (v := 120) hx hb d_Reader_init_42 (by decide) ?_
  refine j_cv (wc := [(q2, .inr (4, [.null, .null, .null, .int 0]))]) (wr := [(h0, .inr (5, [.null, .null, .ref q1, .int 0, .int 0, .int 0, .int 0, .double 0, .null, .null])), (q1, .inl (T 2, 120, .inl zI))]) hK hP hD hS hA [2] [0, 1] rfl rfl (by decide) (by decide) (va_runI (As := [.int 120]) (rest := [.ref q2, .ref h0]) F (c_Row_init_Row120 l D T q2 H.size) (j_cI (k := 1) hts k_1_44 k_1_2 k_1_165 k_1_43 rfl (by decide +kernel) ⟨Nat.le_of_ble_eq_true rfl, Nat.le_of_ble_eq_true rfl⟩) (j_preS hK hP hD [2] rfl (by decide) (fun _ _ _ _ h => h) (fun _ _ _ => trivial)) rfl rfl hl.1 rfl (lv_room (Nat.le_of_ble_eq_true rfl)) d_Reader_init_44 ⟨Nat.le_of_ble_eq_true rfl, Nat.le_of_ble_eq_true rfl⟩) (fun u1 H locs hw hP hD hS => ?_)
  obtain ⟨a1_1, a2_1, a3_1⟩ := u1
  have hP : va_P D classes [(h0, .inr (5, [.null, .null, .ref q1, .int 0, .int 0, .int 0, .int 0, .double 0, .null, .null])), (q1, .inl (T 2, 120, .inl zI)), (q2, .inr (4, [.ref a1_1, .ref a2_1, .ref a3_1, .int 0]))] H := hP
  have hD : va_D A [(h0, .inr (5, [.null, .null, .ref q1, .int 0, .int 0, .int 0, .int 0, .double 0, .null, .null])), (q1, .inl (T 2, 120, .inl zI)), (q2, .inr (4, [.ref a1_1, .ref a2_1, .ref a3_1, .int 0]))] := hD
  refine va_putF (D := D) (ci := 5) (v := .ref q2) (ty := .object "PageScribe$Row") (C := "PageScribe$Reader") (T := F_Reader) (N := 10) hx hb hts i_Reader t_Reader t_Reader_ok n_Reader hown hK hP hD hS 0 rfl rfl 8 (by decide) (hts _ k_1_178) (fun _ h9 => h9) rfl hin rfl (by decide +kernel) rfl rfl (Nat.le_of_ble_eq_true rfl) d_Reader_init_47 (fun H locs hP hD hS => ?_)
  have hP : va_P D classes [(h0, .inr (5, [.null, .null, .ref q1, .int 0, .int 0, .int 0, .int 0, .double 0, .ref q2, .null])), (q1, .inl (T 2, 120, .inl zI)), (q2, .inr (4, [.ref a1_1, .ref a2_1, .ref a3_1, .int 0]))] H := hP
  have hD : va_D A [(h0, .inr (5, [.null, .null, .ref q1, .int 0, .int 0, .int 0, .int 0, .double 0, .ref q2, .null])), (q1, .inl (T 2, 120, .inl zI)), (q2, .inr (4, [.ref a1_1, .ref a2_1, .ref a3_1, .int 0]))] := hD
  refine lv_aload_n hx hb d_Reader_init_50 rfl (lv_at hl 0 rfl) ?_
  refine lv_iconst (v := 4) hx hb d_Reader_init_51 (by decide) ?_
  refine j_newa (atype := .int) (ty := .int) F k_1_67 rfl hK hP hD hS hA 0 (T 0) rfl (4, .inl zI) (fun _ => rfl) (by decide +kernel) (by decide +kernel) (by decide +kernel) (Nat.le_of_ble_eq_true rfl) (Nat.le_of_ble_eq_true rfl) d_Reader_init_52 (fun q3 H hP hD hS => ?_)
  have hP : va_P D classes [(h0, .inr (5, [.null, .null, .ref q1, .int 0, .int 0, .int 0, .int 0, .double 0, .ref q2, .null])), (q1, .inl (T 2, 120, .inl zI)), (q2, .inr (4, [.ref a1_1, .ref a2_1, .ref a3_1, .int 0])), (q3, .inl (T 0, 4, .inl zI))] H := hP
  have hD : va_D A [(h0, .inr (5, [.null, .null, .ref q1, .int 0, .int 0, .int 0, .int 0, .double 0, .ref q2, .null])), (q1, .inl (T 2, 120, .inl zI)), (q2, .inr (4, [.ref a1_1, .ref a2_1, .ref a3_1, .int 0])), (q3, .inl (T 0, 4, .inl zI))] := hD
  refine va_putF (D := D) (ci := 5) (v := .ref q3) (ty := .array .int) (C := "PageScribe$Reader") (T := F_Reader) (N := 10) hx hb hts i_Reader t_Reader t_Reader_ok n_Reader hown hK hP hD hS 0 rfl rfl 9 (by decide) (hts _ k_1_179) (fun _ h9 => h9) rfl hin rfl (by decide +kernel) rfl rfl (Nat.le_of_ble_eq_true rfl) d_Reader_init_54 (fun H locs hP hD hS => ?_)
  have hP : va_P D classes [(h0, .inr (5, [.null, .null, .ref q1, .int 0, .int 0, .int 0, .int 0, .double 0, .ref q2, .ref q3])), (q1, .inl (T 2, 120, .inl zI)), (q2, .inr (4, [.ref a1_1, .ref a2_1, .ref a3_1, .int 0])), (q3, .inl (T 0, 4, .inl zI))] H := hP
  have hD : va_D A [(h0, .inr (5, [.null, .null, .ref q1, .int 0, .int 0, .int 0, .int 0, .double 0, .ref q2, .ref q3])), (q1, .inl (T 2, 120, .inl zI)), (q2, .inr (4, [.ref a1_1, .ref a2_1, .ref a3_1, .int 0])), (q3, .inl (T 0, 4, .inl zI))] := hD
  refine lv_aload_n hx hb d_Reader_init_57 rfl (lv_at hl 0 rfl) ?_
  refine lv_aload_n hx hb d_Reader_init_58 rfl (lv_at hl 1 rfl) ?_
  refine va_putF (D := D) (ci := 5) (v := .ref h1) (ty := .object "PageScribe$Words") (C := "PageScribe$Reader") (T := F_Reader) (N := 10) hx hb hts i_Reader t_Reader t_Reader_ok n_Reader hown hK hP hD hS 0 rfl rfl 0 (by decide) (hts _ k_1_166) (fun _ h9 => h9) rfl hin rfl (by decide +kernel) rfl rfl (Nat.le_of_ble_eq_true rfl) d_Reader_init_59 (fun H locs hP hD hS => ?_)
  have hP : va_P D classes [(h0, .inr (5, [.ref h1, .null, .ref q1, .int 0, .int 0, .int 0, .int 0, .double 0, .ref q2, .ref q3])), (q1, .inl (T 2, 120, .inl zI)), (q2, .inr (4, [.ref a1_1, .ref a2_1, .ref a3_1, .int 0])), (q3, .inl (T 0, 4, .inl zI))] H := hP
  have hD : va_D A [(h0, .inr (5, [.ref h1, .null, .ref q1, .int 0, .int 0, .int 0, .int 0, .double 0, .ref q2, .ref q3])), (q1, .inl (T 2, 120, .inl zI)), (q2, .inr (4, [.ref a1_1, .ref a2_1, .ref a3_1, .int 0])), (q3, .inl (T 0, 4, .inl zI))] := hD
  refine lv_aload_n hx hb d_Reader_init_62 rfl (lv_at hl 0 rfl) ?_
  refine lv_aload_n hx hb d_Reader_init_63 rfl (lv_at hl 2 rfl) ?_
  refine va_putF (D := D) (ci := 5) (v := .ref h2) (ty := .object "PageScribe$Store") (C := "PageScribe$Reader") (T := F_Reader) (N := 10) hx hb hts i_Reader t_Reader t_Reader_ok n_Reader hown hK hP hD hS 0 rfl rfl 1 (by decide) (hts _ k_1_167) (fun _ h9 => h9) rfl hin rfl (by decide +kernel) rfl rfl (Nat.le_of_ble_eq_true rfl) d_Reader_init_64 (fun H locs hP hD hS => ?_)
  have hP : va_P D classes [(h0, .inr (5, [.ref h1, .ref h2, .ref q1, .int 0, .int 0, .int 0, .int 0, .double 0, .ref q2, .ref q3])), (q1, .inl (T 2, 120, .inl zI)), (q2, .inr (4, [.ref a1_1, .ref a2_1, .ref a3_1, .int 0])), (q3, .inl (T 0, 4, .inl zI))] H := hP
  have hD : va_D A [(h0, .inr (5, [.ref h1, .ref h2, .ref q1, .int 0, .int 0, .int 0, .int 0, .double 0, .ref q2, .ref q3])), (q1, .inl (T 2, 120, .inl zI)), (q2, .inr (4, [.ref a1_1, .ref a2_1, .ref a3_1, .int 0])), (q3, .inl (T 0, 4, .inl zI))] := hD
  have hP9 := hP.sub (ws' := [(h0, .inr (5, [.ref h1, .ref h2, .ref q1, .int 0, .int 0, .int 0, .int 0, .double 0, .ref q2, .ref q3])), (q1, .inl (T 2, 120, .inl zI))]) [0, 1] rfl
  have hD9 := hD.sub (ws' := [(h0, .inr (5, [.ref h1, .ref h2, .ref q1, .int 0, .int 0, .int 0, .int 0, .double 0, .ref q2, .ref q3])), (q1, .inl (T 2, 120, .inl zI))]) [0, 1] (by decide) rfl
  refine W.widen (k := 6) (n := 488) (Nat.le_of_ble_eq_true rfl) (Nat.le_of_ble_eq_true rfl) ?_
  exact j_vret F hr hlocks hK hS (q1, q2, q3) trivial hP9 hD9 d_Reader_init_67
theorem d_Sums_init_0 : decode prog_11_method_1_code 0 = .ok (.aload_n 0, 1) := by decide +kernel
theorem d_Sums_init_1 : decode prog_11_method_1_code 1 = .ok (.invokespecial 3, 3) := by decide +kernel
theorem k_2_7 : Cond.methodLink "PageScribe$Sums" 3 ⟨"java/lang/Object", "<init>", "()V"⟩ ∈ gw := gw_of (tb_2 (List.mem_of_getElem? (i := 7) (by decide +kernel))) (by decide +kernel)
theorem d_Sums_init_4 : decode prog_11_method_1_code 4 = .ok (.aload_n 0, 1) := by decide +kernel
theorem d_Sums_init_5 : decode prog_11_method_1_code 5 = .ok (.aload_n 1, 1) := by decide +kernel
theorem d_Sums_init_6 : decode prog_11_method_1_code 6 = .ok (.putfield 9, 3) := by decide +kernel
theorem k_2_8 : Cond.fieldLink "PageScribe$Sums" 9 "PageScribe$Sums" "stack" "LPageScribe$Stack;" ∈ gw := gw_of (tb_2 (List.mem_of_getElem? (i := 8) (by decide +kernel))) (by decide +kernel)
theorem d_Sums_init_9 : decode prog_11_method_1_code 9 = .ok (.return_, 1) := by decide +kernel
set_option maxHeartbeats 4000000 in
set_option maxRecDepth 100000 in
theorem c_Sums_init (l : Launch) (D : va_G) (T : Nat → ClassId) (h0 : Nat) (h1 : Nat) (sz : Nat) : Met l ⟨"PageScribe$Sums", "<init>", "(LPageScribe$Stack;)V"⟩ (wy ⟨"PageScribe$Sums", "<init>", "(LPageScribe$Stack;)V"⟩ prog_11_method_1_code 2 none) ({ frames := 1, cells := 0, slots := 0, locals := 70 }) (va_Pc [.ref h0, .ref h1] (Pw D T [(h0, .inr (8, [.null]))] sz E0)) (va_Qv (fun (u : Unit) => True) (fun u t => Bw D T (va_A [(h0, .inr (8, [.null]))] sz) [(h0, .inr (8, [.ref h1]))] t) (va_A [(h0, .inr (8, [.null]))] sz)) 0 0 (va_A [(h0, .inr (8, [.null]))] sz) := by
  refine j_met (Qc := fun A => va_Qv (fun (u : Unit) => True) (fun u t => Bw D T A [(h0, .inr (8, [.ref h1]))] t) A) (by decide +kernel) (Nat.le_of_ble_eq_true rfl) (fun p e s m args below meth c A ls F hr hlocks hnm hK hP hD hS hA hN hE hl => ?_)
  obtain ⟨hx, hb, hml, hown, hts⟩ := id F
  have hin := hnm
  have hl : lv_has ls 2 [(0, .ref h0), (1, .ref h1)] := hl
  refine lv_aload_n hx hb d_Sums_init_0 rfl (lv_at hl 0 rfl) ?_
  refine j_obj F hl.1 k_2_7 k_1_35 k_1_36 d_Sums_init_1 (Nat.le_of_ble_eq_true rfl) (Nat.le_of_ble_eq_true rfl) ?_
  refine lv_aload_n hx hb d_Sums_init_4 rfl (lv_at hl 0 rfl) ?_
  refine lv_aload_n hx hb d_Sums_init_5 rfl (lv_at hl 1 rfl) ?_
  refine va_putF (D := D) (ci := 8) (v := .ref h1) (ty := .object "PageScribe$Stack") (C := "PageScribe$Sums") (T := F_Sums) (N := 1) hx hb hts i_Sums t_Sums t_Sums_ok n_Sums hown hK hP hD hS 0 rfl rfl 0 (by decide) (hts _ k_2_8) (fun _ h9 => h9) rfl hin rfl (by decide +kernel) rfl rfl (Nat.le_of_ble_eq_true rfl) d_Sums_init_6 (fun H locs hP hD hS => ?_)
  have hP : va_P D classes [(h0, .inr (8, [.ref h1]))] H := hP
  have hD : va_D A [(h0, .inr (8, [.ref h1]))] := hD
  have hP9 := hP.sub (ws' := [(h0, .inr (8, [.ref h1]))]) [0] rfl
  have hD9 := hD.sub (ws' := [(h0, .inr (8, [.ref h1]))]) [0] (by decide) rfl
  refine W.widen (k := 0) (n := 0) (Nat.le_of_ble_eq_true rfl) (Nat.le_of_ble_eq_true rfl) ?_
  exact j_vret F hr hlocks hK hS () trivial hP9 hD9 d_Sums_init_9
theorem d_Truths_init_0 : decode prog_12_method_1_code 0 = .ok (.aload_n 0, 1) := by decide +kernel
theorem d_Truths_init_1 : decode prog_12_method_1_code 1 = .ok (.invokespecial 3, 3) := by decide +kernel
theorem k_2_17 : Cond.methodLink "PageScribe$Truths" 3 ⟨"java/lang/Object", "<init>", "()V"⟩ ∈ gw := gw_of (tb_2 (List.mem_of_getElem? (i := 17) (by decide +kernel))) (by decide +kernel)
theorem d_Truths_init_4 : decode prog_12_method_1_code 4 = .ok (.aload_n 0, 1) := by decide +kernel
theorem d_Truths_init_5 : decode prog_12_method_1_code 5 = .ok (.aload_n 1, 1) := by decide +kernel
theorem d_Truths_init_6 : decode prog_12_method_1_code 6 = .ok (.putfield 9, 3) := by decide +kernel
theorem k_2_18 : Cond.fieldLink "PageScribe$Truths" 9 "PageScribe$Truths" "stack" "LPageScribe$Stack;" ∈ gw := gw_of (tb_2 (List.mem_of_getElem? (i := 18) (by decide +kernel))) (by decide +kernel)
theorem d_Truths_init_9 : decode prog_12_method_1_code 9 = .ok (.return_, 1) := by decide +kernel
set_option maxHeartbeats 4000000 in
set_option maxRecDepth 100000 in
theorem c_Truths_init (l : Launch) (D : va_G) (T : Nat → ClassId) (h0 : Nat) (h1 : Nat) (sz : Nat) : Met l ⟨"PageScribe$Truths", "<init>", "(LPageScribe$Stack;)V"⟩ (wy ⟨"PageScribe$Truths", "<init>", "(LPageScribe$Stack;)V"⟩ prog_12_method_1_code 2 none) ({ frames := 1, cells := 0, slots := 0, locals := 70 }) (va_Pc [.ref h0, .ref h1] (Pw D T [(h0, .inr (9, [.null]))] sz E0)) (va_Qv (fun (u : Unit) => True) (fun u t => Bw D T (va_A [(h0, .inr (9, [.null]))] sz) [(h0, .inr (9, [.ref h1]))] t) (va_A [(h0, .inr (9, [.null]))] sz)) 0 0 (va_A [(h0, .inr (9, [.null]))] sz) := by
  refine j_met (Qc := fun A => va_Qv (fun (u : Unit) => True) (fun u t => Bw D T A [(h0, .inr (9, [.ref h1]))] t) A) (by decide +kernel) (Nat.le_of_ble_eq_true rfl) (fun p e s m args below meth c A ls F hr hlocks hnm hK hP hD hS hA hN hE hl => ?_)
  obtain ⟨hx, hb, hml, hown, hts⟩ := id F
  have hin := hnm
  have hl : lv_has ls 2 [(0, .ref h0), (1, .ref h1)] := hl
  refine lv_aload_n hx hb d_Truths_init_0 rfl (lv_at hl 0 rfl) ?_
  refine j_obj F hl.1 k_2_17 k_1_35 k_1_36 d_Truths_init_1 (Nat.le_of_ble_eq_true rfl) (Nat.le_of_ble_eq_true rfl) ?_
  refine lv_aload_n hx hb d_Truths_init_4 rfl (lv_at hl 0 rfl) ?_
  refine lv_aload_n hx hb d_Truths_init_5 rfl (lv_at hl 1 rfl) ?_
  refine va_putF (D := D) (ci := 9) (v := .ref h1) (ty := .object "PageScribe$Stack") (C := "PageScribe$Truths") (T := F_Truths) (N := 1) hx hb hts i_Truths t_Truths t_Truths_ok n_Truths hown hK hP hD hS 0 rfl rfl 0 (by decide) (hts _ k_2_18) (fun _ h9 => h9) rfl hin rfl (by decide +kernel) rfl rfl (Nat.le_of_ble_eq_true rfl) d_Truths_init_6 (fun H locs hP hD hS => ?_)
  have hP : va_P D classes [(h0, .inr (9, [.ref h1]))] H := hP
  have hD : va_D A [(h0, .inr (9, [.ref h1]))] := hD
  have hP9 := hP.sub (ws' := [(h0, .inr (9, [.ref h1]))]) [0] rfl
  have hD9 := hD.sub (ws' := [(h0, .inr (9, [.ref h1]))]) [0] (by decide) rfl
  refine W.widen (k := 0) (n := 0) (Nat.le_of_ble_eq_true rfl) (Nat.le_of_ble_eq_true rfl) ?_
  exact j_vret F hr hlocks hK hS () trivial hP9 hD9 d_Truths_init_9
theorem d_Engine_init_0 : decode prog_4_method_1_code 0 = .ok (.aload_n 0, 1) := by decide +kernel
theorem d_Engine_init_1 : decode prog_4_method_1_code 1 = .ok (.invokespecial 3, 3) := by decide +kernel
theorem k_2_1 : Cond.methodLink "PageScribe$Engine" 3 ⟨"java/lang/Object", "<init>", "()V"⟩ ∈ gw := gw_of (tb_2 (List.mem_of_getElem? (i := 1) (by decide +kernel))) (by decide +kernel)
theorem d_Engine_init_4 : decode prog_4_method_1_code 4 = .ok (.aload_n 0, 1) := by decide +kernel
theorem d_Engine_init_5 : decode prog_4_method_1_code 5 = .ok (.iconst 0, 1) := by decide +kernel
theorem d_Engine_init_6 : decode prog_4_method_1_code 6 = .ok (.putfield 9, 3) := by decide +kernel
theorem k_2_27 : Cond.fieldLink "PageScribe$Engine" 9 "PageScribe$Engine" "fuelGiven" "I" ∈ gw := gw_of (tb_2 (List.mem_of_getElem? (i := 27) (by decide +kernel))) (by decide +kernel)
theorem d_Engine_init_9 : decode prog_4_method_1_code 9 = .ok (.aload_n 0, 1) := by decide +kernel
theorem d_Engine_init_10 : decode prog_4_method_1_code 10 = .ok (.iconst 0, 1) := by decide +kernel
theorem d_Engine_init_11 : decode prog_4_method_1_code 11 = .ok (.putfield 15, 3) := by decide +kernel
theorem k_2_28 : Cond.fieldLink "PageScribe$Engine" 15 "PageScribe$Engine" "stepsDone" "I" ∈ gw := gw_of (tb_2 (List.mem_of_getElem? (i := 28) (by decide +kernel))) (by decide +kernel)
theorem d_Engine_init_14 : decode prog_4_method_1_code 14 = .ok (.aload_n 0, 1) := by decide +kernel
theorem d_Engine_init_15 : decode prog_4_method_1_code 15 = .ok (.iconst 0, 1) := by decide +kernel
theorem d_Engine_init_16 : decode prog_4_method_1_code 16 = .ok (.putfield 18, 3) := by decide +kernel
theorem k_2_30 : Cond.fieldLink "PageScribe$Engine" 18 "PageScribe$Engine" "latestFault" "I" ∈ gw := gw_of (tb_2 (List.mem_of_getElem? (i := 30) (by decide +kernel))) (by decide +kernel)
theorem d_Engine_init_19 : decode prog_4_method_1_code 19 = .ok (.aload_n 0, 1) := by decide +kernel
theorem d_Engine_init_20 : decode prog_4_method_1_code 20 = .ok (.iconst 0, 1) := by decide +kernel
theorem d_Engine_init_21 : decode prog_4_method_1_code 21 = .ok (.putfield 21, 3) := by decide +kernel
theorem k_2_32 : Cond.fieldLink "PageScribe$Engine" 21 "PageScribe$Engine" "underWay" "I" ∈ gw := gw_of (tb_2 (List.mem_of_getElem? (i := 32) (by decide +kernel))) (by decide +kernel)
theorem d_Engine_init_24 : decode prog_4_method_1_code 24 = .ok (.aload_n 0, 1) := by decide +kernel
theorem d_Engine_init_25 : decode prog_4_method_1_code 25 = .ok (.iconst 0, 1) := by decide +kernel
theorem d_Engine_init_26 : decode prog_4_method_1_code 26 = .ok (.putfield 24, 3) := by decide +kernel
theorem k_2_33 : Cond.fieldLink "PageScribe$Engine" 24 "PageScribe$Engine" "reach" "I" ∈ gw := gw_of (tb_2 (List.mem_of_getElem? (i := 33) (by decide +kernel))) (by decide +kernel)
theorem d_Engine_init_29 : decode prog_4_method_1_code 29 = .ok (.aload_n 0, 1) := by decide +kernel
theorem d_Engine_init_30 : decode prog_4_method_1_code 30 = .ok (.iconst 0, 1) := by decide +kernel
theorem d_Engine_init_31 : decode prog_4_method_1_code 31 = .ok (.putfield 27, 3) := by decide +kernel
theorem k_2_34 : Cond.fieldLink "PageScribe$Engine" 27 "PageScribe$Engine" "loops" "I" ∈ gw := gw_of (tb_2 (List.mem_of_getElem? (i := 34) (by decide +kernel))) (by decide +kernel)
theorem d_Engine_init_34 : decode prog_4_method_1_code 34 = .ok (.aload_n 0, 1) := by decide +kernel
theorem d_Engine_init_35 : decode prog_4_method_1_code 35 = .ok (.aload_n 1, 1) := by decide +kernel
theorem d_Engine_init_36 : decode prog_4_method_1_code 36 = .ok (.putfield 30, 3) := by decide +kernel
theorem k_2_22 : Cond.fieldLink "PageScribe$Engine" 30 "PageScribe$Engine" "stack" "LPageScribe$Stack;" ∈ gw := gw_of (tb_2 (List.mem_of_getElem? (i := 22) (by decide +kernel))) (by decide +kernel)
theorem d_Engine_init_39 : decode prog_4_method_1_code 39 = .ok (.aload_n 0, 1) := by decide +kernel
theorem d_Engine_init_40 : decode prog_4_method_1_code 40 = .ok (.aload_n 2, 1) := by decide +kernel
theorem d_Engine_init_41 : decode prog_4_method_1_code 41 = .ok (.putfield 34, 3) := by decide +kernel
theorem k_2_23 : Cond.fieldLink "PageScribe$Engine" 34 "PageScribe$Engine" "memory" "LPageScribe$Memory;" ∈ gw := gw_of (tb_2 (List.mem_of_getElem? (i := 23) (by decide +kernel))) (by decide +kernel)
theorem d_Engine_init_44 : decode prog_4_method_1_code 44 = .ok (.aload_n 0, 1) := by decide +kernel
theorem d_Engine_init_45 : decode prog_4_method_1_code 45 = .ok (.aload_n 3, 1) := by decide +kernel
theorem d_Engine_init_46 : decode prog_4_method_1_code 46 = .ok (.putfield 38, 3) := by decide +kernel
theorem k_2_24 : Cond.fieldLink "PageScribe$Engine" 38 "PageScribe$Engine" "canvas" "LPageScribe$Canvas;" ∈ gw := gw_of (tb_2 (List.mem_of_getElem? (i := 24) (by decide +kernel))) (by decide +kernel)
theorem d_Engine_init_49 : decode prog_4_method_1_code 49 = .ok (.aload_n 0, 1) := by decide +kernel
theorem d_Engine_init_50 : decode prog_4_method_1_code 50 = .ok (.new 42, 3) := by decide +kernel
theorem k_2_2 : Cond.classLink "PageScribe$Engine" 42 "PageScribe$Sums" ∈ gw := gw_of (tb_2 (List.mem_of_getElem? (i := 2) (by decide +kernel))) (by decide +kernel)
theorem k_2_3 : Cond.instantiable "PageScribe$Sums" 1 ∈ gw := gw_of (tb_2 (List.mem_of_getElem? (i := 3) (by decide +kernel))) (by decide +kernel)
theorem k_1_10 : Cond.initialized "PageScribe$Sums" ∈ gw := gw_of (tb_1 (List.mem_of_getElem? (i := 10) (by decide +kernel))) (by decide +kernel)
theorem d_Engine_init_53 : decode prog_4_method_1_code 53 = .ok (.dup, 1) := by decide +kernel
theorem d_Engine_init_54 : decode prog_4_method_1_code 54 = .ok (.aload_n 1, 1) := by decide +kernel
theorem d_Engine_init_55 : decode prog_4_method_1_code 55 = .ok (.invokespecial 44, 3) := by decide +kernel
theorem k_2_6 : Cond.code ⟨"PageScribe$Sums", "<init>", "(LPageScribe$Stack;)V"⟩ prog_11_method_1_code 2 none ∈ gw := gw_of (tb_2 (List.mem_of_getElem? (i := 6) (by decide +kernel))) (by decide +kernel)
theorem k_2_4 : Cond.methodLink "PageScribe$Engine" 44 ⟨"PageScribe$Sums", "<init>", "(LPageScribe$Stack;)V"⟩ ∈ gw := gw_of (tb_2 (List.mem_of_getElem? (i := 4) (by decide +kernel))) (by decide +kernel)
theorem k_2_5 : Cond.instanceMethod ⟨"PageScribe$Sums", "<init>", "(LPageScribe$Stack;)V"⟩ ∈ gw := gw_of (tb_2 (List.mem_of_getElem? (i := 5) (by decide +kernel))) (by decide +kernel)
theorem d_Engine_init_58 : decode prog_4_method_1_code 58 = .ok (.putfield 47, 3) := by decide +kernel
theorem k_2_25 : Cond.fieldLink "PageScribe$Engine" 47 "PageScribe$Engine" "sums" "LPageScribe$Sums;" ∈ gw := gw_of (tb_2 (List.mem_of_getElem? (i := 25) (by decide +kernel))) (by decide +kernel)
theorem d_Engine_init_61 : decode prog_4_method_1_code 61 = .ok (.aload_n 0, 1) := by decide +kernel
theorem d_Engine_init_62 : decode prog_4_method_1_code 62 = .ok (.new 51, 3) := by decide +kernel
theorem k_2_12 : Cond.classLink "PageScribe$Engine" 51 "PageScribe$Truths" ∈ gw := gw_of (tb_2 (List.mem_of_getElem? (i := 12) (by decide +kernel))) (by decide +kernel)
theorem k_2_13 : Cond.instantiable "PageScribe$Truths" 1 ∈ gw := gw_of (tb_2 (List.mem_of_getElem? (i := 13) (by decide +kernel))) (by decide +kernel)
theorem k_1_11 : Cond.initialized "PageScribe$Truths" ∈ gw := gw_of (tb_1 (List.mem_of_getElem? (i := 11) (by decide +kernel))) (by decide +kernel)
theorem d_Engine_init_65 : decode prog_4_method_1_code 65 = .ok (.dup, 1) := by decide +kernel
theorem d_Engine_init_66 : decode prog_4_method_1_code 66 = .ok (.aload_n 1, 1) := by decide +kernel
theorem d_Engine_init_67 : decode prog_4_method_1_code 67 = .ok (.invokespecial 53, 3) := by decide +kernel
theorem k_2_16 : Cond.code ⟨"PageScribe$Truths", "<init>", "(LPageScribe$Stack;)V"⟩ prog_12_method_1_code 2 none ∈ gw := gw_of (tb_2 (List.mem_of_getElem? (i := 16) (by decide +kernel))) (by decide +kernel)
theorem k_2_14 : Cond.methodLink "PageScribe$Engine" 53 ⟨"PageScribe$Truths", "<init>", "(LPageScribe$Stack;)V"⟩ ∈ gw := gw_of (tb_2 (List.mem_of_getElem? (i := 14) (by decide +kernel))) (by decide +kernel)
theorem k_2_15 : Cond.instanceMethod ⟨"PageScribe$Truths", "<init>", "(LPageScribe$Stack;)V"⟩ ∈ gw := gw_of (tb_2 (List.mem_of_getElem? (i := 15) (by decide +kernel))) (by decide +kernel)
theorem d_Engine_init_70 : decode prog_4_method_1_code 70 = .ok (.putfield 54, 3) := by decide +kernel
theorem k_2_26 : Cond.fieldLink "PageScribe$Engine" 54 "PageScribe$Engine" "truths" "LPageScribe$Truths;" ∈ gw := gw_of (tb_2 (List.mem_of_getElem? (i := 26) (by decide +kernel))) (by decide +kernel)
theorem d_Engine_init_73 : decode prog_4_method_1_code 73 = .ok (.return_, 1) := by decide +kernel
set_option maxHeartbeats 4000000 in
set_option maxRecDepth 100000 in
theorem c_Engine_init (l : Launch) (D : va_G) (T : Nat → ClassId) (h0 : Nat) (h1 : Nat) (h2 : Nat) (h3 : Nat) (sz : Nat) : Met l ⟨"PageScribe$Engine", "<init>", "(LPageScribe$Stack;LPageScribe$Memory;LPageScribe$Canvas;)V"⟩ (wy ⟨"PageScribe$Engine", "<init>", "(LPageScribe$Stack;LPageScribe$Memory;LPageScribe$Canvas;)V"⟩ prog_4_method_1_code 4 none) ({ frames := 2, cells := 2, slots := 2, locals := 140 }) (va_Pc [.ref h0, .ref h1, .ref h2, .ref h3] (Pw D T [(h0, .inr (7, [.null, .null, .null, .null, .null, .int 0, .int 0, .int 0, .int 0, .int 0, .int 0]))] sz E0)) (va_Qv (fun (u : Nat × Nat) => True) (fun u t => Bw D T (va_A [(h0, .inr (7, [.null, .null, .null, .null, .null, .int 0, .int 0, .int 0, .int 0, .int 0, .int 0]))] sz) [(h0, .inr (7, [.ref h1, .ref h2, .ref h3, .ref u.1, .ref u.2, .int 0, .int 0, .int 0, .int 0, .int 0, .int 0]))] t) (va_A [(h0, .inr (7, [.null, .null, .null, .null, .null, .int 0, .int 0, .int 0, .int 0, .int 0, .int 0]))] sz)) 2 2 (va_A [(h0, .inr (7, [.null, .null, .null, .null, .null, .int 0, .int 0, .int 0, .int 0, .int 0, .int 0]))] sz) := by
  refine j_met (Qc := fun A => va_Qv (fun (u : Nat × Nat) => True) (fun u t => Bw D T A [(h0, .inr (7, [.ref h1, .ref h2, .ref h3, .ref u.1, .ref u.2, .int 0, .int 0, .int 0, .int 0, .int 0, .int 0]))] t) A) (by decide +kernel) (Nat.le_of_ble_eq_true rfl) (fun p e s m args below meth c A ls F hr hlocks hnm hK hP hD hS hA hN hE hl => ?_)
  obtain ⟨hx, hb, hml, hown, hts⟩ := id F
  have hin := hnm
  have hl : lv_has ls 4 [(0, .ref h0), (1, .ref h1), (2, .ref h2), (3, .ref h3)] := hl
  refine lv_aload_n hx hb d_Engine_init_0 rfl (lv_at hl 0 rfl) ?_
  refine j_obj F hl.1 k_2_1 k_1_35 k_1_36 d_Engine_init_1 (Nat.le_of_ble_eq_true rfl) (Nat.le_of_ble_eq_true rfl) ?_
  refine lv_aload_n hx hb d_Engine_init_4 rfl (lv_at hl 0 rfl) ?_
  refine lv_iconst (v := 0) hx hb d_Engine_init_5 (by decide) ?_
  refine va_put (D := D) (ci := 7) (v := .int 0) (ty := .int) (C := "PageScribe$Engine") (T := F_Engine) (N := 11) hx hb hts i_Engine t_Engine t_Engine_ok n_Engine hown hK hP hD hS 0 rfl rfl 5 (by decide) (hts _ k_2_27) (fun _ h9 => h9) rfl (by decide +kernel) rfl rfl (Nat.le_of_ble_eq_true rfl) d_Engine_init_6 (fun H locs hP hD hS => ?_)
  have hP : va_P D classes [(h0, .inr (7, [.null, .null, .null, .null, .null, .int 0, .int 0, .int 0, .int 0, .int 0, .int 0]))] H := hP
  have hD : va_D A [(h0, .inr (7, [.null, .null, .null, .null, .null, .int 0, .int 0, .int 0, .int 0, .int 0, .int 0]))] := hD
  refine lv_aload_n hx hb d_Engine_init_9 rfl (lv_at hl 0 rfl) ?_
  refine lv_iconst (v := 0) hx hb d_Engine_init_10 (by decide) ?_
  refine va_put (D := D) (ci := 7) (v := .int 0) (ty := .int) (C := "PageScribe$Engine") (T := F_Engine) (N := 11) hx hb hts i_Engine t_Engine t_Engine_ok n_Engine hown hK hP hD hS 0 rfl rfl 6 (by decide) (hts _ k_2_28) (fun _ h9 => h9) rfl (by decide +kernel) rfl rfl (Nat.le_of_ble_eq_true rfl) d_Engine_init_11 (fun H locs hP hD hS => ?_)
  have hP : va_P D classes [(h0, .inr (7, [.null, .null, .null, .null, .null, .int 0, .int 0, .int 0, .int 0, .int 0, .int 0]))] H := hP
  have hD : va_D A [(h0, .inr (7, [.null, .null, .null, .null, .null, .int 0, .int 0, .int 0, .int 0, .int 0, .int 0]))] := hD
  refine lv_aload_n hx hb d_Engine_init_14 rfl (lv_at hl 0 rfl) ?_
  refine lv_iconst (v := 0) hx hb d_Engine_init_15 (by decide) ?_
  refine va_put (D := D) (ci := 7) (v := .int 0) (ty := .int) (C := "PageScribe$Engine") (T := F_Engine) (N := 11) hx hb hts i_Engine t_Engine t_Engine_ok n_Engine hown hK hP hD hS 0 rfl rfl 7 (by decide) (hts _ k_2_30) (fun _ h9 => h9) rfl (by decide +kernel) rfl rfl (Nat.le_of_ble_eq_true rfl) d_Engine_init_16 (fun H locs hP hD hS => ?_)
  have hP : va_P D classes [(h0, .inr (7, [.null, .null, .null, .null, .null, .int 0, .int 0, .int 0, .int 0, .int 0, .int 0]))] H := hP
  have hD : va_D A [(h0, .inr (7, [.null, .null, .null, .null, .null, .int 0, .int 0, .int 0, .int 0, .int 0, .int 0]))] := hD
  refine lv_aload_n hx hb d_Engine_init_19 rfl (lv_at hl 0 rfl) ?_
  refine lv_iconst (v := 0) hx hb d_Engine_init_20 (by decide) ?_
  refine va_put (D := D) (ci := 7) (v := .int 0) (ty := .int) (C := "PageScribe$Engine") (T := F_Engine) (N := 11) hx hb hts i_Engine t_Engine t_Engine_ok n_Engine hown hK hP hD hS 0 rfl rfl 8 (by decide) (hts _ k_2_32) (fun _ h9 => h9) rfl (by decide +kernel) rfl rfl (Nat.le_of_ble_eq_true rfl) d_Engine_init_21 (fun H locs hP hD hS => ?_)
  have hP : va_P D classes [(h0, .inr (7, [.null, .null, .null, .null, .null, .int 0, .int 0, .int 0, .int 0, .int 0, .int 0]))] H := hP
  have hD : va_D A [(h0, .inr (7, [.null, .null, .null, .null, .null, .int 0, .int 0, .int 0, .int 0, .int 0, .int 0]))] := hD
  refine lv_aload_n hx hb d_Engine_init_24 rfl (lv_at hl 0 rfl) ?_
  refine lv_iconst (v := 0) hx hb d_Engine_init_25 (by decide) ?_
  refine va_put (D := D) (ci := 7) (v := .int 0) (ty := .int) (C := "PageScribe$Engine") (T := F_Engine) (N := 11) hx hb hts i_Engine t_Engine t_Engine_ok n_Engine hown hK hP hD hS 0 rfl rfl 9 (by decide) (hts _ k_2_33) (fun _ h9 => h9) rfl (by decide +kernel) rfl rfl (Nat.le_of_ble_eq_true rfl) d_Engine_init_26 (fun H locs hP hD hS => ?_)
  have hP : va_P D classes [(h0, .inr (7, [.null, .null, .null, .null, .null, .int 0, .int 0, .int 0, .int 0, .int 0, .int 0]))] H := hP
  have hD : va_D A [(h0, .inr (7, [.null, .null, .null, .null, .null, .int 0, .int 0, .int 0, .int 0, .int 0, .int 0]))] := hD
  refine lv_aload_n hx hb d_Engine_init_29 rfl (lv_at hl 0 rfl) ?_
  refine lv_iconst (v := 0) hx hb d_Engine_init_30 (by decide) ?_
  refine va_put (D := D) (ci := 7) (v := .int 0) (ty := .int) (C := "PageScribe$Engine") (T := F_Engine) (N := 11) hx hb hts i_Engine t_Engine t_Engine_ok n_Engine hown hK hP hD hS 0 rfl rfl 10 (by decide) (hts _ k_2_34) (fun _ h9 => h9) rfl (by decide +kernel) rfl rfl (Nat.le_of_ble_eq_true rfl) d_Engine_init_31 (fun H locs hP hD hS => ?_)
  have hP : va_P D classes [(h0, .inr (7, [.null, .null, .null, .null, .null, .int 0, .int 0, .int 0, .int 0, .int 0, .int 0]))] H := hP
  have hD : va_D A [(h0, .inr (7, [.null, .null, .null, .null, .null, .int 0, .int 0, .int 0, .int 0, .int 0, .int 0]))] := hD
  refine lv_aload_n hx hb d_Engine_init_34 rfl (lv_at hl 0 rfl) ?_
  refine lv_aload_n hx hb d_Engine_init_35 rfl (lv_at hl 1 rfl) ?_
  refine va_putF (D := D) (ci := 7) (v := .ref h1) (ty := .object "PageScribe$Stack") (C := "PageScribe$Engine") (T := F_Engine) (N := 11) hx hb hts i_Engine t_Engine t_Engine_ok n_Engine hown hK hP hD hS 0 rfl rfl 0 (by decide) (hts _ k_2_22) (fun _ h9 => h9) rfl hin rfl (by decide +kernel) rfl rfl (Nat.le_of_ble_eq_true rfl) d_Engine_init_36 (fun H locs hP hD hS => ?_)
  have hP : va_P D classes [(h0, .inr (7, [.ref h1, .null, .null, .null, .null, .int 0, .int 0, .int 0, .int 0, .int 0, .int 0]))] H := hP
  have hD : va_D A [(h0, .inr (7, [.ref h1, .null, .null, .null, .null, .int 0, .int 0, .int 0, .int 0, .int 0, .int 0]))] := hD
  refine lv_aload_n hx hb d_Engine_init_39 rfl (lv_at hl 0 rfl) ?_
  refine lv_aload_n hx hb d_Engine_init_40 rfl (lv_at hl 2 rfl) ?_
  refine va_putF (D := D) (ci := 7) (v := .ref h2) (ty := .object "PageScribe$Memory") (C := "PageScribe$Engine") (T := F_Engine) (N := 11) hx hb hts i_Engine t_Engine t_Engine_ok n_Engine hown hK hP hD hS 0 rfl rfl 1 (by decide) (hts _ k_2_23) (fun _ h9 => h9) rfl hin rfl (by decide +kernel) rfl rfl (Nat.le_of_ble_eq_true rfl) d_Engine_init_41 (fun H locs hP hD hS => ?_)
  have hP : va_P D classes [(h0, .inr (7, [.ref h1, .ref h2, .null, .null, .null, .int 0, .int 0, .int 0, .int 0, .int 0, .int 0]))] H := hP
  have hD : va_D A [(h0, .inr (7, [.ref h1, .ref h2, .null, .null, .null, .int 0, .int 0, .int 0, .int 0, .int 0, .int 0]))] := hD
  refine lv_aload_n hx hb d_Engine_init_44 rfl (lv_at hl 0 rfl) ?_
  refine lv_aload_n hx hb d_Engine_init_45 rfl (lv_at hl 3 rfl) ?_
  refine va_putF (D := D) (ci := 7) (v := .ref h3) (ty := .object "PageScribe$Canvas") (C := "PageScribe$Engine") (T := F_Engine) (N := 11) hx hb hts i_Engine t_Engine t_Engine_ok n_Engine hown hK hP hD hS 0 rfl rfl 2 (by decide) (hts _ k_2_24) (fun _ h9 => h9) rfl hin rfl (by decide +kernel) rfl rfl (Nat.le_of_ble_eq_true rfl) d_Engine_init_46 (fun H locs hP hD hS => ?_)
  have hP : va_P D classes [(h0, .inr (7, [.ref h1, .ref h2, .ref h3, .null, .null, .int 0, .int 0, .int 0, .int 0, .int 0, .int 0]))] H := hP
  have hD : va_D A [(h0, .inr (7, [.ref h1, .ref h2, .ref h3, .null, .null, .int 0, .int 0, .int 0, .int 0, .int 0, .int 0]))] := hD
  refine lv_aload_n hx hb d_Engine_init_49 rfl (lv_at hl 0 rfl) ?_
  refine va_new (ci := 8) (fs := [.null]) (C := "PageScribe$Sums") (T := F_Sums) (N := 1) hx hb hts i_Sums t_Sums t_Sums_ok hown (hts _ k_2_2) (hts _ k_2_3) (hts _ k_1_10) hK hP hD hS hA rfl z_Sums (Nat.le_of_ble_eq_true rfl) (Nat.le_of_ble_eq_true rfl) d_Engine_init_50 (fun q1 H hP hD hS => ?_)
  have hP : va_P D classes [(h0, .inr (7, [.ref h1, .ref h2, .ref h3, .null, .null, .int 0, .int 0, .int 0, .int 0, .int 0, .int 0])), (q1, .inr (8, [.null]))] H := hP
  have hD : va_D A [(h0, .inr (7, [.ref h1, .ref h2, .ref h3, .null, .null, .int 0, .int 0, .int 0, .int 0, .int 0, .int 0])), (q1, .inr (8, [.null]))] := hD
  refine lv_dup hx hb d_Engine_init_53 rfl ?_
  refine lv_aload_n hx hb d_Engine_init_54 rfl (lv_at hl 1 rfl) ?_
  refine j_cv (wc := [(q1, .inr (8, [.null]))]) (wr := [(h0, .inr (7, [.ref h1, .ref h2, .ref h3, .null, .null, .int 0, .int 0, .int 0, .int 0, .int 0, .int 0]))]) hK hP hD hS hA [1] [0] rfl rfl (by decide) (by decide) (va_runI (As := [.ref h1]) (rest := [.ref q1, .ref h0]) F (c_Sums_init l D T q1 h1 H.size) (j_cI (k := 1) hts k_2_6 k_1_10 k_2_4 k_2_5 rfl (by decide +kernel) ⟨Nat.le_of_ble_eq_true rfl, Nat.le_of_ble_eq_true rfl⟩) (j_preS hK hP hD [1] rfl (by decide) (fun _ _ _ _ h => h) (fun _ _ _ => trivial)) rfl rfl hl.1 rfl (lv_room (Nat.le_of_ble_eq_true rfl)) d_Engine_init_55 ⟨Nat.le_of_ble_eq_true rfl, Nat.le_of_ble_eq_true rfl⟩) (fun u1 H locs hw hP hD hS => ?_)
  have hP : va_P D classes [(h0, .inr (7, [.ref h1, .ref h2, .ref h3, .null, .null, .int 0, .int 0, .int 0, .int 0, .int 0, .int 0])), (q1, .inr (8, [.ref h1]))] H := hP
  have hD : va_D A [(h0, .inr (7, [.ref h1, .ref h2, .ref h3, .null, .null, .int 0, .int 0, .int 0, .int 0, .int 0, .int 0])), (q1, .inr (8, [.ref h1]))] := hD
  refine va_putF (D := D) (ci := 7) (v := .ref q1) (ty := .object "PageScribe$Sums") (C := "PageScribe$Engine") (T := F_Engine) (N := 11) hx hb hts i_Engine t_Engine t_Engine_ok n_Engine hown hK hP hD hS 0 rfl rfl 3 (by decide) (hts _ k_2_25) (fun _ h9 => h9) rfl hin rfl (by decide +kernel) rfl rfl (Nat.le_of_ble_eq_true rfl) d_Engine_init_58 (fun H locs hP hD hS => ?_)
  have hP : va_P D classes [(h0, .inr (7, [.ref h1, .ref h2, .ref h3, .ref q1, .null, .int 0, .int 0, .int 0, .int 0, .int 0, .int 0])), (q1, .inr (8, [.ref h1]))] H := hP
  have hD : va_D A [(h0, .inr (7, [.ref h1, .ref h2, .ref h3, .ref q1, .null, .int 0, .int 0, .int 0, .int 0, .int 0, .int 0])), (q1, .inr (8, [.ref h1]))] := hD
  refine lv_aload_n hx hb d_Engine_init_61 rfl (lv_at hl 0 rfl) ?_
  refine va_new (ci := 9) (fs := [.null]) (C := "PageScribe$Truths") (T := F_Truths) (N := 1) hx hb hts i_Truths t_Truths t_Truths_ok hown (hts _ k_2_12) (hts _ k_2_13) (hts _ k_1_11) hK hP hD hS hA rfl z_Truths (Nat.le_of_ble_eq_true rfl) (Nat.le_of_ble_eq_true rfl) d_Engine_init_62 (fun q2 H hP hD hS => ?_)
  have hP : va_P D classes [(h0, .inr (7, [.ref h1, .ref h2, .ref h3, .ref q1, .null, .int 0, .int 0, .int 0, .int 0, .int 0, .int 0])), (q1, .inr (8, [.ref h1])), (q2, .inr (9, [.null]))] H := hP
  have hD : va_D A [(h0, .inr (7, [.ref h1, .ref h2, .ref h3, .ref q1, .null, .int 0, .int 0, .int 0, .int 0, .int 0, .int 0])), (q1, .inr (8, [.ref h1])), (q2, .inr (9, [.null]))] := hD
  refine lv_dup hx hb d_Engine_init_65 rfl ?_
  refine lv_aload_n hx hb d_Engine_init_66 rfl (lv_at hl 1 rfl) ?_
  refine j_cv (wc := [(q2, .inr (9, [.null]))]) (wr := [(h0, .inr (7, [.ref h1, .ref h2, .ref h3, .ref q1, .null, .int 0, .int 0, .int 0, .int 0, .int 0, .int 0])), (q1, .inr (8, [.ref h1]))]) hK hP hD hS hA [2] [0, 1] rfl rfl (by decide) (by decide) (va_runI (As := [.ref h1]) (rest := [.ref q2, .ref h0]) F (c_Truths_init l D T q2 h1 H.size) (j_cI (k := 1) hts k_2_16 k_1_11 k_2_14 k_2_15 rfl (by decide +kernel) ⟨Nat.le_of_ble_eq_true rfl, Nat.le_of_ble_eq_true rfl⟩) (j_preS hK hP hD [2] rfl (by decide) (fun _ _ _ _ h => h) (fun _ _ _ => trivial)) rfl rfl hl.1 rfl (lv_room (Nat.le_of_ble_eq_true rfl)) d_Engine_init_67 ⟨Nat.le_of_ble_eq_true rfl, Nat.le_of_ble_eq_true rfl⟩) (fun u2 H locs hw hP hD hS => ?_)
  have hP : va_P D classes [(h0, .inr (7, [.ref h1, .ref h2, .ref h3, .ref q1, .null, .int 0, .int 0, .int 0, .int 0, .int 0, .int 0])), (q1, .inr (8, [.ref h1])), (q2, .inr (9, [.ref h1]))] H := hP
  have hD : va_D A [(h0, .inr (7, [.ref h1, .ref h2, .ref h3, .ref q1, .null, .int 0, .int 0, .int 0, .int 0, .int 0, .int 0])), (q1, .inr (8, [.ref h1])), (q2, .inr (9, [.ref h1]))] := hD
  refine va_putF (D := D) (ci := 7) (v := .ref q2) (ty := .object "PageScribe$Truths") (C := "PageScribe$Engine") (T := F_Engine) (N := 11) hx hb hts i_Engine t_Engine t_Engine_ok n_Engine hown hK hP hD hS 0 rfl rfl 4 (by decide) (hts _ k_2_26) (fun _ h9 => h9) rfl hin rfl (by decide +kernel) rfl rfl (Nat.le_of_ble_eq_true rfl) d_Engine_init_70 (fun H locs hP hD hS => ?_)
  have hP : va_P D classes [(h0, .inr (7, [.ref h1, .ref h2, .ref h3, .ref q1, .ref q2, .int 0, .int 0, .int 0, .int 0, .int 0, .int 0])), (q1, .inr (8, [.ref h1])), (q2, .inr (9, [.ref h1]))] H := hP
  have hD : va_D A [(h0, .inr (7, [.ref h1, .ref h2, .ref h3, .ref q1, .ref q2, .int 0, .int 0, .int 0, .int 0, .int 0, .int 0])), (q1, .inr (8, [.ref h1])), (q2, .inr (9, [.ref h1]))] := hD
  have hP9 := hP.sub (ws' := [(h0, .inr (7, [.ref h1, .ref h2, .ref h3, .ref q1, .ref q2, .int 0, .int 0, .int 0, .int 0, .int 0, .int 0]))]) [0] rfl
  have hD9 := hD.sub (ws' := [(h0, .inr (7, [.ref h1, .ref h2, .ref h3, .ref q1, .ref q2, .int 0, .int 0, .int 0, .int 0, .int 0, .int 0]))]) [0] (by decide) rfl
  refine W.widen (k := 2) (n := 2) (Nat.le_of_ble_eq_true rfl) (Nat.le_of_ble_eq_true rfl) ?_
  exact j_vret F hr hlocks hK hS (q1, q2) trivial hP9 hD9 d_Engine_init_73
/-- so many columns (rows) as a page has -/
def colOf (p : Int32) : Int32 := if p < 1 ∨ 24 < p then 16 else p
def rowOf (p : Int32) : Int32 := if p < 1 ∨ 16 < p then 12 else p
theorem colOf_in (p : Int32) : ∃ C : Nat, colOf p = nI C ∧ 1 ≤ C ∧ C ≤ 24 := by
  unfold colOf
  split
  · exact ⟨16, by decide +kernel, by omega, by omega⟩
  · rename_i h
    have h1 : ¬ p < 1 := fun q => h (Or.inl q)
    have h2 : ¬ (24 : Int32) < p := fun q => h (Or.inr q)
    have h0 : ¬ p < 0 := fun q => h1 (Int32.lt_trans q (by decide +kernel))
    obtain ⟨C, hC, rfl⟩ := nI_of h0
    refine ⟨C, rfl, ?_, ?_⟩
    · rcases Nat.eq_zero_or_pos C with z | z
      · subst z; exact absurd (show nI 0 < 1 by decide +kernel) h1
      · exact z
    · rcases Nat.lt_or_ge 24 C with z | z
      · exact absurd (show nI 24 < nI C from nI_lt z hC) h2
      · exact z
theorem rowOf_in (p : Int32) : ∃ C : Nat, rowOf p = nI C ∧ 1 ≤ C ∧ C ≤ 16 := by
  unfold rowOf
  split
  · exact ⟨12, by decide +kernel, by omega, by omega⟩
  · rename_i h
    have h1 : ¬ p < 1 := fun q => h (Or.inl q)
    have h2 : ¬ (16 : Int32) < p := fun q => h (Or.inr q)
    have h0 : ¬ p < 0 := fun q => h1 (Int32.lt_trans q (by decide +kernel))
    obtain ⟨C, hC, rfl⟩ := nI_of h0
    refine ⟨C, rfl, ?_, ?_⟩
    · rcases Nat.eq_zero_or_pos C with z | z
      · subst z; exact absurd (show nI 0 < 1 by decide +kernel) h1
      · exact z
    · rcases Nat.lt_or_ge 16 C with z | z
      · exact absurd (show nI 16 < nI C from nI_lt z hC) h2
      · exact z
theorem d_Canvas_init_0 : decode prog_3_method_1_code 0 = .ok (.aload_n 0, 1) := by decide +kernel
theorem d_Canvas_init_1 : decode prog_3_method_1_code 1 = .ok (.invokespecial 3, 3) := by decide +kernel
theorem k_1_206 : Cond.methodLink "PageScribe$Canvas" 3 ⟨"java/lang/Object", "<init>", "()V"⟩ ∈ gw := gw_of (tb_1 (List.mem_of_getElem? (i := 206) (by decide +kernel))) (by decide +kernel)
theorem d_Canvas_init_4 : decode prog_3_method_1_code 4 = .ok (.aload_n 0, 1) := by decide +kernel
theorem d_Canvas_init_5 : decode prog_3_method_1_code 5 = .ok (.fconst 1, 1) := by decide +kernel
theorem d_Canvas_init_6 : decode prog_3_method_1_code 6 = .ok (.putfield 9, 3) := by decide +kernel
theorem k_1_211 : Cond.fieldLink "PageScribe$Canvas" 9 "PageScribe$Canvas" "gray" "F" ∈ gw := gw_of (tb_1 (List.mem_of_getElem? (i := 211) (by decide +kernel))) (by decide +kernel)
theorem d_Canvas_init_9 : decode prog_3_method_1_code 9 = .ok (.aload_n 0, 1) := by decide +kernel
theorem d_Canvas_init_10 : decode prog_3_method_1_code 10 = .ok (.bipush 30, 2) := by decide +kernel
theorem d_Canvas_init_12 : decode prog_3_method_1_code 12 = .ok (.newarray .double, 2) := by decide +kernel
theorem d_Canvas_init_14 : decode prog_3_method_1_code 14 = .ok (.putfield 15, 3) := by decide +kernel
theorem k_1_212 : Cond.fieldLink "PageScribe$Canvas" 15 "PageScribe$Canvas" "across" "[D" ∈ gw := gw_of (tb_1 (List.mem_of_getElem? (i := 212) (by decide +kernel))) (by decide +kernel)
theorem d_Canvas_init_17 : decode prog_3_method_1_code 17 = .ok (.aload_n 0, 1) := by decide +kernel
theorem d_Canvas_init_18 : decode prog_3_method_1_code 18 = .ok (.bipush 30, 2) := by decide +kernel
theorem d_Canvas_init_20 : decode prog_3_method_1_code 20 = .ok (.newarray .double, 2) := by decide +kernel
theorem d_Canvas_init_22 : decode prog_3_method_1_code 22 = .ok (.putfield 19, 3) := by decide +kernel
theorem k_1_213 : Cond.fieldLink "PageScribe$Canvas" 19 "PageScribe$Canvas" "along" "[D" ∈ gw := gw_of (tb_1 (List.mem_of_getElem? (i := 213) (by decide +kernel))) (by decide +kernel)
theorem d_Canvas_init_25 : decode prog_3_method_1_code 25 = .ok (.aload_n 0, 1) := by decide +kernel
theorem d_Canvas_init_26 : decode prog_3_method_1_code 26 = .ok (.bipush 30, 2) := by decide +kernel
theorem d_Canvas_init_28 : decode prog_3_method_1_code 28 = .ok (.newarray .int, 2) := by decide +kernel
theorem d_Canvas_init_30 : decode prog_3_method_1_code 30 = .ok (.putfield 22, 3) := by decide +kernel
theorem k_1_214 : Cond.fieldLink "PageScribe$Canvas" 22 "PageScribe$Canvas" "begins" "[I" ∈ gw := gw_of (tb_1 (List.mem_of_getElem? (i := 214) (by decide +kernel))) (by decide +kernel)
theorem d_Canvas_init_33 : decode prog_3_method_1_code 33 = .ok (.aload_n 0, 1) := by decide +kernel
theorem d_Canvas_init_34 : decode prog_3_method_1_code 34 = .ok (.iconst 0, 1) := by decide +kernel
theorem d_Canvas_init_35 : decode prog_3_method_1_code 35 = .ok (.putfield 26, 3) := by decide +kernel
theorem k_1_215 : Cond.fieldLink "PageScribe$Canvas" 26 "PageScribe$Canvas" "points" "I" ∈ gw := gw_of (tb_1 (List.mem_of_getElem? (i := 215) (by decide +kernel))) (by decide +kernel)
theorem d_Canvas_init_38 : decode prog_3_method_1_code 38 = .ok (.aload_n 0, 1) := by decide +kernel
theorem d_Canvas_init_39 : decode prog_3_method_1_code 39 = .ok (.aload_n 1, 1) := by decide +kernel
theorem d_Canvas_init_40 : decode prog_3_method_1_code 40 = .ok (.putfield 30, 3) := by decide +kernel
theorem k_1_207 : Cond.fieldLink "PageScribe$Canvas" 30 "PageScribe$Canvas" "stack" "LPageScribe$Stack;" ∈ gw := gw_of (tb_1 (List.mem_of_getElem? (i := 207) (by decide +kernel))) (by decide +kernel)
theorem d_Canvas_init_43 : decode prog_3_method_1_code 43 = .ok (.aload_n 0, 1) := by decide +kernel
theorem d_Canvas_init_61 : decode prog_3_method_1_code 61 = .ok (.putfield 34, 3) := by decide +kernel
theorem k_1_208 : Cond.fieldLink "PageScribe$Canvas" 34 "PageScribe$Canvas" "columns" "I" ∈ gw := gw_of (tb_1 (List.mem_of_getElem? (i := 208) (by decide +kernel))) (by decide +kernel)
theorem d_Canvas_init_64 : decode prog_3_method_1_code 64 = .ok (.aload_n 0, 1) := by decide +kernel
theorem d_Canvas_init_82 : decode prog_3_method_1_code 82 = .ok (.putfield 37, 3) := by decide +kernel
theorem k_1_209 : Cond.fieldLink "PageScribe$Canvas" 37 "PageScribe$Canvas" "rows" "I" ∈ gw := gw_of (tb_1 (List.mem_of_getElem? (i := 209) (by decide +kernel))) (by decide +kernel)
theorem d_Canvas_init_85 : decode prog_3_method_1_code 85 = .ok (.aload_n 0, 1) := by decide +kernel
theorem d_Canvas_init_86 : decode prog_3_method_1_code 86 = .ok (.aload_n 0, 1) := by decide +kernel
theorem d_Canvas_init_87 : decode prog_3_method_1_code 87 = .ok (.getfield 34, 3) := by decide +kernel
theorem d_Canvas_init_90 : decode prog_3_method_1_code 90 = .ok (.aload_n 0, 1) := by decide +kernel
theorem d_Canvas_init_91 : decode prog_3_method_1_code 91 = .ok (.getfield 37, 3) := by decide +kernel
theorem d_Canvas_init_94 : decode prog_3_method_1_code 94 = .ok (.imul, 1) := by decide +kernel
theorem d_Canvas_init_95 : decode prog_3_method_1_code 95 = .ok (.newarray .int, 2) := by decide +kernel
theorem d_Canvas_init_97 : decode prog_3_method_1_code 97 = .ok (.putfield 40, 3) := by decide +kernel
theorem k_1_210 : Cond.fieldLink "PageScribe$Canvas" 40 "PageScribe$Canvas" "levels" "[I" ∈ gw := gw_of (tb_1 (List.mem_of_getElem? (i := 210) (by decide +kernel))) (by decide +kernel)
theorem d_Canvas_init_100 : decode prog_3_method_1_code 100 = .ok (.return_, 1) := by decide +kernel
theorem d_Canvas_init_65 : decode prog_3_method_1_code 65 = .ok (.iload_n 3, 1) := by decide +kernel
theorem d_Canvas_init_66 : decode prog_3_method_1_code 66 = .ok (.iconst 1, 1) := by decide +kernel
theorem d_Canvas_init_67 : decode prog_3_method_1_code 67 = .ok (.if_icmp .lt 13, 3) := by decide +kernel
theorem d_Canvas_init_80 : decode prog_3_method_1_code 80 = .ok (.bipush 12, 2) := by decide +kernel
theorem d_Canvas_init_70 : decode prog_3_method_1_code 70 = .ok (.iload_n 3, 1) := by decide +kernel
theorem d_Canvas_init_71 : decode prog_3_method_1_code 71 = .ok (.bipush 16, 2) := by decide +kernel
theorem d_Canvas_init_73 : decode prog_3_method_1_code 73 = .ok (.if_icmp .gt 7, 3) := by decide +kernel
theorem d_Canvas_init_76 : decode prog_3_method_1_code 76 = .ok (.iload_n 3, 1) := by decide +kernel
theorem d_Canvas_init_77 : decode prog_3_method_1_code 77 = .ok (.goto 5, 3) := by decide +kernel
theorem d_Canvas_init_44 : decode prog_3_method_1_code 44 = .ok (.iload_n 2, 1) := by decide +kernel
theorem d_Canvas_init_45 : decode prog_3_method_1_code 45 = .ok (.iconst 1, 1) := by decide +kernel
theorem d_Canvas_init_46 : decode prog_3_method_1_code 46 = .ok (.if_icmp .lt 13, 3) := by decide +kernel
theorem d_Canvas_init_59 : decode prog_3_method_1_code 59 = .ok (.bipush 16, 2) := by decide +kernel
theorem d_Canvas_init_49 : decode prog_3_method_1_code 49 = .ok (.iload_n 2, 1) := by decide +kernel
theorem d_Canvas_init_50 : decode prog_3_method_1_code 50 = .ok (.bipush 24, 2) := by decide +kernel
theorem d_Canvas_init_52 : decode prog_3_method_1_code 52 = .ok (.if_icmp .gt 7, 3) := by decide +kernel
theorem d_Canvas_init_55 : decode prog_3_method_1_code 55 = .ok (.iload_n 2, 1) := by decide +kernel
theorem d_Canvas_init_56 : decode prog_3_method_1_code 56 = .ok (.goto 5, 3) := by decide +kernel
set_option maxHeartbeats 4000000 in
set_option maxRecDepth 100000 in
theorem c_Canvas_init (l : Launch) (D : va_G) (T : Nat → ClassId) (h0 : Nat) (h1 : Nat) (p0 : Int32) (p1 : Int32) (sz : Nat) : Met l ⟨"PageScribe$Canvas", "<init>", "(LPageScribe$Stack;II)V"⟩ (wy ⟨"PageScribe$Canvas", "<init>", "(LPageScribe$Stack;II)V"⟩ prog_3_method_1_code 4 none) ({ frames := 1, cells := 4, slots := 474, locals := 70 }) (va_Pc [.ref h0, .ref h1, .int p0, .int p1] (Pw D T [(h0, .inr (6, [.null, .int 0, .int 0, .null, .float 0, .null, .null, .null, .int 0]))] sz E0)) (va_Qv (fun (u : Nat × Nat × Nat × Nat × Nat × Nat) => nI u.1 = colOf p0 ∧ nI u.2.1 = rowOf p1 ∧ u.1 ≤ 24 ∧ u.2.1 ≤ 16) (fun u t => Bw D T (va_A [(h0, .inr (6, [.null, .int 0, .int 0, .null, .float 0, .null, .null, .null, .int 0]))] sz) [(h0, .inr (6, [.ref h1, .int (nI u.1), .int (nI u.2.1), .ref u.2.2.1, .float 0x3f800000, .ref u.2.2.2.1, .ref u.2.2.2.2.1, .ref u.2.2.2.2.2, .int 0])), (u.2.2.1, .inl (T 0, (u.1 * u.2.1), .inl zI))] t) (va_A [(h0, .inr (6, [.null, .int 0, .int 0, .null, .float 0, .null, .null, .null, .int 0]))] sz)) 4 474 (va_A [(h0, .inr (6, [.null, .int 0, .int 0, .null, .float 0, .null, .null, .null, .int 0]))] sz) := by
  refine j_met (Qc := fun A => va_Qv (fun (u : Nat × Nat × Nat × Nat × Nat × Nat) => nI u.1 = colOf p0 ∧ nI u.2.1 = rowOf p1 ∧ u.1 ≤ 24 ∧ u.2.1 ≤ 16) (fun u t => Bw D T A [(h0, .inr (6, [.ref h1, .int (nI u.1), .int (nI u.2.1), .ref u.2.2.1, .float 0x3f800000, .ref u.2.2.2.1, .ref u.2.2.2.2.1, .ref u.2.2.2.2.2, .int 0])), (u.2.2.1, .inl (T 0, (u.1 * u.2.1), .inl zI))] t) A) (by decide +kernel) (Nat.le_of_ble_eq_true rfl) (fun p e s m args below meth c A ls F hr hlocks hnm hK hP hD hS hA hN hE hl => ?_)
  obtain ⟨hx, hb, hml, hown, hts⟩ := id F
  have hin := hnm
  have hl : lv_has ls 4 [(0, .ref h0), (1, .ref h1), (2, .int p0), (3, .int p1)] := hl
  refine lv_aload_n hx hb d_Canvas_init_0 rfl (lv_at hl 0 rfl) ?_
  refine j_obj F hl.1 k_1_206 k_1_35 k_1_36 d_Canvas_init_1 (Nat.le_of_ble_eq_true rfl) (Nat.le_of_ble_eq_true rfl) ?_
  refine lv_aload_n hx hb d_Canvas_init_4 rfl (lv_at hl 0 rfl) ?_
  refine lv_fconst1 hx hb d_Canvas_init_5 ?_
  refine va_put (D := D) (ci := 6) (v := .float 0x3f800000) (ty := .float) (C := "PageScribe$Canvas") (T := F_Canvas) (N := 9) hx hb hts i_Canvas t_Canvas t_Canvas_ok n_Canvas hown hK hP hD hS 0 rfl rfl 4 (by decide) (hts _ k_1_211) (fun _ h9 => h9) rfl (by decide +kernel) rfl rfl (Nat.le_of_ble_eq_true rfl) d_Canvas_init_6 (fun H locs hP hD hS => ?_)
  have hP : va_P D classes [(h0, .inr (6, [.null, .int 0, .int 0, .null, .float 0x3f800000, .null, .null, .null, .int 0]))] H := hP
  have hD : va_D A [(h0, .inr (6, [.null, .int 0, .int 0, .null, .float 0x3f800000, .null, .null, .null, .int 0]))] := hD
  refine lv_aload_n hx hb d_Canvas_init_9 rfl (lv_at hl 0 rfl) ?_
  refine lv_bipush (v := 30) hx hb d_Canvas_init_10 (by decide) ?_
  refine j_newa (atype := .double) (ty := .double) F k_1_68 rfl hK hP hD hS hA 3 (T 3) rfl (30, .inr (.inr (.inr (.inl zD)))) (fun _ => rfl) (by decide +kernel) (by decide +kernel) (by decide +kernel) (Nat.le_of_ble_eq_true rfl) (Nat.le_of_ble_eq_true rfl) d_Canvas_init_12 (fun q1 H hP hD hS => ?_)
  have hP : va_P D classes [(h0, .inr (6, [.null, .int 0, .int 0, .null, .float 0x3f800000, .null, .null, .null, .int 0])), (q1, .inl (T 3, 30, .inr (.inr (.inr (.inl zD)))))] H := hP
  have hD : va_D A [(h0, .inr (6, [.null, .int 0, .int 0, .null, .float 0x3f800000, .null, .null, .null, .int 0])), (q1, .inl (T 3, 30, .inr (.inr (.inr (.inl zD)))))] := hD
  refine va_putF (D := D) (ci := 6) (v := .ref q1) (ty := .array .double) (C := "PageScribe$Canvas") (T := F_Canvas) (N := 9) hx hb hts i_Canvas t_Canvas t_Canvas_ok n_Canvas hown hK hP hD hS 0 rfl rfl 5 (by decide) (hts _ k_1_212) (fun _ h9 => h9) rfl hin rfl (by decide +kernel) rfl rfl (Nat.le_of_ble_eq_true rfl) d_Canvas_init_14 (fun H locs hP hD hS => ?_)
  have hP : va_P D classes [(h0, .inr (6, [.null, .int 0, .int 0, .null, .float 0x3f800000, .ref q1, .null, .null, .int 0])), (q1, .inl (T 3, 30, .inr (.inr (.inr (.inl zD)))))] H := hP
  have hD : va_D A [(h0, .inr (6, [.null, .int 0, .int 0, .null, .float 0x3f800000, .ref q1, .null, .null, .int 0])), (q1, .inl (T 3, 30, .inr (.inr (.inr (.inl zD)))))] := hD
  refine lv_aload_n hx hb d_Canvas_init_17 rfl (lv_at hl 0 rfl) ?_
  refine lv_bipush (v := 30) hx hb d_Canvas_init_18 (by decide) ?_
  refine j_newa (atype := .double) (ty := .double) F k_1_68 rfl hK hP hD hS hA 3 (T 3) rfl (30, .inr (.inr (.inr (.inl zD)))) (fun _ => rfl) (by decide +kernel) (by decide +kernel) (by decide +kernel) (Nat.le_of_ble_eq_true rfl) (Nat.le_of_ble_eq_true rfl) d_Canvas_init_20 (fun q2 H hP hD hS => ?_)
  have hP : va_P D classes [(h0, .inr (6, [.null, .int 0, .int 0, .null, .float 0x3f800000, .ref q1, .null, .null, .int 0])), (q1, .inl (T 3, 30, .inr (.inr (.inr (.inl zD))))), (q2, .inl (T 3, 30, .inr (.inr (.inr (.inl zD)))))] H := hP
  have hD : va_D A [(h0, .inr (6, [.null, .int 0, .int 0, .null, .float 0x3f800000, .ref q1, .null, .null, .int 0])), (q1, .inl (T 3, 30, .inr (.inr (.inr (.inl zD))))), (q2, .inl (T 3, 30, .inr (.inr (.inr (.inl zD)))))] := hD
  refine va_putF (D := D) (ci := 6) (v := .ref q2) (ty := .array .double) (C := "PageScribe$Canvas") (T := F_Canvas) (N := 9) hx hb hts i_Canvas t_Canvas t_Canvas_ok n_Canvas hown hK hP hD hS 0 rfl rfl 6 (by decide) (hts _ k_1_213) (fun _ h9 => h9) rfl hin rfl (by decide +kernel) rfl rfl (Nat.le_of_ble_eq_true rfl) d_Canvas_init_22 (fun H locs hP hD hS => ?_)
  have hP : va_P D classes [(h0, .inr (6, [.null, .int 0, .int 0, .null, .float 0x3f800000, .ref q1, .ref q2, .null, .int 0])), (q1, .inl (T 3, 30, .inr (.inr (.inr (.inl zD))))), (q2, .inl (T 3, 30, .inr (.inr (.inr (.inl zD)))))] H := hP
  have hD : va_D A [(h0, .inr (6, [.null, .int 0, .int 0, .null, .float 0x3f800000, .ref q1, .ref q2, .null, .int 0])), (q1, .inl (T 3, 30, .inr (.inr (.inr (.inl zD))))), (q2, .inl (T 3, 30, .inr (.inr (.inr (.inl zD)))))] := hD
  refine lv_aload_n hx hb d_Canvas_init_25 rfl (lv_at hl 0 rfl) ?_
  refine lv_bipush (v := 30) hx hb d_Canvas_init_26 (by decide) ?_
  refine j_newa (atype := .int) (ty := .int) F k_1_67 rfl hK hP hD hS hA 0 (T 0) rfl (30, .inl zI) (fun _ => rfl) (by decide +kernel) (by decide +kernel) (by decide +kernel) (Nat.le_of_ble_eq_true rfl) (Nat.le_of_ble_eq_true rfl) d_Canvas_init_28 (fun q3 H hP hD hS => ?_)
  have hP : va_P D classes [(h0, .inr (6, [.null, .int 0, .int 0, .null, .float 0x3f800000, .ref q1, .ref q2, .null, .int 0])), (q1, .inl (T 3, 30, .inr (.inr (.inr (.inl zD))))), (q2, .inl (T 3, 30, .inr (.inr (.inr (.inl zD))))), (q3, .inl (T 0, 30, .inl zI))] H := hP
  have hD : va_D A [(h0, .inr (6, [.null, .int 0, .int 0, .null, .float 0x3f800000, .ref q1, .ref q2, .null, .int 0])), (q1, .inl (T 3, 30, .inr (.inr (.inr (.inl zD))))), (q2, .inl (T 3, 30, .inr (.inr (.inr (.inl zD))))), (q3, .inl (T 0, 30, .inl zI))] := hD
  refine va_putF (D := D) (ci := 6) (v := .ref q3) (ty := .array .int) (C := "PageScribe$Canvas") (T := F_Canvas) (N := 9) hx hb hts i_Canvas t_Canvas t_Canvas_ok n_Canvas hown hK hP hD hS 0 rfl rfl 7 (by decide) (hts _ k_1_214) (fun _ h9 => h9) rfl hin rfl (by decide +kernel) rfl rfl (Nat.le_of_ble_eq_true rfl) d_Canvas_init_30 (fun H locs hP hD hS => ?_)
  have hP : va_P D classes [(h0, .inr (6, [.null, .int 0, .int 0, .null, .float 0x3f800000, .ref q1, .ref q2, .ref q3, .int 0])), (q1, .inl (T 3, 30, .inr (.inr (.inr (.inl zD))))), (q2, .inl (T 3, 30, .inr (.inr (.inr (.inl zD))))), (q3, .inl (T 0, 30, .inl zI))] H := hP
  have hD : va_D A [(h0, .inr (6, [.null, .int 0, .int 0, .null, .float 0x3f800000, .ref q1, .ref q2, .ref q3, .int 0])), (q1, .inl (T 3, 30, .inr (.inr (.inr (.inl zD))))), (q2, .inl (T 3, 30, .inr (.inr (.inr (.inl zD))))), (q3, .inl (T 0, 30, .inl zI))] := hD
  refine lv_aload_n hx hb d_Canvas_init_33 rfl (lv_at hl 0 rfl) ?_
  refine lv_iconst (v := 0) hx hb d_Canvas_init_34 (by decide) ?_
  refine va_put (D := D) (ci := 6) (v := .int 0) (ty := .int) (C := "PageScribe$Canvas") (T := F_Canvas) (N := 9) hx hb hts i_Canvas t_Canvas t_Canvas_ok n_Canvas hown hK hP hD hS 0 rfl rfl 8 (by decide) (hts _ k_1_215) (fun _ h9 => h9) rfl (by decide +kernel) rfl rfl (Nat.le_of_ble_eq_true rfl) d_Canvas_init_35 (fun H locs hP hD hS => ?_)
  have hP : va_P D classes [(h0, .inr (6, [.null, .int 0, .int 0, .null, .float 0x3f800000, .ref q1, .ref q2, .ref q3, .int 0])), (q1, .inl (T 3, 30, .inr (.inr (.inr (.inl zD))))), (q2, .inl (T 3, 30, .inr (.inr (.inr (.inl zD))))), (q3, .inl (T 0, 30, .inl zI))] H := hP
  have hD : va_D A [(h0, .inr (6, [.null, .int 0, .int 0, .null, .float 0x3f800000, .ref q1, .ref q2, .ref q3, .int 0])), (q1, .inl (T 3, 30, .inr (.inr (.inr (.inl zD))))), (q2, .inl (T 3, 30, .inr (.inr (.inr (.inl zD))))), (q3, .inl (T 0, 30, .inl zI))] := hD
  refine lv_aload_n hx hb d_Canvas_init_38 rfl (lv_at hl 0 rfl) ?_
  refine lv_aload_n hx hb d_Canvas_init_39 rfl (lv_at hl 1 rfl) ?_
  refine va_putF (D := D) (ci := 6) (v := .ref h1) (ty := .object "PageScribe$Stack") (C := "PageScribe$Canvas") (T := F_Canvas) (N := 9) hx hb hts i_Canvas t_Canvas t_Canvas_ok n_Canvas hown hK hP hD hS 0 rfl rfl 0 (by decide) (hts _ k_1_207) (fun _ h9 => h9) rfl hin rfl (by decide +kernel) rfl rfl (Nat.le_of_ble_eq_true rfl) d_Canvas_init_40 (fun H locs hP hD hS => ?_)
  have hP : va_P D classes [(h0, .inr (6, [.ref h1, .int 0, .int 0, .null, .float 0x3f800000, .ref q1, .ref q2, .ref q3, .int 0])), (q1, .inl (T 3, 30, .inr (.inr (.inr (.inl zD))))), (q2, .inl (T 3, 30, .inr (.inr (.inr (.inl zD))))), (q3, .inl (T 0, 30, .inl zI))] H := hP
  have hD : va_D A [(h0, .inr (6, [.ref h1, .int 0, .int 0, .null, .float 0x3f800000, .ref q1, .ref q2, .ref q3, .int 0])), (q1, .inl (T 3, 30, .inr (.inr (.inr (.inl zD))))), (q2, .inl (T 3, 30, .inr (.inr (.inr (.inl zD))))), (q3, .inl (T 0, 30, .inl zI))] := hD
  refine lv_aload_n hx hb d_Canvas_init_43 rfl (lv_at hl 0 rfl) ?_
  refine j_join (α := Int32) (fun v => v = colOf p0) (fun v => F0 m 61 ls (.int v :: [.ref h0])) (fun v hv => ?_) (fun key => ?_)
  · obtain ⟨C, hC, hC1, hC2⟩ := colOf_in p0
    rw [hC] at hv
    subst hv
    refine va_putF (D := D) (ci := 6) (v := .int (nI C)) (ty := .int) (C := "PageScribe$Canvas") (T := F_Canvas) (N := 9) hx hb hts i_Canvas t_Canvas t_Canvas_ok n_Canvas hown hK hP hD hS 0 rfl rfl 1 (by decide) (hts _ k_1_208) (fun _ h9 => h9) rfl hin rfl (by decide +kernel) rfl rfl (Nat.le_of_ble_eq_true rfl) d_Canvas_init_61 (fun H locs hP hD hS => ?_)
    have hP : va_P D classes [(h0, .inr (6, [.ref h1, .int (nI C), .int 0, .null, .float 0x3f800000, .ref q1, .ref q2, .ref q3, .int 0])), (q1, .inl (T 3, 30, .inr (.inr (.inr (.inl zD))))), (q2, .inl (T 3, 30, .inr (.inr (.inr (.inl zD))))), (q3, .inl (T 0, 30, .inl zI))] H := hP
    have hD : va_D A [(h0, .inr (6, [.ref h1, .int (nI C), .int 0, .null, .float 0x3f800000, .ref q1, .ref q2, .ref q3, .int 0])), (q1, .inl (T 3, 30, .inr (.inr (.inr (.inl zD))))), (q2, .inl (T 3, 30, .inr (.inr (.inr (.inl zD))))), (q3, .inl (T 0, 30, .inl zI))] := hD
    refine lv_aload_n hx hb d_Canvas_init_64 rfl (lv_at hl 0 rfl) ?_
    refine j_join (α := Int32) (fun v => v = rowOf p1) (fun v => F0 m 82 ls (.int v :: [.ref h0])) (fun v hv => ?_) (fun key => ?_)
    · obtain ⟨Rr, hRr, hRr1, hRr2⟩ := rowOf_in p1
      rw [hRr] at hv
      subst hv
      refine va_putF (D := D) (ci := 6) (v := .int (nI Rr)) (ty := .int) (C := "PageScribe$Canvas") (T := F_Canvas) (N := 9) hx hb hts i_Canvas t_Canvas t_Canvas_ok n_Canvas hown hK hP hD hS 0 rfl rfl 2 (by decide) (hts _ k_1_209) (fun _ h9 => h9) rfl hin rfl (by decide +kernel) rfl rfl (Nat.le_of_ble_eq_true rfl) d_Canvas_init_82 (fun H locs hP hD hS => ?_)
      have hP : va_P D classes [(h0, .inr (6, [.ref h1, .int (nI C), .int (nI Rr), .null, .float 0x3f800000, .ref q1, .ref q2, .ref q3, .int 0])), (q1, .inl (T 3, 30, .inr (.inr (.inr (.inl zD))))), (q2, .inl (T 3, 30, .inr (.inr (.inr (.inl zD))))), (q3, .inl (T 0, 30, .inl zI))] H := hP
      have hD : va_D A [(h0, .inr (6, [.ref h1, .int (nI C), .int (nI Rr), .null, .float 0x3f800000, .ref q1, .ref q2, .ref q3, .int 0])), (q1, .inl (T 3, 30, .inr (.inr (.inr (.inl zD))))), (q2, .inl (T 3, 30, .inr (.inr (.inr (.inl zD))))), (q3, .inl (T 0, 30, .inl zI))] := hD
      refine lv_aload_n hx hb d_Canvas_init_85 rfl (lv_at hl 0 rfl) ?_
      refine lv_aload_n hx hb d_Canvas_init_86 rfl (lv_at hl 0 rfl) ?_
      refine va_get (D := D) (ci := 6) (v := .int (nI C)) (C := "PageScribe$Canvas") (T := F_Canvas) (N := 9) hx hb hts i_Canvas hown hK hP 0 rfl rfl 1 (by decide) (hts _ k_1_208) (fun _ h9 => h9) rfl d_Canvas_init_87 ?_
      refine lv_aload_n hx hb d_Canvas_init_90 rfl (lv_at hl 0 rfl) ?_
      refine va_get (D := D) (ci := 6) (v := .int (nI Rr)) (C := "PageScribe$Canvas") (T := F_Canvas) (N := 9) hx hb hts i_Canvas hown hK hP 0 rfl rfl 2 (by decide) (hts _ k_1_209) (fun _ h9 => h9) rfl d_Canvas_init_91 ?_
      refine lv_imul hx hb d_Canvas_init_94 ?_
      refine j_eqi (y := (nI (C * Rr))) (pk_mul C Rr) ?_
      refine j_newa (atype := .int) (ty := .int) F k_1_67 rfl hK hP hD hS hA 0 (T 0) rfl ((C * Rr), .inl zI) (fun _ => rfl) (nI_pos (n := C * Rr) (by have := Nat.mul_le_mul hC2 hRr2; omega)) (nI_clamp (n := C * Rr) (by have := Nat.mul_le_mul hC2 hRr2; omega)) (by have := Nat.mul_le_mul hC2 hRr2; show C * Rr * 4 ≤ _; omega) (Nat.le_of_ble_eq_true rfl) (by have := Nat.mul_le_mul hC2 hRr2; show 0 + 30 + 30 + 30 + C * Rr ≤ 474; omega) d_Canvas_init_95 (fun q4 H hP hD hS => ?_)
      have hP : va_P D classes [(h0, .inr (6, [.ref h1, .int (nI C), .int (nI Rr), .null, .float 0x3f800000, .ref q1, .ref q2, .ref q3, .int 0])), (q1, .inl (T 3, 30, .inr (.inr (.inr (.inl zD))))), (q2, .inl (T 3, 30, .inr (.inr (.inr (.inl zD))))), (q3, .inl (T 0, 30, .inl zI)), (q4, .inl (T 0, (C * Rr), .inl zI))] H := hP
      have hD : va_D A [(h0, .inr (6, [.ref h1, .int (nI C), .int (nI Rr), .null, .float 0x3f800000, .ref q1, .ref q2, .ref q3, .int 0])), (q1, .inl (T 3, 30, .inr (.inr (.inr (.inl zD))))), (q2, .inl (T 3, 30, .inr (.inr (.inr (.inl zD))))), (q3, .inl (T 0, 30, .inl zI)), (q4, .inl (T 0, (C * Rr), .inl zI))] := hD
      refine va_putF (D := D) (ci := 6) (v := .ref q4) (ty := .array .int) (C := "PageScribe$Canvas") (T := F_Canvas) (N := 9) hx hb hts i_Canvas t_Canvas t_Canvas_ok n_Canvas hown hK hP hD hS 0 rfl rfl 3 (by decide) (hts _ k_1_210) (fun _ h9 => h9) rfl hin rfl (by decide +kernel) rfl rfl (Nat.le_of_ble_eq_true rfl) d_Canvas_init_97 (fun H locs hP hD hS => ?_)
      have hP : va_P D classes [(h0, .inr (6, [.ref h1, .int (nI C), .int (nI Rr), .ref q4, .float 0x3f800000, .ref q1, .ref q2, .ref q3, .int 0])), (q1, .inl (T 3, 30, .inr (.inr (.inr (.inl zD))))), (q2, .inl (T 3, 30, .inr (.inr (.inr (.inl zD))))), (q3, .inl (T 0, 30, .inl zI)), (q4, .inl (T 0, (C * Rr), .inl zI))] H := hP
      have hD : va_D A [(h0, .inr (6, [.ref h1, .int (nI C), .int (nI Rr), .ref q4, .float 0x3f800000, .ref q1, .ref q2, .ref q3, .int 0])), (q1, .inl (T 3, 30, .inr (.inr (.inr (.inl zD))))), (q2, .inl (T 3, 30, .inr (.inr (.inr (.inl zD))))), (q3, .inl (T 0, 30, .inl zI)), (q4, .inl (T 0, (C * Rr), .inl zI))] := hD
      have hP9 := hP.sub (ws' := [(h0, .inr (6, [.ref h1, .int (nI C), .int (nI Rr), .ref q4, .float 0x3f800000, .ref q1, .ref q2, .ref q3, .int 0])), (q4, .inl (T 0, (C * Rr), .inl zI))]) [0, 4] rfl
      have hD9 := hD.sub (ws' := [(h0, .inr (6, [.ref h1, .int (nI C), .int (nI Rr), .ref q4, .float 0x3f800000, .ref q1, .ref q2, .ref q3, .int 0])), (q4, .inl (T 0, (C * Rr), .inl zI))]) [0, 4] (by decide) rfl
      have hCR : C * Rr ≤ 24 * 16 := Nat.mul_le_mul hC2 hRr2
      refine W.widen (k := 4) (n := 474) (by omega) (by omega) ?_
      exact j_vret F hr hlocks hK hS (C, Rr, q4, q1, q2, q3) ⟨hC.symm, hRr.symm, hC2, hRr2⟩ hP9 hD9 d_Canvas_init_100
    · refine lv_iload_n hx hb d_Canvas_init_65 rfl (lv_at hl 3 rfl) ?_
      refine lv_iconst (v := 1) hx hb d_Canvas_init_66 (by decide) ?_
      refine lv_icmp_lt (tgt := 80) hx hb d_Canvas_init_67 (by decide) (fun c_67 => ?_) (fun c_67 => ?_)
      · refine lv_bipush (v := 12) hx hb d_Canvas_init_80 (by decide) ?_
        exact key _ (by first | exact (if_pos (Or.inl c_67)).symm | exact (if_pos (Or.inr c_73)).symm | exact (if_neg (fun q => q.elim (fun z => c_67 z) (fun z => c_73 z))).symm)
      · refine lv_iload_n hx hb d_Canvas_init_70 rfl (lv_at hl 3 rfl) ?_
        refine lv_bipush (v := 16) hx hb d_Canvas_init_71 (by decide) ?_
        refine lv_icmp_gt (tgt := 80) hx hb d_Canvas_init_73 (by decide) (fun c_73 => ?_) (fun c_73 => ?_)
        · refine lv_bipush (v := 12) hx hb d_Canvas_init_80 (by decide) ?_
          exact key _ (by first | exact (if_pos (Or.inl c_67)).symm | exact (if_pos (Or.inr c_73)).symm | exact (if_neg (fun q => q.elim (fun z => c_67 z) (fun z => c_73 z))).symm)
        · refine lv_iload_n hx hb d_Canvas_init_76 rfl (lv_at hl 3 rfl) ?_
          refine lv_goto (tgt := 82) hx hb d_Canvas_init_77 (by decide) ?_
          exact key _ (by first | exact (if_pos (Or.inl c_67)).symm | exact (if_pos (Or.inr c_73)).symm | exact (if_neg (fun q => q.elim (fun z => c_67 z) (fun z => c_73 z))).symm)
  · refine lv_iload_n hx hb d_Canvas_init_44 rfl (lv_at hl 2 rfl) ?_
    refine lv_iconst (v := 1) hx hb d_Canvas_init_45 (by decide) ?_
    refine lv_icmp_lt (tgt := 59) hx hb d_Canvas_init_46 (by decide) (fun c_46 => ?_) (fun c_46 => ?_)
    · refine lv_bipush (v := 16) hx hb d_Canvas_init_59 (by decide) ?_
      exact key _ (by first | exact (if_pos (Or.inl c_46)).symm | exact (if_pos (Or.inr c_52)).symm | exact (if_neg (fun q => q.elim (fun z => c_46 z) (fun z => c_52 z))).symm)
    · refine lv_iload_n hx hb d_Canvas_init_49 rfl (lv_at hl 2 rfl) ?_
      refine lv_bipush (v := 24) hx hb d_Canvas_init_50 (by decide) ?_
      refine lv_icmp_gt (tgt := 59) hx hb d_Canvas_init_52 (by decide) (fun c_52 => ?_) (fun c_52 => ?_)
      · refine lv_bipush (v := 16) hx hb d_Canvas_init_59 (by decide) ?_
        exact key _ (by first | exact (if_pos (Or.inl c_46)).symm | exact (if_pos (Or.inr c_52)).symm | exact (if_neg (fun q => q.elim (fun z => c_46 z) (fun z => c_52 z))).symm)
      · refine lv_iload_n hx hb d_Canvas_init_55 rfl (lv_at hl 2 rfl) ?_
        refine lv_goto (tgt := 61) hx hb d_Canvas_init_56 (by decide) ?_
        exact key _ (by first | exact (if_pos (Or.inl c_46)).symm | exact (if_pos (Or.inr c_52)).symm | exact (if_neg (fun q => q.elim (fun z => c_46 z) (fun z => c_52 z))).symm)
end
section
theorem zI_up (k : Nat) : upd zI k 0 = zI := by
  funext j
  by_cases h : j = k
  · subst h; simp [upd]
  · simp [upd, h]
theorem d_Ps_init_0 : decode prog_1_method_1_code 0 = .ok (.aload_n 0, 1) := by decide +kernel
theorem d_Ps_init_1 : decode prog_1_method_1_code 1 = .ok (.invokespecial 3, 3) := by decide +kernel
theorem k_1_34 : Cond.methodLink "PageScribe" 3 ⟨"java/lang/Object", "<init>", "()V"⟩ ∈ gw := gw_of (tb_1 (List.mem_of_getElem? (i := 34) (by decide +kernel))) (by decide +kernel)
theorem d_Ps_init_4 : decode prog_1_method_1_code 4 = .ok (.aload_n 0, 1) := by decide +kernel
theorem d_Ps_init_5 : decode prog_1_method_1_code 5 = .ok (.new 9, 3) := by decide +kernel
theorem k_1_37 : Cond.classLink "PageScribe" 9 "PageScribe$Stack" ∈ gw := gw_of (tb_1 (List.mem_of_getElem? (i := 37) (by decide +kernel))) (by decide +kernel)
theorem k_1_38 : Cond.instantiable "PageScribe$Stack" 4 ∈ gw := gw_of (tb_1 (List.mem_of_getElem? (i := 38) (by decide +kernel))) (by decide +kernel)
theorem k_1_3 : Cond.initialized "PageScribe$Stack" ∈ gw := gw_of (tb_1 (List.mem_of_getElem? (i := 3) (by decide +kernel))) (by decide +kernel)
theorem d_Ps_init_8 : decode prog_1_method_1_code 8 = .ok (.dup, 1) := by decide +kernel
theorem d_Ps_init_9 : decode prog_1_method_1_code 9 = .ok (.invokespecial 11, 3) := by decide +kernel
theorem k_1_41 : Cond.code ⟨"PageScribe$Stack", "<init>", "()V"⟩ prog_9_method_1_code 1 none ∈ gw := gw_of (tb_1 (List.mem_of_getElem? (i := 41) (by decide +kernel))) (by decide +kernel)
theorem k_1_39 : Cond.methodLink "PageScribe" 11 ⟨"PageScribe$Stack", "<init>", "()V"⟩ ∈ gw := gw_of (tb_1 (List.mem_of_getElem? (i := 39) (by decide +kernel))) (by decide +kernel)
theorem k_1_40 : Cond.instanceMethod ⟨"PageScribe$Stack", "<init>", "()V"⟩ ∈ gw := gw_of (tb_1 (List.mem_of_getElem? (i := 40) (by decide +kernel))) (by decide +kernel)
theorem d_Ps_init_12 : decode prog_1_method_1_code 12 = .ok (.putfield 12, 3) := by decide +kernel
theorem k_2_58 : Cond.fieldLink "PageScribe" 12 "PageScribe" "stack" "LPageScribe$Stack;" ∈ gw := gw_of (tb_2 (List.mem_of_getElem? (i := 58) (by decide +kernel))) (by decide +kernel)
theorem d_Ps_init_15 : decode prog_1_method_1_code 15 = .ok (.aload_n 0, 1) := by decide +kernel
theorem d_Ps_init_16 : decode prog_1_method_1_code 16 = .ok (.new 16, 3) := by decide +kernel
theorem k_1_69 : Cond.classLink "PageScribe" 16 "PageScribe$Words" ∈ gw := gw_of (tb_1 (List.mem_of_getElem? (i := 69) (by decide +kernel))) (by decide +kernel)
theorem k_1_70 : Cond.instantiable "PageScribe$Words" 3 ∈ gw := gw_of (tb_1 (List.mem_of_getElem? (i := 70) (by decide +kernel))) (by decide +kernel)
theorem k_1_4 : Cond.initialized "PageScribe$Words" ∈ gw := gw_of (tb_1 (List.mem_of_getElem? (i := 4) (by decide +kernel))) (by decide +kernel)
theorem d_Ps_init_19 : decode prog_1_method_1_code 19 = .ok (.dup, 1) := by decide +kernel
theorem d_Ps_init_20 : decode prog_1_method_1_code 20 = .ok (.invokespecial 18, 3) := by decide +kernel
theorem k_1_73 : Cond.code ⟨"PageScribe$Words", "<init>", "()V"⟩ prog_13_method_1_code 1 none ∈ gw := gw_of (tb_1 (List.mem_of_getElem? (i := 73) (by decide +kernel))) (by decide +kernel)
theorem k_1_72 : Cond.instanceMethod ⟨"PageScribe$Words", "<init>", "()V"⟩ ∈ gw := gw_of (tb_1 (List.mem_of_getElem? (i := 72) (by decide +kernel))) (by decide +kernel)
theorem d_Ps_init_23 : decode prog_1_method_1_code 23 = .ok (.putfield 19, 3) := by decide +kernel
theorem k_2_59 : Cond.fieldLink "PageScribe" 19 "PageScribe" "words" "LPageScribe$Words;" ∈ gw := gw_of (tb_2 (List.mem_of_getElem? (i := 59) (by decide +kernel))) (by decide +kernel)
theorem d_Ps_init_26 : decode prog_1_method_1_code 26 = .ok (.aload_n 0, 1) := by decide +kernel
theorem d_Ps_init_27 : decode prog_1_method_1_code 27 = .ok (.new 23, 3) := by decide +kernel
theorem k_1_87 : Cond.classLink "PageScribe" 23 "PageScribe$Memory" ∈ gw := gw_of (tb_1 (List.mem_of_getElem? (i := 87) (by decide +kernel))) (by decide +kernel)
theorem k_1_88 : Cond.instantiable "PageScribe$Memory" 8 ∈ gw := gw_of (tb_1 (List.mem_of_getElem? (i := 88) (by decide +kernel))) (by decide +kernel)
theorem k_1_5 : Cond.initialized "PageScribe$Memory" ∈ gw := gw_of (tb_1 (List.mem_of_getElem? (i := 5) (by decide +kernel))) (by decide +kernel)
theorem d_Ps_init_30 : decode prog_1_method_1_code 30 = .ok (.dup, 1) := by decide +kernel
theorem d_Ps_init_31 : decode prog_1_method_1_code 31 = .ok (.aload_n 0, 1) := by decide +kernel
theorem d_Ps_init_32 : decode prog_1_method_1_code 32 = .ok (.getfield 12, 3) := by decide +kernel
theorem d_Ps_init_35 : decode prog_1_method_1_code 35 = .ok (.invokespecial 25, 3) := by decide +kernel
theorem k_1_91 : Cond.code ⟨"PageScribe$Memory", "<init>", "(LPageScribe$Stack;)V"⟩ prog_5_method_1_code 3 none ∈ gw := gw_of (tb_1 (List.mem_of_getElem? (i := 91) (by decide +kernel))) (by decide +kernel)
theorem k_1_89 : Cond.methodLink "PageScribe" 25 ⟨"PageScribe$Memory", "<init>", "(LPageScribe$Stack;)V"⟩ ∈ gw := gw_of (tb_1 (List.mem_of_getElem? (i := 89) (by decide +kernel))) (by decide +kernel)
theorem k_1_90 : Cond.instanceMethod ⟨"PageScribe$Memory", "<init>", "(LPageScribe$Stack;)V"⟩ ∈ gw := gw_of (tb_1 (List.mem_of_getElem? (i := 90) (by decide +kernel))) (by decide +kernel)
theorem d_Ps_init_38 : decode prog_1_method_1_code 38 = .ok (.putfield 28, 3) := by decide +kernel
theorem k_2_60 : Cond.fieldLink "PageScribe" 28 "PageScribe" "memory" "LPageScribe$Memory;" ∈ gw := gw_of (tb_2 (List.mem_of_getElem? (i := 60) (by decide +kernel))) (by decide +kernel)
theorem d_Ps_init_41 : decode prog_1_method_1_code 41 = .ok (.aload_n 0, 1) := by decide +kernel
theorem d_Ps_init_42 : decode prog_1_method_1_code 42 = .ok (.new 32, 3) := by decide +kernel
theorem k_1_158 : Cond.classLink "PageScribe" 32 "PageScribe$Reader" ∈ gw := gw_of (tb_1 (List.mem_of_getElem? (i := 158) (by decide +kernel))) (by decide +kernel)
theorem k_1_159 : Cond.instantiable "PageScribe$Reader" 10 ∈ gw := gw_of (tb_1 (List.mem_of_getElem? (i := 159) (by decide +kernel))) (by decide +kernel)
theorem k_1_7 : Cond.initialized "PageScribe$Reader" ∈ gw := gw_of (tb_1 (List.mem_of_getElem? (i := 7) (by decide +kernel))) (by decide +kernel)
theorem d_Ps_init_45 : decode prog_1_method_1_code 45 = .ok (.dup, 1) := by decide +kernel
theorem d_Ps_init_46 : decode prog_1_method_1_code 46 = .ok (.aload_n 0, 1) := by decide +kernel
theorem d_Ps_init_47 : decode prog_1_method_1_code 47 = .ok (.getfield 19, 3) := by decide +kernel
theorem d_Ps_init_50 : decode prog_1_method_1_code 50 = .ok (.aload_n 0, 1) := by decide +kernel
theorem d_Ps_init_51 : decode prog_1_method_1_code 51 = .ok (.getfield 28, 3) := by decide +kernel
theorem d_Ps_init_54 : decode prog_1_method_1_code 54 = .ok (.getfield 34, 3) := by decide +kernel
theorem k_1_131 : Cond.fieldLink "PageScribe" 34 "PageScribe$Memory" "store" "LPageScribe$Store;" ∈ gw := gw_of (tb_1 (List.mem_of_getElem? (i := 131) (by decide +kernel))) (by decide +kernel)
theorem d_Ps_init_57 : decode prog_1_method_1_code 57 = .ok (.invokespecial 38, 3) := by decide +kernel
theorem k_1_162 : Cond.code ⟨"PageScribe$Reader", "<init>", "(LPageScribe$Words;LPageScribe$Store;)V"⟩ prog_7_method_1_code 3 none ∈ gw := gw_of (tb_1 (List.mem_of_getElem? (i := 162) (by decide +kernel))) (by decide +kernel)
theorem k_1_160 : Cond.methodLink "PageScribe" 38 ⟨"PageScribe$Reader", "<init>", "(LPageScribe$Words;LPageScribe$Store;)V"⟩ ∈ gw := gw_of (tb_1 (List.mem_of_getElem? (i := 160) (by decide +kernel))) (by decide +kernel)
theorem k_1_161 : Cond.instanceMethod ⟨"PageScribe$Reader", "<init>", "(LPageScribe$Words;LPageScribe$Store;)V"⟩ ∈ gw := gw_of (tb_1 (List.mem_of_getElem? (i := 161) (by decide +kernel))) (by decide +kernel)
theorem d_Ps_init_60 : decode prog_1_method_1_code 60 = .ok (.putfield 41, 3) := by decide +kernel
theorem k_2_61 : Cond.fieldLink "PageScribe" 41 "PageScribe" "reader" "LPageScribe$Reader;" ∈ gw := gw_of (tb_2 (List.mem_of_getElem? (i := 61) (by decide +kernel))) (by decide +kernel)
theorem d_Ps_init_63 : decode prog_1_method_1_code 63 = .ok (.aload_n 0, 1) := by decide +kernel
theorem d_Ps_init_64 : decode prog_1_method_1_code 64 = .ok (.new 45, 3) := by decide +kernel
theorem k_1_201 : Cond.classLink "PageScribe" 45 "PageScribe$Canvas" ∈ gw := gw_of (tb_1 (List.mem_of_getElem? (i := 201) (by decide +kernel))) (by decide +kernel)
theorem k_1_202 : Cond.instantiable "PageScribe$Canvas" 9 ∈ gw := gw_of (tb_1 (List.mem_of_getElem? (i := 202) (by decide +kernel))) (by decide +kernel)
theorem k_1_8 : Cond.initialized "PageScribe$Canvas" ∈ gw := gw_of (tb_1 (List.mem_of_getElem? (i := 8) (by decide +kernel))) (by decide +kernel)
theorem d_Ps_init_67 : decode prog_1_method_1_code 67 = .ok (.dup, 1) := by decide +kernel
theorem d_Ps_init_68 : decode prog_1_method_1_code 68 = .ok (.aload_n 0, 1) := by decide +kernel
theorem d_Ps_init_69 : decode prog_1_method_1_code 69 = .ok (.getfield 12, 3) := by decide +kernel
theorem d_Ps_init_72 : decode prog_1_method_1_code 72 = .ok (.iload_n 1, 1) := by decide +kernel
theorem d_Ps_init_73 : decode prog_1_method_1_code 73 = .ok (.iload_n 2, 1) := by decide +kernel
theorem d_Ps_init_74 : decode prog_1_method_1_code 74 = .ok (.invokespecial 47, 3) := by decide +kernel
theorem k_1_205 : Cond.code ⟨"PageScribe$Canvas", "<init>", "(LPageScribe$Stack;II)V"⟩ prog_3_method_1_code 4 none ∈ gw := gw_of (tb_1 (List.mem_of_getElem? (i := 205) (by decide +kernel))) (by decide +kernel)
theorem k_1_203 : Cond.methodLink "PageScribe" 47 ⟨"PageScribe$Canvas", "<init>", "(LPageScribe$Stack;II)V"⟩ ∈ gw := gw_of (tb_1 (List.mem_of_getElem? (i := 203) (by decide +kernel))) (by decide +kernel)
theorem k_1_204 : Cond.instanceMethod ⟨"PageScribe$Canvas", "<init>", "(LPageScribe$Stack;II)V"⟩ ∈ gw := gw_of (tb_1 (List.mem_of_getElem? (i := 204) (by decide +kernel))) (by decide +kernel)
theorem d_Ps_init_77 : decode prog_1_method_1_code 77 = .ok (.putfield 50, 3) := by decide +kernel
theorem k_2_62 : Cond.fieldLink "PageScribe" 50 "PageScribe" "canvas" "LPageScribe$Canvas;" ∈ gw := gw_of (tb_2 (List.mem_of_getElem? (i := 62) (by decide +kernel))) (by decide +kernel)
theorem d_Ps_init_80 : decode prog_1_method_1_code 80 = .ok (.aload_n 0, 1) := by decide +kernel
theorem d_Ps_init_81 : decode prog_1_method_1_code 81 = .ok (.new 54, 3) := by decide +kernel
theorem k_1_236 : Cond.classLink "PageScribe" 54 "PageScribe$Engine" ∈ gw := gw_of (tb_1 (List.mem_of_getElem? (i := 236) (by decide +kernel))) (by decide +kernel)
theorem k_1_237 : Cond.instantiable "PageScribe$Engine" 11 ∈ gw := gw_of (tb_1 (List.mem_of_getElem? (i := 237) (by decide +kernel))) (by decide +kernel)
theorem k_1_9 : Cond.initialized "PageScribe$Engine" ∈ gw := gw_of (tb_1 (List.mem_of_getElem? (i := 9) (by decide +kernel))) (by decide +kernel)
theorem d_Ps_init_84 : decode prog_1_method_1_code 84 = .ok (.dup, 1) := by decide +kernel
theorem d_Ps_init_85 : decode prog_1_method_1_code 85 = .ok (.aload_n 0, 1) := by decide +kernel
theorem d_Ps_init_86 : decode prog_1_method_1_code 86 = .ok (.getfield 12, 3) := by decide +kernel
theorem d_Ps_init_89 : decode prog_1_method_1_code 89 = .ok (.aload_n 0, 1) := by decide +kernel
theorem d_Ps_init_90 : decode prog_1_method_1_code 90 = .ok (.getfield 28, 3) := by decide +kernel
theorem d_Ps_init_93 : decode prog_1_method_1_code 93 = .ok (.aload_n 0, 1) := by decide +kernel
theorem d_Ps_init_94 : decode prog_1_method_1_code 94 = .ok (.getfield 50, 3) := by decide +kernel
theorem d_Ps_init_97 : decode prog_1_method_1_code 97 = .ok (.invokespecial 56, 3) := by decide +kernel
theorem k_2_0 : Cond.code ⟨"PageScribe$Engine", "<init>", "(LPageScribe$Stack;LPageScribe$Memory;LPageScribe$Canvas;)V"⟩ prog_4_method_1_code 4 none ∈ gw := gw_of (tb_2 (List.mem_of_getElem? (i := 0) (by decide +kernel))) (by decide +kernel)
theorem k_1_238 : Cond.methodLink "PageScribe" 56 ⟨"PageScribe$Engine", "<init>", "(LPageScribe$Stack;LPageScribe$Memory;LPageScribe$Canvas;)V"⟩ ∈ gw := gw_of (tb_1 (List.mem_of_getElem? (i := 238) (by decide +kernel))) (by decide +kernel)
theorem k_1_239 : Cond.instanceMethod ⟨"PageScribe$Engine", "<init>", "(LPageScribe$Stack;LPageScribe$Memory;LPageScribe$Canvas;)V"⟩ ∈ gw := gw_of (tb_1 (List.mem_of_getElem? (i := 239) (by decide +kernel))) (by decide +kernel)
theorem d_Ps_init_100 : decode prog_1_method_1_code 100 = .ok (.putfield 59, 3) := by decide +kernel
theorem k_2_63 : Cond.fieldLink "PageScribe" 59 "PageScribe" "engine" "LPageScribe$Engine;" ∈ gw := gw_of (tb_2 (List.mem_of_getElem? (i := 63) (by decide +kernel))) (by decide +kernel)
theorem d_Ps_init_103 : decode prog_1_method_1_code 103 = .ok (.return_, 1) := by decide +kernel
set_option maxHeartbeats 4000000 in
set_option maxRecDepth 100000 in
theorem c_Ps_init (l : Launch) (D : va_G) (T : Nat → ClassId) (h0 : Nat) (p0 : Int32) (p1 : Int32) (sz : Nat) : Met l ⟨"PageScribe", "<init>", "(II)V"⟩ (wy ⟨"PageScribe", "<init>", "(II)V"⟩ prog_1_method_1_code 3 none) ({ frames := 5, cells := 74, slots := 4809, locals := 350 }) (va_Pc [.ref h0, .int p0, .int p1] (Pw D T [(h0, .inr (10, [.null, .null, .null, .null, .null, .null]))] sz (fun U => va_AO "PageScribe$Store" U ∧ va_Nw (Cond.methodLinkNest "PageScribe" 18 ⟨"PageScribe$Words", "<init>", "()V"⟩ "PageScribe") U))) (va_Qv (fun (u : Nat × Nat × Nat × Nat × Nat × Nat × Nat × Nat × Nat × Nat × Nat × Nat × Nat × Nat × Nat × Nat × Nat × Nat × Nat × Nat × Nat × Nat × Nat × Nat × Nat × Nat × Nat × Nat × Nat × Nat × Nat × Nat × Nat × Nat) => nI u.2.2.2.2.2.2.2.2.2.2.2.2.2.2.2.2.2.2.2.2.2.2.2.2.2.1 = colOf p0 ∧ nI u.2.2.2.2.2.2.2.2.2.2.2.2.2.2.2.2.2.2.2.2.2.2.2.2.2.2.1 = rowOf p1 ∧ u.2.2.2.2.2.2.2.2.2.2.2.2.2.2.2.2.2.2.2.2.2.2.2.2.2.1 ≤ 24 ∧ u.2.2.2.2.2.2.2.2.2.2.2.2.2.2.2.2.2.2.2.2.2.2.2.2.2.2.1 ≤ 16) (fun u t => Bw D T (va_A [(h0, .inr (10, [.null, .null, .null, .null, .null, .null]))] sz) [(h0, .inr (10, [.ref u.1, .ref u.2.2.2.2.1, .ref u.2.2.2.2.2.2.2.1, .ref u.2.2.2.2.2.2.2.2.2.2.2.2.2.2.2.2.2.2.2.2.1, .ref u.2.2.2.2.2.2.2.2.2.2.2.2.2.2.2.2.2.2.2.2.2.2.2.2.1, .ref u.2.2.2.2.2.2.2.2.2.2.2.2.2.2.2.2.2.2.2.2.2.2.2.2.2.2.2.2.2.2.2.1])), (u.1, .inr (0, [.ref u.2.1, .ref u.2.2.1, .ref u.2.2.2.1, .int 0])), (u.2.1, .inl (T 0, 40, .inl zI)), (u.2.2.1, .inl (T 0, 40, .inl zI)), (u.2.2.2.1, .inl (T 3, 40, .inr (.inr (.inr (.inl zD))))), (u.2.2.2.2.1, .inr (1, [.ref u.2.2.2.2.2.1, .ref u.2.2.2.2.2.2.1, .int 0])), (u.2.2.2.2.2.2.2.1, .inr (2, [.ref u.1, .ref u.2.2.2.2.2.2.2.2.1, .ref u.2.2.2.2.2.2.2.2.2.1, .int 1, .ref u.2.2.2.2.2.2.2.2.2.2.1, .ref u.2.2.2.2.2.2.2.2.2.2.2.1, .int 0, .int 0])), (u.2.2.2.2.2.2.2.2.1, .inr (3, [.ref u.2.2.2.2.2.2.2.2.2.2.2.2.1, .ref u.2.2.2.2.2.2.2.2.2.2.2.2.2.1, .ref u.2.2.2.2.2.2.2.2.2.2.2.2.2.2.1, .ref u.2.2.2.2.2.2.2.2.2.2.2.2.2.2.2.1, .ref u.2.2.2.2.2.2.2.2.2.2.2.2.2.2.2.2.1])), (u.2.2.2.2.2.2.2.2.2.2.2.2.1, .inr (4, [.ref u.2.2.2.2.2.2.2.2.2.2.2.2.2.2.2.2.2.1, .ref u.2.2.2.2.2.2.2.2.2.2.2.2.2.2.2.2.2.2.1, .ref u.2.2.2.2.2.2.2.2.2.2.2.2.2.2.2.2.2.2.2.1, .int 0])), (u.2.2.2.2.2.2.2.2.2.2.2.2.2.1, .inl (T 0, 7, .inl roomF)), (u.2.2.2.2.2.2.2.2.2.2.2.2.2.2.2.2.2.2.2.2.1, .inr (5, [.ref u.2.2.2.2.1, .ref u.2.2.2.2.2.2.2.2.1, .ref u.2.2.2.2.2.2.2.2.2.2.2.2.2.2.2.2.2.2.2.2.2.1, .int 0, .int 0, .int 0, .int 0, .double 0, .ref u.2.2.2.2.2.2.2.2.2.2.2.2.2.2.2.2.2.2.2.2.2.2.1, .ref u.2.2.2.2.2.2.2.2.2.2.2.2.2.2.2.2.2.2.2.2.2.2.2.1])), (u.2.2.2.2.2.2.2.2.2.2.2.2.2.2.2.2.2.2.2.2.2.1, .inl (T 2, 120, .inl zI)), (u.2.2.2.2.2.2.2.2.2.2.2.2.2.2.2.2.2.2.2.2.2.2.2.2.1, .inr (6, [.ref u.1, .int (nI u.2.2.2.2.2.2.2.2.2.2.2.2.2.2.2.2.2.2.2.2.2.2.2.2.2.1), .int (nI u.2.2.2.2.2.2.2.2.2.2.2.2.2.2.2.2.2.2.2.2.2.2.2.2.2.2.1), .ref u.2.2.2.2.2.2.2.2.2.2.2.2.2.2.2.2.2.2.2.2.2.2.2.2.2.2.2.1, .float 0x3f800000, .ref u.2.2.2.2.2.2.2.2.2.2.2.2.2.2.2.2.2.2.2.2.2.2.2.2.2.2.2.2.1, .ref u.2.2.2.2.2.2.2.2.2.2.2.2.2.2.2.2.2.2.2.2.2.2.2.2.2.2.2.2.2.1, .ref u.2.2.2.2.2.2.2.2.2.2.2.2.2.2.2.2.2.2.2.2.2.2.2.2.2.2.2.2.2.2.1, .int 0])), (u.2.2.2.2.2.2.2.2.2.2.2.2.2.2.2.2.2.2.2.2.2.2.2.2.2.2.2.1, .inl (T 0, (u.2.2.2.2.2.2.2.2.2.2.2.2.2.2.2.2.2.2.2.2.2.2.2.2.2.1 * u.2.2.2.2.2.2.2.2.2.2.2.2.2.2.2.2.2.2.2.2.2.2.2.2.2.2.1), .inl zI)), (u.2.2.2.2.2.2.2.2.2.2.2.2.2.2.2.2.2.2.2.2.2.2.2.2.2.2.2.2.2.2.2.1, .inr (7, [.ref u.1, .ref u.2.2.2.2.2.2.2.1, .ref u.2.2.2.2.2.2.2.2.2.2.2.2.2.2.2.2.2.2.2.2.2.2.2.2.1, .ref u.2.2.2.2.2.2.2.2.2.2.2.2.2.2.2.2.2.2.2.2.2.2.2.2.2.2.2.2.2.2.2.2.1, .ref u.2.2.2.2.2.2.2.2.2.2.2.2.2.2.2.2.2.2.2.2.2.2.2.2.2.2.2.2.2.2.2.2.2, .int 0, .int 0, .int 0, .int 0, .int 0, .int 0]))] t) (va_A [(h0, .inr (10, [.null, .null, .null, .null, .null, .null]))] sz)) 74 4809 (va_A [(h0, .inr (10, [.null, .null, .null, .null, .null, .null]))] sz) := by
  refine j_met (Qc := fun A => va_Qv (fun (u : Nat × Nat × Nat × Nat × Nat × Nat × Nat × Nat × Nat × Nat × Nat × Nat × Nat × Nat × Nat × Nat × Nat × Nat × Nat × Nat × Nat × Nat × Nat × Nat × Nat × Nat × Nat × Nat × Nat × Nat × Nat × Nat × Nat × Nat) => nI u.2.2.2.2.2.2.2.2.2.2.2.2.2.2.2.2.2.2.2.2.2.2.2.2.2.1 = colOf p0 ∧ nI u.2.2.2.2.2.2.2.2.2.2.2.2.2.2.2.2.2.2.2.2.2.2.2.2.2.2.1 = rowOf p1 ∧ u.2.2.2.2.2.2.2.2.2.2.2.2.2.2.2.2.2.2.2.2.2.2.2.2.2.1 ≤ 24 ∧ u.2.2.2.2.2.2.2.2.2.2.2.2.2.2.2.2.2.2.2.2.2.2.2.2.2.2.1 ≤ 16) (fun u t => Bw D T A [(h0, .inr (10, [.ref u.1, .ref u.2.2.2.2.1, .ref u.2.2.2.2.2.2.2.1, .ref u.2.2.2.2.2.2.2.2.2.2.2.2.2.2.2.2.2.2.2.2.1, .ref u.2.2.2.2.2.2.2.2.2.2.2.2.2.2.2.2.2.2.2.2.2.2.2.2.1, .ref u.2.2.2.2.2.2.2.2.2.2.2.2.2.2.2.2.2.2.2.2.2.2.2.2.2.2.2.2.2.2.2.1])), (u.1, .inr (0, [.ref u.2.1, .ref u.2.2.1, .ref u.2.2.2.1, .int 0])), (u.2.1, .inl (T 0, 40, .inl zI)), (u.2.2.1, .inl (T 0, 40, .inl zI)), (u.2.2.2.1, .inl (T 3, 40, .inr (.inr (.inr (.inl zD))))), (u.2.2.2.2.1, .inr (1, [.ref u.2.2.2.2.2.1, .ref u.2.2.2.2.2.2.1, .int 0])), (u.2.2.2.2.2.2.2.1, .inr (2, [.ref u.1, .ref u.2.2.2.2.2.2.2.2.1, .ref u.2.2.2.2.2.2.2.2.2.1, .int 1, .ref u.2.2.2.2.2.2.2.2.2.2.1, .ref u.2.2.2.2.2.2.2.2.2.2.2.1, .int 0, .int 0])), (u.2.2.2.2.2.2.2.2.1, .inr (3, [.ref u.2.2.2.2.2.2.2.2.2.2.2.2.1, .ref u.2.2.2.2.2.2.2.2.2.2.2.2.2.1, .ref u.2.2.2.2.2.2.2.2.2.2.2.2.2.2.1, .ref u.2.2.2.2.2.2.2.2.2.2.2.2.2.2.2.1, .ref u.2.2.2.2.2.2.2.2.2.2.2.2.2.2.2.2.1])), (u.2.2.2.2.2.2.2.2.2.2.2.2.1, .inr (4, [.ref u.2.2.2.2.2.2.2.2.2.2.2.2.2.2.2.2.2.1, .ref u.2.2.2.2.2.2.2.2.2.2.2.2.2.2.2.2.2.2.1, .ref u.2.2.2.2.2.2.2.2.2.2.2.2.2.2.2.2.2.2.2.1, .int 0])), (u.2.2.2.2.2.2.2.2.2.2.2.2.2.1, .inl (T 0, 7, .inl roomF)), (u.2.2.2.2.2.2.2.2.2.2.2.2.2.2.2.2.2.2.2.2.1, .inr (5, [.ref u.2.2.2.2.1, .ref u.2.2.2.2.2.2.2.2.1, .ref u.2.2.2.2.2.2.2.2.2.2.2.2.2.2.2.2.2.2.2.2.2.1, .int 0, .int 0, .int 0, .int 0, .double 0, .ref u.2.2.2.2.2.2.2.2.2.2.2.2.2.2.2.2.2.2.2.2.2.2.1, .ref u.2.2.2.2.2.2.2.2.2.2.2.2.2.2.2.2.2.2.2.2.2.2.2.1])), (u.2.2.2.2.2.2.2.2.2.2.2.2.2.2.2.2.2.2.2.2.2.1, .inl (T 2, 120, .inl zI)), (u.2.2.2.2.2.2.2.2.2.2.2.2.2.2.2.2.2.2.2.2.2.2.2.2.1, .inr (6, [.ref u.1, .int (nI u.2.2.2.2.2.2.2.2.2.2.2.2.2.2.2.2.2.2.2.2.2.2.2.2.2.1), .int (nI u.2.2.2.2.2.2.2.2.2.2.2.2.2.2.2.2.2.2.2.2.2.2.2.2.2.2.1), .ref u.2.2.2.2.2.2.2.2.2.2.2.2.2.2.2.2.2.2.2.2.2.2.2.2.2.2.2.1, .float 0x3f800000, .ref u.2.2.2.2.2.2.2.2.2.2.2.2.2.2.2.2.2.2.2.2.2.2.2.2.2.2.2.2.1, .ref u.2.2.2.2.2.2.2.2.2.2.2.2.2.2.2.2.2.2.2.2.2.2.2.2.2.2.2.2.2.1, .ref u.2.2.2.2.2.2.2.2.2.2.2.2.2.2.2.2.2.2.2.2.2.2.2.2.2.2.2.2.2.2.1, .int 0])), (u.2.2.2.2.2.2.2.2.2.2.2.2.2.2.2.2.2.2.2.2.2.2.2.2.2.2.2.1, .inl (T 0, (u.2.2.2.2.2.2.2.2.2.2.2.2.2.2.2.2.2.2.2.2.2.2.2.2.2.1 * u.2.2.2.2.2.2.2.2.2.2.2.2.2.2.2.2.2.2.2.2.2.2.2.2.2.2.1), .inl zI)), (u.2.2.2.2.2.2.2.2.2.2.2.2.2.2.2.2.2.2.2.2.2.2.2.2.2.2.2.2.2.2.2.1, .inr (7, [.ref u.1, .ref u.2.2.2.2.2.2.2.1, .ref u.2.2.2.2.2.2.2.2.2.2.2.2.2.2.2.2.2.2.2.2.2.2.2.2.1, .ref u.2.2.2.2.2.2.2.2.2.2.2.2.2.2.2.2.2.2.2.2.2.2.2.2.2.2.2.2.2.2.2.2.1, .ref u.2.2.2.2.2.2.2.2.2.2.2.2.2.2.2.2.2.2.2.2.2.2.2.2.2.2.2.2.2.2.2.2.2, .int 0, .int 0, .int 0, .int 0, .int 0, .int 0]))] t) A) (by decide +kernel) (Nat.le_of_ble_eq_true rfl) (fun p e s m args below meth c A ls F hr hlocks hnm hK hP hD hS hA hN hE hl => ?_)
  obtain ⟨hx, hb, hml, hown, hts⟩ := id F
  have hin := hnm
  have hl : lv_has ls 3 [(0, .ref h0), (1, .int p0), (2, .int p1)] := hl
  have hE1 := hE.1
  have hNest := hE.2
  refine lv_aload_n hx hb d_Ps_init_0 rfl (lv_at hl 0 rfl) ?_
  refine j_obj F hl.1 k_1_34 k_1_35 k_1_36 d_Ps_init_1 (Nat.le_of_ble_eq_true rfl) (Nat.le_of_ble_eq_true rfl) ?_
  refine lv_aload_n hx hb d_Ps_init_4 rfl (lv_at hl 0 rfl) ?_
  refine va_new (ci := 0) (fs := [.null, .null, .null, .int 0]) (C := "PageScribe$Stack") (T := F_Stack) (N := 4) hx hb hts i_Stack t_Stack t_Stack_ok hown (hts _ k_1_37) (hts _ k_1_38) (hts _ k_1_3) hK hP hD hS hA rfl z_Stack (Nat.le_of_ble_eq_true rfl) (Nat.le_of_ble_eq_true rfl) d_Ps_init_5 (fun q1 H hP hD hS => ?_)
  have hP : va_P D classes [(h0, .inr (10, [.null, .null, .null, .null, .null, .null])), (q1, .inr (0, [.null, .null, .null, .int 0]))] H := hP
  have hD : va_D A [(h0, .inr (10, [.null, .null, .null, .null, .null, .null])), (q1, .inr (0, [.null, .null, .null, .int 0]))] := hD
  refine lv_dup hx hb d_Ps_init_8 rfl ?_
  refine j_cv (wc := [(q1, .inr (0, [.null, .null, .null, .int 0]))]) (wr := [(h0, .inr (10, [.null, .null, .null, .null, .null, .null]))]) hK hP hD hS hA [1] [0] rfl rfl (by decide) (by decide) (va_runI (As := []) (rest := [.ref q1, .ref h0]) F (c_Stack_init l D T q1 H.size) (j_cI (k := 0) hts k_1_41 k_1_3 k_1_39 k_1_40 rfl (by decide +kernel) ⟨Nat.le_of_ble_eq_true rfl, Nat.le_of_ble_eq_true rfl⟩) (j_preS hK hP hD [1] rfl (by decide) (fun _ _ _ _ h => h) (fun _ _ _ => trivial)) rfl rfl hl.1 rfl (lv_room (Nat.le_of_ble_eq_true rfl)) d_Ps_init_9 ⟨Nat.le_of_ble_eq_true rfl, Nat.le_of_ble_eq_true rfl⟩) (fun u1 H locs hw hP hD hS => ?_)
  obtain ⟨a1_1, a2_1, a3_1⟩ := u1
  have hP : va_P D classes [(h0, .inr (10, [.null, .null, .null, .null, .null, .null])), (q1, .inr (0, [.ref a1_1, .ref a2_1, .ref a3_1, .int 0])), (a1_1, .inl (T 0, 40, .inl zI)), (a2_1, .inl (T 0, 40, .inl zI)), (a3_1, .inl (T 3, 40, .inr (.inr (.inr (.inl zD)))))] H := hP
  have hD : va_D A [(h0, .inr (10, [.null, .null, .null, .null, .null, .null])), (q1, .inr (0, [.ref a1_1, .ref a2_1, .ref a3_1, .int 0])), (a1_1, .inl (T 0, 40, .inl zI)), (a2_1, .inl (T 0, 40, .inl zI)), (a3_1, .inl (T 3, 40, .inr (.inr (.inr (.inl zD)))))] := hD
  refine va_putF (D := D) (ci := 10) (v := .ref q1) (ty := .object "PageScribe$Stack") (C := "PageScribe") (T := F_Ps) (N := 6) hx hb hts i_Ps t_Ps t_Ps_ok n_Ps hown hK hP hD hS 0 rfl rfl 0 (by decide) (hts _ k_2_58) (fun _ h9 => h9) rfl hin rfl (by decide +kernel) rfl rfl (Nat.le_of_ble_eq_true rfl) d_Ps_init_12 (fun H locs hP hD hS => ?_)
  have hP : va_P D classes [(h0, .inr (10, [.ref q1, .null, .null, .null, .null, .null])), (q1, .inr (0, [.ref a1_1, .ref a2_1, .ref a3_1, .int 0])), (a1_1, .inl (T 0, 40, .inl zI)), (a2_1, .inl (T 0, 40, .inl zI)), (a3_1, .inl (T 3, 40, .inr (.inr (.inr (.inl zD)))))] H := hP
  have hD : va_D A [(h0, .inr (10, [.ref q1, .null, .null, .null, .null, .null])), (q1, .inr (0, [.ref a1_1, .ref a2_1, .ref a3_1, .int 0])), (a1_1, .inl (T 0, 40, .inl zI)), (a2_1, .inl (T 0, 40, .inl zI)), (a3_1, .inl (T 3, 40, .inr (.inr (.inr (.inl zD)))))] := hD
  refine lv_aload_n hx hb d_Ps_init_15 rfl (lv_at hl 0 rfl) ?_
  refine va_new (ci := 1) (fs := [.null, .null, .int 0]) (C := "PageScribe$Words") (T := F_Words) (N := 3) hx hb hts i_Words t_Words t_Words_ok hown (hts _ k_1_69) (hts _ k_1_70) (hts _ k_1_4) hK hP hD hS hA rfl z_Words (Nat.le_of_ble_eq_true rfl) (Nat.le_of_ble_eq_true rfl) d_Ps_init_16 (fun q2 H hP hD hS => ?_)
  have hP : va_P D classes [(h0, .inr (10, [.ref q1, .null, .null, .null, .null, .null])), (q1, .inr (0, [.ref a1_1, .ref a2_1, .ref a3_1, .int 0])), (a1_1, .inl (T 0, 40, .inl zI)), (a2_1, .inl (T 0, 40, .inl zI)), (a3_1, .inl (T 3, 40, .inr (.inr (.inr (.inl zD))))), (q2, .inr (1, [.null, .null, .int 0]))] H := hP
  have hD : va_D A [(h0, .inr (10, [.ref q1, .null, .null, .null, .null, .null])), (q1, .inr (0, [.ref a1_1, .ref a2_1, .ref a3_1, .int 0])), (a1_1, .inl (T 0, 40, .inl zI)), (a2_1, .inl (T 0, 40, .inl zI)), (a3_1, .inl (T 3, 40, .inr (.inr (.inr (.inl zD))))), (q2, .inr (1, [.null, .null, .int 0]))] := hD
  refine lv_dup hx hb d_Ps_init_19 rfl ?_
  refine j_cv (wc := [(q2, .inr (1, [.null, .null, .int 0]))]) (wr := [(h0, .inr (10, [.ref q1, .null, .null, .null, .null, .null])), (q1, .inr (0, [.ref a1_1, .ref a2_1, .ref a3_1, .int 0])), (a1_1, .inl (T 0, 40, .inl zI)), (a2_1, .inl (T 0, 40, .inl zI)), (a3_1, .inl (T 3, 40, .inr (.inr (.inr (.inl zD)))))]) hK hP hD hS hA [5] [0, 1, 2, 3, 4] rfl rfl (by decide) (by decide) (va_runIN (As := []) (rest := [.ref q2, .ref h0]) F (c_Words_init l D T q2 H.size) (j_cIN (k := 0) hts k_1_73 k_1_4 hNest k_1_72 rfl (by decide +kernel) ⟨Nat.le_of_ble_eq_true rfl, Nat.le_of_ble_eq_true rfl⟩) (j_preS hK hP hD [5] rfl (by decide) (fun _ _ _ _ h => h) (fun _ _ _ => trivial)) rfl rfl hl.1 rfl (lv_room (Nat.le_of_ble_eq_true rfl)) d_Ps_init_20 ⟨Nat.le_of_ble_eq_true rfl, Nat.le_of_ble_eq_true rfl⟩) (fun u2 H locs hw hP hD hS => ?_)
  obtain ⟨a1_2, a2_2⟩ := u2
  have hP : va_P D classes [(h0, .inr (10, [.ref q1, .null, .null, .null, .null, .null])), (q1, .inr (0, [.ref a1_1, .ref a2_1, .ref a3_1, .int 0])), (a1_1, .inl (T 0, 40, .inl zI)), (a2_1, .inl (T 0, 40, .inl zI)), (a3_1, .inl (T 3, 40, .inr (.inr (.inr (.inl zD))))), (q2, .inr (1, [.ref a1_2, .ref a2_2, .int 0]))] H := hP
  have hD : va_D A [(h0, .inr (10, [.ref q1, .null, .null, .null, .null, .null])), (q1, .inr (0, [.ref a1_1, .ref a2_1, .ref a3_1, .int 0])), (a1_1, .inl (T 0, 40, .inl zI)), (a2_1, .inl (T 0, 40, .inl zI)), (a3_1, .inl (T 3, 40, .inr (.inr (.inr (.inl zD))))), (q2, .inr (1, [.ref a1_2, .ref a2_2, .int 0]))] := hD
  refine va_putF (D := D) (ci := 10) (v := .ref q2) (ty := .object "PageScribe$Words") (C := "PageScribe") (T := F_Ps) (N := 6) hx hb hts i_Ps t_Ps t_Ps_ok n_Ps hown hK hP hD hS 0 rfl rfl 1 (by decide) (hts _ k_2_59) (fun _ h9 => h9) rfl hin rfl (by decide +kernel) rfl rfl (Nat.le_of_ble_eq_true rfl) d_Ps_init_23 (fun H locs hP hD hS => ?_)
  have hP : va_P D classes [(h0, .inr (10, [.ref q1, .ref q2, .null, .null, .null, .null])), (q1, .inr (0, [.ref a1_1, .ref a2_1, .ref a3_1, .int 0])), (a1_1, .inl (T 0, 40, .inl zI)), (a2_1, .inl (T 0, 40, .inl zI)), (a3_1, .inl (T 3, 40, .inr (.inr (.inr (.inl zD))))), (q2, .inr (1, [.ref a1_2, .ref a2_2, .int 0]))] H := hP
  have hD : va_D A [(h0, .inr (10, [.ref q1, .ref q2, .null, .null, .null, .null])), (q1, .inr (0, [.ref a1_1, .ref a2_1, .ref a3_1, .int 0])), (a1_1, .inl (T 0, 40, .inl zI)), (a2_1, .inl (T 0, 40, .inl zI)), (a3_1, .inl (T 3, 40, .inr (.inr (.inr (.inl zD))))), (q2, .inr (1, [.ref a1_2, .ref a2_2, .int 0]))] := hD
  refine lv_aload_n hx hb d_Ps_init_26 rfl (lv_at hl 0 rfl) ?_
  refine va_new (ci := 2) (fs := [.null, .null, .null, .int 0, .null, .null, .int 0, .int 0]) (C := "PageScribe$Memory") (T := F_Memory) (N := 8) hx hb hts i_Memory t_Memory t_Memory_ok hown (hts _ k_1_87) (hts _ k_1_88) (hts _ k_1_5) hK hP hD hS hA rfl z_Memory (Nat.le_of_ble_eq_true rfl) (Nat.le_of_ble_eq_true rfl) d_Ps_init_27 (fun q3 H hP hD hS => ?_)
  have hP : va_P D classes [(h0, .inr (10, [.ref q1, .ref q2, .null, .null, .null, .null])), (q1, .inr (0, [.ref a1_1, .ref a2_1, .ref a3_1, .int 0])), (a1_1, .inl (T 0, 40, .inl zI)), (a2_1, .inl (T 0, 40, .inl zI)), (a3_1, .inl (T 3, 40, .inr (.inr (.inr (.inl zD))))), (q2, .inr (1, [.ref a1_2, .ref a2_2, .int 0])), (q3, .inr (2, [.null, .null, .null, .int 0, .null, .null, .int 0, .int 0]))] H := hP
  have hD : va_D A [(h0, .inr (10, [.ref q1, .ref q2, .null, .null, .null, .null])), (q1, .inr (0, [.ref a1_1, .ref a2_1, .ref a3_1, .int 0])), (a1_1, .inl (T 0, 40, .inl zI)), (a2_1, .inl (T 0, 40, .inl zI)), (a3_1, .inl (T 3, 40, .inr (.inr (.inr (.inl zD))))), (q2, .inr (1, [.ref a1_2, .ref a2_2, .int 0])), (q3, .inr (2, [.null, .null, .null, .int 0, .null, .null, .int 0, .int 0]))] := hD
  refine lv_dup hx hb d_Ps_init_30 rfl ?_
  refine lv_aload_n hx hb d_Ps_init_31 rfl (lv_at hl 0 rfl) ?_
  refine va_get (D := D) (ci := 10) (v := .ref q1) (C := "PageScribe") (T := F_Ps) (N := 6) hx hb hts i_Ps hown hK hP 0 rfl rfl 0 (by decide) (hts _ k_2_58) (fun _ h9 => h9) rfl d_Ps_init_32 ?_
  refine j_cv (wc := [(q3, .inr (2, [.null, .null, .null, .int 0, .null, .null, .int 0, .int 0]))]) (wr := [(h0, .inr (10, [.ref q1, .ref q2, .null, .null, .null, .null])), (q1, .inr (0, [.ref a1_1, .ref a2_1, .ref a3_1, .int 0])), (a1_1, .inl (T 0, 40, .inl zI)), (a2_1, .inl (T 0, 40, .inl zI)), (a3_1, .inl (T 3, 40, .inr (.inr (.inr (.inl zD))))), (q2, .inr (1, [.ref a1_2, .ref a2_2, .int 0]))]) hK hP hD hS hA [6] [0, 1, 2, 3, 4, 5] rfl rfl (by decide) (by decide) (va_runI (As := [.ref q1]) (rest := [.ref q3, .ref h0]) F (c_Memory_init l D T q3 q1 H.size) (j_cI (k := 1) hts k_1_91 k_1_5 k_1_89 k_1_90 rfl (by decide +kernel) ⟨Nat.le_of_ble_eq_true rfl, Nat.le_of_ble_eq_true rfl⟩) (j_preS hK hP hD [6] rfl (by decide) (fun _ _ _ _ h => h) (fun U _ hW => hE1.moved hW.alike)) rfl rfl hl.1 rfl (lv_room (Nat.le_of_ble_eq_true rfl)) d_Ps_init_35 ⟨Nat.le_of_ble_eq_true rfl, Nat.le_of_ble_eq_true rfl⟩) (fun u3 H locs hw hP hD hS => ?_)
  obtain ⟨st1, m1_1, m2_1, m3_1, b1_1, b2_1, b3_1, b4_1, b5_1, r1_1, r2_1, r3_1⟩ := u3
  have hP : va_P D classes [(h0, .inr (10, [.ref q1, .ref q2, .null, .null, .null, .null])), (q1, .inr (0, [.ref a1_1, .ref a2_1, .ref a3_1, .int 0])), (a1_1, .inl (T 0, 40, .inl zI)), (a2_1, .inl (T 0, 40, .inl zI)), (a3_1, .inl (T 3, 40, .inr (.inr (.inr (.inl zD))))), (q2, .inr (1, [.ref a1_2, .ref a2_2, .int 0])), (q3, .inr (2, [.ref q1, .ref st1, .ref m1_1, .int 1, .ref m2_1, .ref m3_1, .int 0, .int 0])), (st1, .inr (3, [.ref b1_1, .ref b2_1, .ref b3_1, .ref b4_1, .ref b5_1])), (b1_1, .inr (4, [.ref r1_1, .ref r2_1, .ref r3_1, .int 0])), (b2_1, .inl (T 0, 7, .inl roomF))] H := hP
  have hD : va_D A [(h0, .inr (10, [.ref q1, .ref q2, .null, .null, .null, .null])), (q1, .inr (0, [.ref a1_1, .ref a2_1, .ref a3_1, .int 0])), (a1_1, .inl (T 0, 40, .inl zI)), (a2_1, .inl (T 0, 40, .inl zI)), (a3_1, .inl (T 3, 40, .inr (.inr (.inr (.inl zD))))), (q2, .inr (1, [.ref a1_2, .ref a2_2, .int 0])), (q3, .inr (2, [.ref q1, .ref st1, .ref m1_1, .int 1, .ref m2_1, .ref m3_1, .int 0, .int 0])), (st1, .inr (3, [.ref b1_1, .ref b2_1, .ref b3_1, .ref b4_1, .ref b5_1])), (b1_1, .inr (4, [.ref r1_1, .ref r2_1, .ref r3_1, .int 0])), (b2_1, .inl (T 0, 7, .inl roomF))] := hD
  refine va_putF (D := D) (ci := 10) (v := .ref q3) (ty := .object "PageScribe$Memory") (C := "PageScribe") (T := F_Ps) (N := 6) hx hb hts i_Ps t_Ps t_Ps_ok n_Ps hown hK hP hD hS 0 rfl rfl 2 (by decide) (hts _ k_2_60) (fun _ h9 => h9) rfl hin rfl (by decide +kernel) rfl rfl (Nat.le_of_ble_eq_true rfl) d_Ps_init_38 (fun H locs hP hD hS => ?_)
  have hP : va_P D classes [(h0, .inr (10, [.ref q1, .ref q2, .ref q3, .null, .null, .null])), (q1, .inr (0, [.ref a1_1, .ref a2_1, .ref a3_1, .int 0])), (a1_1, .inl (T 0, 40, .inl zI)), (a2_1, .inl (T 0, 40, .inl zI)), (a3_1, .inl (T 3, 40, .inr (.inr (.inr (.inl zD))))), (q2, .inr (1, [.ref a1_2, .ref a2_2, .int 0])), (q3, .inr (2, [.ref q1, .ref st1, .ref m1_1, .int 1, .ref m2_1, .ref m3_1, .int 0, .int 0])), (st1, .inr (3, [.ref b1_1, .ref b2_1, .ref b3_1, .ref b4_1, .ref b5_1])), (b1_1, .inr (4, [.ref r1_1, .ref r2_1, .ref r3_1, .int 0])), (b2_1, .inl (T 0, 7, .inl roomF))] H := hP
  have hD : va_D A [(h0, .inr (10, [.ref q1, .ref q2, .ref q3, .null, .null, .null])), (q1, .inr (0, [.ref a1_1, .ref a2_1, .ref a3_1, .int 0])), (a1_1, .inl (T 0, 40, .inl zI)), (a2_1, .inl (T 0, 40, .inl zI)), (a3_1, .inl (T 3, 40, .inr (.inr (.inr (.inl zD))))), (q2, .inr (1, [.ref a1_2, .ref a2_2, .int 0])), (q3, .inr (2, [.ref q1, .ref st1, .ref m1_1, .int 1, .ref m2_1, .ref m3_1, .int 0, .int 0])), (st1, .inr (3, [.ref b1_1, .ref b2_1, .ref b3_1, .ref b4_1, .ref b5_1])), (b1_1, .inr (4, [.ref r1_1, .ref r2_1, .ref r3_1, .int 0])), (b2_1, .inl (T 0, 7, .inl roomF))] := hD
  refine lv_aload_n hx hb d_Ps_init_41 rfl (lv_at hl 0 rfl) ?_
  refine va_new (ci := 5) (fs := [.null, .null, .null, .int 0, .int 0, .int 0, .int 0, .double 0, .null, .null]) (C := "PageScribe$Reader") (T := F_Reader) (N := 10) hx hb hts i_Reader t_Reader t_Reader_ok hown (hts _ k_1_158) (hts _ k_1_159) (hts _ k_1_7) hK hP hD hS hA rfl z_Reader (Nat.le_of_ble_eq_true rfl) (Nat.le_of_ble_eq_true rfl) d_Ps_init_42 (fun q4 H hP hD hS => ?_)
  have hP : va_P D classes [(h0, .inr (10, [.ref q1, .ref q2, .ref q3, .null, .null, .null])), (q1, .inr (0, [.ref a1_1, .ref a2_1, .ref a3_1, .int 0])), (a1_1, .inl (T 0, 40, .inl zI)), (a2_1, .inl (T 0, 40, .inl zI)), (a3_1, .inl (T 3, 40, .inr (.inr (.inr (.inl zD))))), (q2, .inr (1, [.ref a1_2, .ref a2_2, .int 0])), (q3, .inr (2, [.ref q1, .ref st1, .ref m1_1, .int 1, .ref m2_1, .ref m3_1, .int 0, .int 0])), (st1, .inr (3, [.ref b1_1, .ref b2_1, .ref b3_1, .ref b4_1, .ref b5_1])), (b1_1, .inr (4, [.ref r1_1, .ref r2_1, .ref r3_1, .int 0])), (b2_1, .inl (T 0, 7, .inl roomF)), (q4, .inr (5, [.null, .null, .null, .int 0, .int 0, .int 0, .int 0, .double 0, .null, .null]))] H := hP
  have hD : va_D A [(h0, .inr (10, [.ref q1, .ref q2, .ref q3, .null, .null, .null])), (q1, .inr (0, [.ref a1_1, .ref a2_1, .ref a3_1, .int 0])), (a1_1, .inl (T 0, 40, .inl zI)), (a2_1, .inl (T 0, 40, .inl zI)), (a3_1, .inl (T 3, 40, .inr (.inr (.inr (.inl zD))))), (q2, .inr (1, [.ref a1_2, .ref a2_2, .int 0])), (q3, .inr (2, [.ref q1, .ref st1, .ref m1_1, .int 1, .ref m2_1, .ref m3_1, .int 0, .int 0])), (st1, .inr (3, [.ref b1_1, .ref b2_1, .ref b3_1, .ref b4_1, .ref b5_1])), (b1_1, .inr (4, [.ref r1_1, .ref r2_1, .ref r3_1, .int 0])), (b2_1, .inl (T 0, 7, .inl roomF)), (q4, .inr (5, [.null, .null, .null, .int 0, .int 0, .int 0, .int 0, .double 0, .null, .null]))] := hD
  refine lv_dup hx hb d_Ps_init_45 rfl ?_
  refine lv_aload_n hx hb d_Ps_init_46 rfl (lv_at hl 0 rfl) ?_
  refine va_get (D := D) (ci := 10) (v := .ref q2) (C := "PageScribe") (T := F_Ps) (N := 6) hx hb hts i_Ps hown hK hP 0 rfl rfl 1 (by decide) (hts _ k_2_59) (fun _ h9 => h9) rfl d_Ps_init_47 ?_
  refine lv_aload_n hx hb d_Ps_init_50 rfl (lv_at hl 0 rfl) ?_
  refine va_get (D := D) (ci := 10) (v := .ref q3) (C := "PageScribe") (T := F_Ps) (N := 6) hx hb hts i_Ps hown hK hP 0 rfl rfl 2 (by decide) (hts _ k_2_60) (fun _ h9 => h9) rfl d_Ps_init_51 ?_
  refine va_get (D := D) (ci := 2) (v := .ref st1) (C := "PageScribe$Memory") (T := F_Memory) (N := 8) hx hb hts i_Memory hown hK hP 6 rfl rfl 1 (by decide) (hts _ k_1_131) (fun _ h9 => h9) rfl d_Ps_init_54 ?_
  refine j_cv (wc := [(q4, .inr (5, [.null, .null, .null, .int 0, .int 0, .int 0, .int 0, .double 0, .null, .null]))]) (wr := [(h0, .inr (10, [.ref q1, .ref q2, .ref q3, .null, .null, .null])), (q1, .inr (0, [.ref a1_1, .ref a2_1, .ref a3_1, .int 0])), (a1_1, .inl (T 0, 40, .inl zI)), (a2_1, .inl (T 0, 40, .inl zI)), (a3_1, .inl (T 3, 40, .inr (.inr (.inr (.inl zD))))), (q2, .inr (1, [.ref a1_2, .ref a2_2, .int 0])), (q3, .inr (2, [.ref q1, .ref st1, .ref m1_1, .int 1, .ref m2_1, .ref m3_1, .int 0, .int 0])), (st1, .inr (3, [.ref b1_1, .ref b2_1, .ref b3_1, .ref b4_1, .ref b5_1])), (b1_1, .inr (4, [.ref r1_1, .ref r2_1, .ref r3_1, .int 0])), (b2_1, .inl (T 0, 7, .inl roomF))]) hK hP hD hS hA [10] [0, 1, 2, 3, 4, 5, 6, 7, 8, 9] rfl rfl (by decide) (by decide) (va_runI (As := [.ref q2, .ref st1]) (rest := [.ref q4, .ref h0]) F (c_Reader_init l D T q4 q2 st1 H.size) (j_cI (k := 2) hts k_1_162 k_1_7 k_1_160 k_1_161 rfl (by decide +kernel) ⟨Nat.le_of_ble_eq_true rfl, Nat.le_of_ble_eq_true rfl⟩) (j_preS hK hP hD [10] rfl (by decide) (fun _ _ _ _ h => h) (fun _ _ _ => trivial)) rfl rfl hl.1 rfl (lv_room (Nat.le_of_ble_eq_true rfl)) d_Ps_init_57 ⟨Nat.le_of_ble_eq_true rfl, Nat.le_of_ble_eq_true rfl⟩) (fun u4 H locs hw hP hD hS => ?_)
  obtain ⟨tx1, gt1, bg1⟩ := u4
  have hP : va_P D classes [(h0, .inr (10, [.ref q1, .ref q2, .ref q3, .null, .null, .null])), (q1, .inr (0, [.ref a1_1, .ref a2_1, .ref a3_1, .int 0])), (a1_1, .inl (T 0, 40, .inl zI)), (a2_1, .inl (T 0, 40, .inl zI)), (a3_1, .inl (T 3, 40, .inr (.inr (.inr (.inl zD))))), (q2, .inr (1, [.ref a1_2, .ref a2_2, .int 0])), (q3, .inr (2, [.ref q1, .ref st1, .ref m1_1, .int 1, .ref m2_1, .ref m3_1, .int 0, .int 0])), (st1, .inr (3, [.ref b1_1, .ref b2_1, .ref b3_1, .ref b4_1, .ref b5_1])), (b1_1, .inr (4, [.ref r1_1, .ref r2_1, .ref r3_1, .int 0])), (b2_1, .inl (T 0, 7, .inl roomF)), (q4, .inr (5, [.ref q2, .ref st1, .ref tx1, .int 0, .int 0, .int 0, .int 0, .double 0, .ref gt1, .ref bg1])), (tx1, .inl (T 2, 120, .inl zI))] H := hP
  have hD : va_D A [(h0, .inr (10, [.ref q1, .ref q2, .ref q3, .null, .null, .null])), (q1, .inr (0, [.ref a1_1, .ref a2_1, .ref a3_1, .int 0])), (a1_1, .inl (T 0, 40, .inl zI)), (a2_1, .inl (T 0, 40, .inl zI)), (a3_1, .inl (T 3, 40, .inr (.inr (.inr (.inl zD))))), (q2, .inr (1, [.ref a1_2, .ref a2_2, .int 0])), (q3, .inr (2, [.ref q1, .ref st1, .ref m1_1, .int 1, .ref m2_1, .ref m3_1, .int 0, .int 0])), (st1, .inr (3, [.ref b1_1, .ref b2_1, .ref b3_1, .ref b4_1, .ref b5_1])), (b1_1, .inr (4, [.ref r1_1, .ref r2_1, .ref r3_1, .int 0])), (b2_1, .inl (T 0, 7, .inl roomF)), (q4, .inr (5, [.ref q2, .ref st1, .ref tx1, .int 0, .int 0, .int 0, .int 0, .double 0, .ref gt1, .ref bg1])), (tx1, .inl (T 2, 120, .inl zI))] := hD
  refine va_putF (D := D) (ci := 10) (v := .ref q4) (ty := .object "PageScribe$Reader") (C := "PageScribe") (T := F_Ps) (N := 6) hx hb hts i_Ps t_Ps t_Ps_ok n_Ps hown hK hP hD hS 0 rfl rfl 3 (by decide) (hts _ k_2_61) (fun _ h9 => h9) rfl hin rfl (by decide +kernel) rfl rfl (Nat.le_of_ble_eq_true rfl) d_Ps_init_60 (fun H locs hP hD hS => ?_)
  have hP : va_P D classes [(h0, .inr (10, [.ref q1, .ref q2, .ref q3, .ref q4, .null, .null])), (q1, .inr (0, [.ref a1_1, .ref a2_1, .ref a3_1, .int 0])), (a1_1, .inl (T 0, 40, .inl zI)), (a2_1, .inl (T 0, 40, .inl zI)), (a3_1, .inl (T 3, 40, .inr (.inr (.inr (.inl zD))))), (q2, .inr (1, [.ref a1_2, .ref a2_2, .int 0])), (q3, .inr (2, [.ref q1, .ref st1, .ref m1_1, .int 1, .ref m2_1, .ref m3_1, .int 0, .int 0])), (st1, .inr (3, [.ref b1_1, .ref b2_1, .ref b3_1, .ref b4_1, .ref b5_1])), (b1_1, .inr (4, [.ref r1_1, .ref r2_1, .ref r3_1, .int 0])), (b2_1, .inl (T 0, 7, .inl roomF)), (q4, .inr (5, [.ref q2, .ref st1, .ref tx1, .int 0, .int 0, .int 0, .int 0, .double 0, .ref gt1, .ref bg1])), (tx1, .inl (T 2, 120, .inl zI))] H := hP
  have hD : va_D A [(h0, .inr (10, [.ref q1, .ref q2, .ref q3, .ref q4, .null, .null])), (q1, .inr (0, [.ref a1_1, .ref a2_1, .ref a3_1, .int 0])), (a1_1, .inl (T 0, 40, .inl zI)), (a2_1, .inl (T 0, 40, .inl zI)), (a3_1, .inl (T 3, 40, .inr (.inr (.inr (.inl zD))))), (q2, .inr (1, [.ref a1_2, .ref a2_2, .int 0])), (q3, .inr (2, [.ref q1, .ref st1, .ref m1_1, .int 1, .ref m2_1, .ref m3_1, .int 0, .int 0])), (st1, .inr (3, [.ref b1_1, .ref b2_1, .ref b3_1, .ref b4_1, .ref b5_1])), (b1_1, .inr (4, [.ref r1_1, .ref r2_1, .ref r3_1, .int 0])), (b2_1, .inl (T 0, 7, .inl roomF)), (q4, .inr (5, [.ref q2, .ref st1, .ref tx1, .int 0, .int 0, .int 0, .int 0, .double 0, .ref gt1, .ref bg1])), (tx1, .inl (T 2, 120, .inl zI))] := hD
  refine lv_aload_n hx hb d_Ps_init_63 rfl (lv_at hl 0 rfl) ?_
  refine va_new (ci := 6) (fs := [.null, .int 0, .int 0, .null, .float 0, .null, .null, .null, .int 0]) (C := "PageScribe$Canvas") (T := F_Canvas) (N := 9) hx hb hts i_Canvas t_Canvas t_Canvas_ok hown (hts _ k_1_201) (hts _ k_1_202) (hts _ k_1_8) hK hP hD hS hA rfl z_Canvas (Nat.le_of_ble_eq_true rfl) (Nat.le_of_ble_eq_true rfl) d_Ps_init_64 (fun q5 H hP hD hS => ?_)
  have hP : va_P D classes [(h0, .inr (10, [.ref q1, .ref q2, .ref q3, .ref q4, .null, .null])), (q1, .inr (0, [.ref a1_1, .ref a2_1, .ref a3_1, .int 0])), (a1_1, .inl (T 0, 40, .inl zI)), (a2_1, .inl (T 0, 40, .inl zI)), (a3_1, .inl (T 3, 40, .inr (.inr (.inr (.inl zD))))), (q2, .inr (1, [.ref a1_2, .ref a2_2, .int 0])), (q3, .inr (2, [.ref q1, .ref st1, .ref m1_1, .int 1, .ref m2_1, .ref m3_1, .int 0, .int 0])), (st1, .inr (3, [.ref b1_1, .ref b2_1, .ref b3_1, .ref b4_1, .ref b5_1])), (b1_1, .inr (4, [.ref r1_1, .ref r2_1, .ref r3_1, .int 0])), (b2_1, .inl (T 0, 7, .inl roomF)), (q4, .inr (5, [.ref q2, .ref st1, .ref tx1, .int 0, .int 0, .int 0, .int 0, .double 0, .ref gt1, .ref bg1])), (tx1, .inl (T 2, 120, .inl zI)), (q5, .inr (6, [.null, .int 0, .int 0, .null, .float 0, .null, .null, .null, .int 0]))] H := hP
  have hD : va_D A [(h0, .inr (10, [.ref q1, .ref q2, .ref q3, .ref q4, .null, .null])), (q1, .inr (0, [.ref a1_1, .ref a2_1, .ref a3_1, .int 0])), (a1_1, .inl (T 0, 40, .inl zI)), (a2_1, .inl (T 0, 40, .inl zI)), (a3_1, .inl (T 3, 40, .inr (.inr (.inr (.inl zD))))), (q2, .inr (1, [.ref a1_2, .ref a2_2, .int 0])), (q3, .inr (2, [.ref q1, .ref st1, .ref m1_1, .int 1, .ref m2_1, .ref m3_1, .int 0, .int 0])), (st1, .inr (3, [.ref b1_1, .ref b2_1, .ref b3_1, .ref b4_1, .ref b5_1])), (b1_1, .inr (4, [.ref r1_1, .ref r2_1, .ref r3_1, .int 0])), (b2_1, .inl (T 0, 7, .inl roomF)), (q4, .inr (5, [.ref q2, .ref st1, .ref tx1, .int 0, .int 0, .int 0, .int 0, .double 0, .ref gt1, .ref bg1])), (tx1, .inl (T 2, 120, .inl zI)), (q5, .inr (6, [.null, .int 0, .int 0, .null, .float 0, .null, .null, .null, .int 0]))] := hD
  refine lv_dup hx hb d_Ps_init_67 rfl ?_
  refine lv_aload_n hx hb d_Ps_init_68 rfl (lv_at hl 0 rfl) ?_
  refine va_get (D := D) (ci := 10) (v := .ref q1) (C := "PageScribe") (T := F_Ps) (N := 6) hx hb hts i_Ps hown hK hP 0 rfl rfl 0 (by decide) (hts _ k_2_58) (fun _ h9 => h9) rfl d_Ps_init_69 ?_
  refine lv_iload_n hx hb d_Ps_init_72 rfl (lv_at hl 1 rfl) ?_
  refine lv_iload_n hx hb d_Ps_init_73 rfl (lv_at hl 2 rfl) ?_
  refine j_cv (wc := [(q5, .inr (6, [.null, .int 0, .int 0, .null, .float 0, .null, .null, .null, .int 0]))]) (wr := [(h0, .inr (10, [.ref q1, .ref q2, .ref q3, .ref q4, .null, .null])), (q1, .inr (0, [.ref a1_1, .ref a2_1, .ref a3_1, .int 0])), (a1_1, .inl (T 0, 40, .inl zI)), (a2_1, .inl (T 0, 40, .inl zI)), (a3_1, .inl (T 3, 40, .inr (.inr (.inr (.inl zD))))), (q2, .inr (1, [.ref a1_2, .ref a2_2, .int 0])), (q3, .inr (2, [.ref q1, .ref st1, .ref m1_1, .int 1, .ref m2_1, .ref m3_1, .int 0, .int 0])), (st1, .inr (3, [.ref b1_1, .ref b2_1, .ref b3_1, .ref b4_1, .ref b5_1])), (b1_1, .inr (4, [.ref r1_1, .ref r2_1, .ref r3_1, .int 0])), (b2_1, .inl (T 0, 7, .inl roomF)), (q4, .inr (5, [.ref q2, .ref st1, .ref tx1, .int 0, .int 0, .int 0, .int 0, .double 0, .ref gt1, .ref bg1])), (tx1, .inl (T 2, 120, .inl zI))]) hK hP hD hS hA [12] [0, 1, 2, 3, 4, 5, 6, 7, 8, 9, 10, 11] rfl rfl (by decide) (by decide) (va_runI (As := [.ref q1, .int p0, .int p1]) (rest := [.ref q5, .ref h0]) F (c_Canvas_init l D T q5 q1 p0 p1 H.size) (j_cI (k := 3) hts k_1_205 k_1_8 k_1_203 k_1_204 rfl (by decide +kernel) ⟨Nat.le_of_ble_eq_true rfl, Nat.le_of_ble_eq_true rfl⟩) (j_preS hK hP hD [12] rfl (by decide) (fun _ _ _ _ h => h) (fun _ _ _ => trivial)) rfl rfl hl.1 rfl (lv_room (Nat.le_of_ble_eq_true rfl)) d_Ps_init_74 ⟨Nat.le_of_ble_eq_true rfl, Nat.le_of_ble_eq_true rfl⟩) (fun u5 H locs hw hP hD hS => ?_)
  obtain ⟨C1, Rr1, lv1, ac1, al1, be1⟩ := u5
  have hP : va_P D classes [(h0, .inr (10, [.ref q1, .ref q2, .ref q3, .ref q4, .null, .null])), (q1, .inr (0, [.ref a1_1, .ref a2_1, .ref a3_1, .int 0])), (a1_1, .inl (T 0, 40, .inl zI)), (a2_1, .inl (T 0, 40, .inl zI)), (a3_1, .inl (T 3, 40, .inr (.inr (.inr (.inl zD))))), (q2, .inr (1, [.ref a1_2, .ref a2_2, .int 0])), (q3, .inr (2, [.ref q1, .ref st1, .ref m1_1, .int 1, .ref m2_1, .ref m3_1, .int 0, .int 0])), (st1, .inr (3, [.ref b1_1, .ref b2_1, .ref b3_1, .ref b4_1, .ref b5_1])), (b1_1, .inr (4, [.ref r1_1, .ref r2_1, .ref r3_1, .int 0])), (b2_1, .inl (T 0, 7, .inl roomF)), (q4, .inr (5, [.ref q2, .ref st1, .ref tx1, .int 0, .int 0, .int 0, .int 0, .double 0, .ref gt1, .ref bg1])), (tx1, .inl (T 2, 120, .inl zI)), (q5, .inr (6, [.ref q1, .int (nI C1), .int (nI Rr1), .ref lv1, .float 0x3f800000, .ref ac1, .ref al1, .ref be1, .int 0])), (lv1, .inl (T 0, (C1 * Rr1), .inl zI))] H := hP
  have hD : va_D A [(h0, .inr (10, [.ref q1, .ref q2, .ref q3, .ref q4, .null, .null])), (q1, .inr (0, [.ref a1_1, .ref a2_1, .ref a3_1, .int 0])), (a1_1, .inl (T 0, 40, .inl zI)), (a2_1, .inl (T 0, 40, .inl zI)), (a3_1, .inl (T 3, 40, .inr (.inr (.inr (.inl zD))))), (q2, .inr (1, [.ref a1_2, .ref a2_2, .int 0])), (q3, .inr (2, [.ref q1, .ref st1, .ref m1_1, .int 1, .ref m2_1, .ref m3_1, .int 0, .int 0])), (st1, .inr (3, [.ref b1_1, .ref b2_1, .ref b3_1, .ref b4_1, .ref b5_1])), (b1_1, .inr (4, [.ref r1_1, .ref r2_1, .ref r3_1, .int 0])), (b2_1, .inl (T 0, 7, .inl roomF)), (q4, .inr (5, [.ref q2, .ref st1, .ref tx1, .int 0, .int 0, .int 0, .int 0, .double 0, .ref gt1, .ref bg1])), (tx1, .inl (T 2, 120, .inl zI)), (q5, .inr (6, [.ref q1, .int (nI C1), .int (nI Rr1), .ref lv1, .float 0x3f800000, .ref ac1, .ref al1, .ref be1, .int 0])), (lv1, .inl (T 0, (C1 * Rr1), .inl zI))] := hD
  have hw5 : nI C1 = colOf p0 ∧ nI Rr1 = rowOf p1 ∧ C1 ≤ 24 ∧ Rr1 ≤ 16 := hw
  refine va_putF (D := D) (ci := 10) (v := .ref q5) (ty := .object "PageScribe$Canvas") (C := "PageScribe") (T := F_Ps) (N := 6) hx hb hts i_Ps t_Ps t_Ps_ok n_Ps hown hK hP hD hS 0 rfl rfl 4 (by decide) (hts _ k_2_62) (fun _ h9 => h9) rfl hin rfl (by decide +kernel) rfl rfl (Nat.le_of_ble_eq_true rfl) d_Ps_init_77 (fun H locs hP hD hS => ?_)
  have hP : va_P D classes [(h0, .inr (10, [.ref q1, .ref q2, .ref q3, .ref q4, .ref q5, .null])), (q1, .inr (0, [.ref a1_1, .ref a2_1, .ref a3_1, .int 0])), (a1_1, .inl (T 0, 40, .inl zI)), (a2_1, .inl (T 0, 40, .inl zI)), (a3_1, .inl (T 3, 40, .inr (.inr (.inr (.inl zD))))), (q2, .inr (1, [.ref a1_2, .ref a2_2, .int 0])), (q3, .inr (2, [.ref q1, .ref st1, .ref m1_1, .int 1, .ref m2_1, .ref m3_1, .int 0, .int 0])), (st1, .inr (3, [.ref b1_1, .ref b2_1, .ref b3_1, .ref b4_1, .ref b5_1])), (b1_1, .inr (4, [.ref r1_1, .ref r2_1, .ref r3_1, .int 0])), (b2_1, .inl (T 0, 7, .inl roomF)), (q4, .inr (5, [.ref q2, .ref st1, .ref tx1, .int 0, .int 0, .int 0, .int 0, .double 0, .ref gt1, .ref bg1])), (tx1, .inl (T 2, 120, .inl zI)), (q5, .inr (6, [.ref q1, .int (nI C1), .int (nI Rr1), .ref lv1, .float 0x3f800000, .ref ac1, .ref al1, .ref be1, .int 0])), (lv1, .inl (T 0, (C1 * Rr1), .inl zI))] H := hP
  have hD : va_D A [(h0, .inr (10, [.ref q1, .ref q2, .ref q3, .ref q4, .ref q5, .null])), (q1, .inr (0, [.ref a1_1, .ref a2_1, .ref a3_1, .int 0])), (a1_1, .inl (T 0, 40, .inl zI)), (a2_1, .inl (T 0, 40, .inl zI)), (a3_1, .inl (T 3, 40, .inr (.inr (.inr (.inl zD))))), (q2, .inr (1, [.ref a1_2, .ref a2_2, .int 0])), (q3, .inr (2, [.ref q1, .ref st1, .ref m1_1, .int 1, .ref m2_1, .ref m3_1, .int 0, .int 0])), (st1, .inr (3, [.ref b1_1, .ref b2_1, .ref b3_1, .ref b4_1, .ref b5_1])), (b1_1, .inr (4, [.ref r1_1, .ref r2_1, .ref r3_1, .int 0])), (b2_1, .inl (T 0, 7, .inl roomF)), (q4, .inr (5, [.ref q2, .ref st1, .ref tx1, .int 0, .int 0, .int 0, .int 0, .double 0, .ref gt1, .ref bg1])), (tx1, .inl (T 2, 120, .inl zI)), (q5, .inr (6, [.ref q1, .int (nI C1), .int (nI Rr1), .ref lv1, .float 0x3f800000, .ref ac1, .ref al1, .ref be1, .int 0])), (lv1, .inl (T 0, (C1 * Rr1), .inl zI))] := hD
  refine lv_aload_n hx hb d_Ps_init_80 rfl (lv_at hl 0 rfl) ?_
  refine va_new (ci := 7) (fs := [.null, .null, .null, .null, .null, .int 0, .int 0, .int 0, .int 0, .int 0, .int 0]) (C := "PageScribe$Engine") (T := F_Engine) (N := 11) hx hb hts i_Engine t_Engine t_Engine_ok hown (hts _ k_1_236) (hts _ k_1_237) (hts _ k_1_9) hK hP hD hS hA rfl z_Engine (Nat.le_of_ble_eq_true rfl) (Nat.le_of_ble_eq_true rfl) d_Ps_init_81 (fun q6 H hP hD hS => ?_)
  have hP : va_P D classes [(h0, .inr (10, [.ref q1, .ref q2, .ref q3, .ref q4, .ref q5, .null])), (q1, .inr (0, [.ref a1_1, .ref a2_1, .ref a3_1, .int 0])), (a1_1, .inl (T 0, 40, .inl zI)), (a2_1, .inl (T 0, 40, .inl zI)), (a3_1, .inl (T 3, 40, .inr (.inr (.inr (.inl zD))))), (q2, .inr (1, [.ref a1_2, .ref a2_2, .int 0])), (q3, .inr (2, [.ref q1, .ref st1, .ref m1_1, .int 1, .ref m2_1, .ref m3_1, .int 0, .int 0])), (st1, .inr (3, [.ref b1_1, .ref b2_1, .ref b3_1, .ref b4_1, .ref b5_1])), (b1_1, .inr (4, [.ref r1_1, .ref r2_1, .ref r3_1, .int 0])), (b2_1, .inl (T 0, 7, .inl roomF)), (q4, .inr (5, [.ref q2, .ref st1, .ref tx1, .int 0, .int 0, .int 0, .int 0, .double 0, .ref gt1, .ref bg1])), (tx1, .inl (T 2, 120, .inl zI)), (q5, .inr (6, [.ref q1, .int (nI C1), .int (nI Rr1), .ref lv1, .float 0x3f800000, .ref ac1, .ref al1, .ref be1, .int 0])), (lv1, .inl (T 0, (C1 * Rr1), .inl zI)), (q6, .inr (7, [.null, .null, .null, .null, .null, .int 0, .int 0, .int 0, .int 0, .int 0, .int 0]))] H := hP
  have hD : va_D A [(h0, .inr (10, [.ref q1, .ref q2, .ref q3, .ref q4, .ref q5, .null])), (q1, .inr (0, [.ref a1_1, .ref a2_1, .ref a3_1, .int 0])), (a1_1, .inl (T 0, 40, .inl zI)), (a2_1, .inl (T 0, 40, .inl zI)), (a3_1, .inl (T 3, 40, .inr (.inr (.inr (.inl zD))))), (q2, .inr (1, [.ref a1_2, .ref a2_2, .int 0])), (q3, .inr (2, [.ref q1, .ref st1, .ref m1_1, .int 1, .ref m2_1, .ref m3_1, .int 0, .int 0])), (st1, .inr (3, [.ref b1_1, .ref b2_1, .ref b3_1, .ref b4_1, .ref b5_1])), (b1_1, .inr (4, [.ref r1_1, .ref r2_1, .ref r3_1, .int 0])), (b2_1, .inl (T 0, 7, .inl roomF)), (q4, .inr (5, [.ref q2, .ref st1, .ref tx1, .int 0, .int 0, .int 0, .int 0, .double 0, .ref gt1, .ref bg1])), (tx1, .inl (T 2, 120, .inl zI)), (q5, .inr (6, [.ref q1, .int (nI C1), .int (nI Rr1), .ref lv1, .float 0x3f800000, .ref ac1, .ref al1, .ref be1, .int 0])), (lv1, .inl (T 0, (C1 * Rr1), .inl zI)), (q6, .inr (7, [.null, .null, .null, .null, .null, .int 0, .int 0, .int 0, .int 0, .int 0, .int 0]))] := hD
  refine lv_dup hx hb d_Ps_init_84 rfl ?_
  refine lv_aload_n hx hb d_Ps_init_85 rfl (lv_at hl 0 rfl) ?_
  refine va_get (D := D) (ci := 10) (v := .ref q1) (C := "PageScribe") (T := F_Ps) (N := 6) hx hb hts i_Ps hown hK hP 0 rfl rfl 0 (by decide) (hts _ k_2_58) (fun _ h9 => h9) rfl d_Ps_init_86 ?_
  refine lv_aload_n hx hb d_Ps_init_89 rfl (lv_at hl 0 rfl) ?_
  refine va_get (D := D) (ci := 10) (v := .ref q3) (C := "PageScribe") (T := F_Ps) (N := 6) hx hb hts i_Ps hown hK hP 0 rfl rfl 2 (by decide) (hts _ k_2_60) (fun _ h9 => h9) rfl d_Ps_init_90 ?_
  refine lv_aload_n hx hb d_Ps_init_93 rfl (lv_at hl 0 rfl) ?_
  refine va_get (D := D) (ci := 10) (v := .ref q5) (C := "PageScribe") (T := F_Ps) (N := 6) hx hb hts i_Ps hown hK hP 0 rfl rfl 4 (by decide) (hts _ k_2_62) (fun _ h9 => h9) rfl d_Ps_init_94 ?_
  refine j_cv (wc := [(q6, .inr (7, [.null, .null, .null, .null, .null, .int 0, .int 0, .int 0, .int 0, .int 0, .int 0]))]) (wr := [(h0, .inr (10, [.ref q1, .ref q2, .ref q3, .ref q4, .ref q5, .null])), (q1, .inr (0, [.ref a1_1, .ref a2_1, .ref a3_1, .int 0])), (a1_1, .inl (T 0, 40, .inl zI)), (a2_1, .inl (T 0, 40, .inl zI)), (a3_1, .inl (T 3, 40, .inr (.inr (.inr (.inl zD))))), (q2, .inr (1, [.ref a1_2, .ref a2_2, .int 0])), (q3, .inr (2, [.ref q1, .ref st1, .ref m1_1, .int 1, .ref m2_1, .ref m3_1, .int 0, .int 0])), (st1, .inr (3, [.ref b1_1, .ref b2_1, .ref b3_1, .ref b4_1, .ref b5_1])), (b1_1, .inr (4, [.ref r1_1, .ref r2_1, .ref r3_1, .int 0])), (b2_1, .inl (T 0, 7, .inl roomF)), (q4, .inr (5, [.ref q2, .ref st1, .ref tx1, .int 0, .int 0, .int 0, .int 0, .double 0, .ref gt1, .ref bg1])), (tx1, .inl (T 2, 120, .inl zI)), (q5, .inr (6, [.ref q1, .int (nI C1), .int (nI Rr1), .ref lv1, .float 0x3f800000, .ref ac1, .ref al1, .ref be1, .int 0])), (lv1, .inl (T 0, (C1 * Rr1), .inl zI))]) hK hP hD hS hA [14] [0, 1, 2, 3, 4, 5, 6, 7, 8, 9, 10, 11, 12, 13] rfl rfl (by decide) (by decide) (va_runI (As := [.ref q1, .ref q3, .ref q5]) (rest := [.ref q6, .ref h0]) F (c_Engine_init l D T q6 q1 q3 q5 H.size) (j_cI (k := 3) hts k_2_0 k_1_9 k_1_238 k_1_239 rfl (by decide +kernel) ⟨Nat.le_of_ble_eq_true rfl, Nat.le_of_ble_eq_true rfl⟩) (j_preS hK hP hD [14] rfl (by decide) (fun _ _ _ _ h => h) (fun _ _ _ => trivial)) rfl rfl hl.1 rfl (lv_room (Nat.le_of_ble_eq_true rfl)) d_Ps_init_97 ⟨Nat.le_of_ble_eq_true rfl, Nat.le_of_ble_eq_true rfl⟩) (fun u6 H locs hw hP hD hS => ?_)
  obtain ⟨su1, tr1⟩ := u6
  have hP : va_P D classes [(h0, .inr (10, [.ref q1, .ref q2, .ref q3, .ref q4, .ref q5, .null])), (q1, .inr (0, [.ref a1_1, .ref a2_1, .ref a3_1, .int 0])), (a1_1, .inl (T 0, 40, .inl zI)), (a2_1, .inl (T 0, 40, .inl zI)), (a3_1, .inl (T 3, 40, .inr (.inr (.inr (.inl zD))))), (q2, .inr (1, [.ref a1_2, .ref a2_2, .int 0])), (q3, .inr (2, [.ref q1, .ref st1, .ref m1_1, .int 1, .ref m2_1, .ref m3_1, .int 0, .int 0])), (st1, .inr (3, [.ref b1_1, .ref b2_1, .ref b3_1, .ref b4_1, .ref b5_1])), (b1_1, .inr (4, [.ref r1_1, .ref r2_1, .ref r3_1, .int 0])), (b2_1, .inl (T 0, 7, .inl roomF)), (q4, .inr (5, [.ref q2, .ref st1, .ref tx1, .int 0, .int 0, .int 0, .int 0, .double 0, .ref gt1, .ref bg1])), (tx1, .inl (T 2, 120, .inl zI)), (q5, .inr (6, [.ref q1, .int (nI C1), .int (nI Rr1), .ref lv1, .float 0x3f800000, .ref ac1, .ref al1, .ref be1, .int 0])), (lv1, .inl (T 0, (C1 * Rr1), .inl zI)), (q6, .inr (7, [.ref q1, .ref q3, .ref q5, .ref su1, .ref tr1, .int 0, .int 0, .int 0, .int 0, .int 0, .int 0]))] H := hP
  have hD : va_D A [(h0, .inr (10, [.ref q1, .ref q2, .ref q3, .ref q4, .ref q5, .null])), (q1, .inr (0, [.ref a1_1, .ref a2_1, .ref a3_1, .int 0])), (a1_1, .inl (T 0, 40, .inl zI)), (a2_1, .inl (T 0, 40, .inl zI)), (a3_1, .inl (T 3, 40, .inr (.inr (.inr (.inl zD))))), (q2, .inr (1, [.ref a1_2, .ref a2_2, .int 0])), (q3, .inr (2, [.ref q1, .ref st1, .ref m1_1, .int 1, .ref m2_1, .ref m3_1, .int 0, .int 0])), (st1, .inr (3, [.ref b1_1, .ref b2_1, .ref b3_1, .ref b4_1, .ref b5_1])), (b1_1, .inr (4, [.ref r1_1, .ref r2_1, .ref r3_1, .int 0])), (b2_1, .inl (T 0, 7, .inl roomF)), (q4, .inr (5, [.ref q2, .ref st1, .ref tx1, .int 0, .int 0, .int 0, .int 0, .double 0, .ref gt1, .ref bg1])), (tx1, .inl (T 2, 120, .inl zI)), (q5, .inr (6, [.ref q1, .int (nI C1), .int (nI Rr1), .ref lv1, .float 0x3f800000, .ref ac1, .ref al1, .ref be1, .int 0])), (lv1, .inl (T 0, (C1 * Rr1), .inl zI)), (q6, .inr (7, [.ref q1, .ref q3, .ref q5, .ref su1, .ref tr1, .int 0, .int 0, .int 0, .int 0, .int 0, .int 0]))] := hD
  refine va_putF (D := D) (ci := 10) (v := .ref q6) (ty := .object "PageScribe$Engine") (C := "PageScribe") (T := F_Ps) (N := 6) hx hb hts i_Ps t_Ps t_Ps_ok n_Ps hown hK hP hD hS 0 rfl rfl 5 (by decide) (hts _ k_2_63) (fun _ h9 => h9) rfl hin rfl (by decide +kernel) rfl rfl (Nat.le_of_ble_eq_true rfl) d_Ps_init_100 (fun H locs hP hD hS => ?_)
  have hP : va_P D classes [(h0, .inr (10, [.ref q1, .ref q2, .ref q3, .ref q4, .ref q5, .ref q6])), (q1, .inr (0, [.ref a1_1, .ref a2_1, .ref a3_1, .int 0])), (a1_1, .inl (T 0, 40, .inl zI)), (a2_1, .inl (T 0, 40, .inl zI)), (a3_1, .inl (T 3, 40, .inr (.inr (.inr (.inl zD))))), (q2, .inr (1, [.ref a1_2, .ref a2_2, .int 0])), (q3, .inr (2, [.ref q1, .ref st1, .ref m1_1, .int 1, .ref m2_1, .ref m3_1, .int 0, .int 0])), (st1, .inr (3, [.ref b1_1, .ref b2_1, .ref b3_1, .ref b4_1, .ref b5_1])), (b1_1, .inr (4, [.ref r1_1, .ref r2_1, .ref r3_1, .int 0])), (b2_1, .inl (T 0, 7, .inl roomF)), (q4, .inr (5, [.ref q2, .ref st1, .ref tx1, .int 0, .int 0, .int 0, .int 0, .double 0, .ref gt1, .ref bg1])), (tx1, .inl (T 2, 120, .inl zI)), (q5, .inr (6, [.ref q1, .int (nI C1), .int (nI Rr1), .ref lv1, .float 0x3f800000, .ref ac1, .ref al1, .ref be1, .int 0])), (lv1, .inl (T 0, (C1 * Rr1), .inl zI)), (q6, .inr (7, [.ref q1, .ref q3, .ref q5, .ref su1, .ref tr1, .int 0, .int 0, .int 0, .int 0, .int 0, .int 0]))] H := hP
  have hD : va_D A [(h0, .inr (10, [.ref q1, .ref q2, .ref q3, .ref q4, .ref q5, .ref q6])), (q1, .inr (0, [.ref a1_1, .ref a2_1, .ref a3_1, .int 0])), (a1_1, .inl (T 0, 40, .inl zI)), (a2_1, .inl (T 0, 40, .inl zI)), (a3_1, .inl (T 3, 40, .inr (.inr (.inr (.inl zD))))), (q2, .inr (1, [.ref a1_2, .ref a2_2, .int 0])), (q3, .inr (2, [.ref q1, .ref st1, .ref m1_1, .int 1, .ref m2_1, .ref m3_1, .int 0, .int 0])), (st1, .inr (3, [.ref b1_1, .ref b2_1, .ref b3_1, .ref b4_1, .ref b5_1])), (b1_1, .inr (4, [.ref r1_1, .ref r2_1, .ref r3_1, .int 0])), (b2_1, .inl (T 0, 7, .inl roomF)), (q4, .inr (5, [.ref q2, .ref st1, .ref tx1, .int 0, .int 0, .int 0, .int 0, .double 0, .ref gt1, .ref bg1])), (tx1, .inl (T 2, 120, .inl zI)), (q5, .inr (6, [.ref q1, .int (nI C1), .int (nI Rr1), .ref lv1, .float 0x3f800000, .ref ac1, .ref al1, .ref be1, .int 0])), (lv1, .inl (T 0, (C1 * Rr1), .inl zI)), (q6, .inr (7, [.ref q1, .ref q3, .ref q5, .ref su1, .ref tr1, .int 0, .int 0, .int 0, .int 0, .int 0, .int 0]))] := hD
  have hP9 := hP.sub (ws' := [(h0, .inr (10, [.ref q1, .ref q2, .ref q3, .ref q4, .ref q5, .ref q6])), (q1, .inr (0, [.ref a1_1, .ref a2_1, .ref a3_1, .int 0])), (a1_1, .inl (T 0, 40, .inl zI)), (a2_1, .inl (T 0, 40, .inl zI)), (a3_1, .inl (T 3, 40, .inr (.inr (.inr (.inl zD))))), (q2, .inr (1, [.ref a1_2, .ref a2_2, .int 0])), (q3, .inr (2, [.ref q1, .ref st1, .ref m1_1, .int 1, .ref m2_1, .ref m3_1, .int 0, .int 0])), (st1, .inr (3, [.ref b1_1, .ref b2_1, .ref b3_1, .ref b4_1, .ref b5_1])), (b1_1, .inr (4, [.ref r1_1, .ref r2_1, .ref r3_1, .int 0])), (b2_1, .inl (T 0, 7, .inl roomF)), (q4, .inr (5, [.ref q2, .ref st1, .ref tx1, .int 0, .int 0, .int 0, .int 0, .double 0, .ref gt1, .ref bg1])), (tx1, .inl (T 2, 120, .inl zI)), (q5, .inr (6, [.ref q1, .int (nI C1), .int (nI Rr1), .ref lv1, .float 0x3f800000, .ref ac1, .ref al1, .ref be1, .int 0])), (lv1, .inl (T 0, (C1 * Rr1), .inl zI)), (q6, .inr (7, [.ref q1, .ref q3, .ref q5, .ref su1, .ref tr1, .int 0, .int 0, .int 0, .int 0, .int 0, .int 0]))]) [0, 1, 2, 3, 4, 5, 6, 7, 8, 9, 10, 11, 12, 13, 14] rfl
  have hD9 := hD.sub (ws' := [(h0, .inr (10, [.ref q1, .ref q2, .ref q3, .ref q4, .ref q5, .ref q6])), (q1, .inr (0, [.ref a1_1, .ref a2_1, .ref a3_1, .int 0])), (a1_1, .inl (T 0, 40, .inl zI)), (a2_1, .inl (T 0, 40, .inl zI)), (a3_1, .inl (T 3, 40, .inr (.inr (.inr (.inl zD))))), (q2, .inr (1, [.ref a1_2, .ref a2_2, .int 0])), (q3, .inr (2, [.ref q1, .ref st1, .ref m1_1, .int 1, .ref m2_1, .ref m3_1, .int 0, .int 0])), (st1, .inr (3, [.ref b1_1, .ref b2_1, .ref b3_1, .ref b4_1, .ref b5_1])), (b1_1, .inr (4, [.ref r1_1, .ref r2_1, .ref r3_1, .int 0])), (b2_1, .inl (T 0, 7, .inl roomF)), (q4, .inr (5, [.ref q2, .ref st1, .ref tx1, .int 0, .int 0, .int 0, .int 0, .double 0, .ref gt1, .ref bg1])), (tx1, .inl (T 2, 120, .inl zI)), (q5, .inr (6, [.ref q1, .int (nI C1), .int (nI Rr1), .ref lv1, .float 0x3f800000, .ref ac1, .ref al1, .ref be1, .int 0])), (lv1, .inl (T 0, (C1 * Rr1), .inl zI)), (q6, .inr (7, [.ref q1, .ref q3, .ref q5, .ref su1, .ref tr1, .int 0, .int 0, .int 0, .int 0, .int 0, .int 0]))]) [0, 1, 2, 3, 4, 5, 6, 7, 8, 9, 10, 11, 12, 13, 14] (by decide) rfl
  refine W.widen (k := 74) (n := 4809) (Nat.le_of_ble_eq_true rfl) (Nat.le_of_ble_eq_true rfl) ?_
  exact j_vret F hr hlocks hK hS (q1, a1_1, a2_1, a3_1, q2, a1_2, a2_2, q3, st1, m1_1, m2_1, m3_1, b1_1, b2_1, b3_1, b4_1, b5_1, r1_1, r2_1, r3_1, q4, tx1, gt1, bg1, q5, C1, Rr1, lv1, ac1, al1, be1, q6, su1, tr1) hw5 hP9 hD9 d_Ps_init_103
theorem d_Ps_steps_0 : decode prog_1_method_4_code 0 = .ok (.aload_n 0, 1) := by decide +kernel
theorem d_Ps_steps_1 : decode prog_1_method_4_code 1 = .ok (.getfield 59, 3) := by decide +kernel
theorem d_Ps_steps_4 : decode prog_1_method_4_code 4 = .ok (.getfield 107, 3) := by decide +kernel
theorem k_2_29 : Cond.fieldLink "PageScribe" 107 "PageScribe$Engine" "stepsDone" "I" ∈ gw := gw_of (tb_2 (List.mem_of_getElem? (i := 29) (by decide +kernel))) (by decide +kernel)
theorem d_Ps_steps_7 : decode prog_1_method_4_code 7 = .ok (.ireturn, 1) := by decide +kernel
set_option maxHeartbeats 4000000 in
set_option maxRecDepth 100000 in
theorem c_Ps_steps (l : Launch) (D : va_G) (T : Nat → ClassId) (h0 : Nat) (oS : Nat) (oW : Nat) (oM : Nat) (oR : Nat) (oC : Nat) (oE : Nat) (su : Nat) (tr : Nat) (sz : Nat) : Met l ⟨"PageScribe", "steps", "()I"⟩ (wy ⟨"PageScribe", "steps", "()I"⟩ prog_1_method_4_code 1 (some .int)) ({ frames := 0, cells := 0, slots := 0, locals := 0 }) (va_Pc [.ref h0] (Pw D T [(h0, .inr (10, [.ref oS, .ref oW, .ref oM, .ref oR, .ref oC, .ref oE])), (oE, .inr (7, [.ref oS, .ref oM, .ref oC, .ref su, .ref tr, .int 0, .int 0, .int 0, .int 0, .int 0, .int 0]))] sz E0)) (va_Qi (fun (r : Int32) (u : Unit) => r = 0) (fun u t => Bw D T (va_A [(h0, .inr (10, [.ref oS, .ref oW, .ref oM, .ref oR, .ref oC, .ref oE])), (oE, .inr (7, [.ref oS, .ref oM, .ref oC, .ref su, .ref tr, .int 0, .int 0, .int 0, .int 0, .int 0, .int 0]))] sz) [(h0, .inr (10, [.ref oS, .ref oW, .ref oM, .ref oR, .ref oC, .ref oE])), (oE, .inr (7, [.ref oS, .ref oM, .ref oC, .ref su, .ref tr, .int 0, .int 0, .int 0, .int 0, .int 0, .int 0]))] t) (va_A [(h0, .inr (10, [.ref oS, .ref oW, .ref oM, .ref oR, .ref oC, .ref oE])), (oE, .inr (7, [.ref oS, .ref oM, .ref oC, .ref su, .ref tr, .int 0, .int 0, .int 0, .int 0, .int 0, .int 0]))] sz)) 0 0 (va_A [(h0, .inr (10, [.ref oS, .ref oW, .ref oM, .ref oR, .ref oC, .ref oE])), (oE, .inr (7, [.ref oS, .ref oM, .ref oC, .ref su, .ref tr, .int 0, .int 0, .int 0, .int 0, .int 0, .int 0]))] sz) := by
  refine j_met (Qc := fun A => va_Qi (fun (r : Int32) (u : Unit) => r = 0) (fun u t => Bw D T A [(h0, .inr (10, [.ref oS, .ref oW, .ref oM, .ref oR, .ref oC, .ref oE])), (oE, .inr (7, [.ref oS, .ref oM, .ref oC, .ref su, .ref tr, .int 0, .int 0, .int 0, .int 0, .int 0, .int 0]))] t) A) (by decide +kernel) (Nat.le_of_ble_eq_true rfl) (fun p e s m args below meth c A ls F hr hlocks hnm hK hP hD hS hA hN hE hl => ?_)
  obtain ⟨hx, hb, hml, hown, hts⟩ := id F
  have hin := hnm
  have hl : lv_has ls 1 [(0, .ref h0)] := hl
  refine lv_aload_n hx hb d_Ps_steps_0 rfl (lv_at hl 0 rfl) ?_
  refine va_get (D := D) (ci := 10) (v := .ref oE) (C := "PageScribe") (T := F_Ps) (N := 6) hx hb hts i_Ps hown hK hP 0 rfl rfl 5 (by decide) (hts _ k_2_63) (fun _ h9 => h9) rfl d_Ps_steps_1 ?_
  refine va_get (D := D) (ci := 7) (v := .int 0) (C := "PageScribe$Engine") (T := F_Engine) (N := 11) hx hb hts i_Engine hown hK hP 1 rfl rfl 6 (by decide) (hts _ k_2_29) (fun _ h9 => h9) rfl d_Ps_steps_4 ?_
  have hP9 := hP.sub (ws' := [(h0, .inr (10, [.ref oS, .ref oW, .ref oM, .ref oR, .ref oC, .ref oE])), (oE, .inr (7, [.ref oS, .ref oM, .ref oC, .ref su, .ref tr, .int 0, .int 0, .int 0, .int 0, .int 0, .int 0]))]) [0, 1] rfl
  have hD9 := hD.sub (ws' := [(h0, .inr (10, [.ref oS, .ref oW, .ref oM, .ref oR, .ref oC, .ref oE])), (oE, .inr (7, [.ref oS, .ref oM, .ref oC, .ref su, .ref tr, .int 0, .int 0, .int 0, .int 0, .int 0, .int 0]))]) [0, 1] (by decide) rfl
  refine W.widen (k := 0) (n := 0) (Nat.le_of_ble_eq_true rfl) (Nat.le_of_ble_eq_true rfl) ?_
  exact j_iret F hr hlocks hK hS () rfl hP9 hD9 d_Ps_steps_7
theorem d_Ps_fault_0 : decode prog_1_method_5_code 0 = .ok (.aload_n 0, 1) := by decide +kernel
theorem d_Ps_fault_1 : decode prog_1_method_5_code 1 = .ok (.getfield 59, 3) := by decide +kernel
theorem d_Ps_fault_4 : decode prog_1_method_5_code 4 = .ok (.getfield 110, 3) := by decide +kernel
theorem k_2_31 : Cond.fieldLink "PageScribe" 110 "PageScribe$Engine" "latestFault" "I" ∈ gw := gw_of (tb_2 (List.mem_of_getElem? (i := 31) (by decide +kernel))) (by decide +kernel)
theorem d_Ps_fault_7 : decode prog_1_method_5_code 7 = .ok (.ireturn, 1) := by decide +kernel
set_option maxHeartbeats 4000000 in
set_option maxRecDepth 100000 in
theorem c_Ps_fault (l : Launch) (D : va_G) (T : Nat → ClassId) (h0 : Nat) (oS : Nat) (oW : Nat) (oM : Nat) (oR : Nat) (oC : Nat) (oE : Nat) (su : Nat) (tr : Nat) (sz : Nat) : Met l ⟨"PageScribe", "fault", "()I"⟩ (wy ⟨"PageScribe", "fault", "()I"⟩ prog_1_method_5_code 1 (some .int)) ({ frames := 0, cells := 0, slots := 0, locals := 0 }) (va_Pc [.ref h0] (Pw D T [(h0, .inr (10, [.ref oS, .ref oW, .ref oM, .ref oR, .ref oC, .ref oE])), (oE, .inr (7, [.ref oS, .ref oM, .ref oC, .ref su, .ref tr, .int 0, .int 0, .int 0, .int 0, .int 0, .int 0]))] sz E0)) (va_Qi (fun (r : Int32) (u : Unit) => r = 0) (fun u t => Bw D T (va_A [(h0, .inr (10, [.ref oS, .ref oW, .ref oM, .ref oR, .ref oC, .ref oE])), (oE, .inr (7, [.ref oS, .ref oM, .ref oC, .ref su, .ref tr, .int 0, .int 0, .int 0, .int 0, .int 0, .int 0]))] sz) [(h0, .inr (10, [.ref oS, .ref oW, .ref oM, .ref oR, .ref oC, .ref oE])), (oE, .inr (7, [.ref oS, .ref oM, .ref oC, .ref su, .ref tr, .int 0, .int 0, .int 0, .int 0, .int 0, .int 0]))] t) (va_A [(h0, .inr (10, [.ref oS, .ref oW, .ref oM, .ref oR, .ref oC, .ref oE])), (oE, .inr (7, [.ref oS, .ref oM, .ref oC, .ref su, .ref tr, .int 0, .int 0, .int 0, .int 0, .int 0, .int 0]))] sz)) 0 0 (va_A [(h0, .inr (10, [.ref oS, .ref oW, .ref oM, .ref oR, .ref oC, .ref oE])), (oE, .inr (7, [.ref oS, .ref oM, .ref oC, .ref su, .ref tr, .int 0, .int 0, .int 0, .int 0, .int 0, .int 0]))] sz) := by
  refine j_met (Qc := fun A => va_Qi (fun (r : Int32) (u : Unit) => r = 0) (fun u t => Bw D T A [(h0, .inr (10, [.ref oS, .ref oW, .ref oM, .ref oR, .ref oC, .ref oE])), (oE, .inr (7, [.ref oS, .ref oM, .ref oC, .ref su, .ref tr, .int 0, .int 0, .int 0, .int 0, .int 0, .int 0]))] t) A) (by decide +kernel) (Nat.le_of_ble_eq_true rfl) (fun p e s m args below meth c A ls F hr hlocks hnm hK hP hD hS hA hN hE hl => ?_)
  obtain ⟨hx, hb, hml, hown, hts⟩ := id F
  have hin := hnm
  have hl : lv_has ls 1 [(0, .ref h0)] := hl
  refine lv_aload_n hx hb d_Ps_fault_0 rfl (lv_at hl 0 rfl) ?_
  refine va_get (D := D) (ci := 10) (v := .ref oE) (C := "PageScribe") (T := F_Ps) (N := 6) hx hb hts i_Ps hown hK hP 0 rfl rfl 5 (by decide) (hts _ k_2_63) (fun _ h9 => h9) rfl d_Ps_fault_1 ?_
  refine va_get (D := D) (ci := 7) (v := .int 0) (C := "PageScribe$Engine") (T := F_Engine) (N := 11) hx hb hts i_Engine hown hK hP 1 rfl rfl 7 (by decide) (hts _ k_2_31) (fun _ h9 => h9) rfl d_Ps_fault_4 ?_
  have hP9 := hP.sub (ws' := [(h0, .inr (10, [.ref oS, .ref oW, .ref oM, .ref oR, .ref oC, .ref oE])), (oE, .inr (7, [.ref oS, .ref oM, .ref oC, .ref su, .ref tr, .int 0, .int 0, .int 0, .int 0, .int 0, .int 0]))]) [0, 1] rfl
  have hD9 := hD.sub (ws' := [(h0, .inr (10, [.ref oS, .ref oW, .ref oM, .ref oR, .ref oC, .ref oE])), (oE, .inr (7, [.ref oS, .ref oM, .ref oC, .ref su, .ref tr, .int 0, .int 0, .int 0, .int 0, .int 0, .int 0]))]) [0, 1] (by decide) rfl
  refine W.widen (k := 0) (n := 0) (Nat.le_of_ble_eq_true rfl) (Nat.le_of_ble_eq_true rfl) ?_
  exact j_iret F hr hlocks hK hS () rfl hP9 hD9 d_Ps_fault_7
theorem d_Ps_depth_0 : decode prog_1_method_7_code 0 = .ok (.aload_n 0, 1) := by decide +kernel
theorem d_Ps_depth_1 : decode prog_1_method_7_code 1 = .ok (.getfield 12, 3) := by decide +kernel
theorem d_Ps_depth_4 : decode prog_1_method_7_code 4 = .ok (.getfield 120, 3) := by decide +kernel
theorem k_1_51 : Cond.sameField "PageScribe$Stack" "PageScribe$Row" "size" "I" ∈ gw := gw_of (tb_1 (List.mem_of_getElem? (i := 51) (by decide +kernel))) (by decide +kernel)
theorem k_1_55 : Cond.fieldLink "PageScribe" 120 "PageScribe$Stack" "size" "I" ∈ gw := gw_of (tb_1 (List.mem_of_getElem? (i := 55) (by decide +kernel))) (by decide +kernel)
theorem d_Ps_depth_7 : decode prog_1_method_7_code 7 = .ok (.ireturn, 1) := by decide +kernel
set_option maxHeartbeats 4000000 in
set_option maxRecDepth 100000 in
theorem c_Ps_depth (l : Launch) (D : va_G) (T : Nat → ClassId) (h0 : Nat) (oS : Nat) (oW : Nat) (oM : Nat) (oR : Nat) (oC : Nat) (oE : Nat) (k1 : Nat) (k2 : Nat) (k3 : Nat) (sz : Nat) : Met l ⟨"PageScribe", "depth", "()I"⟩ (wy ⟨"PageScribe", "depth", "()I"⟩ prog_1_method_7_code 1 (some .int)) ({ frames := 0, cells := 0, slots := 0, locals := 0 }) (va_Pc [.ref h0] (Pw D T [(h0, .inr (10, [.ref oS, .ref oW, .ref oM, .ref oR, .ref oC, .ref oE])), (oS, .inr (0, [.ref k1, .ref k2, .ref k3, .int 0]))] sz E0)) (va_Qi (fun (r : Int32) (u : Unit) => r = 0) (fun u t => Bw D T (va_A [(h0, .inr (10, [.ref oS, .ref oW, .ref oM, .ref oR, .ref oC, .ref oE])), (oS, .inr (0, [.ref k1, .ref k2, .ref k3, .int 0]))] sz) [(h0, .inr (10, [.ref oS, .ref oW, .ref oM, .ref oR, .ref oC, .ref oE])), (oS, .inr (0, [.ref k1, .ref k2, .ref k3, .int 0]))] t) (va_A [(h0, .inr (10, [.ref oS, .ref oW, .ref oM, .ref oR, .ref oC, .ref oE])), (oS, .inr (0, [.ref k1, .ref k2, .ref k3, .int 0]))] sz)) 0 0 (va_A [(h0, .inr (10, [.ref oS, .ref oW, .ref oM, .ref oR, .ref oC, .ref oE])), (oS, .inr (0, [.ref k1, .ref k2, .ref k3, .int 0]))] sz) := by
  refine j_met (Qc := fun A => va_Qi (fun (r : Int32) (u : Unit) => r = 0) (fun u t => Bw D T A [(h0, .inr (10, [.ref oS, .ref oW, .ref oM, .ref oR, .ref oC, .ref oE])), (oS, .inr (0, [.ref k1, .ref k2, .ref k3, .int 0]))] t) A) (by decide +kernel) (Nat.le_of_ble_eq_true rfl) (fun p e s m args below meth c A ls F hr hlocks hnm hK hP hD hS hA hN hE hl => ?_)
  obtain ⟨hx, hb, hml, hown, hts⟩ := id F
  have hin := hnm
  have hl : lv_has ls 1 [(0, .ref h0)] := hl
  refine lv_aload_n hx hb d_Ps_depth_0 rfl (lv_at hl 0 rfl) ?_
  refine va_get (D := D) (ci := 10) (v := .ref oS) (C := "PageScribe") (T := F_Ps) (N := 6) hx hb hts i_Ps hown hK hP 0 rfl rfl 0 (by decide) (hts _ k_2_58) (fun _ h9 => h9) rfl d_Ps_depth_1 ?_
  refine va_get (D := D) (ci := 0) (v := .int 0) (C := "PageScribe$Stack") (T := F_Stack) (N := 4) hx hb hts i_Stack hown hK hP 1 rfl rfl 3 (by decide) (hts _ k_1_55) (fun x9 h9 => u_same (hts _ k_1_51) x9 h9) rfl d_Ps_depth_4 ?_
  have hP9 := hP.sub (ws' := [(h0, .inr (10, [.ref oS, .ref oW, .ref oM, .ref oR, .ref oC, .ref oE])), (oS, .inr (0, [.ref k1, .ref k2, .ref k3, .int 0]))]) [0, 1] rfl
  have hD9 := hD.sub (ws' := [(h0, .inr (10, [.ref oS, .ref oW, .ref oM, .ref oR, .ref oC, .ref oE])), (oS, .inr (0, [.ref k1, .ref k2, .ref k3, .int 0]))]) [0, 1] (by decide) rfl
  refine W.widen (k := 0) (n := 0) (Nat.le_of_ble_eq_true rfl) (Nat.le_of_ble_eq_true rfl) ?_
  exact j_iret F hr hlocks hK hS () rfl hP9 hD9 d_Ps_depth_7
theorem d_Stack_hasDown_0 : decode prog_9_method_2_code 0 = .ok (.iload_n 1, 1) := by decide +kernel
theorem d_Stack_hasDown_1 : decode prog_9_method_2_code 1 = .ok (.ifCond .lt 15, 3) := by decide +kernel
theorem d_Stack_hasDown_16 : decode prog_9_method_2_code 16 = .ok (.iconst 0, 1) := by decide +kernel
theorem d_Stack_hasDown_17 : decode prog_9_method_2_code 17 = .ok (.ireturn, 1) := by decide +kernel
theorem d_Stack_hasDown_4 : decode prog_9_method_2_code 4 = .ok (.iload_n 1, 1) := by decide +kernel
theorem d_Stack_hasDown_5 : decode prog_9_method_2_code 5 = .ok (.aload_n 0, 1) := by decide +kernel
theorem d_Stack_hasDown_6 : decode prog_9_method_2_code 6 = .ok (.getfield 9, 3) := by decide +kernel
theorem k_1_50 : Cond.fieldLink "PageScribe$Stack" 9 "PageScribe$Stack" "size" "I" ∈ gw := gw_of (tb_1 (List.mem_of_getElem? (i := 50) (by decide +kernel))) (by decide +kernel)
theorem d_Stack_hasDown_9 : decode prog_9_method_2_code 9 = .ok (.if_icmp .ge 7, 3) := by decide +kernel
set_option maxHeartbeats 4000000 in
set_option maxRecDepth 100000 in
theorem c_Stack_hasDown (l : Launch) (D : va_G) (T : Nat → ClassId) (oS : Nat) (k1 : Nat) (k2 : Nat) (k3 : Nat) (p0 : Int32) (sz : Nat) : Met l ⟨"PageScribe$Stack", "hasDown", "(I)Z"⟩ (wy ⟨"PageScribe$Stack", "hasDown", "(I)Z"⟩ prog_9_method_2_code 2 (some .boolean)) ({ frames := 0, cells := 0, slots := 0, locals := 0 }) (va_Pc [.ref oS, .int p0] (Pw D T [(oS, .inr (0, [.ref k1, .ref k2, .ref k3, .int 0]))] sz E0)) (va_Qi (fun (r : Int32) (u : Unit) => r = 0) (fun u t => Bw D T (va_A [(oS, .inr (0, [.ref k1, .ref k2, .ref k3, .int 0]))] sz) [(oS, .inr (0, [.ref k1, .ref k2, .ref k3, .int 0]))] t) (va_A [(oS, .inr (0, [.ref k1, .ref k2, .ref k3, .int 0]))] sz)) 0 0 (va_A [(oS, .inr (0, [.ref k1, .ref k2, .ref k3, .int 0]))] sz) := by
  refine j_met (Qc := fun A => va_Qi (fun (r : Int32) (u : Unit) => r = 0) (fun u t => Bw D T A [(oS, .inr (0, [.ref k1, .ref k2, .ref k3, .int 0]))] t) A) (by decide +kernel) (Nat.le_of_ble_eq_true rfl) (fun p e s m args below meth c A ls F hr hlocks hnm hK hP hD hS hA hN hE hl => ?_)
  obtain ⟨hx, hb, hml, hown, hts⟩ := id F
  have hin := hnm
  have hl : lv_has ls 2 [(0, .ref oS), (1, .int p0)] := hl
  refine lv_iload_n hx hb d_Stack_hasDown_0 rfl (lv_at hl 1 rfl) ?_
  refine lv_if_lt (tgt := 16) hx hb d_Stack_hasDown_1 (by decide) (fun c_1 => ?_) (fun c_1 => ?_)
  · refine lv_iconst (v := 0) hx hb d_Stack_hasDown_16 (by decide) ?_
    have hP9 := hP.sub (ws' := [(oS, .inr (0, [.ref k1, .ref k2, .ref k3, .int 0]))]) [0] rfl
    have hD9 := hD.sub (ws' := [(oS, .inr (0, [.ref k1, .ref k2, .ref k3, .int 0]))]) [0] (by decide) rfl
    refine W.widen (k := 0) (n := 0) (Nat.le_of_ble_eq_true rfl) (Nat.le_of_ble_eq_true rfl) ?_
    exact j_zret F hr rfl hlocks hK hS () rfl hP9 hD9 d_Stack_hasDown_17
  · refine lv_iload_n hx hb d_Stack_hasDown_4 rfl (lv_at hl 1 rfl) ?_
    refine lv_aload_n hx hb d_Stack_hasDown_5 rfl (lv_at hl 0 rfl) ?_
    refine va_get (D := D) (ci := 0) (v := .int 0) (C := "PageScribe$Stack") (T := F_Stack) (N := 4) hx hb hts i_Stack hown hK hP 0 rfl rfl 3 (by decide) (hts _ k_1_50) (fun x9 h9 => u_same (hts _ k_1_51) x9 h9) rfl d_Stack_hasDown_6 ?_
    refine lv_icmp_ge (tgt := 16) hx hb d_Stack_hasDown_9 (by decide) (fun c_9 => ?_) (fun c_9 => absurd c_9 (fun q => q (Int32.not_lt.mp c_1)))
    refine lv_iconst (v := 0) hx hb d_Stack_hasDown_16 (by decide) ?_
    have hP9 := hP.sub (ws' := [(oS, .inr (0, [.ref k1, .ref k2, .ref k3, .int 0]))]) [0] rfl
    have hD9 := hD.sub (ws' := [(oS, .inr (0, [.ref k1, .ref k2, .ref k3, .int 0]))]) [0] (by decide) rfl
    refine W.widen (k := 0) (n := 0) (Nat.le_of_ble_eq_true rfl) (Nat.le_of_ble_eq_true rfl) ?_
    exact j_zret F hr rfl hlocks hK hS () rfl hP9 hD9 d_Stack_hasDown_17
theorem d_Ps_letter_0 : decode prog_1_method_11_code 0 = .ok (.aload_n 0, 1) := by decide +kernel
theorem d_Ps_letter_1 : decode prog_1_method_11_code 1 = .ok (.getfield 12, 3) := by decide +kernel
theorem d_Ps_letter_4 : decode prog_1_method_11_code 4 = .ok (.iload_n 1, 1) := by decide +kernel
theorem d_Ps_letter_5 : decode prog_1_method_11_code 5 = .ok (.invokevirtual 123, 3) := by decide +kernel
theorem k_2_116 : Cond.code ⟨"PageScribe$Stack", "hasDown", "(I)Z"⟩ prog_9_method_2_code 2 (some .boolean) ∈ gw := gw_of (tb_2 (List.mem_of_getElem? (i := 116) (by decide +kernel))) (by decide +kernel)
theorem k_2_113 : Cond.methodLink "PageScribe" 123 ⟨"PageScribe$Stack", "hasDown", "(I)Z"⟩ ∈ gw := gw_of (tb_2 (List.mem_of_getElem? (i := 113) (by decide +kernel))) (by decide +kernel)
theorem k_2_114 : Cond.instanceMethod ⟨"PageScribe$Stack", "hasDown", "(I)Z"⟩ ∈ gw := gw_of (tb_2 (List.mem_of_getElem? (i := 114) (by decide +kernel))) (by decide +kernel)
theorem k_2_115 : Cond.selects "PageScribe$Stack" ⟨"PageScribe$Stack", "hasDown", "(I)Z"⟩ ⟨"PageScribe$Stack", "hasDown", "(I)Z"⟩ ∈ gw := gw_of (tb_2 (List.mem_of_getElem? (i := 115) (by decide +kernel))) (by decide +kernel)
theorem d_Ps_letter_8 : decode prog_1_method_11_code 8 = .ok (.ifCond .eq 18, 3) := by decide +kernel
theorem d_Ps_letter_26 : decode prog_1_method_11_code 26 = .ok (.iconst (-1), 1) := by decide +kernel
theorem d_Ps_letter_27 : decode prog_1_method_11_code 27 = .ok (.ireturn, 1) := by decide +kernel
set_option maxHeartbeats 4000000 in
set_option maxRecDepth 100000 in
theorem c_Ps_letter (l : Launch) (D : va_G) (T : Nat → ClassId) (h0 : Nat) (oS : Nat) (oW : Nat) (oM : Nat) (oR : Nat) (oC : Nat) (oE : Nat) (k1 : Nat) (k2 : Nat) (k3 : Nat) (p0 : Int32) (p1 : Int32) (sz : Nat) : Met l ⟨"PageScribe", "letter", "(II)I"⟩ (wy ⟨"PageScribe", "letter", "(II)I"⟩ prog_1_method_11_code 3 (some .int)) ({ frames := 1, cells := 0, slots := 0, locals := 70 }) (va_Pc [.ref h0, .int p0, .int p1] (Pw D T [(h0, .inr (10, [.ref oS, .ref oW, .ref oM, .ref oR, .ref oC, .ref oE])), (oS, .inr (0, [.ref k1, .ref k2, .ref k3, .int 0]))] sz E0)) (va_Qi (fun (r : Int32) (u : Unit) => r = -1) (fun u t => Bw D T (va_A [(h0, .inr (10, [.ref oS, .ref oW, .ref oM, .ref oR, .ref oC, .ref oE])), (oS, .inr (0, [.ref k1, .ref k2, .ref k3, .int 0]))] sz) [(h0, .inr (10, [.ref oS, .ref oW, .ref oM, .ref oR, .ref oC, .ref oE])), (oS, .inr (0, [.ref k1, .ref k2, .ref k3, .int 0]))] t) (va_A [(h0, .inr (10, [.ref oS, .ref oW, .ref oM, .ref oR, .ref oC, .ref oE])), (oS, .inr (0, [.ref k1, .ref k2, .ref k3, .int 0]))] sz)) 0 0 (va_A [(h0, .inr (10, [.ref oS, .ref oW, .ref oM, .ref oR, .ref oC, .ref oE])), (oS, .inr (0, [.ref k1, .ref k2, .ref k3, .int 0]))] sz) := by
  refine j_met (Qc := fun A => va_Qi (fun (r : Int32) (u : Unit) => r = -1) (fun u t => Bw D T A [(h0, .inr (10, [.ref oS, .ref oW, .ref oM, .ref oR, .ref oC, .ref oE])), (oS, .inr (0, [.ref k1, .ref k2, .ref k3, .int 0]))] t) A) (by decide +kernel) (Nat.le_of_ble_eq_true rfl) (fun p e s m args below meth c A ls F hr hlocks hnm hK hP hD hS hA hN hE hl => ?_)
  obtain ⟨hx, hb, hml, hown, hts⟩ := id F
  have hin := hnm
  have hl : lv_has ls 3 [(0, .ref h0), (1, .int p0), (2, .int p1)] := hl
  refine lv_aload_n hx hb d_Ps_letter_0 rfl (lv_at hl 0 rfl) ?_
  refine va_get (D := D) (ci := 10) (v := .ref oS) (C := "PageScribe") (T := F_Ps) (N := 6) hx hb hts i_Ps hown hK hP 0 rfl rfl 0 (by decide) (hts _ k_2_58) (fun _ h9 => h9) rfl d_Ps_letter_1 ?_
  refine lv_iload_n hx hb d_Ps_letter_4 rfl (lv_at hl 1 rfl) ?_
  refine j_ci (wc := [(oS, .inr (0, [.ref k1, .ref k2, .ref k3, .int 0]))]) (wr := [(h0, .inr (10, [.ref oS, .ref oW, .ref oM, .ref oR, .ref oC, .ref oE]))]) hK hP hD hS hA [1] [0] rfl rfl (by decide) (by decide) (va_runV (As := [.int p0]) (rest := []) F (c_Stack_hasDown l D T oS k1 k2 k3 p0 s.heap.size) (j_cV (k := 1) (C := "PageScribe$Stack") hts k_2_116 k_1_3 k_2_113 k_2_114 k_2_115 (by decide +kernel) ⟨Nat.le_of_ble_eq_true rfl, Nat.le_of_ble_eq_true rfl⟩) (j_preV (q0 := 1) (ci := 0) hK hP hD [1] rfl (by decide) rfl rfl (fun _ _ _ _ h => h) (fun _ _ _ => trivial)) rfl rfl hl.1 rfl (lv_room (Nat.le_of_ble_eq_true rfl)) d_Ps_letter_5 ⟨Nat.le_of_ble_eq_true rfl, Nat.le_of_ble_eq_true rfl⟩) (fun rv1 u1 H locs hw hP hD hS => ?_)
  have hP : va_P D classes [(h0, .inr (10, [.ref oS, .ref oW, .ref oM, .ref oR, .ref oC, .ref oE])), (oS, .inr (0, [.ref k1, .ref k2, .ref k3, .int 0]))] H := hP
  have hD : va_D A [(h0, .inr (10, [.ref oS, .ref oW, .ref oM, .ref oR, .ref oC, .ref oE])), (oS, .inr (0, [.ref k1, .ref k2, .ref k3, .int 0]))] := hD
  have hw1 : rv1 = 0 := hw
  refine j_eqi (y := 0) hw1 ?_
  refine lv_if_eq (tgt := 26) hx hb d_Ps_letter_8 (by decide) (fun _ => ?_) (fun c9 => absurd c9 (by decide +kernel))
  refine lv_iconst (v := (-1)) hx hb d_Ps_letter_26 (by decide) ?_
  have hP9 := hP.sub (ws' := [(h0, .inr (10, [.ref oS, .ref oW, .ref oM, .ref oR, .ref oC, .ref oE])), (oS, .inr (0, [.ref k1, .ref k2, .ref k3, .int 0]))]) [0, 1] rfl
  have hD9 := hD.sub (ws' := [(h0, .inr (10, [.ref oS, .ref oW, .ref oM, .ref oR, .ref oC, .ref oE])), (oS, .inr (0, [.ref k1, .ref k2, .ref k3, .int 0]))]) [0, 1] (by decide) rfl
  refine W.widen (k := 0) (n := 0) (Nat.le_of_ble_eq_true rfl) (Nat.le_of_ble_eq_true rfl) ?_
  exact j_iret F hr hlocks hK hS () rfl hP9 hD9 d_Ps_letter_27
theorem d_Store_dictsMade_0 : decode prog_10_method_5_code 0 = .ok (.iconst 0, 1) := by decide +kernel
theorem d_Store_dictsMade_1 : decode prog_10_method_5_code 1 = .ok (.istore_n 1, 1) := by decide +kernel
theorem d_Store_dictsMade_2 : decode prog_10_method_5_code 2 = .ok (.iconst 1, 1) := by decide +kernel
theorem d_Store_dictsMade_3 : decode prog_10_method_5_code 3 = .ok (.istore_n 2, 1) := by decide +kernel
theorem d_Store_dictsMade_4 : decode prog_10_method_5_code 4 = .ok (.iload_n 2, 1) := by decide +kernel
theorem d_Store_dictsMade_5 : decode prog_10_method_5_code 5 = .ok (.bipush 7, 2) := by decide +kernel
theorem d_Store_dictsMade_7 : decode prog_10_method_5_code 7 = .ok (.if_icmp .ge 26, 3) := by decide +kernel
theorem d_Store_dictsMade_10 : decode prog_10_method_5_code 10 = .ok (.iload_n 1, 1) := by decide +kernel
theorem d_Store_dictsMade_11 : decode prog_10_method_5_code 11 = .ok (.aload_n 0, 1) := by decide +kernel
theorem d_Store_dictsMade_12 : decode prog_10_method_5_code 12 = .ok (.getfield 20, 3) := by decide +kernel
theorem d_Store_dictsMade_15 : decode prog_10_method_5_code 15 = .ok (.iload_n 2, 1) := by decide +kernel
theorem d_Store_dictsMade_16 : decode prog_10_method_5_code 16 = .ok (.iaload, 1) := by decide +kernel
theorem d_Store_dictsMade_17 : decode prog_10_method_5_code 17 = .ok (.ifCond .le 7, 3) := by decide +kernel
theorem d_Store_dictsMade_24 : decode prog_10_method_5_code 24 = .ok (.iconst 0, 1) := by decide +kernel
theorem d_Store_dictsMade_25 : decode prog_10_method_5_code 25 = .ok (.iadd, 1) := by decide +kernel
theorem d_Store_dictsMade_26 : decode prog_10_method_5_code 26 = .ok (.istore_n 1, 1) := by decide +kernel
theorem d_Store_dictsMade_27 : decode prog_10_method_5_code 27 = .ok (.iinc 2 1, 3) := by decide +kernel
theorem d_Store_dictsMade_30 : decode prog_10_method_5_code 30 = .ok (.goto (-26), 3) := by decide +kernel
theorem d_Store_dictsMade_33 : decode prog_10_method_5_code 33 = .ok (.iload_n 1, 1) := by decide +kernel
theorem d_Store_dictsMade_34 : decode prog_10_method_5_code 34 = .ok (.ireturn, 1) := by decide +kernel
set_option maxHeartbeats 4000000 in
set_option maxRecDepth 100000 in
theorem c_Store_dictsMade (l : Launch) (D : va_G) (T : Nat → ClassId) (st : Nat) (b1 : Nat) (b2 : Nat) (b3 : Nat) (b4 : Nat) (b5 : Nat) (sz : Nat) : Met l ⟨"PageScribe$Store", "dictsMade", "()I"⟩ (wy ⟨"PageScribe$Store", "dictsMade", "()I"⟩ prog_10_method_5_code 3 (some .int)) ({ frames := 0, cells := 0, slots := 0, locals := 0 }) (va_Pc [.ref st] (Pw D T [(st, .inr (3, [.ref b1, .ref b2, .ref b3, .ref b4, .ref b5])), (b2, .inl (T 0, 7, .inl roomF))] sz E0)) (va_Qi (fun (r : Int32) (u : Unit) => r = 0) (fun u t => Bw D T (va_A [(st, .inr (3, [.ref b1, .ref b2, .ref b3, .ref b4, .ref b5])), (b2, .inl (T 0, 7, .inl roomF))] sz) [(st, .inr (3, [.ref b1, .ref b2, .ref b3, .ref b4, .ref b5])), (b2, .inl (T 0, 7, .inl roomF))] t) (va_A [(st, .inr (3, [.ref b1, .ref b2, .ref b3, .ref b4, .ref b5])), (b2, .inl (T 0, 7, .inl roomF))] sz)) 0 0 (va_A [(st, .inr (3, [.ref b1, .ref b2, .ref b3, .ref b4, .ref b5])), (b2, .inl (T 0, 7, .inl roomF))] sz) := by
  refine j_met (Qc := fun A => va_Qi (fun (r : Int32) (u : Unit) => r = 0) (fun u t => Bw D T A [(st, .inr (3, [.ref b1, .ref b2, .ref b3, .ref b4, .ref b5])), (b2, .inl (T 0, 7, .inl roomF))] t) A) (by decide +kernel) (Nat.le_of_ble_eq_true rfl) (fun p e s m args below meth c A ls F hr hlocks hnm hK hP hD hS hA hN hE hl => ?_)
  obtain ⟨hx, hb, hml, hown, hts⟩ := id F
  have hin := hnm
  have hl : lv_has ls 3 [(0, .ref st)] := hl
  refine lv_iconst (v := 0) hx hb d_Store_dictsMade_0 (by decide) ?_
  refine lv_istore_n (lv' := [(1, .int 0), (0, .ref st)]) hx hb d_Store_dictsMade_1 rfl hl (by decide) rfl (fun ls hl => ?_)
  refine lv_iconst (v := 1) hx hb d_Store_dictsMade_2 (by decide) ?_
  refine lv_istore_n (lv' := [(2, .int 1), (1, .int 0), (0, .ref st)]) hx hb d_Store_dictsMade_3 rfl hl (by decide) rfl (fun ls hl => ?_)
  refine lv_iload_n hx hb d_Store_dictsMade_4 rfl (lv_at hl 0 rfl) ?_
  refine lv_bipush (v := 7) hx hb d_Store_dictsMade_5 (by decide) ?_
  refine lv_icmp_ge (tgt := 33) hx hb d_Store_dictsMade_7 (by decide) (fun c9 => absurd c9 (by decide +kernel)) (fun _ => ?_)
  refine lv_iload_n hx hb d_Store_dictsMade_10 rfl (lv_at hl 1 rfl) ?_
  refine lv_aload_n hx hb d_Store_dictsMade_11 rfl (lv_at hl 2 rfl) ?_
  refine va_get (D := D) (ci := 3) (v := .ref b2) (C := "PageScribe$Store") (T := F_Store) (N := 5) hx hb hts i_Store hown hK hP 0 rfl rfl 1 (by decide) (hts _ k_1_111) (fun _ h9 => h9) rfl d_Store_dictsMade_12 ?_
  refine lv_iload_n hx hb d_Store_dictsMade_15 rfl (lv_at hl 0 rfl) ?_
  refine va_iald hx hb hK hP 1 0 rfl rfl (by unfold vp_in; decide +kernel) d_Store_dictsMade_16 ?_
  refine j_eqi (y := 0) (by decide +kernel) ?_
  refine lv_if_le (tgt := 24) hx hb d_Store_dictsMade_17 (by decide) (fun _ => ?_) (fun c9 => absurd c9 (by decide +kernel))
  refine lv_iconst (v := 0) hx hb d_Store_dictsMade_24 (by decide) ?_
  refine lv_iadd hx hb d_Store_dictsMade_25 ?_
  refine j_eqi (y := 0) (by decide +kernel) ?_
  refine lv_istore_n (lv' := [(1, .int 0), (2, .int 1), (0, .ref st)]) hx hb d_Store_dictsMade_26 rfl hl (by decide) rfl (fun ls hl => ?_)
  refine lv_iinc (v := 2) (lv' := [(2, .int 2), (1, .int 0), (0, .ref st)]) hx hb d_Store_dictsMade_27 hl (k := 1) rfl (by decide +kernel) (by decide) rfl (fun ls hl => ?_)
  refine lv_goto (tgt := 4) hx hb d_Store_dictsMade_30 (by decide) ?_
  refine lv_iload_n hx hb d_Store_dictsMade_4 rfl (lv_at hl 0 rfl) ?_
  refine lv_bipush (v := 7) hx hb d_Store_dictsMade_5 (by decide) ?_
  refine lv_icmp_ge (tgt := 33) hx hb d_Store_dictsMade_7 (by decide) (fun c9 => absurd c9 (by decide +kernel)) (fun _ => ?_)
  refine lv_iload_n hx hb d_Store_dictsMade_10 rfl (lv_at hl 1 rfl) ?_
  refine lv_aload_n hx hb d_Store_dictsMade_11 rfl (lv_at hl 2 rfl) ?_
  refine va_get (D := D) (ci := 3) (v := .ref b2) (C := "PageScribe$Store") (T := F_Store) (N := 5) hx hb hts i_Store hown hK hP 0 rfl rfl 1 (by decide) (hts _ k_1_111) (fun _ h9 => h9) rfl d_Store_dictsMade_12 ?_
  refine lv_iload_n hx hb d_Store_dictsMade_15 rfl (lv_at hl 0 rfl) ?_
  refine va_iald hx hb hK hP 1 0 rfl rfl (by unfold vp_in; decide +kernel) d_Store_dictsMade_16 ?_
  refine j_eqi (y := 0) (by decide +kernel) ?_
  refine lv_if_le (tgt := 24) hx hb d_Store_dictsMade_17 (by decide) (fun _ => ?_) (fun c9 => absurd c9 (by decide +kernel))
  refine lv_iconst (v := 0) hx hb d_Store_dictsMade_24 (by decide) ?_
  refine lv_iadd hx hb d_Store_dictsMade_25 ?_
  refine j_eqi (y := 0) (by decide +kernel) ?_
  refine lv_istore_n (lv' := [(1, .int 0), (2, .int 2), (0, .ref st)]) hx hb d_Store_dictsMade_26 rfl hl (by decide) rfl (fun ls hl => ?_)
  refine lv_iinc (v := 3) (lv' := [(2, .int 3), (1, .int 0), (0, .ref st)]) hx hb d_Store_dictsMade_27 hl (k := 1) rfl (by decide +kernel) (by decide) rfl (fun ls hl => ?_)
  refine lv_goto (tgt := 4) hx hb d_Store_dictsMade_30 (by decide) ?_
  refine lv_iload_n hx hb d_Store_dictsMade_4 rfl (lv_at hl 0 rfl) ?_
  refine lv_bipush (v := 7) hx hb d_Store_dictsMade_5 (by decide) ?_
  refine lv_icmp_ge (tgt := 33) hx hb d_Store_dictsMade_7 (by decide) (fun c9 => absurd c9 (by decide +kernel)) (fun _ => ?_)
  refine lv_iload_n hx hb d_Store_dictsMade_10 rfl (lv_at hl 1 rfl) ?_
  refine lv_aload_n hx hb d_Store_dictsMade_11 rfl (lv_at hl 2 rfl) ?_
  refine va_get (D := D) (ci := 3) (v := .ref b2) (C := "PageScribe$Store") (T := F_Store) (N := 5) hx hb hts i_Store hown hK hP 0 rfl rfl 1 (by decide) (hts _ k_1_111) (fun _ h9 => h9) rfl d_Store_dictsMade_12 ?_
  refine lv_iload_n hx hb d_Store_dictsMade_15 rfl (lv_at hl 0 rfl) ?_
  refine va_iald hx hb hK hP 1 0 rfl rfl (by unfold vp_in; decide +kernel) d_Store_dictsMade_16 ?_
  refine j_eqi (y := 0) (by decide +kernel) ?_
  refine lv_if_le (tgt := 24) hx hb d_Store_dictsMade_17 (by decide) (fun _ => ?_) (fun c9 => absurd c9 (by decide +kernel))
  refine lv_iconst (v := 0) hx hb d_Store_dictsMade_24 (by decide) ?_
  refine lv_iadd hx hb d_Store_dictsMade_25 ?_
  refine j_eqi (y := 0) (by decide +kernel) ?_
  refine lv_istore_n (lv' := [(1, .int 0), (2, .int 3), (0, .ref st)]) hx hb d_Store_dictsMade_26 rfl hl (by decide) rfl (fun ls hl => ?_)
  refine lv_iinc (v := 4) (lv' := [(2, .int 4), (1, .int 0), (0, .ref st)]) hx hb d_Store_dictsMade_27 hl (k := 1) rfl (by decide +kernel) (by decide) rfl (fun ls hl => ?_)
  refine lv_goto (tgt := 4) hx hb d_Store_dictsMade_30 (by decide) ?_
  refine lv_iload_n hx hb d_Store_dictsMade_4 rfl (lv_at hl 0 rfl) ?_
  refine lv_bipush (v := 7) hx hb d_Store_dictsMade_5 (by decide) ?_
  refine lv_icmp_ge (tgt := 33) hx hb d_Store_dictsMade_7 (by decide) (fun c9 => absurd c9 (by decide +kernel)) (fun _ => ?_)
  refine lv_iload_n hx hb d_Store_dictsMade_10 rfl (lv_at hl 1 rfl) ?_
  refine lv_aload_n hx hb d_Store_dictsMade_11 rfl (lv_at hl 2 rfl) ?_
  refine va_get (D := D) (ci := 3) (v := .ref b2) (C := "PageScribe$Store") (T := F_Store) (N := 5) hx hb hts i_Store hown hK hP 0 rfl rfl 1 (by decide) (hts _ k_1_111) (fun _ h9 => h9) rfl d_Store_dictsMade_12 ?_
  refine lv_iload_n hx hb d_Store_dictsMade_15 rfl (lv_at hl 0 rfl) ?_
  refine va_iald hx hb hK hP 1 0 rfl rfl (by unfold vp_in; decide +kernel) d_Store_dictsMade_16 ?_
  refine j_eqi (y := 0) (by decide +kernel) ?_
  refine lv_if_le (tgt := 24) hx hb d_Store_dictsMade_17 (by decide) (fun _ => ?_) (fun c9 => absurd c9 (by decide +kernel))
  refine lv_iconst (v := 0) hx hb d_Store_dictsMade_24 (by decide) ?_
  refine lv_iadd hx hb d_Store_dictsMade_25 ?_
  refine j_eqi (y := 0) (by decide +kernel) ?_
  refine lv_istore_n (lv' := [(1, .int 0), (2, .int 4), (0, .ref st)]) hx hb d_Store_dictsMade_26 rfl hl (by decide) rfl (fun ls hl => ?_)
  refine lv_iinc (v := 5) (lv' := [(2, .int 5), (1, .int 0), (0, .ref st)]) hx hb d_Store_dictsMade_27 hl (k := 1) rfl (by decide +kernel) (by decide) rfl (fun ls hl => ?_)
  refine lv_goto (tgt := 4) hx hb d_Store_dictsMade_30 (by decide) ?_
  refine lv_iload_n hx hb d_Store_dictsMade_4 rfl (lv_at hl 0 rfl) ?_
  refine lv_bipush (v := 7) hx hb d_Store_dictsMade_5 (by decide) ?_
  refine lv_icmp_ge (tgt := 33) hx hb d_Store_dictsMade_7 (by decide) (fun c9 => absurd c9 (by decide +kernel)) (fun _ => ?_)
  refine lv_iload_n hx hb d_Store_dictsMade_10 rfl (lv_at hl 1 rfl) ?_
  refine lv_aload_n hx hb d_Store_dictsMade_11 rfl (lv_at hl 2 rfl) ?_
  refine va_get (D := D) (ci := 3) (v := .ref b2) (C := "PageScribe$Store") (T := F_Store) (N := 5) hx hb hts i_Store hown hK hP 0 rfl rfl 1 (by decide) (hts _ k_1_111) (fun _ h9 => h9) rfl d_Store_dictsMade_12 ?_
  refine lv_iload_n hx hb d_Store_dictsMade_15 rfl (lv_at hl 0 rfl) ?_
  refine va_iald hx hb hK hP 1 0 rfl rfl (by unfold vp_in; decide +kernel) d_Store_dictsMade_16 ?_
  refine j_eqi (y := 0) (by decide +kernel) ?_
  refine lv_if_le (tgt := 24) hx hb d_Store_dictsMade_17 (by decide) (fun _ => ?_) (fun c9 => absurd c9 (by decide +kernel))
  refine lv_iconst (v := 0) hx hb d_Store_dictsMade_24 (by decide) ?_
  refine lv_iadd hx hb d_Store_dictsMade_25 ?_
  refine j_eqi (y := 0) (by decide +kernel) ?_
  refine lv_istore_n (lv' := [(1, .int 0), (2, .int 5), (0, .ref st)]) hx hb d_Store_dictsMade_26 rfl hl (by decide) rfl (fun ls hl => ?_)
  refine lv_iinc (v := 6) (lv' := [(2, .int 6), (1, .int 0), (0, .ref st)]) hx hb d_Store_dictsMade_27 hl (k := 1) rfl (by decide +kernel) (by decide) rfl (fun ls hl => ?_)
  refine lv_goto (tgt := 4) hx hb d_Store_dictsMade_30 (by decide) ?_
  refine lv_iload_n hx hb d_Store_dictsMade_4 rfl (lv_at hl 0 rfl) ?_
  refine lv_bipush (v := 7) hx hb d_Store_dictsMade_5 (by decide) ?_
  refine lv_icmp_ge (tgt := 33) hx hb d_Store_dictsMade_7 (by decide) (fun c9 => absurd c9 (by decide +kernel)) (fun _ => ?_)
  refine lv_iload_n hx hb d_Store_dictsMade_10 rfl (lv_at hl 1 rfl) ?_
  refine lv_aload_n hx hb d_Store_dictsMade_11 rfl (lv_at hl 2 rfl) ?_
  refine va_get (D := D) (ci := 3) (v := .ref b2) (C := "PageScribe$Store") (T := F_Store) (N := 5) hx hb hts i_Store hown hK hP 0 rfl rfl 1 (by decide) (hts _ k_1_111) (fun _ h9 => h9) rfl d_Store_dictsMade_12 ?_
  refine lv_iload_n hx hb d_Store_dictsMade_15 rfl (lv_at hl 0 rfl) ?_
  refine va_iald hx hb hK hP 1 0 rfl rfl (by unfold vp_in; decide +kernel) d_Store_dictsMade_16 ?_
  refine j_eqi (y := 0) (by decide +kernel) ?_
  refine lv_if_le (tgt := 24) hx hb d_Store_dictsMade_17 (by decide) (fun _ => ?_) (fun c9 => absurd c9 (by decide +kernel))
  refine lv_iconst (v := 0) hx hb d_Store_dictsMade_24 (by decide) ?_
  refine lv_iadd hx hb d_Store_dictsMade_25 ?_
  refine j_eqi (y := 0) (by decide +kernel) ?_
  refine lv_istore_n (lv' := [(1, .int 0), (2, .int 6), (0, .ref st)]) hx hb d_Store_dictsMade_26 rfl hl (by decide) rfl (fun ls hl => ?_)
  refine lv_iinc (v := 7) (lv' := [(2, .int 7), (1, .int 0), (0, .ref st)]) hx hb d_Store_dictsMade_27 hl (k := 1) rfl (by decide +kernel) (by decide) rfl (fun ls hl => ?_)
  refine lv_goto (tgt := 4) hx hb d_Store_dictsMade_30 (by decide) ?_
  refine lv_iload_n hx hb d_Store_dictsMade_4 rfl (lv_at hl 0 rfl) ?_
  refine lv_bipush (v := 7) hx hb d_Store_dictsMade_5 (by decide) ?_
  refine lv_icmp_ge (tgt := 33) hx hb d_Store_dictsMade_7 (by decide) (fun _ => ?_) (fun c9 => absurd c9 (by decide +kernel))
  refine lv_iload_n hx hb d_Store_dictsMade_33 rfl (lv_at hl 1 rfl) ?_
  have hP9 := hP.sub (ws' := [(st, .inr (3, [.ref b1, .ref b2, .ref b3, .ref b4, .ref b5])), (b2, .inl (T 0, 7, .inl roomF))]) [0, 1] rfl
  have hD9 := hD.sub (ws' := [(st, .inr (3, [.ref b1, .ref b2, .ref b3, .ref b4, .ref b5])), (b2, .inl (T 0, 7, .inl roomF))]) [0, 1] (by decide) rfl
  refine W.widen (k := 0) (n := 0) (Nat.le_of_ble_eq_true rfl) (Nat.le_of_ble_eq_true rfl) ?_
  exact j_iret F hr hlocks hK hS () rfl hP9 hD9 d_Store_dictsMade_34
/-- how many of what there are, of a new object -/
def usedOf (w : Int32) : Int32 := if w = 2 then 1 else if w < 0 ∨ 6 < w then -1 else 0
theorem usedOf_out {w : Int32} (h : w < 0 ∨ 6 < w) : usedOf w = -1 := by
  unfold usedOf
  have h2 : ¬ w = 2 := by
    rintro rfl
    exact absurd h (by decide +kernel)
  rw [if_neg h2, if_pos h]
theorem d_Ps_used_0 : decode prog_1_method_12_code 0 = .ok (.iload_n 1, 1) := by decide +kernel
theorem d_Ps_used_1 : decode prog_1_method_12_code 1 = .ok (.tableswitch 108 0 6 #[43, 57, 68, 76, 84, 92, 100], 43) := by decide +kernel
theorem d_Ps_used_109 : decode prog_1_method_12_code 109 = .ok (.iconst (-1), 1) := by decide +kernel
theorem d_Ps_used_110 : decode prog_1_method_12_code 110 = .ok (.ireturn, 1) := by decide +kernel
theorem d_Ps_used_44 : decode prog_1_method_12_code 44 = .ok (.aload_n 0, 1) := by decide +kernel
theorem d_Ps_used_45 : decode prog_1_method_12_code 45 = .ok (.getfield 28, 3) := by decide +kernel
theorem d_Ps_used_48 : decode prog_1_method_12_code 48 = .ok (.getfield 34, 3) := by decide +kernel
theorem d_Ps_used_51 : decode prog_1_method_12_code 51 = .ok (.getfield 158, 3) := by decide +kernel
theorem k_1_110 : Cond.fieldLink "PageScribe" 158 "PageScribe$Store" "cells" "LPageScribe$Row;" ∈ gw := gw_of (tb_1 (List.mem_of_getElem? (i := 110) (by decide +kernel))) (by decide +kernel)
theorem d_Ps_used_54 : decode prog_1_method_12_code 54 = .ok (.getfield 164, 3) := by decide +kernel
theorem k_1_57 : Cond.fieldLink "PageScribe" 164 "PageScribe$Row" "size" "I" ∈ gw := gw_of (tb_1 (List.mem_of_getElem? (i := 57) (by decide +kernel))) (by decide +kernel)
theorem d_Ps_used_57 : decode prog_1_method_12_code 57 = .ok (.ireturn, 1) := by decide +kernel
theorem d_Ps_used_58 : decode prog_1_method_12_code 58 = .ok (.aload_n 0, 1) := by decide +kernel
theorem d_Ps_used_59 : decode prog_1_method_12_code 59 = .ok (.getfield 28, 3) := by decide +kernel
theorem d_Ps_used_62 : decode prog_1_method_12_code 62 = .ok (.getfield 34, 3) := by decide +kernel
theorem d_Ps_used_65 : decode prog_1_method_12_code 65 = .ok (.invokevirtual 167, 3) := by decide +kernel
theorem k_2_202 : Cond.code ⟨"PageScribe$Store", "dictsMade", "()I"⟩ prog_10_method_5_code 3 (some .int) ∈ gw := gw_of (tb_2 (List.mem_of_getElem? (i := 202) (by decide +kernel))) (by decide +kernel)
theorem k_2_199 : Cond.methodLink "PageScribe" 167 ⟨"PageScribe$Store", "dictsMade", "()I"⟩ ∈ gw := gw_of (tb_2 (List.mem_of_getElem? (i := 199) (by decide +kernel))) (by decide +kernel)
theorem k_2_200 : Cond.instanceMethod ⟨"PageScribe$Store", "dictsMade", "()I"⟩ ∈ gw := gw_of (tb_2 (List.mem_of_getElem? (i := 200) (by decide +kernel))) (by decide +kernel)
theorem k_2_201 : Cond.selects "PageScribe$Store" ⟨"PageScribe$Store", "dictsMade", "()I"⟩ ⟨"PageScribe$Store", "dictsMade", "()I"⟩ ∈ gw := gw_of (tb_2 (List.mem_of_getElem? (i := 201) (by decide +kernel))) (by decide +kernel)
theorem d_Ps_used_68 : decode prog_1_method_12_code 68 = .ok (.ireturn, 1) := by decide +kernel
theorem d_Ps_used_69 : decode prog_1_method_12_code 69 = .ok (.aload_n 0, 1) := by decide +kernel
theorem d_Ps_used_70 : decode prog_1_method_12_code 70 = .ok (.getfield 28, 3) := by decide +kernel
theorem d_Ps_used_73 : decode prog_1_method_12_code 73 = .ok (.getfield 170, 3) := by decide +kernel
theorem k_1_135 : Cond.fieldLink "PageScribe" 170 "PageScribe$Memory" "scopeCount" "I" ∈ gw := gw_of (tb_1 (List.mem_of_getElem? (i := 135) (by decide +kernel))) (by decide +kernel)
theorem d_Ps_used_76 : decode prog_1_method_12_code 76 = .ok (.ireturn, 1) := by decide +kernel
theorem d_Ps_used_77 : decode prog_1_method_12_code 77 = .ok (.aload_n 0, 1) := by decide +kernel
theorem d_Ps_used_78 : decode prog_1_method_12_code 78 = .ok (.getfield 28, 3) := by decide +kernel
theorem d_Ps_used_81 : decode prog_1_method_12_code 81 = .ok (.getfield 173, 3) := by decide +kernel
theorem k_1_139 : Cond.fieldLink "PageScribe" 173 "PageScribe$Memory" "openSaves" "I" ∈ gw := gw_of (tb_1 (List.mem_of_getElem? (i := 139) (by decide +kernel))) (by decide +kernel)
theorem d_Ps_used_84 : decode prog_1_method_12_code 84 = .ok (.ireturn, 1) := by decide +kernel
theorem d_Ps_used_85 : decode prog_1_method_12_code 85 = .ok (.aload_n 0, 1) := by decide +kernel
theorem d_Ps_used_86 : decode prog_1_method_12_code 86 = .ok (.getfield 50, 3) := by decide +kernel
theorem d_Ps_used_89 : decode prog_1_method_12_code 89 = .ok (.getfield 176, 3) := by decide +kernel
theorem k_1_216 : Cond.fieldLink "PageScribe" 176 "PageScribe$Canvas" "points" "I" ∈ gw := gw_of (tb_1 (List.mem_of_getElem? (i := 216) (by decide +kernel))) (by decide +kernel)
theorem d_Ps_used_92 : decode prog_1_method_12_code 92 = .ok (.ireturn, 1) := by decide +kernel
theorem d_Ps_used_93 : decode prog_1_method_12_code 93 = .ok (.aload_n 0, 1) := by decide +kernel
theorem d_Ps_used_94 : decode prog_1_method_12_code 94 = .ok (.getfield 19, 3) := by decide +kernel
theorem d_Ps_used_97 : decode prog_1_method_12_code 97 = .ok (.getfield 179, 3) := by decide +kernel
theorem k_1_78 : Cond.fieldLink "PageScribe" 179 "PageScribe$Words" "count" "I" ∈ gw := gw_of (tb_1 (List.mem_of_getElem? (i := 78) (by decide +kernel))) (by decide +kernel)
theorem d_Ps_used_100 : decode prog_1_method_12_code 100 = .ok (.ireturn, 1) := by decide +kernel
theorem d_Ps_used_101 : decode prog_1_method_12_code 101 = .ok (.aload_n 0, 1) := by decide +kernel
theorem d_Ps_used_102 : decode prog_1_method_12_code 102 = .ok (.getfield 41, 3) := by decide +kernel
theorem d_Ps_used_105 : decode prog_1_method_12_code 105 = .ok (.getfield 182, 3) := by decide +kernel
theorem k_1_170 : Cond.fieldLink "PageScribe" 182 "PageScribe$Reader" "length" "I" ∈ gw := gw_of (tb_1 (List.mem_of_getElem? (i := 170) (by decide +kernel))) (by decide +kernel)
theorem d_Ps_used_108 : decode prog_1_method_12_code 108 = .ok (.ireturn, 1) := by decide +kernel
set_option maxHeartbeats 4000000 in
set_option maxRecDepth 100000 in
theorem c_Ps_used (l : Launch) (D : va_G) (T : Nat → ClassId) (h0 : Nat) (oS : Nat) (oW : Nat) (oM : Nat) (oR : Nat) (oC : Nat) (oE : Nat) (st : Nat) (m1 : Nat) (m2 : Nat) (m3 : Nat) (b1 : Nat) (b2 : Nat) (b3 : Nat) (b4 : Nat) (b5 : Nat) (r1 : Nat) (r2 : Nat) (r3 : Nat) (C : Nat) (Rr : Nat) (lv : Nat) (ac : Nat) (al : Nat) (be : Nat) (w1 : Nat) (w2 : Nat) (tx : Nat) (gt : Nat) (bg : Nat) (p0 : Int32) (sz : Nat) : Met l ⟨"PageScribe", "used", "(I)I"⟩ (wy ⟨"PageScribe", "used", "(I)I"⟩ prog_1_method_12_code 2 (some .int)) ({ frames := 1, cells := 0, slots := 0, locals := 70 }) (va_Pc [.ref h0, .int p0] (Pw D T [(h0, .inr (10, [.ref oS, .ref oW, .ref oM, .ref oR, .ref oC, .ref oE])), (oM, .inr (2, [.ref oS, .ref st, .ref m1, .int 1, .ref m2, .ref m3, .int 0, .int 0])), (st, .inr (3, [.ref b1, .ref b2, .ref b3, .ref b4, .ref b5])), (b1, .inr (4, [.ref r1, .ref r2, .ref r3, .int 0])), (b2, .inl (T 0, 7, .inl roomF)), (oC, .inr (6, [.ref oS, .int (nI C), .int (nI Rr), .ref lv, .float 0x3f800000, .ref ac, .ref al, .ref be, .int 0])), (oW, .inr (1, [.ref w1, .ref w2, .int 0])), (oR, .inr (5, [.ref oW, .ref st, .ref tx, .int 0, .int 0, .int 0, .int 0, .double 0, .ref gt, .ref bg]))] sz E0)) (va_Qi (fun (r : Int32) (u : Unit) => r = usedOf p0) (fun u t => Bw D T (va_A [(h0, .inr (10, [.ref oS, .ref oW, .ref oM, .ref oR, .ref oC, .ref oE])), (oM, .inr (2, [.ref oS, .ref st, .ref m1, .int 1, .ref m2, .ref m3, .int 0, .int 0])), (st, .inr (3, [.ref b1, .ref b2, .ref b3, .ref b4, .ref b5])), (b1, .inr (4, [.ref r1, .ref r2, .ref r3, .int 0])), (b2, .inl (T 0, 7, .inl roomF)), (oC, .inr (6, [.ref oS, .int (nI C), .int (nI Rr), .ref lv, .float 0x3f800000, .ref ac, .ref al, .ref be, .int 0])), (oW, .inr (1, [.ref w1, .ref w2, .int 0])), (oR, .inr (5, [.ref oW, .ref st, .ref tx, .int 0, .int 0, .int 0, .int 0, .double 0, .ref gt, .ref bg]))] sz) [(h0, .inr (10, [.ref oS, .ref oW, .ref oM, .ref oR, .ref oC, .ref oE])), (oM, .inr (2, [.ref oS, .ref st, .ref m1, .int 1, .ref m2, .ref m3, .int 0, .int 0])), (st, .inr (3, [.ref b1, .ref b2, .ref b3, .ref b4, .ref b5])), (b1, .inr (4, [.ref r1, .ref r2, .ref r3, .int 0])), (b2, .inl (T 0, 7, .inl roomF)), (oC, .inr (6, [.ref oS, .int (nI C), .int (nI Rr), .ref lv, .float 0x3f800000, .ref ac, .ref al, .ref be, .int 0])), (oW, .inr (1, [.ref w1, .ref w2, .int 0])), (oR, .inr (5, [.ref oW, .ref st, .ref tx, .int 0, .int 0, .int 0, .int 0, .double 0, .ref gt, .ref bg]))] t) (va_A [(h0, .inr (10, [.ref oS, .ref oW, .ref oM, .ref oR, .ref oC, .ref oE])), (oM, .inr (2, [.ref oS, .ref st, .ref m1, .int 1, .ref m2, .ref m3, .int 0, .int 0])), (st, .inr (3, [.ref b1, .ref b2, .ref b3, .ref b4, .ref b5])), (b1, .inr (4, [.ref r1, .ref r2, .ref r3, .int 0])), (b2, .inl (T 0, 7, .inl roomF)), (oC, .inr (6, [.ref oS, .int (nI C), .int (nI Rr), .ref lv, .float 0x3f800000, .ref ac, .ref al, .ref be, .int 0])), (oW, .inr (1, [.ref w1, .ref w2, .int 0])), (oR, .inr (5, [.ref oW, .ref st, .ref tx, .int 0, .int 0, .int 0, .int 0, .double 0, .ref gt, .ref bg]))] sz)) 0 0 (va_A [(h0, .inr (10, [.ref oS, .ref oW, .ref oM, .ref oR, .ref oC, .ref oE])), (oM, .inr (2, [.ref oS, .ref st, .ref m1, .int 1, .ref m2, .ref m3, .int 0, .int 0])), (st, .inr (3, [.ref b1, .ref b2, .ref b3, .ref b4, .ref b5])), (b1, .inr (4, [.ref r1, .ref r2, .ref r3, .int 0])), (b2, .inl (T 0, 7, .inl roomF)), (oC, .inr (6, [.ref oS, .int (nI C), .int (nI Rr), .ref lv, .float 0x3f800000, .ref ac, .ref al, .ref be, .int 0])), (oW, .inr (1, [.ref w1, .ref w2, .int 0])), (oR, .inr (5, [.ref oW, .ref st, .ref tx, .int 0, .int 0, .int 0, .int 0, .double 0, .ref gt, .ref bg]))] sz) := by
  refine j_met (Qc := fun A => va_Qi (fun (r : Int32) (u : Unit) => r = usedOf p0) (fun u t => Bw D T A [(h0, .inr (10, [.ref oS, .ref oW, .ref oM, .ref oR, .ref oC, .ref oE])), (oM, .inr (2, [.ref oS, .ref st, .ref m1, .int 1, .ref m2, .ref m3, .int 0, .int 0])), (st, .inr (3, [.ref b1, .ref b2, .ref b3, .ref b4, .ref b5])), (b1, .inr (4, [.ref r1, .ref r2, .ref r3, .int 0])), (b2, .inl (T 0, 7, .inl roomF)), (oC, .inr (6, [.ref oS, .int (nI C), .int (nI Rr), .ref lv, .float 0x3f800000, .ref ac, .ref al, .ref be, .int 0])), (oW, .inr (1, [.ref w1, .ref w2, .int 0])), (oR, .inr (5, [.ref oW, .ref st, .ref tx, .int 0, .int 0, .int 0, .int 0, .double 0, .ref gt, .ref bg]))] t) A) (by decide +kernel) (Nat.le_of_ble_eq_true rfl) (fun p e s m args below meth c A ls F hr hlocks hnm hK hP hD hS hA hN hE hl => ?_)
  obtain ⟨hx, hb, hml, hown, hts⟩ := id F
  have hin := hnm
  have hl : lv_has ls 2 [(0, .ref h0), (1, .int p0)] := hl
  refine lv_iload_n hx hb d_Ps_used_0 rfl (lv_at hl 1 rfl) ?_
  by_cases hlo : p0 < 0
  · refine lv_tableOut (tgt := 109) hx hb d_Ps_used_1 (Or.inl (by have := Int32.lt_iff_toInt_lt.mp hlo; simpa using this)) (by decide) ?_
    refine lv_iconst (v := (-1)) hx hb d_Ps_used_109 (by decide) ?_
    have hP9 := hP.sub (ws' := [(h0, .inr (10, [.ref oS, .ref oW, .ref oM, .ref oR, .ref oC, .ref oE])), (oM, .inr (2, [.ref oS, .ref st, .ref m1, .int 1, .ref m2, .ref m3, .int 0, .int 0])), (st, .inr (3, [.ref b1, .ref b2, .ref b3, .ref b4, .ref b5])), (b1, .inr (4, [.ref r1, .ref r2, .ref r3, .int 0])), (b2, .inl (T 0, 7, .inl roomF)), (oC, .inr (6, [.ref oS, .int (nI C), .int (nI Rr), .ref lv, .float 0x3f800000, .ref ac, .ref al, .ref be, .int 0])), (oW, .inr (1, [.ref w1, .ref w2, .int 0])), (oR, .inr (5, [.ref oW, .ref st, .ref tx, .int 0, .int 0, .int 0, .int 0, .double 0, .ref gt, .ref bg]))]) [0, 1, 2, 3, 4, 5, 6, 7] rfl
    have hD9 := hD.sub (ws' := [(h0, .inr (10, [.ref oS, .ref oW, .ref oM, .ref oR, .ref oC, .ref oE])), (oM, .inr (2, [.ref oS, .ref st, .ref m1, .int 1, .ref m2, .ref m3, .int 0, .int 0])), (st, .inr (3, [.ref b1, .ref b2, .ref b3, .ref b4, .ref b5])), (b1, .inr (4, [.ref r1, .ref r2, .ref r3, .int 0])), (b2, .inl (T 0, 7, .inl roomF)), (oC, .inr (6, [.ref oS, .int (nI C), .int (nI Rr), .ref lv, .float 0x3f800000, .ref ac, .ref al, .ref be, .int 0])), (oW, .inr (1, [.ref w1, .ref w2, .int 0])), (oR, .inr (5, [.ref oW, .ref st, .ref tx, .int 0, .int 0, .int 0, .int 0, .double 0, .ref gt, .ref bg]))]) [0, 1, 2, 3, 4, 5, 6, 7] (by decide) rfl
    refine W.widen (k := 0) (n := 0) (Nat.le_of_ble_eq_true rfl) (Nat.le_of_ble_eq_true rfl) ?_
    exact j_iret F hr hlocks hK hS () (usedOf_out (Or.inl hlo)).symm hP9 hD9 d_Ps_used_110
  by_cases hhi : (6 : Int32) < p0
  · refine lv_tableOut (tgt := 109) hx hb d_Ps_used_1 (Or.inr (by have := Int32.lt_iff_toInt_lt.mp hhi; simpa using this)) (by decide) ?_
    refine lv_iconst (v := (-1)) hx hb d_Ps_used_109 (by decide) ?_
    have hP9 := hP.sub (ws' := [(h0, .inr (10, [.ref oS, .ref oW, .ref oM, .ref oR, .ref oC, .ref oE])), (oM, .inr (2, [.ref oS, .ref st, .ref m1, .int 1, .ref m2, .ref m3, .int 0, .int 0])), (st, .inr (3, [.ref b1, .ref b2, .ref b3, .ref b4, .ref b5])), (b1, .inr (4, [.ref r1, .ref r2, .ref r3, .int 0])), (b2, .inl (T 0, 7, .inl roomF)), (oC, .inr (6, [.ref oS, .int (nI C), .int (nI Rr), .ref lv, .float 0x3f800000, .ref ac, .ref al, .ref be, .int 0])), (oW, .inr (1, [.ref w1, .ref w2, .int 0])), (oR, .inr (5, [.ref oW, .ref st, .ref tx, .int 0, .int 0, .int 0, .int 0, .double 0, .ref gt, .ref bg]))]) [0, 1, 2, 3, 4, 5, 6, 7] rfl
    have hD9 := hD.sub (ws' := [(h0, .inr (10, [.ref oS, .ref oW, .ref oM, .ref oR, .ref oC, .ref oE])), (oM, .inr (2, [.ref oS, .ref st, .ref m1, .int 1, .ref m2, .ref m3, .int 0, .int 0])), (st, .inr (3, [.ref b1, .ref b2, .ref b3, .ref b4, .ref b5])), (b1, .inr (4, [.ref r1, .ref r2, .ref r3, .int 0])), (b2, .inl (T 0, 7, .inl roomF)), (oC, .inr (6, [.ref oS, .int (nI C), .int (nI Rr), .ref lv, .float 0x3f800000, .ref ac, .ref al, .ref be, .int 0])), (oW, .inr (1, [.ref w1, .ref w2, .int 0])), (oR, .inr (5, [.ref oW, .ref st, .ref tx, .int 0, .int 0, .int 0, .int 0, .double 0, .ref gt, .ref bg]))]) [0, 1, 2, 3, 4, 5, 6, 7] (by decide) rfl
    refine W.widen (k := 0) (n := 0) (Nat.le_of_ble_eq_true rfl) (Nat.le_of_ble_eq_true rfl) ?_
    exact j_iret F hr hlocks hK hS () (usedOf_out (Or.inr hhi)).symm hP9 hD9 d_Ps_used_110
  obtain ⟨j, hj, rfl⟩ : ∃ j : Nat, j ≤ 6 ∧ p0 = nI j := nI_of2 (M := 6) (n := 6) (by decide +kernel) hlo (Int32.not_lt.mp hhi)
  rcases (show j = 0 ∨ 0 < j by omega) with rfl | hj0
  · refine lv_tableIn (off := 43) (tgt := 44) hx hb d_Ps_used_1 (by decide +kernel) (by decide +kernel) (by decide +kernel) (by decide) ?_
    refine lv_aload_n hx hb d_Ps_used_44 rfl (lv_at hl 0 rfl) ?_
    refine va_get (D := D) (ci := 10) (v := .ref oM) (C := "PageScribe") (T := F_Ps) (N := 6) hx hb hts i_Ps hown hK hP 0 rfl rfl 2 (by decide) (hts _ k_2_60) (fun _ h9 => h9) rfl d_Ps_used_45 ?_
    refine va_get (D := D) (ci := 2) (v := .ref st) (C := "PageScribe$Memory") (T := F_Memory) (N := 8) hx hb hts i_Memory hown hK hP 1 rfl rfl 1 (by decide) (hts _ k_1_131) (fun _ h9 => h9) rfl d_Ps_used_48 ?_
    refine va_get (D := D) (ci := 3) (v := .ref b1) (C := "PageScribe$Store") (T := F_Store) (N := 5) hx hb hts i_Store hown hK hP 2 rfl rfl 0 (by decide) (hts _ k_1_110) (fun _ h9 => h9) rfl d_Ps_used_51 ?_
    refine va_get (D := D) (ci := 4) (v := .int 0) (C := "PageScribe$Row") (T := F_Row) (N := 4) hx hb hts i_Row hown hK hP 3 rfl rfl 3 (by decide) (hts _ k_1_57) (fun _ h9 => h9) rfl d_Ps_used_54 ?_
    have hP9 := hP.sub (ws' := [(h0, .inr (10, [.ref oS, .ref oW, .ref oM, .ref oR, .ref oC, .ref oE])), (oM, .inr (2, [.ref oS, .ref st, .ref m1, .int 1, .ref m2, .ref m3, .int 0, .int 0])), (st, .inr (3, [.ref b1, .ref b2, .ref b3, .ref b4, .ref b5])), (b1, .inr (4, [.ref r1, .ref r2, .ref r3, .int 0])), (b2, .inl (T 0, 7, .inl roomF)), (oC, .inr (6, [.ref oS, .int (nI C), .int (nI Rr), .ref lv, .float 0x3f800000, .ref ac, .ref al, .ref be, .int 0])), (oW, .inr (1, [.ref w1, .ref w2, .int 0])), (oR, .inr (5, [.ref oW, .ref st, .ref tx, .int 0, .int 0, .int 0, .int 0, .double 0, .ref gt, .ref bg]))]) [0, 1, 2, 3, 4, 5, 6, 7] rfl
    have hD9 := hD.sub (ws' := [(h0, .inr (10, [.ref oS, .ref oW, .ref oM, .ref oR, .ref oC, .ref oE])), (oM, .inr (2, [.ref oS, .ref st, .ref m1, .int 1, .ref m2, .ref m3, .int 0, .int 0])), (st, .inr (3, [.ref b1, .ref b2, .ref b3, .ref b4, .ref b5])), (b1, .inr (4, [.ref r1, .ref r2, .ref r3, .int 0])), (b2, .inl (T 0, 7, .inl roomF)), (oC, .inr (6, [.ref oS, .int (nI C), .int (nI Rr), .ref lv, .float 0x3f800000, .ref ac, .ref al, .ref be, .int 0])), (oW, .inr (1, [.ref w1, .ref w2, .int 0])), (oR, .inr (5, [.ref oW, .ref st, .ref tx, .int 0, .int 0, .int 0, .int 0, .double 0, .ref gt, .ref bg]))]) [0, 1, 2, 3, 4, 5, 6, 7] (by decide) rfl
    refine W.widen (k := 0) (n := 0) (Nat.le_of_ble_eq_true rfl) (Nat.le_of_ble_eq_true rfl) ?_
    exact j_iret F hr hlocks hK hS () (by decide +kernel) hP9 hD9 d_Ps_used_57
  rcases (show j = 1 ∨ 1 < j by omega) with rfl | hj1
  · refine lv_tableIn (off := 57) (tgt := 58) hx hb d_Ps_used_1 (by decide +kernel) (by decide +kernel) (by decide +kernel) (by decide) ?_
    refine lv_aload_n hx hb d_Ps_used_58 rfl (lv_at hl 0 rfl) ?_
    refine va_get (D := D) (ci := 10) (v := .ref oM) (C := "PageScribe") (T := F_Ps) (N := 6) hx hb hts i_Ps hown hK hP 0 rfl rfl 2 (by decide) (hts _ k_2_60) (fun _ h9 => h9) rfl d_Ps_used_59 ?_
    refine va_get (D := D) (ci := 2) (v := .ref st) (C := "PageScribe$Memory") (T := F_Memory) (N := 8) hx hb hts i_Memory hown hK hP 1 rfl rfl 1 (by decide) (hts _ k_1_131) (fun _ h9 => h9) rfl d_Ps_used_62 ?_
    refine j_ci (wc := [(st, .inr (3, [.ref b1, .ref b2, .ref b3, .ref b4, .ref b5])), (b2, .inl (T 0, 7, .inl roomF))]) (wr := [(h0, .inr (10, [.ref oS, .ref oW, .ref oM, .ref oR, .ref oC, .ref oE])), (oM, .inr (2, [.ref oS, .ref st, .ref m1, .int 1, .ref m2, .ref m3, .int 0, .int 0])), (b1, .inr (4, [.ref r1, .ref r2, .ref r3, .int 0])), (oC, .inr (6, [.ref oS, .int (nI C), .int (nI Rr), .ref lv, .float 0x3f800000, .ref ac, .ref al, .ref be, .int 0])), (oW, .inr (1, [.ref w1, .ref w2, .int 0])), (oR, .inr (5, [.ref oW, .ref st, .ref tx, .int 0, .int 0, .int 0, .int 0, .double 0, .ref gt, .ref bg]))]) hK hP hD hS hA [2, 4] [0, 1, 3, 5, 6, 7] rfl rfl (by decide) (by decide) (va_runV (As := []) (rest := []) F (c_Store_dictsMade l D T st b1 b2 b3 b4 b5 s.heap.size) (j_cV (k := 0) (C := "PageScribe$Store") hts k_2_202 k_1_6 k_2_199 k_2_200 k_2_201 (by decide +kernel) ⟨Nat.le_of_ble_eq_true rfl, Nat.le_of_ble_eq_true rfl⟩) (j_preV (q0 := 2) (ci := 3) hK hP hD [2, 4] rfl (by decide) rfl rfl (fun _ _ _ _ h => h) (fun _ _ _ => trivial)) rfl rfl hl.1 rfl (lv_room (Nat.le_of_ble_eq_true rfl)) d_Ps_used_65 ⟨Nat.le_of_ble_eq_true rfl, Nat.le_of_ble_eq_true rfl⟩) (fun rv1 u1 H locs hw hP hD hS => ?_)
    have hP : va_P D classes [(h0, .inr (10, [.ref oS, .ref oW, .ref oM, .ref oR, .ref oC, .ref oE])), (oM, .inr (2, [.ref oS, .ref st, .ref m1, .int 1, .ref m2, .ref m3, .int 0, .int 0])), (b1, .inr (4, [.ref r1, .ref r2, .ref r3, .int 0])), (oC, .inr (6, [.ref oS, .int (nI C), .int (nI Rr), .ref lv, .float 0x3f800000, .ref ac, .ref al, .ref be, .int 0])), (oW, .inr (1, [.ref w1, .ref w2, .int 0])), (oR, .inr (5, [.ref oW, .ref st, .ref tx, .int 0, .int 0, .int 0, .int 0, .double 0, .ref gt, .ref bg])), (st, .inr (3, [.ref b1, .ref b2, .ref b3, .ref b4, .ref b5])), (b2, .inl (T 0, 7, .inl roomF))] H := hP
    have hD : va_D A [(h0, .inr (10, [.ref oS, .ref oW, .ref oM, .ref oR, .ref oC, .ref oE])), (oM, .inr (2, [.ref oS, .ref st, .ref m1, .int 1, .ref m2, .ref m3, .int 0, .int 0])), (b1, .inr (4, [.ref r1, .ref r2, .ref r3, .int 0])), (oC, .inr (6, [.ref oS, .int (nI C), .int (nI Rr), .ref lv, .float 0x3f800000, .ref ac, .ref al, .ref be, .int 0])), (oW, .inr (1, [.ref w1, .ref w2, .int 0])), (oR, .inr (5, [.ref oW, .ref st, .ref tx, .int 0, .int 0, .int 0, .int 0, .double 0, .ref gt, .ref bg])), (st, .inr (3, [.ref b1, .ref b2, .ref b3, .ref b4, .ref b5])), (b2, .inl (T 0, 7, .inl roomF))] := hD
    have hw1 : rv1 = 0 := hw
    refine j_eqi (y := 0) hw1 ?_
    have hP9 := hP.sub (ws' := [(h0, .inr (10, [.ref oS, .ref oW, .ref oM, .ref oR, .ref oC, .ref oE])), (oM, .inr (2, [.ref oS, .ref st, .ref m1, .int 1, .ref m2, .ref m3, .int 0, .int 0])), (st, .inr (3, [.ref b1, .ref b2, .ref b3, .ref b4, .ref b5])), (b1, .inr (4, [.ref r1, .ref r2, .ref r3, .int 0])), (b2, .inl (T 0, 7, .inl roomF)), (oC, .inr (6, [.ref oS, .int (nI C), .int (nI Rr), .ref lv, .float 0x3f800000, .ref ac, .ref al, .ref be, .int 0])), (oW, .inr (1, [.ref w1, .ref w2, .int 0])), (oR, .inr (5, [.ref oW, .ref st, .ref tx, .int 0, .int 0, .int 0, .int 0, .double 0, .ref gt, .ref bg]))]) [0, 1, 6, 2, 7, 3, 4, 5] rfl
    have hD9 := hD.sub (ws' := [(h0, .inr (10, [.ref oS, .ref oW, .ref oM, .ref oR, .ref oC, .ref oE])), (oM, .inr (2, [.ref oS, .ref st, .ref m1, .int 1, .ref m2, .ref m3, .int 0, .int 0])), (st, .inr (3, [.ref b1, .ref b2, .ref b3, .ref b4, .ref b5])), (b1, .inr (4, [.ref r1, .ref r2, .ref r3, .int 0])), (b2, .inl (T 0, 7, .inl roomF)), (oC, .inr (6, [.ref oS, .int (nI C), .int (nI Rr), .ref lv, .float 0x3f800000, .ref ac, .ref al, .ref be, .int 0])), (oW, .inr (1, [.ref w1, .ref w2, .int 0])), (oR, .inr (5, [.ref oW, .ref st, .ref tx, .int 0, .int 0, .int 0, .int 0, .double 0, .ref gt, .ref bg]))]) [0, 1, 6, 2, 7, 3, 4, 5] (by decide) rfl
    refine W.widen (k := 0) (n := 0) (Nat.le_of_ble_eq_true rfl) (Nat.le_of_ble_eq_true rfl) ?_
    exact j_iret F hr hlocks hK hS () (by decide +kernel) hP9 hD9 d_Ps_used_68
  rcases (show j = 2 ∨ 2 < j by omega) with rfl | hj2
  · refine lv_tableIn (off := 68) (tgt := 69) hx hb d_Ps_used_1 (by decide +kernel) (by decide +kernel) (by decide +kernel) (by decide) ?_
    refine lv_aload_n hx hb d_Ps_used_69 rfl (lv_at hl 0 rfl) ?_
    refine va_get (D := D) (ci := 10) (v := .ref oM) (C := "PageScribe") (T := F_Ps) (N := 6) hx hb hts i_Ps hown hK hP 0 rfl rfl 2 (by decide) (hts _ k_2_60) (fun _ h9 => h9) rfl d_Ps_used_70 ?_
    refine va_get (D := D) (ci := 2) (v := .int 1) (C := "PageScribe$Memory") (T := F_Memory) (N := 8) hx hb hts i_Memory hown hK hP 1 rfl rfl 3 (by decide) (hts _ k_1_135) (fun _ h9 => h9) rfl d_Ps_used_73 ?_
    have hP9 := hP.sub (ws' := [(h0, .inr (10, [.ref oS, .ref oW, .ref oM, .ref oR, .ref oC, .ref oE])), (oM, .inr (2, [.ref oS, .ref st, .ref m1, .int 1, .ref m2, .ref m3, .int 0, .int 0])), (st, .inr (3, [.ref b1, .ref b2, .ref b3, .ref b4, .ref b5])), (b1, .inr (4, [.ref r1, .ref r2, .ref r3, .int 0])), (b2, .inl (T 0, 7, .inl roomF)), (oC, .inr (6, [.ref oS, .int (nI C), .int (nI Rr), .ref lv, .float 0x3f800000, .ref ac, .ref al, .ref be, .int 0])), (oW, .inr (1, [.ref w1, .ref w2, .int 0])), (oR, .inr (5, [.ref oW, .ref st, .ref tx, .int 0, .int 0, .int 0, .int 0, .double 0, .ref gt, .ref bg]))]) [0, 1, 2, 3, 4, 5, 6, 7] rfl
    have hD9 := hD.sub (ws' := [(h0, .inr (10, [.ref oS, .ref oW, .ref oM, .ref oR, .ref oC, .ref oE])), (oM, .inr (2, [.ref oS, .ref st, .ref m1, .int 1, .ref m2, .ref m3, .int 0, .int 0])), (st, .inr (3, [.ref b1, .ref b2, .ref b3, .ref b4, .ref b5])), (b1, .inr (4, [.ref r1, .ref r2, .ref r3, .int 0])), (b2, .inl (T 0, 7, .inl roomF)), (oC, .inr (6, [.ref oS, .int (nI C), .int (nI Rr), .ref lv, .float 0x3f800000, .ref ac, .ref al, .ref be, .int 0])), (oW, .inr (1, [.ref w1, .ref w2, .int 0])), (oR, .inr (5, [.ref oW, .ref st, .ref tx, .int 0, .int 0, .int 0, .int 0, .double 0, .ref gt, .ref bg]))]) [0, 1, 2, 3, 4, 5, 6, 7] (by decide) rfl
    refine W.widen (k := 0) (n := 0) (Nat.le_of_ble_eq_true rfl) (Nat.le_of_ble_eq_true rfl) ?_
    exact j_iret F hr hlocks hK hS () (by decide +kernel) hP9 hD9 d_Ps_used_76
  rcases (show j = 3 ∨ 3 < j by omega) with rfl | hj3
  · refine lv_tableIn (off := 76) (tgt := 77) hx hb d_Ps_used_1 (by decide +kernel) (by decide +kernel) (by decide +kernel) (by decide) ?_
    refine lv_aload_n hx hb d_Ps_used_77 rfl (lv_at hl 0 rfl) ?_
    refine va_get (D := D) (ci := 10) (v := .ref oM) (C := "PageScribe") (T := F_Ps) (N := 6) hx hb hts i_Ps hown hK hP 0 rfl rfl 2 (by decide) (hts _ k_2_60) (fun _ h9 => h9) rfl d_Ps_used_78 ?_
    refine va_get (D := D) (ci := 2) (v := .int 0) (C := "PageScribe$Memory") (T := F_Memory) (N := 8) hx hb hts i_Memory hown hK hP 1 rfl rfl 6 (by decide) (hts _ k_1_139) (fun _ h9 => h9) rfl d_Ps_used_81 ?_
    have hP9 := hP.sub (ws' := [(h0, .inr (10, [.ref oS, .ref oW, .ref oM, .ref oR, .ref oC, .ref oE])), (oM, .inr (2, [.ref oS, .ref st, .ref m1, .int 1, .ref m2, .ref m3, .int 0, .int 0])), (st, .inr (3, [.ref b1, .ref b2, .ref b3, .ref b4, .ref b5])), (b1, .inr (4, [.ref r1, .ref r2, .ref r3, .int 0])), (b2, .inl (T 0, 7, .inl roomF)), (oC, .inr (6, [.ref oS, .int (nI C), .int (nI Rr), .ref lv, .float 0x3f800000, .ref ac, .ref al, .ref be, .int 0])), (oW, .inr (1, [.ref w1, .ref w2, .int 0])), (oR, .inr (5, [.ref oW, .ref st, .ref tx, .int 0, .int 0, .int 0, .int 0, .double 0, .ref gt, .ref bg]))]) [0, 1, 2, 3, 4, 5, 6, 7] rfl
    have hD9 := hD.sub (ws' := [(h0, .inr (10, [.ref oS, .ref oW, .ref oM, .ref oR, .ref oC, .ref oE])), (oM, .inr (2, [.ref oS, .ref st, .ref m1, .int 1, .ref m2, .ref m3, .int 0, .int 0])), (st, .inr (3, [.ref b1, .ref b2, .ref b3, .ref b4, .ref b5])), (b1, .inr (4, [.ref r1, .ref r2, .ref r3, .int 0])), (b2, .inl (T 0, 7, .inl roomF)), (oC, .inr (6, [.ref oS, .int (nI C), .int (nI Rr), .ref lv, .float 0x3f800000, .ref ac, .ref al, .ref be, .int 0])), (oW, .inr (1, [.ref w1, .ref w2, .int 0])), (oR, .inr (5, [.ref oW, .ref st, .ref tx, .int 0, .int 0, .int 0, .int 0, .double 0, .ref gt, .ref bg]))]) [0, 1, 2, 3, 4, 5, 6, 7] (by decide) rfl
    refine W.widen (k := 0) (n := 0) (Nat.le_of_ble_eq_true rfl) (Nat.le_of_ble_eq_true rfl) ?_
    exact j_iret F hr hlocks hK hS () (by decide +kernel) hP9 hD9 d_Ps_used_84
  rcases (show j = 4 ∨ 4 < j by omega) with rfl | hj4
  · refine lv_tableIn (off := 84) (tgt := 85) hx hb d_Ps_used_1 (by decide +kernel) (by decide +kernel) (by decide +kernel) (by decide) ?_
    refine lv_aload_n hx hb d_Ps_used_85 rfl (lv_at hl 0 rfl) ?_
    refine va_get (D := D) (ci := 10) (v := .ref oC) (C := "PageScribe") (T := F_Ps) (N := 6) hx hb hts i_Ps hown hK hP 0 rfl rfl 4 (by decide) (hts _ k_2_62) (fun _ h9 => h9) rfl d_Ps_used_86 ?_
    refine va_get (D := D) (ci := 6) (v := .int 0) (C := "PageScribe$Canvas") (T := F_Canvas) (N := 9) hx hb hts i_Canvas hown hK hP 5 rfl rfl 8 (by decide) (hts _ k_1_216) (fun _ h9 => h9) rfl d_Ps_used_89 ?_
    have hP9 := hP.sub (ws' := [(h0, .inr (10, [.ref oS, .ref oW, .ref oM, .ref oR, .ref oC, .ref oE])), (oM, .inr (2, [.ref oS, .ref st, .ref m1, .int 1, .ref m2, .ref m3, .int 0, .int 0])), (st, .inr (3, [.ref b1, .ref b2, .ref b3, .ref b4, .ref b5])), (b1, .inr (4, [.ref r1, .ref r2, .ref r3, .int 0])), (b2, .inl (T 0, 7, .inl roomF)), (oC, .inr (6, [.ref oS, .int (nI C), .int (nI Rr), .ref lv, .float 0x3f800000, .ref ac, .ref al, .ref be, .int 0])), (oW, .inr (1, [.ref w1, .ref w2, .int 0])), (oR, .inr (5, [.ref oW, .ref st, .ref tx, .int 0, .int 0, .int 0, .int 0, .double 0, .ref gt, .ref bg]))]) [0, 1, 2, 3, 4, 5, 6, 7] rfl
    have hD9 := hD.sub (ws' := [(h0, .inr (10, [.ref oS, .ref oW, .ref oM, .ref oR, .ref oC, .ref oE])), (oM, .inr (2, [.ref oS, .ref st, .ref m1, .int 1, .ref m2, .ref m3, .int 0, .int 0])), (st, .inr (3, [.ref b1, .ref b2, .ref b3, .ref b4, .ref b5])), (b1, .inr (4, [.ref r1, .ref r2, .ref r3, .int 0])), (b2, .inl (T 0, 7, .inl roomF)), (oC, .inr (6, [.ref oS, .int (nI C), .int (nI Rr), .ref lv, .float 0x3f800000, .ref ac, .ref al, .ref be, .int 0])), (oW, .inr (1, [.ref w1, .ref w2, .int 0])), (oR, .inr (5, [.ref oW, .ref st, .ref tx, .int 0, .int 0, .int 0, .int 0, .double 0, .ref gt, .ref bg]))]) [0, 1, 2, 3, 4, 5, 6, 7] (by decide) rfl
    refine W.widen (k := 0) (n := 0) (Nat.le_of_ble_eq_true rfl) (Nat.le_of_ble_eq_true rfl) ?_
    exact j_iret F hr hlocks hK hS () (by decide +kernel) hP9 hD9 d_Ps_used_92
  rcases (show j = 5 ∨ 5 < j by omega) with rfl | hj5
  · refine lv_tableIn (off := 92) (tgt := 93) hx hb d_Ps_used_1 (by decide +kernel) (by decide +kernel) (by decide +kernel) (by decide) ?_
    refine lv_aload_n hx hb d_Ps_used_93 rfl (lv_at hl 0 rfl) ?_
    refine va_get (D := D) (ci := 10) (v := .ref oW) (C := "PageScribe") (T := F_Ps) (N := 6) hx hb hts i_Ps hown hK hP 0 rfl rfl 1 (by decide) (hts _ k_2_59) (fun _ h9 => h9) rfl d_Ps_used_94 ?_
    refine va_get (D := D) (ci := 1) (v := .int 0) (C := "PageScribe$Words") (T := F_Words) (N := 3) hx hb hts i_Words hown hK hP 6 rfl rfl 2 (by decide) (hts _ k_1_78) (fun _ h9 => h9) rfl d_Ps_used_97 ?_
    have hP9 := hP.sub (ws' := [(h0, .inr (10, [.ref oS, .ref oW, .ref oM, .ref oR, .ref oC, .ref oE])), (oM, .inr (2, [.ref oS, .ref st, .ref m1, .int 1, .ref m2, .ref m3, .int 0, .int 0])), (st, .inr (3, [.ref b1, .ref b2, .ref b3, .ref b4, .ref b5])), (b1, .inr (4, [.ref r1, .ref r2, .ref r3, .int 0])), (b2, .inl (T 0, 7, .inl roomF)), (oC, .inr (6, [.ref oS, .int (nI C), .int (nI Rr), .ref lv, .float 0x3f800000, .ref ac, .ref al, .ref be, .int 0])), (oW, .inr (1, [.ref w1, .ref w2, .int 0])), (oR, .inr (5, [.ref oW, .ref st, .ref tx, .int 0, .int 0, .int 0, .int 0, .double 0, .ref gt, .ref bg]))]) [0, 1, 2, 3, 4, 5, 6, 7] rfl
    have hD9 := hD.sub (ws' := [(h0, .inr (10, [.ref oS, .ref oW, .ref oM, .ref oR, .ref oC, .ref oE])), (oM, .inr (2, [.ref oS, .ref st, .ref m1, .int 1, .ref m2, .ref m3, .int 0, .int 0])), (st, .inr (3, [.ref b1, .ref b2, .ref b3, .ref b4, .ref b5])), (b1, .inr (4, [.ref r1, .ref r2, .ref r3, .int 0])), (b2, .inl (T 0, 7, .inl roomF)), (oC, .inr (6, [.ref oS, .int (nI C), .int (nI Rr), .ref lv, .float 0x3f800000, .ref ac, .ref al, .ref be, .int 0])), (oW, .inr (1, [.ref w1, .ref w2, .int 0])), (oR, .inr (5, [.ref oW, .ref st, .ref tx, .int 0, .int 0, .int 0, .int 0, .double 0, .ref gt, .ref bg]))]) [0, 1, 2, 3, 4, 5, 6, 7] (by decide) rfl
    refine W.widen (k := 0) (n := 0) (Nat.le_of_ble_eq_true rfl) (Nat.le_of_ble_eq_true rfl) ?_
    exact j_iret F hr hlocks hK hS () (by decide +kernel) hP9 hD9 d_Ps_used_100
  obtain rfl : j = 6 := by omega
  refine lv_tableIn (off := 100) (tgt := 101) hx hb d_Ps_used_1 (by decide +kernel) (by decide +kernel) (by decide +kernel) (by decide) ?_
  refine lv_aload_n hx hb d_Ps_used_101 rfl (lv_at hl 0 rfl) ?_
  refine va_get (D := D) (ci := 10) (v := .ref oR) (C := "PageScribe") (T := F_Ps) (N := 6) hx hb hts i_Ps hown hK hP 0 rfl rfl 3 (by decide) (hts _ k_2_61) (fun _ h9 => h9) rfl d_Ps_used_102 ?_
  refine va_get (D := D) (ci := 5) (v := .int 0) (C := "PageScribe$Reader") (T := F_Reader) (N := 10) hx hb hts i_Reader hown hK hP 7 rfl rfl 3 (by decide) (hts _ k_1_170) (fun _ h9 => h9) rfl d_Ps_used_105 ?_
  have hP9 := hP.sub (ws' := [(h0, .inr (10, [.ref oS, .ref oW, .ref oM, .ref oR, .ref oC, .ref oE])), (oM, .inr (2, [.ref oS, .ref st, .ref m1, .int 1, .ref m2, .ref m3, .int 0, .int 0])), (st, .inr (3, [.ref b1, .ref b2, .ref b3, .ref b4, .ref b5])), (b1, .inr (4, [.ref r1, .ref r2, .ref r3, .int 0])), (b2, .inl (T 0, 7, .inl roomF)), (oC, .inr (6, [.ref oS, .int (nI C), .int (nI Rr), .ref lv, .float 0x3f800000, .ref ac, .ref al, .ref be, .int 0])), (oW, .inr (1, [.ref w1, .ref w2, .int 0])), (oR, .inr (5, [.ref oW, .ref st, .ref tx, .int 0, .int 0, .int 0, .int 0, .double 0, .ref gt, .ref bg]))]) [0, 1, 2, 3, 4, 5, 6, 7] rfl
  have hD9 := hD.sub (ws' := [(h0, .inr (10, [.ref oS, .ref oW, .ref oM, .ref oR, .ref oC, .ref oE])), (oM, .inr (2, [.ref oS, .ref st, .ref m1, .int 1, .ref m2, .ref m3, .int 0, .int 0])), (st, .inr (3, [.ref b1, .ref b2, .ref b3, .ref b4, .ref b5])), (b1, .inr (4, [.ref r1, .ref r2, .ref r3, .int 0])), (b2, .inl (T 0, 7, .inl roomF)), (oC, .inr (6, [.ref oS, .int (nI C), .int (nI Rr), .ref lv, .float 0x3f800000, .ref ac, .ref al, .ref be, .int 0])), (oW, .inr (1, [.ref w1, .ref w2, .int 0])), (oR, .inr (5, [.ref oW, .ref st, .ref tx, .int 0, .int 0, .int 0, .int 0, .double 0, .ref gt, .ref bg]))]) [0, 1, 2, 3, 4, 5, 6, 7] (by decide) rfl
  refine W.widen (k := 0) (n := 0) (Nat.le_of_ble_eq_true rfl) (Nat.le_of_ble_eq_true rfl) ?_
  exact j_iret F hr hlocks hK hS () (by decide +kernel) hP9 hD9 d_Ps_used_108
/-- a pixel of a new page -/
def pixOf (cc rr col row : Int32) : Int32 := if col < 0 ∨ cc ≤ col ∨ row < 0 ∨ rr ≤ row then -1 else 0
theorem pixOf_out {cc rr col row : Int32} (h : col < 0 ∨ cc ≤ col ∨ row < 0 ∨ rr ≤ row) : pixOf cc rr col row = -1 := if_pos h
theorem pixOf_in {cc rr col row : Int32} (h1 : ¬ col < 0) (h2 : ¬ cc ≤ col) (h3 : ¬ row < 0) (h4 : ¬ rr ≤ row) : pixOf cc rr col row = 0 := if_neg (fun h => h.elim h1 (fun h => h.elim h2 (fun h => h.elim h3 h4)))
theorem d_Canvas_levelAt_0 : decode prog_3_method_2_code 0 = .ok (.iload_n 1, 1) := by decide +kernel
theorem d_Canvas_levelAt_1 : decode prog_3_method_2_code 1 = .ok (.ifCond .lt 23, 3) := by decide +kernel
theorem d_Canvas_levelAt_24 : decode prog_3_method_2_code 24 = .ok (.iconst (-1), 1) := by decide +kernel
theorem d_Canvas_levelAt_25 : decode prog_3_method_2_code 25 = .ok (.ireturn, 1) := by decide +kernel
theorem d_Canvas_levelAt_4 : decode prog_3_method_2_code 4 = .ok (.iload_n 1, 1) := by decide +kernel
theorem d_Canvas_levelAt_5 : decode prog_3_method_2_code 5 = .ok (.aload_n 0, 1) := by decide +kernel
theorem d_Canvas_levelAt_6 : decode prog_3_method_2_code 6 = .ok (.getfield 34, 3) := by decide +kernel
theorem d_Canvas_levelAt_9 : decode prog_3_method_2_code 9 = .ok (.if_icmp .ge 15, 3) := by decide +kernel
theorem d_Canvas_levelAt_12 : decode prog_3_method_2_code 12 = .ok (.iload_n 2, 1) := by decide +kernel
theorem d_Canvas_levelAt_13 : decode prog_3_method_2_code 13 = .ok (.ifCond .lt 11, 3) := by decide +kernel
theorem d_Canvas_levelAt_16 : decode prog_3_method_2_code 16 = .ok (.iload_n 2, 1) := by decide +kernel
theorem d_Canvas_levelAt_17 : decode prog_3_method_2_code 17 = .ok (.aload_n 0, 1) := by decide +kernel
theorem d_Canvas_levelAt_18 : decode prog_3_method_2_code 18 = .ok (.getfield 37, 3) := by decide +kernel
theorem d_Canvas_levelAt_21 : decode prog_3_method_2_code 21 = .ok (.if_icmp .lt 5, 3) := by decide +kernel
theorem d_Canvas_levelAt_26 : decode prog_3_method_2_code 26 = .ok (.aload_n 0, 1) := by decide +kernel
theorem d_Canvas_levelAt_27 : decode prog_3_method_2_code 27 = .ok (.getfield 40, 3) := by decide +kernel
theorem d_Canvas_levelAt_30 : decode prog_3_method_2_code 30 = .ok (.iload_n 2, 1) := by decide +kernel
theorem d_Canvas_levelAt_31 : decode prog_3_method_2_code 31 = .ok (.aload_n 0, 1) := by decide +kernel
theorem d_Canvas_levelAt_32 : decode prog_3_method_2_code 32 = .ok (.getfield 34, 3) := by decide +kernel
theorem d_Canvas_levelAt_35 : decode prog_3_method_2_code 35 = .ok (.imul, 1) := by decide +kernel
theorem d_Canvas_levelAt_36 : decode prog_3_method_2_code 36 = .ok (.iload_n 1, 1) := by decide +kernel
theorem d_Canvas_levelAt_37 : decode prog_3_method_2_code 37 = .ok (.iadd, 1) := by decide +kernel
theorem d_Canvas_levelAt_38 : decode prog_3_method_2_code 38 = .ok (.iaload, 1) := by decide +kernel
theorem d_Canvas_levelAt_39 : decode prog_3_method_2_code 39 = .ok (.ireturn, 1) := by decide +kernel
set_option maxHeartbeats 4000000 in
set_option maxRecDepth 100000 in
theorem c_Canvas_levelAt (l : Launch) (D : va_G) (T : Nat → ClassId) (oC : Nat) (oS : Nat) (C : Nat) (Rr : Nat) (lv : Nat) (ac : Nat) (al : Nat) (be : Nat) (p0 : Int32) (p1 : Int32) (sz : Nat) (hC : C ≤ 24) (hR : Rr ≤ 16) : Met l ⟨"PageScribe$Canvas", "levelAt", "(II)I"⟩ (wy ⟨"PageScribe$Canvas", "levelAt", "(II)I"⟩ prog_3_method_2_code 3 (some .int)) ({ frames := 0, cells := 0, slots := 0, locals := 0 }) (va_Pc [.ref oC, .int p0, .int p1] (Pw D T [(oC, .inr (6, [.ref oS, .int (nI C), .int (nI Rr), .ref lv, .float 0x3f800000, .ref ac, .ref al, .ref be, .int 0])), (lv, .inl (T 0, (C * Rr), .inl zI))] sz E0)) (va_Qi (fun (r : Int32) (u : Unit) => r = pixOf (nI C) (nI Rr) p0 p1) (fun u t => Bw D T (va_A [(oC, .inr (6, [.ref oS, .int (nI C), .int (nI Rr), .ref lv, .float 0x3f800000, .ref ac, .ref al, .ref be, .int 0])), (lv, .inl (T 0, (C * Rr), .inl zI))] sz) [(oC, .inr (6, [.ref oS, .int (nI C), .int (nI Rr), .ref lv, .float 0x3f800000, .ref ac, .ref al, .ref be, .int 0])), (lv, .inl (T 0, (C * Rr), .inl zI))] t) (va_A [(oC, .inr (6, [.ref oS, .int (nI C), .int (nI Rr), .ref lv, .float 0x3f800000, .ref ac, .ref al, .ref be, .int 0])), (lv, .inl (T 0, (C * Rr), .inl zI))] sz)) 0 0 (va_A [(oC, .inr (6, [.ref oS, .int (nI C), .int (nI Rr), .ref lv, .float 0x3f800000, .ref ac, .ref al, .ref be, .int 0])), (lv, .inl (T 0, (C * Rr), .inl zI))] sz) := by
  refine j_met (Qc := fun A => va_Qi (fun (r : Int32) (u : Unit) => r = pixOf (nI C) (nI Rr) p0 p1) (fun u t => Bw D T A [(oC, .inr (6, [.ref oS, .int (nI C), .int (nI Rr), .ref lv, .float 0x3f800000, .ref ac, .ref al, .ref be, .int 0])), (lv, .inl (T 0, (C * Rr), .inl zI))] t) A) (by decide +kernel) (Nat.le_of_ble_eq_true rfl) (fun p e s m args below meth c A ls F hr hlocks hnm hK hP hD hS hA hN hE hl => ?_)
  obtain ⟨hx, hb, hml, hown, hts⟩ := id F
  have hin := hnm
  have hl : lv_has ls 3 [(0, .ref oC), (1, .int p0), (2, .int p1)] := hl
  refine lv_iload_n hx hb d_Canvas_levelAt_0 rfl (lv_at hl 1 rfl) ?_
  refine lv_if_lt (tgt := 24) hx hb d_Canvas_levelAt_1 (by decide) (fun c_1 => ?_) (fun c_1 => ?_)
  · refine lv_iconst (v := (-1)) hx hb d_Canvas_levelAt_24 (by decide) ?_
    have hP9 := hP.sub (ws' := [(oC, .inr (6, [.ref oS, .int (nI C), .int (nI Rr), .ref lv, .float 0x3f800000, .ref ac, .ref al, .ref be, .int 0])), (lv, .inl (T 0, (C * Rr), .inl zI))]) [0, 1] rfl
    have hD9 := hD.sub (ws' := [(oC, .inr (6, [.ref oS, .int (nI C), .int (nI Rr), .ref lv, .float 0x3f800000, .ref ac, .ref al, .ref be, .int 0])), (lv, .inl (T 0, (C * Rr), .inl zI))]) [0, 1] (by decide) rfl
    refine W.widen (k := 0) (n := 0) (Nat.le_of_ble_eq_true rfl) (Nat.le_of_ble_eq_true rfl) ?_
    exact j_iret F hr hlocks hK hS () (by first | exact (pixOf_out (Or.inl c_1)).symm | exact (pixOf_out (Or.inr (Or.inl c_9))).symm | exact (pixOf_out (Or.inr (Or.inr (Or.inl c_13)))).symm | exact (pixOf_out (Or.inr (Or.inr (Or.inr (Int32.not_lt.mp c_21))))).symm | exact (pixOf_in c_1 c_9 c_13 (fun q => absurd c_21 (Int32.not_lt.mpr q))).symm) hP9 hD9 d_Canvas_levelAt_25
  · refine lv_iload_n hx hb d_Canvas_levelAt_4 rfl (lv_at hl 1 rfl) ?_
    refine lv_aload_n hx hb d_Canvas_levelAt_5 rfl (lv_at hl 0 rfl) ?_
    refine va_get (D := D) (ci := 6) (v := .int (nI C)) (C := "PageScribe$Canvas") (T := F_Canvas) (N := 9) hx hb hts i_Canvas hown hK hP 0 rfl rfl 1 (by decide) (hts _ k_1_208) (fun _ h9 => h9) rfl d_Canvas_levelAt_6 ?_
    refine lv_icmp_ge (tgt := 24) hx hb d_Canvas_levelAt_9 (by decide) (fun c_9 => ?_) (fun c_9 => ?_)
    · refine lv_iconst (v := (-1)) hx hb d_Canvas_levelAt_24 (by decide) ?_
      have hP9 := hP.sub (ws' := [(oC, .inr (6, [.ref oS, .int (nI C), .int (nI Rr), .ref lv, .float 0x3f800000, .ref ac, .ref al, .ref be, .int 0])), (lv, .inl (T 0, (C * Rr), .inl zI))]) [0, 1] rfl
      have hD9 := hD.sub (ws' := [(oC, .inr (6, [.ref oS, .int (nI C), .int (nI Rr), .ref lv, .float 0x3f800000, .ref ac, .ref al, .ref be, .int 0])), (lv, .inl (T 0, (C * Rr), .inl zI))]) [0, 1] (by decide) rfl
      refine W.widen (k := 0) (n := 0) (Nat.le_of_ble_eq_true rfl) (Nat.le_of_ble_eq_true rfl) ?_
      exact j_iret F hr hlocks hK hS () (by first | exact (pixOf_out (Or.inl c_1)).symm | exact (pixOf_out (Or.inr (Or.inl c_9))).symm | exact (pixOf_out (Or.inr (Or.inr (Or.inl c_13)))).symm | exact (pixOf_out (Or.inr (Or.inr (Or.inr (Int32.not_lt.mp c_21))))).symm | exact (pixOf_in c_1 c_9 c_13 (fun q => absurd c_21 (Int32.not_lt.mpr q))).symm) hP9 hD9 d_Canvas_levelAt_25
    · refine lv_iload_n hx hb d_Canvas_levelAt_12 rfl (lv_at hl 2 rfl) ?_
      refine lv_if_lt (tgt := 24) hx hb d_Canvas_levelAt_13 (by decide) (fun c_13 => ?_) (fun c_13 => ?_)
      · refine lv_iconst (v := (-1)) hx hb d_Canvas_levelAt_24 (by decide) ?_
        have hP9 := hP.sub (ws' := [(oC, .inr (6, [.ref oS, .int (nI C), .int (nI Rr), .ref lv, .float 0x3f800000, .ref ac, .ref al, .ref be, .int 0])), (lv, .inl (T 0, (C * Rr), .inl zI))]) [0, 1] rfl
        have hD9 := hD.sub (ws' := [(oC, .inr (6, [.ref oS, .int (nI C), .int (nI Rr), .ref lv, .float 0x3f800000, .ref ac, .ref al, .ref be, .int 0])), (lv, .inl (T 0, (C * Rr), .inl zI))]) [0, 1] (by decide) rfl
        refine W.widen (k := 0) (n := 0) (Nat.le_of_ble_eq_true rfl) (Nat.le_of_ble_eq_true rfl) ?_
        exact j_iret F hr hlocks hK hS () (by first | exact (pixOf_out (Or.inl c_1)).symm | exact (pixOf_out (Or.inr (Or.inl c_9))).symm | exact (pixOf_out (Or.inr (Or.inr (Or.inl c_13)))).symm | exact (pixOf_out (Or.inr (Or.inr (Or.inr (Int32.not_lt.mp c_21))))).symm | exact (pixOf_in c_1 c_9 c_13 (fun q => absurd c_21 (Int32.not_lt.mpr q))).symm) hP9 hD9 d_Canvas_levelAt_25
      · refine lv_iload_n hx hb d_Canvas_levelAt_16 rfl (lv_at hl 2 rfl) ?_
        refine lv_aload_n hx hb d_Canvas_levelAt_17 rfl (lv_at hl 0 rfl) ?_
        refine va_get (D := D) (ci := 6) (v := .int (nI Rr)) (C := "PageScribe$Canvas") (T := F_Canvas) (N := 9) hx hb hts i_Canvas hown hK hP 0 rfl rfl 2 (by decide) (hts _ k_1_209) (fun _ h9 => h9) rfl d_Canvas_levelAt_18 ?_
        refine lv_icmp_lt (tgt := 26) hx hb d_Canvas_levelAt_21 (by decide) (fun c_21 => ?_) (fun c_21 => ?_)
        · obtain ⟨i, hi, rfl⟩ := nI_of c_1
          obtain ⟨j, hj, rfl⟩ := nI_of c_13
          have hi2 : i < C := by
            rcases Nat.lt_or_ge i C with q | q
            · exact q
            · exact absurd (nI_le q hi) c_9
          have hj2 : j < Rr := by
            rcases Nat.lt_or_ge j Rr with q | q
            · exact q
            · exact absurd c_21 (nI_nlt q hj)
          have hCR : C * Rr ≤ 24 * 16 := Nat.mul_le_mul hC hR
          have hij : j * C + i < C * Rr := by
            have h1 : (j + 1) * C ≤ Rr * C := Nat.mul_le_mul_right C hj2
            have h2 : (j + 1) * C = j * C + C := Nat.succ_mul j C
            have h3 : Rr * C = C * Rr := Nat.mul_comm Rr C
            omega
          refine lv_aload_n hx hb d_Canvas_levelAt_26 rfl (lv_at hl 0 rfl) ?_
          refine va_get (D := D) (ci := 6) (v := .ref lv) (C := "PageScribe$Canvas") (T := F_Canvas) (N := 9) hx hb hts i_Canvas hown hK hP 0 rfl rfl 3 (by decide) (hts _ k_1_210) (fun _ h9 => h9) rfl d_Canvas_levelAt_27 ?_
          refine lv_iload_n hx hb d_Canvas_levelAt_30 rfl (lv_at hl 2 rfl) ?_
          refine lv_aload_n hx hb d_Canvas_levelAt_31 rfl (lv_at hl 0 rfl) ?_
          refine va_get (D := D) (ci := 6) (v := .int (nI C)) (C := "PageScribe$Canvas") (T := F_Canvas) (N := 9) hx hb hts i_Canvas hown hK hP 0 rfl rfl 1 (by decide) (hts _ k_1_208) (fun _ h9 => h9) rfl d_Canvas_levelAt_32 ?_
          refine lv_imul hx hb d_Canvas_levelAt_35 ?_
          refine j_eqi (y := (nI (j * C))) (pk_mul j C) ?_
          refine lv_iload_n hx hb d_Canvas_levelAt_36 rfl (lv_at hl 1 rfl) ?_
          refine lv_iadd hx hb d_Canvas_levelAt_37 ?_
          refine j_eqi (y := (nI (j * C + i))) (nI_add (j * C) i) ?_
          refine va_iald hx hb hK hP 1 0 rfl rfl (vp_in_nI hij (by omega)) d_Canvas_levelAt_38 ?_
          refine j_eqi (y := 0) rfl ?_
          have hP9 := hP.sub (ws' := [(oC, .inr (6, [.ref oS, .int (nI C), .int (nI Rr), .ref lv, .float 0x3f800000, .ref ac, .ref al, .ref be, .int 0])), (lv, .inl (T 0, (C * Rr), .inl zI))]) [0, 1] rfl
          have hD9 := hD.sub (ws' := [(oC, .inr (6, [.ref oS, .int (nI C), .int (nI Rr), .ref lv, .float 0x3f800000, .ref ac, .ref al, .ref be, .int 0])), (lv, .inl (T 0, (C * Rr), .inl zI))]) [0, 1] (by decide) rfl
          refine W.widen (k := 0) (n := 0) (Nat.le_of_ble_eq_true rfl) (Nat.le_of_ble_eq_true rfl) ?_
          exact j_iret F hr hlocks hK hS () (by first | exact (pixOf_out (Or.inl c_1)).symm | exact (pixOf_out (Or.inr (Or.inl c_9))).symm | exact (pixOf_out (Or.inr (Or.inr (Or.inl c_13)))).symm | exact (pixOf_out (Or.inr (Or.inr (Or.inr (Int32.not_lt.mp c_21))))).symm | exact (pixOf_in c_1 c_9 c_13 (fun q => absurd c_21 (Int32.not_lt.mpr q))).symm) hP9 hD9 d_Canvas_levelAt_39
        · refine lv_iconst (v := (-1)) hx hb d_Canvas_levelAt_24 (by decide) ?_
          have hP9 := hP.sub (ws' := [(oC, .inr (6, [.ref oS, .int (nI C), .int (nI Rr), .ref lv, .float 0x3f800000, .ref ac, .ref al, .ref be, .int 0])), (lv, .inl (T 0, (C * Rr), .inl zI))]) [0, 1] rfl
          have hD9 := hD.sub (ws' := [(oC, .inr (6, [.ref oS, .int (nI C), .int (nI Rr), .ref lv, .float 0x3f800000, .ref ac, .ref al, .ref be, .int 0])), (lv, .inl (T 0, (C * Rr), .inl zI))]) [0, 1] (by decide) rfl
          refine W.widen (k := 0) (n := 0) (Nat.le_of_ble_eq_true rfl) (Nat.le_of_ble_eq_true rfl) ?_
          exact j_iret F hr hlocks hK hS () (by first | exact (pixOf_out (Or.inl c_1)).symm | exact (pixOf_out (Or.inr (Or.inl c_9))).symm | exact (pixOf_out (Or.inr (Or.inr (Or.inl c_13)))).symm | exact (pixOf_out (Or.inr (Or.inr (Or.inr (Int32.not_lt.mp c_21))))).symm | exact (pixOf_in c_1 c_9 c_13 (fun q => absurd c_21 (Int32.not_lt.mpr q))).symm) hP9 hD9 d_Canvas_levelAt_25
theorem d_Ps_pixel_0 : decode prog_1_method_13_code 0 = .ok (.aload_n 0, 1) := by decide +kernel
theorem d_Ps_pixel_1 : decode prog_1_method_13_code 1 = .ok (.getfield 50, 3) := by decide +kernel
theorem d_Ps_pixel_4 : decode prog_1_method_13_code 4 = .ok (.iload_n 1, 1) := by decide +kernel
theorem d_Ps_pixel_5 : decode prog_1_method_13_code 5 = .ok (.iload_n 2, 1) := by decide +kernel
theorem d_Ps_pixel_6 : decode prog_1_method_13_code 6 = .ok (.invokevirtual 185, 3) := by decide +kernel
theorem k_2_210 : Cond.code ⟨"PageScribe$Canvas", "levelAt", "(II)I"⟩ prog_3_method_2_code 3 (some .int) ∈ gw := gw_of (tb_2 (List.mem_of_getElem? (i := 210) (by decide +kernel))) (by decide +kernel)
theorem k_2_207 : Cond.methodLink "PageScribe" 185 ⟨"PageScribe$Canvas", "levelAt", "(II)I"⟩ ∈ gw := gw_of (tb_2 (List.mem_of_getElem? (i := 207) (by decide +kernel))) (by decide +kernel)
theorem k_2_208 : Cond.instanceMethod ⟨"PageScribe$Canvas", "levelAt", "(II)I"⟩ ∈ gw := gw_of (tb_2 (List.mem_of_getElem? (i := 208) (by decide +kernel))) (by decide +kernel)
theorem k_2_209 : Cond.selects "PageScribe$Canvas" ⟨"PageScribe$Canvas", "levelAt", "(II)I"⟩ ⟨"PageScribe$Canvas", "levelAt", "(II)I"⟩ ∈ gw := gw_of (tb_2 (List.mem_of_getElem? (i := 209) (by decide +kernel))) (by decide +kernel)
theorem d_Ps_pixel_9 : decode prog_1_method_13_code 9 = .ok (.ireturn, 1) := by decide +kernel
set_option maxHeartbeats 4000000 in
set_option maxRecDepth 100000 in
theorem c_Ps_pixel (l : Launch) (D : va_G) (T : Nat → ClassId) (h0 : Nat) (oS : Nat) (oW : Nat) (oM : Nat) (oR : Nat) (oC : Nat) (oE : Nat) (C : Nat) (Rr : Nat) (lv : Nat) (ac : Nat) (al : Nat) (be : Nat) (p0 : Int32) (p1 : Int32) (sz : Nat) (hC : C ≤ 24) (hR : Rr ≤ 16) : Met l ⟨"PageScribe", "pixel", "(II)I"⟩ (wy ⟨"PageScribe", "pixel", "(II)I"⟩ prog_1_method_13_code 3 (some .int)) ({ frames := 1, cells := 0, slots := 0, locals := 70 }) (va_Pc [.ref h0, .int p0, .int p1] (Pw D T [(h0, .inr (10, [.ref oS, .ref oW, .ref oM, .ref oR, .ref oC, .ref oE])), (oC, .inr (6, [.ref oS, .int (nI C), .int (nI Rr), .ref lv, .float 0x3f800000, .ref ac, .ref al, .ref be, .int 0])), (lv, .inl (T 0, (C * Rr), .inl zI))] sz E0)) (va_Qi (fun (r : Int32) (u : Unit) => r = pixOf (nI C) (nI Rr) p0 p1) (fun u t => Bw D T (va_A [(h0, .inr (10, [.ref oS, .ref oW, .ref oM, .ref oR, .ref oC, .ref oE])), (oC, .inr (6, [.ref oS, .int (nI C), .int (nI Rr), .ref lv, .float 0x3f800000, .ref ac, .ref al, .ref be, .int 0])), (lv, .inl (T 0, (C * Rr), .inl zI))] sz) [(h0, .inr (10, [.ref oS, .ref oW, .ref oM, .ref oR, .ref oC, .ref oE])), (oC, .inr (6, [.ref oS, .int (nI C), .int (nI Rr), .ref lv, .float 0x3f800000, .ref ac, .ref al, .ref be, .int 0])), (lv, .inl (T 0, (C * Rr), .inl zI))] t) (va_A [(h0, .inr (10, [.ref oS, .ref oW, .ref oM, .ref oR, .ref oC, .ref oE])), (oC, .inr (6, [.ref oS, .int (nI C), .int (nI Rr), .ref lv, .float 0x3f800000, .ref ac, .ref al, .ref be, .int 0])), (lv, .inl (T 0, (C * Rr), .inl zI))] sz)) 0 0 (va_A [(h0, .inr (10, [.ref oS, .ref oW, .ref oM, .ref oR, .ref oC, .ref oE])), (oC, .inr (6, [.ref oS, .int (nI C), .int (nI Rr), .ref lv, .float 0x3f800000, .ref ac, .ref al, .ref be, .int 0])), (lv, .inl (T 0, (C * Rr), .inl zI))] sz) := by
  refine j_met (Qc := fun A => va_Qi (fun (r : Int32) (u : Unit) => r = pixOf (nI C) (nI Rr) p0 p1) (fun u t => Bw D T A [(h0, .inr (10, [.ref oS, .ref oW, .ref oM, .ref oR, .ref oC, .ref oE])), (oC, .inr (6, [.ref oS, .int (nI C), .int (nI Rr), .ref lv, .float 0x3f800000, .ref ac, .ref al, .ref be, .int 0])), (lv, .inl (T 0, (C * Rr), .inl zI))] t) A) (by decide +kernel) (Nat.le_of_ble_eq_true rfl) (fun p e s m args below meth c A ls F hr hlocks hnm hK hP hD hS hA hN hE hl => ?_)
  obtain ⟨hx, hb, hml, hown, hts⟩ := id F
  have hin := hnm
  have hl : lv_has ls 3 [(0, .ref h0), (1, .int p0), (2, .int p1)] := hl
  refine lv_aload_n hx hb d_Ps_pixel_0 rfl (lv_at hl 0 rfl) ?_
  refine va_get (D := D) (ci := 10) (v := .ref oC) (C := "PageScribe") (T := F_Ps) (N := 6) hx hb hts i_Ps hown hK hP 0 rfl rfl 4 (by decide) (hts _ k_2_62) (fun _ h9 => h9) rfl d_Ps_pixel_1 ?_
  refine lv_iload_n hx hb d_Ps_pixel_4 rfl (lv_at hl 1 rfl) ?_
  refine lv_iload_n hx hb d_Ps_pixel_5 rfl (lv_at hl 2 rfl) ?_
  refine j_ci (wc := [(oC, .inr (6, [.ref oS, .int (nI C), .int (nI Rr), .ref lv, .float 0x3f800000, .ref ac, .ref al, .ref be, .int 0])), (lv, .inl (T 0, (C * Rr), .inl zI))]) (wr := [(h0, .inr (10, [.ref oS, .ref oW, .ref oM, .ref oR, .ref oC, .ref oE]))]) hK hP hD hS hA [1, 2] [0] rfl rfl (by decide) (by decide) (va_runV (As := [.int p0, .int p1]) (rest := []) F (c_Canvas_levelAt l D T oC oS C Rr lv ac al be p0 p1 s.heap.size hC hR) (j_cV (k := 2) (C := "PageScribe$Canvas") hts k_2_210 k_1_8 k_2_207 k_2_208 k_2_209 (by decide +kernel) ⟨Nat.le_of_ble_eq_true rfl, Nat.le_of_ble_eq_true rfl⟩) (j_preV (q0 := 1) (ci := 6) hK hP hD [1, 2] rfl (by decide) rfl rfl (fun _ _ _ _ h => h) (fun _ _ _ => trivial)) rfl rfl hl.1 rfl (lv_room (Nat.le_of_ble_eq_true rfl)) d_Ps_pixel_6 ⟨Nat.le_of_ble_eq_true rfl, Nat.le_of_ble_eq_true rfl⟩) (fun rv1 u1 H locs hw hP hD hS => ?_)
  have hP : va_P D classes [(h0, .inr (10, [.ref oS, .ref oW, .ref oM, .ref oR, .ref oC, .ref oE])), (oC, .inr (6, [.ref oS, .int (nI C), .int (nI Rr), .ref lv, .float 0x3f800000, .ref ac, .ref al, .ref be, .int 0])), (lv, .inl (T 0, (C * Rr), .inl zI))] H := hP
  have hD : va_D A [(h0, .inr (10, [.ref oS, .ref oW, .ref oM, .ref oR, .ref oC, .ref oE])), (oC, .inr (6, [.ref oS, .int (nI C), .int (nI Rr), .ref lv, .float 0x3f800000, .ref ac, .ref al, .ref be, .int 0])), (lv, .inl (T 0, (C * Rr), .inl zI))] := hD
  have hw1 : rv1 = pixOf (nI C) (nI Rr) p0 p1 := hw
  have hP9 := hP.sub (ws' := [(h0, .inr (10, [.ref oS, .ref oW, .ref oM, .ref oR, .ref oC, .ref oE])), (oC, .inr (6, [.ref oS, .int (nI C), .int (nI Rr), .ref lv, .float 0x3f800000, .ref ac, .ref al, .ref be, .int 0])), (lv, .inl (T 0, (C * Rr), .inl zI))]) [0, 1, 2] rfl
  have hD9 := hD.sub (ws' := [(h0, .inr (10, [.ref oS, .ref oW, .ref oM, .ref oR, .ref oC, .ref oE])), (oC, .inr (6, [.ref oS, .int (nI C), .int (nI Rr), .ref lv, .float 0x3f800000, .ref ac, .ref al, .ref be, .int 0])), (lv, .inl (T 0, (C * Rr), .inl zI))]) [0, 1, 2] (by decide) rfl
  refine W.widen (k := 0) (n := 0) (Nat.le_of_ble_eq_true rfl) (Nat.le_of_ble_eq_true rfl) ?_
  exact j_iret F hr hlocks hK hS () hw1 hP9 hD9 d_Ps_pixel_9
theorem d_Canvas_wipe_0 : decode prog_3_method_3_code 0 = .ok (.iconst 0, 1) := by decide +kernel
theorem d_Canvas_wipe_1 : decode prog_3_method_3_code 1 = .ok (.istore_n 1, 1) := by decide +kernel
theorem d_Canvas_wipe_2 : decode prog_3_method_3_code 2 = .ok (.iconst 0, 1) := by decide +kernel
theorem d_Canvas_wipe_3 : decode prog_3_method_3_code 3 = .ok (.istore_n 2, 1) := by decide +kernel
theorem d_Canvas_wipe_4 : decode prog_3_method_3_code 4 = .ok (.iload_n 2, 1) := by decide +kernel
theorem d_Canvas_wipe_5 : decode prog_3_method_3_code 5 = .ok (.aload_n 0, 1) := by decide +kernel
theorem d_Canvas_wipe_6 : decode prog_3_method_3_code 6 = .ok (.getfield 40, 3) := by decide +kernel
theorem d_Canvas_wipe_9 : decode prog_3_method_3_code 9 = .ok (.arraylength, 1) := by decide +kernel
theorem d_Canvas_wipe_10 : decode prog_3_method_3_code 10 = .ok (.if_icmp .ge 33, 3) := by decide +kernel
theorem d_Canvas_wipe_43 : decode prog_3_method_3_code 43 = .ok (.iload_n 1, 1) := by decide +kernel
theorem d_Canvas_wipe_44 : decode prog_3_method_3_code 44 = .ok (.ireturn, 1) := by decide +kernel
theorem d_Canvas_wipe_13 : decode prog_3_method_3_code 13 = .ok (.iload_n 1, 1) := by decide +kernel
theorem d_Canvas_wipe_14 : decode prog_3_method_3_code 14 = .ok (.aload_n 0, 1) := by decide +kernel
theorem d_Canvas_wipe_15 : decode prog_3_method_3_code 15 = .ok (.getfield 40, 3) := by decide +kernel
theorem d_Canvas_wipe_18 : decode prog_3_method_3_code 18 = .ok (.iload_n 2, 1) := by decide +kernel
theorem d_Canvas_wipe_19 : decode prog_3_method_3_code 19 = .ok (.iaload, 1) := by decide +kernel
theorem d_Canvas_wipe_20 : decode prog_3_method_3_code 20 = .ok (.ifCond .le 7, 3) := by decide +kernel
theorem d_Canvas_wipe_27 : decode prog_3_method_3_code 27 = .ok (.iconst 0, 1) := by decide +kernel
theorem d_Canvas_wipe_28 : decode prog_3_method_3_code 28 = .ok (.iadd, 1) := by decide +kernel
theorem d_Canvas_wipe_29 : decode prog_3_method_3_code 29 = .ok (.istore_n 1, 1) := by decide +kernel
theorem d_Canvas_wipe_30 : decode prog_3_method_3_code 30 = .ok (.aload_n 0, 1) := by decide +kernel
theorem d_Canvas_wipe_31 : decode prog_3_method_3_code 31 = .ok (.getfield 40, 3) := by decide +kernel
theorem d_Canvas_wipe_34 : decode prog_3_method_3_code 34 = .ok (.iload_n 2, 1) := by decide +kernel
theorem d_Canvas_wipe_35 : decode prog_3_method_3_code 35 = .ok (.iconst 0, 1) := by decide +kernel
theorem d_Canvas_wipe_36 : decode prog_3_method_3_code 36 = .ok (.iastore, 1) := by decide +kernel
theorem d_Canvas_wipe_37 : decode prog_3_method_3_code 37 = .ok (.iinc 2 1, 3) := by decide +kernel
theorem d_Canvas_wipe_40 : decode prog_3_method_3_code 40 = .ok (.goto (-36), 3) := by decide +kernel
set_option maxHeartbeats 4000000 in
set_option maxRecDepth 100000 in
theorem c_Canvas_wipe (l : Launch) (D : va_G) (T : Nat → ClassId) (oC : Nat) (oS : Nat) (C : Nat) (Rr : Nat) (lv : Nat) (ac : Nat) (al : Nat) (be : Nat) (sz : Nat) (hC : C ≤ 24) (hR : Rr ≤ 16) : Met l ⟨"PageScribe$Canvas", "wipe", "()I"⟩ (wy ⟨"PageScribe$Canvas", "wipe", "()I"⟩ prog_3_method_3_code 3 (some .int)) ({ frames := 0, cells := 0, slots := 0, locals := 0 }) (va_Pc [.ref oC] (Pw D T [(oC, .inr (6, [.ref oS, .int (nI C), .int (nI Rr), .ref lv, .float 0x3f800000, .ref ac, .ref al, .ref be, .int 0])), (lv, .inl (T 0, (C * Rr), .inl zI))] sz E0)) (va_Qi (fun (r : Int32) (u : Unit) => r = 0) (fun u t => Bw D T (va_A [(oC, .inr (6, [.ref oS, .int (nI C), .int (nI Rr), .ref lv, .float 0x3f800000, .ref ac, .ref al, .ref be, .int 0])), (lv, .inl (T 0, (C * Rr), .inl zI))] sz) [(oC, .inr (6, [.ref oS, .int (nI C), .int (nI Rr), .ref lv, .float 0x3f800000, .ref ac, .ref al, .ref be, .int 0])), (lv, .inl (T 0, (C * Rr), .inl zI))] t) (va_A [(oC, .inr (6, [.ref oS, .int (nI C), .int (nI Rr), .ref lv, .float 0x3f800000, .ref ac, .ref al, .ref be, .int 0])), (lv, .inl (T 0, (C * Rr), .inl zI))] sz)) 0 0 (va_A [(oC, .inr (6, [.ref oS, .int (nI C), .int (nI Rr), .ref lv, .float 0x3f800000, .ref ac, .ref al, .ref be, .int 0])), (lv, .inl (T 0, (C * Rr), .inl zI))] sz) := by
  refine j_met (Qc := fun A => va_Qi (fun (r : Int32) (u : Unit) => r = 0) (fun u t => Bw D T A [(oC, .inr (6, [.ref oS, .int (nI C), .int (nI Rr), .ref lv, .float 0x3f800000, .ref ac, .ref al, .ref be, .int 0])), (lv, .inl (T 0, (C * Rr), .inl zI))] t) A) (by decide +kernel) (Nat.le_of_ble_eq_true rfl) (fun p e s m args below meth c A ls F hr hlocks hnm hK hP hD hS hA hN hE hl => ?_)
  obtain ⟨hx, hb, hml, hown, hts⟩ := id F
  have hin := hnm
  have hl : lv_has ls 3 [(0, .ref oC)] := hl
  have hCR : C * Rr ≤ 24 * 16 := Nat.mul_le_mul hC hR
  refine lv_iconst (v := 0) hx hb d_Canvas_wipe_0 (by decide) ?_
  refine lv_istore_n (lv' := [(1, .int 0), (0, .ref oC)]) hx hb d_Canvas_wipe_1 rfl hl (by decide) rfl (fun ls hl => ?_)
  refine lv_iconst (v := 0) hx hb d_Canvas_wipe_2 (by decide) ?_
  refine lv_istore_n (lv' := [(2, .int 0), (1, .int 0), (0, .ref oC)]) hx hb d_Canvas_wipe_3 rfl hl (by decide) rfl (fun ls hl => ?_)
  refine j_loop (α := Nat) (fun k x H locs ls => (x + k = C * Rr) ∧ va_P D classes [(oC, .inr (6, [.ref oS, .int (nI C), .int (nI Rr), .ref lv, .float 0x3f800000, .ref ac, .ref al, .ref be, .int 0])), (lv, .inl (T 0, (C * Rr), .inl zI))] H ∧ va_D A [(oC, .inr (6, [.ref oS, .int (nI C), .int (nI Rr), .ref lv, .float 0x3f800000, .ref ac, .ref al, .ref be, .int 0])), (lv, .inl (T 0, (C * Rr), .inl zI))] ∧ va_S A s.heap H locs ∧ lv_has ls 3 [(0, .ref oC), (1, .int 0), (2, .int (nI x))]) (fun _ _ ls => F0 m 4 ls []) (fun k x H locs ls hI ih => ?_) (C * Rr) 0 _ _ _ ⟨by omega, hP.sub [0, 1] rfl, hD.sub [0, 1] (by decide) rfl, hS, lv_sub hl [2, 1, 0] rfl⟩
  obtain ⟨i, rfl⟩ : ∃ z, z = x := ⟨_, rfl⟩
  obtain ⟨hk, hP, hD, hS, hl⟩ := hI
  have hP : va_P D classes [(oC, .inr (6, [.ref oS, .int (nI C), .int (nI Rr), .ref lv, .float 0x3f800000, .ref ac, .ref al, .ref be, .int 0])), (lv, .inl (T 0, (C * Rr), .inl zI))] H := hP
  have hD : va_D A [(oC, .inr (6, [.ref oS, .int (nI C), .int (nI Rr), .ref lv, .float 0x3f800000, .ref ac, .ref al, .ref be, .int 0])), (lv, .inl (T 0, (C * Rr), .inl zI))] := hD
  have hl : lv_has ls 3 [(0, .ref oC), (1, .int 0), (2, .int (nI i))] := hl
  refine lv_iload_n hx hb d_Canvas_wipe_4 rfl (lv_at hl 2 rfl) ?_
  refine lv_aload_n hx hb d_Canvas_wipe_5 rfl (lv_at hl 0 rfl) ?_
  refine va_get (D := D) (ci := 6) (v := .ref lv) (C := "PageScribe$Canvas") (T := F_Canvas) (N := 9) hx hb hts i_Canvas hown hK hP 0 rfl rfl 3 (by decide) (hts _ k_1_210) (fun _ h9 => h9) rfl d_Canvas_wipe_6 ?_
  refine va_alen (v := (nI (C * Rr))) hx hb hK hP 1 0 rfl rfl rfl d_Canvas_wipe_9 ?_
  refine lv_icmp_ge (tgt := 43) hx hb d_Canvas_wipe_10 (by decide) (fun c_10 => ?_) (fun c_10 => ?_)
  · refine lv_iload_n hx hb d_Canvas_wipe_43 rfl (lv_at hl 1 rfl) ?_
    have hP9 := hP.sub (ws' := [(oC, .inr (6, [.ref oS, .int (nI C), .int (nI Rr), .ref lv, .float 0x3f800000, .ref ac, .ref al, .ref be, .int 0])), (lv, .inl (T 0, (C * Rr), .inl zI))]) [0, 1] rfl
    have hD9 := hD.sub (ws' := [(oC, .inr (6, [.ref oS, .int (nI C), .int (nI Rr), .ref lv, .float 0x3f800000, .ref ac, .ref al, .ref be, .int 0])), (lv, .inl (T 0, (C * Rr), .inl zI))]) [0, 1] (by decide) rfl
    refine W.widen (k := 0) (n := 0) (Nat.le_of_ble_eq_true rfl) (Nat.le_of_ble_eq_true rfl) ?_
    exact j_iret F hr hlocks hK hS () rfl hP9 hD9 d_Canvas_wipe_44
  · have hi : i < C * Rr := by
      rcases Nat.lt_or_ge i (C * Rr) with q | q
      · exact q
      · exact absurd (nI_le q (by omega)) c_10
    refine lv_iload_n hx hb d_Canvas_wipe_13 rfl (lv_at hl 1 rfl) ?_
    refine lv_aload_n hx hb d_Canvas_wipe_14 rfl (lv_at hl 0 rfl) ?_
    refine va_get (D := D) (ci := 6) (v := .ref lv) (C := "PageScribe$Canvas") (T := F_Canvas) (N := 9) hx hb hts i_Canvas hown hK hP 0 rfl rfl 3 (by decide) (hts _ k_1_210) (fun _ h9 => h9) rfl d_Canvas_wipe_15 ?_
    refine lv_iload_n hx hb d_Canvas_wipe_18 rfl (lv_at hl 2 rfl) ?_
    refine va_iald hx hb hK hP 1 0 rfl rfl (vp_in_nI hi (by omega)) d_Canvas_wipe_19 ?_
    refine j_eqi (y := 0) rfl ?_
    refine lv_if_le (tgt := 27) hx hb d_Canvas_wipe_20 (by decide) (fun _ => ?_) (fun c9 => absurd c9 (by decide +kernel))
    refine lv_iconst (v := 0) hx hb d_Canvas_wipe_27 (by decide) ?_
    refine lv_iadd hx hb d_Canvas_wipe_28 ?_
    refine j_eqi (y := 0) (by decide +kernel) ?_
    refine lv_istore_n (lv' := [(1, .int 0), (0, .ref oC), (2, .int (nI i))]) hx hb d_Canvas_wipe_29 rfl hl (by decide) rfl (fun ls hl => ?_)
    refine lv_aload_n hx hb d_Canvas_wipe_30 rfl (lv_at hl 1 rfl) ?_
    refine va_get (D := D) (ci := 6) (v := .ref lv) (C := "PageScribe$Canvas") (T := F_Canvas) (N := 9) hx hb hts i_Canvas hown hK hP 0 rfl rfl 3 (by decide) (hts _ k_1_210) (fun _ h9 => h9) rfl d_Canvas_wipe_31 ?_
    refine lv_iload_n hx hb d_Canvas_wipe_34 rfl (lv_at hl 2 rfl) ?_
    refine lv_iconst (v := 0) hx hb d_Canvas_wipe_35 (by decide) ?_
    refine va_iast hx hb hK hP hD hS 1 0 rfl rfl (vp_in_nI hi (by omega)) d_Canvas_wipe_36 (fun H locs hP hD hS => ?_)
    have hP : va_P D classes [(oC, .inr (6, [.ref oS, .int (nI C), .int (nI Rr), .ref lv, .float 0x3f800000, .ref ac, .ref al, .ref be, .int 0])), (lv, .inl (T 0, (C * Rr), .inl (upd zI (nI i).toNatClampNeg 0)))] H := hP
    have hD : va_D A [(oC, .inr (6, [.ref oS, .int (nI C), .int (nI Rr), .ref lv, .float 0x3f800000, .ref ac, .ref al, .ref be, .int 0])), (lv, .inl (T 0, (C * Rr), .inl (upd zI (nI i).toNatClampNeg 0)))] := hD
    rw [zI_up] at hP hD
    have hP : va_P D classes [(oC, .inr (6, [.ref oS, .int (nI C), .int (nI Rr), .ref lv, .float 0x3f800000, .ref ac, .ref al, .ref be, .int 0])), (lv, .inl (T 0, (C * Rr), .inl zI))] H := hP
    have hD : va_D A [(oC, .inr (6, [.ref oS, .int (nI C), .int (nI Rr), .ref lv, .float 0x3f800000, .ref ac, .ref al, .ref be, .int 0])), (lv, .inl (T 0, (C * Rr), .inl zI))] := hD
    refine lv_iinc (v := (nI (i + 1))) (lv' := [(2, .int (nI (i + 1))), (1, .int 0), (0, .ref oC)]) hx hb d_Canvas_wipe_37 hl (k := 2) rfl (nI_1 i) (by decide) rfl (fun ls hl => ?_)
    refine lv_goto (tgt := 4) hx hb d_Canvas_wipe_40 (by decide) ?_
    exact ih (k - 1) (i + 1) _ _ _ (by omega) ⟨(by omega), hP.sub [0, 1] rfl, hD.sub [0, 1] (by decide) rfl, hS, lv_sub hl [2, 1, 0] rfl⟩
theorem d_Ps_page_0 : decode prog_1_method_14_code 0 = .ok (.aload_n 0, 1) := by decide +kernel
theorem d_Ps_page_1 : decode prog_1_method_14_code 1 = .ok (.getfield 50, 3) := by decide +kernel
theorem d_Ps_page_4 : decode prog_1_method_14_code 4 = .ok (.invokevirtual 188, 3) := by decide +kernel
theorem k_2_218 : Cond.code ⟨"PageScribe$Canvas", "wipe", "()I"⟩ prog_3_method_3_code 3 (some .int) ∈ gw := gw_of (tb_2 (List.mem_of_getElem? (i := 218) (by decide +kernel))) (by decide +kernel)
theorem k_2_215 : Cond.methodLink "PageScribe" 188 ⟨"PageScribe$Canvas", "wipe", "()I"⟩ ∈ gw := gw_of (tb_2 (List.mem_of_getElem? (i := 215) (by decide +kernel))) (by decide +kernel)
theorem k_2_216 : Cond.instanceMethod ⟨"PageScribe$Canvas", "wipe", "()I"⟩ ∈ gw := gw_of (tb_2 (List.mem_of_getElem? (i := 216) (by decide +kernel))) (by decide +kernel)
theorem k_2_217 : Cond.selects "PageScribe$Canvas" ⟨"PageScribe$Canvas", "wipe", "()I"⟩ ⟨"PageScribe$Canvas", "wipe", "()I"⟩ ∈ gw := gw_of (tb_2 (List.mem_of_getElem? (i := 217) (by decide +kernel))) (by decide +kernel)
theorem d_Ps_page_7 : decode prog_1_method_14_code 7 = .ok (.ireturn, 1) := by decide +kernel
set_option maxHeartbeats 4000000 in
set_option maxRecDepth 100000 in
theorem c_Ps_page (l : Launch) (D : va_G) (T : Nat → ClassId) (h0 : Nat) (oS : Nat) (oW : Nat) (oM : Nat) (oR : Nat) (oC : Nat) (oE : Nat) (C : Nat) (Rr : Nat) (lv : Nat) (ac : Nat) (al : Nat) (be : Nat) (sz : Nat) (hC : C ≤ 24) (hR : Rr ≤ 16) : Met l ⟨"PageScribe", "page", "()I"⟩ (wy ⟨"PageScribe", "page", "()I"⟩ prog_1_method_14_code 1 (some .int)) ({ frames := 1, cells := 0, slots := 0, locals := 70 }) (va_Pc [.ref h0] (Pw D T [(h0, .inr (10, [.ref oS, .ref oW, .ref oM, .ref oR, .ref oC, .ref oE])), (oC, .inr (6, [.ref oS, .int (nI C), .int (nI Rr), .ref lv, .float 0x3f800000, .ref ac, .ref al, .ref be, .int 0])), (lv, .inl (T 0, (C * Rr), .inl zI))] sz E0)) (va_Qi (fun (r : Int32) (u : Unit) => r = 0) (fun u t => Bw D T (va_A [(h0, .inr (10, [.ref oS, .ref oW, .ref oM, .ref oR, .ref oC, .ref oE])), (oC, .inr (6, [.ref oS, .int (nI C), .int (nI Rr), .ref lv, .float 0x3f800000, .ref ac, .ref al, .ref be, .int 0])), (lv, .inl (T 0, (C * Rr), .inl zI))] sz) [(h0, .inr (10, [.ref oS, .ref oW, .ref oM, .ref oR, .ref oC, .ref oE])), (oC, .inr (6, [.ref oS, .int (nI C), .int (nI Rr), .ref lv, .float 0x3f800000, .ref ac, .ref al, .ref be, .int 0])), (lv, .inl (T 0, (C * Rr), .inl zI))] t) (va_A [(h0, .inr (10, [.ref oS, .ref oW, .ref oM, .ref oR, .ref oC, .ref oE])), (oC, .inr (6, [.ref oS, .int (nI C), .int (nI Rr), .ref lv, .float 0x3f800000, .ref ac, .ref al, .ref be, .int 0])), (lv, .inl (T 0, (C * Rr), .inl zI))] sz)) 0 0 (va_A [(h0, .inr (10, [.ref oS, .ref oW, .ref oM, .ref oR, .ref oC, .ref oE])), (oC, .inr (6, [.ref oS, .int (nI C), .int (nI Rr), .ref lv, .float 0x3f800000, .ref ac, .ref al, .ref be, .int 0])), (lv, .inl (T 0, (C * Rr), .inl zI))] sz) := by
  refine j_met (Qc := fun A => va_Qi (fun (r : Int32) (u : Unit) => r = 0) (fun u t => Bw D T A [(h0, .inr (10, [.ref oS, .ref oW, .ref oM, .ref oR, .ref oC, .ref oE])), (oC, .inr (6, [.ref oS, .int (nI C), .int (nI Rr), .ref lv, .float 0x3f800000, .ref ac, .ref al, .ref be, .int 0])), (lv, .inl (T 0, (C * Rr), .inl zI))] t) A) (by decide +kernel) (Nat.le_of_ble_eq_true rfl) (fun p e s m args below meth c A ls F hr hlocks hnm hK hP hD hS hA hN hE hl => ?_)
  obtain ⟨hx, hb, hml, hown, hts⟩ := id F
  have hin := hnm
  have hl : lv_has ls 1 [(0, .ref h0)] := hl
  refine lv_aload_n hx hb d_Ps_page_0 rfl (lv_at hl 0 rfl) ?_
  refine va_get (D := D) (ci := 10) (v := .ref oC) (C := "PageScribe") (T := F_Ps) (N := 6) hx hb hts i_Ps hown hK hP 0 rfl rfl 4 (by decide) (hts _ k_2_62) (fun _ h9 => h9) rfl d_Ps_page_1 ?_
  refine j_ci (wc := [(oC, .inr (6, [.ref oS, .int (nI C), .int (nI Rr), .ref lv, .float 0x3f800000, .ref ac, .ref al, .ref be, .int 0])), (lv, .inl (T 0, (C * Rr), .inl zI))]) (wr := [(h0, .inr (10, [.ref oS, .ref oW, .ref oM, .ref oR, .ref oC, .ref oE]))]) hK hP hD hS hA [1, 2] [0] rfl rfl (by decide) (by decide) (va_runV (As := []) (rest := []) F (c_Canvas_wipe l D T oC oS C Rr lv ac al be s.heap.size hC hR) (j_cV (k := 0) (C := "PageScribe$Canvas") hts k_2_218 k_1_8 k_2_215 k_2_216 k_2_217 (by decide +kernel) ⟨Nat.le_of_ble_eq_true rfl, Nat.le_of_ble_eq_true rfl⟩) (j_preV (q0 := 1) (ci := 6) hK hP hD [1, 2] rfl (by decide) rfl rfl (fun _ _ _ _ h => h) (fun _ _ _ => trivial)) rfl rfl hl.1 rfl (lv_room (Nat.le_of_ble_eq_true rfl)) d_Ps_page_4 ⟨Nat.le_of_ble_eq_true rfl, Nat.le_of_ble_eq_true rfl⟩) (fun rv1 u1 H locs hw hP hD hS => ?_)
  have hP : va_P D classes [(h0, .inr (10, [.ref oS, .ref oW, .ref oM, .ref oR, .ref oC, .ref oE])), (oC, .inr (6, [.ref oS, .int (nI C), .int (nI Rr), .ref lv, .float 0x3f800000, .ref ac, .ref al, .ref be, .int 0])), (lv, .inl (T 0, (C * Rr), .inl zI))] H := hP
  have hD : va_D A [(h0, .inr (10, [.ref oS, .ref oW, .ref oM, .ref oR, .ref oC, .ref oE])), (oC, .inr (6, [.ref oS, .int (nI C), .int (nI Rr), .ref lv, .float 0x3f800000, .ref ac, .ref al, .ref be, .int 0])), (lv, .inl (T 0, (C * Rr), .inl zI))] := hD
  have hw1 : rv1 = 0 := hw
  have hP9 := hP.sub (ws' := [(h0, .inr (10, [.ref oS, .ref oW, .ref oM, .ref oR, .ref oC, .ref oE])), (oC, .inr (6, [.ref oS, .int (nI C), .int (nI Rr), .ref lv, .float 0x3f800000, .ref ac, .ref al, .ref be, .int 0])), (lv, .inl (T 0, (C * Rr), .inl zI))]) [0, 1, 2] rfl
  have hD9 := hD.sub (ws' := [(h0, .inr (10, [.ref oS, .ref oW, .ref oM, .ref oR, .ref oC, .ref oE])), (oC, .inr (6, [.ref oS, .int (nI C), .int (nI Rr), .ref lv, .float 0x3f800000, .ref ac, .ref al, .ref be, .int 0])), (lv, .inl (T 0, (C * Rr), .inl zI))]) [0, 1, 2] (by decide) rfl
  refine W.widen (k := 0) (n := 0) (Nat.le_of_ble_eq_true rfl) (Nat.le_of_ble_eq_true rfl) ?_
  exact j_iret F hr hlocks hK hS () hw1 hP9 hD9 d_Ps_page_7
theorem d_Reader_findToken_0 : decode prog_7_method_4_code 0 = .ok (.aload_n 0, 1) := by decide +kernel
theorem d_Reader_findToken_1 : decode prog_7_method_4_code 1 = .ok (.getfield 19, 3) := by decide +kernel
theorem d_Reader_findToken_4 : decode prog_7_method_4_code 4 = .ok (.aload_n 0, 1) := by decide +kernel
theorem d_Reader_findToken_5 : decode prog_7_method_4_code 5 = .ok (.getfield 15, 3) := by decide +kernel
theorem d_Reader_findToken_8 : decode prog_7_method_4_code 8 = .ok (.if_icmp .ge 30, 3) := by decide +kernel
theorem d_Reader_findToken_38 : decode prog_7_method_4_code 38 = .ok (.aload_n 0, 1) := by decide +kernel
theorem d_Reader_findToken_39 : decode prog_7_method_4_code 39 = .ok (.getfield 19, 3) := by decide +kernel
theorem d_Reader_findToken_42 : decode prog_7_method_4_code 42 = .ok (.aload_n 0, 1) := by decide +kernel
theorem d_Reader_findToken_43 : decode prog_7_method_4_code 43 = .ok (.getfield 15, 3) := by decide +kernel
theorem d_Reader_findToken_46 : decode prog_7_method_4_code 46 = .ok (.if_icmp .ge 7, 3) := by decide +kernel
theorem d_Reader_findToken_53 : decode prog_7_method_4_code 53 = .ok (.iconst 0, 1) := by decide +kernel
theorem d_Reader_findToken_54 : decode prog_7_method_4_code 54 = .ok (.ireturn, 1) := by decide +kernel
set_option maxHeartbeats 4000000 in
set_option maxRecDepth 100000 in
theorem c_Reader_findToken (l : Launch) (D : va_G) (T : Nat → ClassId) (oR : Nat) (oW : Nat) (st : Nat) (tx : Nat) (gt : Nat) (bg : Nat) (sz : Nat) : Met l ⟨"PageScribe$Reader", "findToken", "()Z"⟩ (wy ⟨"PageScribe$Reader", "findToken", "()Z"⟩ prog_7_method_4_code 1 (some .boolean)) ({ frames := 0, cells := 0, slots := 0, locals := 0 }) (va_Pc [.ref oR] (Pw D T [(oR, .inr (5, [.ref oW, .ref st, .ref tx, .int 0, .int 0, .int 0, .int 0, .double 0, .ref gt, .ref bg]))] sz E0)) (va_Qi (fun (r : Int32) (u : Unit) => r = 0) (fun u t => Bw D T (va_A [(oR, .inr (5, [.ref oW, .ref st, .ref tx, .int 0, .int 0, .int 0, .int 0, .double 0, .ref gt, .ref bg]))] sz) [(oR, .inr (5, [.ref oW, .ref st, .ref tx, .int 0, .int 0, .int 0, .int 0, .double 0, .ref gt, .ref bg]))] t) (va_A [(oR, .inr (5, [.ref oW, .ref st, .ref tx, .int 0, .int 0, .int 0, .int 0, .double 0, .ref gt, .ref bg]))] sz)) 0 0 (va_A [(oR, .inr (5, [.ref oW, .ref st, .ref tx, .int 0, .int 0, .int 0, .int 0, .double 0, .ref gt, .ref bg]))] sz) := by
  refine j_met (Qc := fun A => va_Qi (fun (r : Int32) (u : Unit) => r = 0) (fun u t => Bw D T A [(oR, .inr (5, [.ref oW, .ref st, .ref tx, .int 0, .int 0, .int 0, .int 0, .double 0, .ref gt, .ref bg]))] t) A) (by decide +kernel) (Nat.le_of_ble_eq_true rfl) (fun p e s m args below meth c A ls F hr hlocks hnm hK hP hD hS hA hN hE hl => ?_)
  obtain ⟨hx, hb, hml, hown, hts⟩ := id F
  have hin := hnm
  have hl : lv_has ls 1 [(0, .ref oR)] := hl
  refine lv_aload_n hx hb d_Reader_findToken_0 rfl (lv_at hl 0 rfl) ?_
  refine va_get (D := D) (ci := 5) (v := .int 0) (C := "PageScribe$Reader") (T := F_Reader) (N := 10) hx hb hts i_Reader hown hK hP 0 rfl rfl 4 (by decide) (hts _ k_1_171) (fun _ h9 => h9) rfl d_Reader_findToken_1 ?_
  refine lv_aload_n hx hb d_Reader_findToken_4 rfl (lv_at hl 0 rfl) ?_
  refine va_get (D := D) (ci := 5) (v := .int 0) (C := "PageScribe$Reader") (T := F_Reader) (N := 10) hx hb hts i_Reader hown hK hP 0 rfl rfl 3 (by decide) (hts _ k_1_169) (fun _ h9 => h9) rfl d_Reader_findToken_5 ?_
  refine lv_icmp_ge (tgt := 38) hx hb d_Reader_findToken_8 (by decide) (fun _ => ?_) (fun c9 => absurd c9 (by decide +kernel))
  refine lv_aload_n hx hb d_Reader_findToken_38 rfl (lv_at hl 0 rfl) ?_
  refine va_get (D := D) (ci := 5) (v := .int 0) (C := "PageScribe$Reader") (T := F_Reader) (N := 10) hx hb hts i_Reader hown hK hP 0 rfl rfl 4 (by decide) (hts _ k_1_171) (fun _ h9 => h9) rfl d_Reader_findToken_39 ?_
  refine lv_aload_n hx hb d_Reader_findToken_42 rfl (lv_at hl 0 rfl) ?_
  refine va_get (D := D) (ci := 5) (v := .int 0) (C := "PageScribe$Reader") (T := F_Reader) (N := 10) hx hb hts i_Reader hown hK hP 0 rfl rfl 3 (by decide) (hts _ k_1_169) (fun _ h9 => h9) rfl d_Reader_findToken_43 ?_
  refine lv_icmp_ge (tgt := 53) hx hb d_Reader_findToken_46 (by decide) (fun _ => ?_) (fun c9 => absurd c9 (by decide +kernel))
  refine lv_iconst (v := 0) hx hb d_Reader_findToken_53 (by decide) ?_
  have hP9 := hP.sub (ws' := [(oR, .inr (5, [.ref oW, .ref st, .ref tx, .int 0, .int 0, .int 0, .int 0, .double 0, .ref gt, .ref bg]))]) [0] rfl
  have hD9 := hD.sub (ws' := [(oR, .inr (5, [.ref oW, .ref st, .ref tx, .int 0, .int 0, .int 0, .int 0, .double 0, .ref gt, .ref bg]))]) [0] (by decide) rfl
  refine W.widen (k := 0) (n := 0) (Nat.le_of_ble_eq_true rfl) (Nat.le_of_ble_eq_true rfl) ?_
  exact j_zret F hr rfl hlocks hK hS () rfl hP9 hD9 d_Reader_findToken_54
theorem d_Reader_empty_0 : decode prog_7_method_3_code 0 = .ok (.aload_n 0, 1) := by decide +kernel
theorem d_Reader_empty_1 : decode prog_7_method_3_code 1 = .ok (.iconst 0, 1) := by decide +kernel
theorem d_Reader_empty_2 : decode prog_7_method_3_code 2 = .ok (.putfield 15, 3) := by decide +kernel
theorem d_Reader_empty_5 : decode prog_7_method_3_code 5 = .ok (.aload_n 0, 1) := by decide +kernel
theorem d_Reader_empty_6 : decode prog_7_method_3_code 6 = .ok (.iconst 0, 1) := by decide +kernel
theorem d_Reader_empty_7 : decode prog_7_method_3_code 7 = .ok (.putfield 19, 3) := by decide +kernel
theorem d_Reader_empty_10 : decode prog_7_method_3_code 10 = .ok (.return_, 1) := by decide +kernel
set_option maxHeartbeats 4000000 in
set_option maxRecDepth 100000 in
theorem c_Reader_empty (l : Launch) (D : va_G) (T : Nat → ClassId) (oR : Nat) (oW : Nat) (st : Nat) (tx : Nat) (gt : Nat) (bg : Nat) (sz : Nat) : Met l ⟨"PageScribe$Reader", "empty", "()V"⟩ (wy ⟨"PageScribe$Reader", "empty", "()V"⟩ prog_7_method_3_code 1 none) ({ frames := 0, cells := 0, slots := 0, locals := 0 }) (va_Pc [.ref oR] (Pw D T [(oR, .inr (5, [.ref oW, .ref st, .ref tx, .int 0, .int 0, .int 0, .int 0, .double 0, .ref gt, .ref bg]))] sz E0)) (va_Qv (fun (u : Unit) => True) (fun u t => Bw D T (va_A [(oR, .inr (5, [.ref oW, .ref st, .ref tx, .int 0, .int 0, .int 0, .int 0, .double 0, .ref gt, .ref bg]))] sz) [(oR, .inr (5, [.ref oW, .ref st, .ref tx, .int 0, .int 0, .int 0, .int 0, .double 0, .ref gt, .ref bg]))] t) (va_A [(oR, .inr (5, [.ref oW, .ref st, .ref tx, .int 0, .int 0, .int 0, .int 0, .double 0, .ref gt, .ref bg]))] sz)) 0 0 (va_A [(oR, .inr (5, [.ref oW, .ref st, .ref tx, .int 0, .int 0, .int 0, .int 0, .double 0, .ref gt, .ref bg]))] sz) := by
  refine j_met (Qc := fun A => va_Qv (fun (u : Unit) => True) (fun u t => Bw D T A [(oR, .inr (5, [.ref oW, .ref st, .ref tx, .int 0, .int 0, .int 0, .int 0, .double 0, .ref gt, .ref bg]))] t) A) (by decide +kernel) (Nat.le_of_ble_eq_true rfl) (fun p e s m args below meth c A ls F hr hlocks hnm hK hP hD hS hA hN hE hl => ?_)
  obtain ⟨hx, hb, hml, hown, hts⟩ := id F
  have hin := hnm
  have hl : lv_has ls 1 [(0, .ref oR)] := hl
  refine lv_aload_n hx hb d_Reader_empty_0 rfl (lv_at hl 0 rfl) ?_
  refine lv_iconst (v := 0) hx hb d_Reader_empty_1 (by decide) ?_
  refine va_put (D := D) (ci := 5) (v := .int 0) (ty := .int) (C := "PageScribe$Reader") (T := F_Reader) (N := 10) hx hb hts i_Reader t_Reader t_Reader_ok n_Reader hown hK hP hD hS 0 rfl rfl 3 (by decide) (hts _ k_1_169) (fun _ h9 => h9) rfl (by decide +kernel) rfl rfl (Nat.le_of_ble_eq_true rfl) d_Reader_empty_2 (fun H locs hP hD hS => ?_)
  have hP : va_P D classes [(oR, .inr (5, [.ref oW, .ref st, .ref tx, .int 0, .int 0, .int 0, .int 0, .double 0, .ref gt, .ref bg]))] H := hP
  have hD : va_D A [(oR, .inr (5, [.ref oW, .ref st, .ref tx, .int 0, .int 0, .int 0, .int 0, .double 0, .ref gt, .ref bg]))] := hD
  refine lv_aload_n hx hb d_Reader_empty_5 rfl (lv_at hl 0 rfl) ?_
  refine lv_iconst (v := 0) hx hb d_Reader_empty_6 (by decide) ?_
  refine va_put (D := D) (ci := 5) (v := .int 0) (ty := .int) (C := "PageScribe$Reader") (T := F_Reader) (N := 10) hx hb hts i_Reader t_Reader t_Reader_ok n_Reader hown hK hP hD hS 0 rfl rfl 4 (by decide) (hts _ k_1_171) (fun _ h9 => h9) rfl (by decide +kernel) rfl rfl (Nat.le_of_ble_eq_true rfl) d_Reader_empty_7 (fun H locs hP hD hS => ?_)
  have hP : va_P D classes [(oR, .inr (5, [.ref oW, .ref st, .ref tx, .int 0, .int 0, .int 0, .int 0, .double 0, .ref gt, .ref bg]))] H := hP
  have hD : va_D A [(oR, .inr (5, [.ref oW, .ref st, .ref tx, .int 0, .int 0, .int 0, .int 0, .double 0, .ref gt, .ref bg]))] := hD
  have hP9 := hP.sub (ws' := [(oR, .inr (5, [.ref oW, .ref st, .ref tx, .int 0, .int 0, .int 0, .int 0, .double 0, .ref gt, .ref bg]))]) [0] rfl
  have hD9 := hD.sub (ws' := [(oR, .inr (5, [.ref oW, .ref st, .ref tx, .int 0, .int 0, .int 0, .int 0, .double 0, .ref gt, .ref bg]))]) [0] (by decide) rfl
  refine W.widen (k := 0) (n := 0) (Nat.le_of_ble_eq_true rfl) (Nat.le_of_ble_eq_true rfl) ?_
  exact j_vret F hr hlocks hK hS () trivial hP9 hD9 d_Reader_empty_10
theorem d_Engine_begin_0 : decode prog_4_method_2_code 0 = .ok (.aload_n 0, 1) := by decide +kernel
theorem d_Engine_begin_1 : decode prog_4_method_2_code 1 = .ok (.iload_n 1, 1) := by decide +kernel
theorem d_Engine_begin_2 : decode prog_4_method_2_code 2 = .ok (.putfield 9, 3) := by decide +kernel
theorem d_Engine_begin_5 : decode prog_4_method_2_code 5 = .ok (.aload_n 0, 1) := by decide +kernel
theorem d_Engine_begin_6 : decode prog_4_method_2_code 6 = .ok (.iconst 0, 1) := by decide +kernel
theorem d_Engine_begin_7 : decode prog_4_method_2_code 7 = .ok (.putfield 15, 3) := by decide +kernel
theorem d_Engine_begin_10 : decode prog_4_method_2_code 10 = .ok (.return_, 1) := by decide +kernel
set_option maxHeartbeats 4000000 in
set_option maxRecDepth 100000 in
theorem c_Engine_begin (l : Launch) (D : va_G) (T : Nat → ClassId) (oE : Nat) (oS : Nat) (oM : Nat) (oC : Nat) (su : Nat) (tr : Nat) (p0 : Int32) (sz : Nat) : Met l ⟨"PageScribe$Engine", "begin", "(I)V"⟩ (wy ⟨"PageScribe$Engine", "begin", "(I)V"⟩ prog_4_method_2_code 2 none) ({ frames := 0, cells := 0, slots := 0, locals := 0 }) (va_Pc [.ref oE, .int p0] (Pw D T [(oE, .inr (7, [.ref oS, .ref oM, .ref oC, .ref su, .ref tr, .int 0, .int 0, .int 0, .int 0, .int 0, .int 0]))] sz E0)) (va_Qv (fun (u : Unit) => True) (fun u t => Bw D T (va_A [(oE, .inr (7, [.ref oS, .ref oM, .ref oC, .ref su, .ref tr, .int 0, .int 0, .int 0, .int 0, .int 0, .int 0]))] sz) [(oE, .inr (7, [.ref oS, .ref oM, .ref oC, .ref su, .ref tr, .int p0, .int 0, .int 0, .int 0, .int 0, .int 0]))] t) (va_A [(oE, .inr (7, [.ref oS, .ref oM, .ref oC, .ref su, .ref tr, .int 0, .int 0, .int 0, .int 0, .int 0, .int 0]))] sz)) 0 0 (va_A [(oE, .inr (7, [.ref oS, .ref oM, .ref oC, .ref su, .ref tr, .int 0, .int 0, .int 0, .int 0, .int 0, .int 0]))] sz) := by
  refine j_met (Qc := fun A => va_Qv (fun (u : Unit) => True) (fun u t => Bw D T A [(oE, .inr (7, [.ref oS, .ref oM, .ref oC, .ref su, .ref tr, .int p0, .int 0, .int 0, .int 0, .int 0, .int 0]))] t) A) (by decide +kernel) (Nat.le_of_ble_eq_true rfl) (fun p e s m args below meth c A ls F hr hlocks hnm hK hP hD hS hA hN hE hl => ?_)
  obtain ⟨hx, hb, hml, hown, hts⟩ := id F
  have hin := hnm
  have hl : lv_has ls 2 [(0, .ref oE), (1, .int p0)] := hl
  refine lv_aload_n hx hb d_Engine_begin_0 rfl (lv_at hl 0 rfl) ?_
  refine lv_iload_n hx hb d_Engine_begin_1 rfl (lv_at hl 1 rfl) ?_
  refine va_put (D := D) (ci := 7) (v := .int p0) (ty := .int) (C := "PageScribe$Engine") (T := F_Engine) (N := 11) hx hb hts i_Engine t_Engine t_Engine_ok n_Engine hown hK hP hD hS 0 rfl rfl 5 (by decide) (hts _ k_2_27) (fun _ h9 => h9) rfl (by decide +kernel) rfl rfl (Nat.le_of_ble_eq_true rfl) d_Engine_begin_2 (fun H locs hP hD hS => ?_)
  have hP : va_P D classes [(oE, .inr (7, [.ref oS, .ref oM, .ref oC, .ref su, .ref tr, .int p0, .int 0, .int 0, .int 0, .int 0, .int 0]))] H := hP
  have hD : va_D A [(oE, .inr (7, [.ref oS, .ref oM, .ref oC, .ref su, .ref tr, .int p0, .int 0, .int 0, .int 0, .int 0, .int 0]))] := hD
  refine lv_aload_n hx hb d_Engine_begin_5 rfl (lv_at hl 0 rfl) ?_
  refine lv_iconst (v := 0) hx hb d_Engine_begin_6 (by decide) ?_
  refine va_put (D := D) (ci := 7) (v := .int 0) (ty := .int) (C := "PageScribe$Engine") (T := F_Engine) (N := 11) hx hb hts i_Engine t_Engine t_Engine_ok n_Engine hown hK hP hD hS 0 rfl rfl 6 (by decide) (hts _ k_2_28) (fun _ h9 => h9) rfl (by decide +kernel) rfl rfl (Nat.le_of_ble_eq_true rfl) d_Engine_begin_7 (fun H locs hP hD hS => ?_)
  have hP : va_P D classes [(oE, .inr (7, [.ref oS, .ref oM, .ref oC, .ref su, .ref tr, .int p0, .int 0, .int 0, .int 0, .int 0, .int 0]))] H := hP
  have hD : va_D A [(oE, .inr (7, [.ref oS, .ref oM, .ref oC, .ref su, .ref tr, .int p0, .int 0, .int 0, .int 0, .int 0, .int 0]))] := hD
  have hP9 := hP.sub (ws' := [(oE, .inr (7, [.ref oS, .ref oM, .ref oC, .ref su, .ref tr, .int p0, .int 0, .int 0, .int 0, .int 0, .int 0]))]) [0] rfl
  have hD9 := hD.sub (ws' := [(oE, .inr (7, [.ref oS, .ref oM, .ref oC, .ref su, .ref tr, .int p0, .int 0, .int 0, .int 0, .int 0, .int 0]))]) [0] (by decide) rfl
  refine W.widen (k := 0) (n := 0) (Nat.le_of_ble_eq_true rfl) (Nat.le_of_ble_eq_true rfl) ?_
  exact j_vret F hr hlocks hK hS () trivial hP9 hD9 d_Engine_begin_10
theorem d_Engine_note_0 : decode prog_4_method_3_code 0 = .ok (.aload_n 0, 1) := by decide +kernel
theorem d_Engine_note_1 : decode prog_4_method_3_code 1 = .ok (.iload_n 1, 1) := by decide +kernel
theorem d_Engine_note_2 : decode prog_4_method_3_code 2 = .ok (.ifCond .ne 10, 3) := by decide +kernel
theorem d_Engine_note_5 : decode prog_4_method_3_code 5 = .ok (.aload_n 0, 1) := by decide +kernel
theorem d_Engine_note_6 : decode prog_4_method_3_code 6 = .ok (.getfield 18, 3) := by decide +kernel
theorem d_Engine_note_9 : decode prog_4_method_3_code 9 = .ok (.goto 4, 3) := by decide +kernel
theorem d_Engine_note_13 : decode prog_4_method_3_code 13 = .ok (.putfield 18, 3) := by decide +kernel
theorem d_Engine_note_16 : decode prog_4_method_3_code 16 = .ok (.return_, 1) := by decide +kernel
set_option maxHeartbeats 4000000 in
set_option maxRecDepth 100000 in
theorem c_Engine_note (l : Launch) (D : va_G) (T : Nat → ClassId) (oE : Nat) (oS : Nat) (oM : Nat) (oC : Nat) (su : Nat) (tr : Nat) (p0 : Int32) (sz : Nat) : Met l ⟨"PageScribe$Engine", "note", "(I)V"⟩ (wy ⟨"PageScribe$Engine", "note", "(I)V"⟩ prog_4_method_3_code 2 none) ({ frames := 0, cells := 0, slots := 0, locals := 0 }) (va_Pc [.ref oE, .int 0] (Pw D T [(oE, .inr (7, [.ref oS, .ref oM, .ref oC, .ref su, .ref tr, .int p0, .int 0, .int 0, .int 0, .int 0, .int 0]))] sz E0)) (va_Qv (fun (u : Unit) => True) (fun u t => Bw D T (va_A [(oE, .inr (7, [.ref oS, .ref oM, .ref oC, .ref su, .ref tr, .int p0, .int 0, .int 0, .int 0, .int 0, .int 0]))] sz) [(oE, .inr (7, [.ref oS, .ref oM, .ref oC, .ref su, .ref tr, .int p0, .int 0, .int 0, .int 0, .int 0, .int 0]))] t) (va_A [(oE, .inr (7, [.ref oS, .ref oM, .ref oC, .ref su, .ref tr, .int p0, .int 0, .int 0, .int 0, .int 0, .int 0]))] sz)) 0 0 (va_A [(oE, .inr (7, [.ref oS, .ref oM, .ref oC, .ref su, .ref tr, .int p0, .int 0, .int 0, .int 0, .int 0, .int 0]))] sz) := by
  refine j_met (Qc := fun A => va_Qv (fun (u : Unit) => True) (fun u t => Bw D T A [(oE, .inr (7, [.ref oS, .ref oM, .ref oC, .ref su, .ref tr, .int p0, .int 0, .int 0, .int 0, .int 0, .int 0]))] t) A) (by decide +kernel) (Nat.le_of_ble_eq_true rfl) (fun p e s m args below meth c A ls F hr hlocks hnm hK hP hD hS hA hN hE hl => ?_)
  obtain ⟨hx, hb, hml, hown, hts⟩ := id F
  have hin := hnm
  have hl : lv_has ls 2 [(0, .ref oE), (1, .int 0)] := hl
  refine lv_aload_n hx hb d_Engine_note_0 rfl (lv_at hl 0 rfl) ?_
  refine lv_iload_n hx hb d_Engine_note_1 rfl (lv_at hl 1 rfl) ?_
  refine lv_if_ne (tgt := 12) hx hb d_Engine_note_2 (by decide) (fun c9 => absurd c9 (by decide +kernel)) (fun _ => ?_)
  refine lv_aload_n hx hb d_Engine_note_5 rfl (lv_at hl 0 rfl) ?_
  refine va_get (D := D) (ci := 7) (v := .int 0) (C := "PageScribe$Engine") (T := F_Engine) (N := 11) hx hb hts i_Engine hown hK hP 0 rfl rfl 7 (by decide) (hts _ k_2_30) (fun _ h9 => h9) rfl d_Engine_note_6 ?_
  refine lv_goto (tgt := 13) hx hb d_Engine_note_9 (by decide) ?_
  refine va_put (D := D) (ci := 7) (v := .int 0) (ty := .int) (C := "PageScribe$Engine") (T := F_Engine) (N := 11) hx hb hts i_Engine t_Engine t_Engine_ok n_Engine hown hK hP hD hS 0 rfl rfl 7 (by decide) (hts _ k_2_30) (fun _ h9 => h9) rfl (by decide +kernel) rfl rfl (Nat.le_of_ble_eq_true rfl) d_Engine_note_13 (fun H locs hP hD hS => ?_)
  have hP : va_P D classes [(oE, .inr (7, [.ref oS, .ref oM, .ref oC, .ref su, .ref tr, .int p0, .int 0, .int 0, .int 0, .int 0, .int 0]))] H := hP
  have hD : va_D A [(oE, .inr (7, [.ref oS, .ref oM, .ref oC, .ref su, .ref tr, .int p0, .int 0, .int 0, .int 0, .int 0, .int 0]))] := hD
  have hP9 := hP.sub (ws' := [(oE, .inr (7, [.ref oS, .ref oM, .ref oC, .ref su, .ref tr, .int p0, .int 0, .int 0, .int 0, .int 0, .int 0]))]) [0] rfl
  have hD9 := hD.sub (ws' := [(oE, .inr (7, [.ref oS, .ref oM, .ref oC, .ref su, .ref tr, .int p0, .int 0, .int 0, .int 0, .int 0, .int 0]))]) [0] (by decide) rfl
  refine W.widen (k := 0) (n := 0) (Nat.le_of_ble_eq_true rfl) (Nat.le_of_ble_eq_true rfl) ?_
  exact j_vret F hr hlocks hK hS () trivial hP9 hD9 d_Engine_note_16
theorem d_Ps_run_0 : decode prog_1_method_3_code 0 = .ok (.iload_n 1, 1) := by decide +kernel
theorem d_Ps_run_1 : decode prog_1_method_3_code 1 = .ok (.iconst 1, 1) := by decide +kernel
theorem d_Ps_run_2 : decode prog_1_method_3_code 2 = .ok (.if_icmp .lt 10, 3) := by decide +kernel
theorem d_Ps_run_5 : decode prog_1_method_3_code 5 = .ok (.iload_n 1, 1) := by decide +kernel
theorem d_Ps_run_6 : decode prog_1_method_3_code 6 = .ok (.sipush 500, 3) := by decide +kernel
theorem d_Ps_run_9 : decode prog_1_method_3_code 9 = .ok (.if_icmp .le 13, 3) := by decide +kernel
theorem d_Ps_run_22 : decode prog_1_method_3_code 22 = .ok (.aload_n 0, 1) := by decide +kernel
theorem d_Ps_run_23 : decode prog_1_method_3_code 23 = .ok (.getfield 59, 3) := by decide +kernel
theorem d_Ps_run_26 : decode prog_1_method_3_code 26 = .ok (.iload_n 1, 1) := by decide +kernel
theorem d_Ps_run_27 : decode prog_1_method_3_code 27 = .ok (.invokevirtual 74, 3) := by decide +kernel
theorem k_3_61 : Cond.code ⟨"PageScribe$Engine", "begin", "(I)V"⟩ prog_4_method_2_code 2 none ∈ gw := gw_of (tb_3 (List.mem_of_getElem? (i := 61) (by decide +kernel))) (by decide +kernel)
theorem k_3_58 : Cond.methodLink "PageScribe" 74 ⟨"PageScribe$Engine", "begin", "(I)V"⟩ ∈ gw := gw_of (tb_3 (List.mem_of_getElem? (i := 58) (by decide +kernel))) (by decide +kernel)
theorem k_3_59 : Cond.instanceMethod ⟨"PageScribe$Engine", "begin", "(I)V"⟩ ∈ gw := gw_of (tb_3 (List.mem_of_getElem? (i := 59) (by decide +kernel))) (by decide +kernel)
theorem k_3_60 : Cond.selects "PageScribe$Engine" ⟨"PageScribe$Engine", "begin", "(I)V"⟩ ⟨"PageScribe$Engine", "begin", "(I)V"⟩ ∈ gw := gw_of (tb_3 (List.mem_of_getElem? (i := 60) (by decide +kernel))) (by decide +kernel)
theorem d_Ps_run_30 : decode prog_1_method_3_code 30 = .ok (.iconst 0, 1) := by decide +kernel
theorem d_Ps_run_31 : decode prog_1_method_3_code 31 = .ok (.istore_n 2, 1) := by decide +kernel
theorem d_Ps_run_32 : decode prog_1_method_3_code 32 = .ok (.iconst 0, 1) := by decide +kernel
theorem d_Ps_run_33 : decode prog_1_method_3_code 33 = .ok (.istore_n 3, 1) := by decide +kernel
theorem d_Ps_run_34 : decode prog_1_method_3_code 34 = .ok (.iload_n 3, 1) := by decide +kernel
theorem d_Ps_run_35 : decode prog_1_method_3_code 35 = .ok (.bipush 120, 2) := by decide +kernel
theorem d_Ps_run_37 : decode prog_1_method_3_code 37 = .ok (.if_icmp .ge 64, 3) := by decide +kernel
theorem d_Ps_run_40 : decode prog_1_method_3_code 40 = .ok (.iload_n 2, 1) := by decide +kernel
theorem d_Ps_run_41 : decode prog_1_method_3_code 41 = .ok (.ifCond .ne 60, 3) := by decide +kernel
theorem d_Ps_run_44 : decode prog_1_method_3_code 44 = .ok (.aload_n 0, 1) := by decide +kernel
theorem d_Ps_run_45 : decode prog_1_method_3_code 45 = .ok (.getfield 41, 3) := by decide +kernel
theorem d_Ps_run_48 : decode prog_1_method_3_code 48 = .ok (.invokevirtual 78, 3) := by decide +kernel
theorem k_3_65 : Cond.code ⟨"PageScribe$Reader", "findToken", "()Z"⟩ prog_7_method_4_code 1 (some .boolean) ∈ gw := gw_of (tb_3 (List.mem_of_getElem? (i := 65) (by decide +kernel))) (by decide +kernel)
theorem k_3_62 : Cond.methodLink "PageScribe" 78 ⟨"PageScribe$Reader", "findToken", "()Z"⟩ ∈ gw := gw_of (tb_3 (List.mem_of_getElem? (i := 62) (by decide +kernel))) (by decide +kernel)
theorem k_3_63 : Cond.instanceMethod ⟨"PageScribe$Reader", "findToken", "()Z"⟩ ∈ gw := gw_of (tb_3 (List.mem_of_getElem? (i := 63) (by decide +kernel))) (by decide +kernel)
theorem k_3_64 : Cond.selects "PageScribe$Reader" ⟨"PageScribe$Reader", "findToken", "()Z"⟩ ⟨"PageScribe$Reader", "findToken", "()Z"⟩ ∈ gw := gw_of (tb_3 (List.mem_of_getElem? (i := 64) (by decide +kernel))) (by decide +kernel)
theorem d_Ps_run_51 : decode prog_1_method_3_code 51 = .ok (.ifCond .eq 50, 3) := by decide +kernel
theorem d_Ps_run_101 : decode prog_1_method_3_code 101 = .ok (.aload_n 0, 1) := by decide +kernel
theorem d_Ps_run_102 : decode prog_1_method_3_code 102 = .ok (.getfield 41, 3) := by decide +kernel
theorem d_Ps_run_105 : decode prog_1_method_3_code 105 = .ok (.invokevirtual 101, 3) := by decide +kernel
theorem k_6_23 : Cond.code ⟨"PageScribe$Reader", "empty", "()V"⟩ prog_7_method_3_code 1 none ∈ gw := gw_of (tb_6 (List.mem_of_getElem? (i := 23) (by decide +kernel))) (by decide +kernel)
theorem k_6_20 : Cond.methodLink "PageScribe" 101 ⟨"PageScribe$Reader", "empty", "()V"⟩ ∈ gw := gw_of (tb_6 (List.mem_of_getElem? (i := 20) (by decide +kernel))) (by decide +kernel)
theorem k_6_21 : Cond.instanceMethod ⟨"PageScribe$Reader", "empty", "()V"⟩ ∈ gw := gw_of (tb_6 (List.mem_of_getElem? (i := 21) (by decide +kernel))) (by decide +kernel)
theorem k_6_22 : Cond.selects "PageScribe$Reader" ⟨"PageScribe$Reader", "empty", "()V"⟩ ⟨"PageScribe$Reader", "empty", "()V"⟩ ∈ gw := gw_of (tb_6 (List.mem_of_getElem? (i := 22) (by decide +kernel))) (by decide +kernel)
theorem d_Ps_run_108 : decode prog_1_method_3_code 108 = .ok (.aload_n 0, 1) := by decide +kernel
theorem d_Ps_run_109 : decode prog_1_method_3_code 109 = .ok (.getfield 59, 3) := by decide +kernel
theorem d_Ps_run_112 : decode prog_1_method_3_code 112 = .ok (.iload_n 2, 1) := by decide +kernel
theorem d_Ps_run_113 : decode prog_1_method_3_code 113 = .ok (.invokevirtual 104, 3) := by decide +kernel
theorem k_6_14 : Cond.code ⟨"PageScribe$Engine", "note", "(I)V"⟩ prog_4_method_3_code 2 none ∈ gw := gw_of (tb_6 (List.mem_of_getElem? (i := 14) (by decide +kernel))) (by decide +kernel)
theorem k_6_24 : Cond.methodLink "PageScribe" 104 ⟨"PageScribe$Engine", "note", "(I)V"⟩ ∈ gw := gw_of (tb_6 (List.mem_of_getElem? (i := 24) (by decide +kernel))) (by decide +kernel)
theorem k_6_12 : Cond.instanceMethod ⟨"PageScribe$Engine", "note", "(I)V"⟩ ∈ gw := gw_of (tb_6 (List.mem_of_getElem? (i := 12) (by decide +kernel))) (by decide +kernel)
theorem k_6_13 : Cond.selects "PageScribe$Engine" ⟨"PageScribe$Engine", "note", "(I)V"⟩ ⟨"PageScribe$Engine", "note", "(I)V"⟩ ∈ gw := gw_of (tb_6 (List.mem_of_getElem? (i := 13) (by decide +kernel))) (by decide +kernel)
theorem d_Ps_run_116 : decode prog_1_method_3_code 116 = .ok (.iload_n 2, 1) := by decide +kernel
theorem d_Ps_run_117 : decode prog_1_method_3_code 117 = .ok (.ireturn, 1) := by decide +kernel
set_option maxHeartbeats 4000000 in
set_option maxRecDepth 100000 in
theorem c_Ps_run (l : Launch) (D : va_G) (T : Nat → ClassId) (h0 : Nat) (oS : Nat) (oW : Nat) (oM : Nat) (oR : Nat) (oC : Nat) (oE : Nat) (su : Nat) (tr : Nat) (st : Nat) (tx : Nat) (gt : Nat) (bg : Nat) (p0 : Int32) (sz : Nat) (hp1 : ¬ p0 < 1) (hp2 : ¬ 500 < p0) : Met l ⟨"PageScribe", "run", "(I)I"⟩ (wy ⟨"PageScribe", "run", "(I)I"⟩ prog_1_method_3_code 4 (some .int)) ({ frames := 1, cells := 0, slots := 0, locals := 70 }) (va_Pc [.ref h0, .int p0] (Pw D T [(h0, .inr (10, [.ref oS, .ref oW, .ref oM, .ref oR, .ref oC, .ref oE])), (oE, .inr (7, [.ref oS, .ref oM, .ref oC, .ref su, .ref tr, .int 0, .int 0, .int 0, .int 0, .int 0, .int 0])), (oR, .inr (5, [.ref oW, .ref st, .ref tx, .int 0, .int 0, .int 0, .int 0, .double 0, .ref gt, .ref bg]))] sz E0)) (va_Qi (fun (r : Int32) (u : Unit) => r = 0) (fun u t => Bw D T (va_A [(h0, .inr (10, [.ref oS, .ref oW, .ref oM, .ref oR, .ref oC, .ref oE])), (oE, .inr (7, [.ref oS, .ref oM, .ref oC, .ref su, .ref tr, .int 0, .int 0, .int 0, .int 0, .int 0, .int 0])), (oR, .inr (5, [.ref oW, .ref st, .ref tx, .int 0, .int 0, .int 0, .int 0, .double 0, .ref gt, .ref bg]))] sz) [(h0, .inr (10, [.ref oS, .ref oW, .ref oM, .ref oR, .ref oC, .ref oE])), (oE, .inr (7, [.ref oS, .ref oM, .ref oC, .ref su, .ref tr, .int p0, .int 0, .int 0, .int 0, .int 0, .int 0])), (oR, .inr (5, [.ref oW, .ref st, .ref tx, .int 0, .int 0, .int 0, .int 0, .double 0, .ref gt, .ref bg]))] t) (va_A [(h0, .inr (10, [.ref oS, .ref oW, .ref oM, .ref oR, .ref oC, .ref oE])), (oE, .inr (7, [.ref oS, .ref oM, .ref oC, .ref su, .ref tr, .int 0, .int 0, .int 0, .int 0, .int 0, .int 0])), (oR, .inr (5, [.ref oW, .ref st, .ref tx, .int 0, .int 0, .int 0, .int 0, .double 0, .ref gt, .ref bg]))] sz)) 0 0 (va_A [(h0, .inr (10, [.ref oS, .ref oW, .ref oM, .ref oR, .ref oC, .ref oE])), (oE, .inr (7, [.ref oS, .ref oM, .ref oC, .ref su, .ref tr, .int 0, .int 0, .int 0, .int 0, .int 0, .int 0])), (oR, .inr (5, [.ref oW, .ref st, .ref tx, .int 0, .int 0, .int 0, .int 0, .double 0, .ref gt, .ref bg]))] sz) := by
  refine j_met (Qc := fun A => va_Qi (fun (r : Int32) (u : Unit) => r = 0) (fun u t => Bw D T A [(h0, .inr (10, [.ref oS, .ref oW, .ref oM, .ref oR, .ref oC, .ref oE])), (oE, .inr (7, [.ref oS, .ref oM, .ref oC, .ref su, .ref tr, .int p0, .int 0, .int 0, .int 0, .int 0, .int 0])), (oR, .inr (5, [.ref oW, .ref st, .ref tx, .int 0, .int 0, .int 0, .int 0, .double 0, .ref gt, .ref bg]))] t) A) (by decide +kernel) (Nat.le_of_ble_eq_true rfl) (fun p e s m args below meth c A ls F hr hlocks hnm hK hP hD hS hA hN hE hl => ?_)
  obtain ⟨hx, hb, hml, hown, hts⟩ := id F
  have hin := hnm
  have hl : lv_has ls 4 [(0, .ref h0), (1, .int p0)] := hl
  refine lv_iload_n hx hb d_Ps_run_0 rfl (lv_at hl 1 rfl) ?_
  refine lv_iconst (v := 1) hx hb d_Ps_run_1 (by decide) ?_
  refine lv_icmp_lt (tgt := 12) hx hb d_Ps_run_2 (by decide) (fun c_2 => absurd c_2 hp1) (fun c_2 => ?_)
  refine lv_iload_n hx hb d_Ps_run_5 rfl (lv_at hl 1 rfl) ?_
  refine lv_sipush (v := 500) hx hb d_Ps_run_6 (by decide) ?_
  refine lv_icmp_le (tgt := 22) hx hb d_Ps_run_9 (by decide) (fun c_9 => ?_) (fun c_9 => absurd c_9 (fun q => q (Int32.not_lt.mp hp2)))
  refine lv_aload_n hx hb d_Ps_run_22 rfl (lv_at hl 0 rfl) ?_
  refine va_get (D := D) (ci := 10) (v := .ref oE) (C := "PageScribe") (T := F_Ps) (N := 6) hx hb hts i_Ps hown hK hP 0 rfl rfl 5 (by decide) (hts _ k_2_63) (fun _ h9 => h9) rfl d_Ps_run_23 ?_
  refine lv_iload_n hx hb d_Ps_run_26 rfl (lv_at hl 1 rfl) ?_
  refine j_cv (wc := [(oE, .inr (7, [.ref oS, .ref oM, .ref oC, .ref su, .ref tr, .int 0, .int 0, .int 0, .int 0, .int 0, .int 0]))]) (wr := [(h0, .inr (10, [.ref oS, .ref oW, .ref oM, .ref oR, .ref oC, .ref oE])), (oR, .inr (5, [.ref oW, .ref st, .ref tx, .int 0, .int 0, .int 0, .int 0, .double 0, .ref gt, .ref bg]))]) hK hP hD hS hA [1] [0, 2] rfl rfl (by decide) (by decide) (va_runV (As := [.int p0]) (rest := []) F (c_Engine_begin l D T oE oS oM oC su tr p0 s.heap.size) (j_cV (k := 1) (C := "PageScribe$Engine") hts k_3_61 k_1_9 k_3_58 k_3_59 k_3_60 (by decide +kernel) ⟨Nat.le_of_ble_eq_true rfl, Nat.le_of_ble_eq_true rfl⟩) (j_preV (q0 := 1) (ci := 7) hK hP hD [1] rfl (by decide) rfl rfl (fun _ _ _ _ h => h) (fun _ _ _ => trivial)) rfl rfl hl.1 rfl (lv_room (Nat.le_of_ble_eq_true rfl)) d_Ps_run_27 ⟨Nat.le_of_ble_eq_true rfl, Nat.le_of_ble_eq_true rfl⟩) (fun u1 H locs hw hP hD hS => ?_)
  have hP : va_P D classes [(h0, .inr (10, [.ref oS, .ref oW, .ref oM, .ref oR, .ref oC, .ref oE])), (oR, .inr (5, [.ref oW, .ref st, .ref tx, .int 0, .int 0, .int 0, .int 0, .double 0, .ref gt, .ref bg])), (oE, .inr (7, [.ref oS, .ref oM, .ref oC, .ref su, .ref tr, .int p0, .int 0, .int 0, .int 0, .int 0, .int 0]))] H := hP
  have hD : va_D A [(h0, .inr (10, [.ref oS, .ref oW, .ref oM, .ref oR, .ref oC, .ref oE])), (oR, .inr (5, [.ref oW, .ref st, .ref tx, .int 0, .int 0, .int 0, .int 0, .double 0, .ref gt, .ref bg])), (oE, .inr (7, [.ref oS, .ref oM, .ref oC, .ref su, .ref tr, .int p0, .int 0, .int 0, .int 0, .int 0, .int 0]))] := hD
  refine lv_iconst (v := 0) hx hb d_Ps_run_30 (by decide) ?_
  refine lv_istore_n (lv' := [(2, .int 0), (0, .ref h0), (1, .int p0)]) hx hb d_Ps_run_31 rfl hl (by decide) rfl (fun ls hl => ?_)
  refine lv_iconst (v := 0) hx hb d_Ps_run_32 (by decide) ?_
  refine lv_istore_n (lv' := [(3, .int 0), (2, .int 0), (0, .ref h0), (1, .int p0)]) hx hb d_Ps_run_33 rfl hl (by decide) rfl (fun ls hl => ?_)
  refine lv_iload_n hx hb d_Ps_run_34 rfl (lv_at hl 0 rfl) ?_
  refine lv_bipush (v := 120) hx hb d_Ps_run_35 (by decide) ?_
  refine lv_icmp_ge (tgt := 101) hx hb d_Ps_run_37 (by decide) (fun c9 => absurd c9 (by decide +kernel)) (fun _ => ?_)
  refine lv_iload_n hx hb d_Ps_run_40 rfl (lv_at hl 1 rfl) ?_
  refine lv_if_ne (tgt := 101) hx hb d_Ps_run_41 (by decide) (fun c9 => absurd c9 (by decide +kernel)) (fun _ => ?_)
  refine lv_aload_n hx hb d_Ps_run_44 rfl (lv_at hl 2 rfl) ?_
  refine va_get (D := D) (ci := 10) (v := .ref oR) (C := "PageScribe") (T := F_Ps) (N := 6) hx hb hts i_Ps hown hK hP 0 rfl rfl 3 (by decide) (hts _ k_2_61) (fun _ h9 => h9) rfl d_Ps_run_45 ?_
  refine j_ci (wc := [(oR, .inr (5, [.ref oW, .ref st, .ref tx, .int 0, .int 0, .int 0, .int 0, .double 0, .ref gt, .ref bg]))]) (wr := [(h0, .inr (10, [.ref oS, .ref oW, .ref oM, .ref oR, .ref oC, .ref oE])), (oE, .inr (7, [.ref oS, .ref oM, .ref oC, .ref su, .ref tr, .int p0, .int 0, .int 0, .int 0, .int 0, .int 0]))]) hK hP hD hS hA [1] [0, 2] rfl rfl (by decide) (by decide) (va_runV (As := []) (rest := []) F (c_Reader_findToken l D T oR oW st tx gt bg H.size) (j_cV (k := 0) (C := "PageScribe$Reader") hts k_3_65 k_1_7 k_3_62 k_3_63 k_3_64 (by decide +kernel) ⟨Nat.le_of_ble_eq_true rfl, Nat.le_of_ble_eq_true rfl⟩) (j_preV (q0 := 1) (ci := 5) hK hP hD [1] rfl (by decide) rfl rfl (fun _ _ _ _ h => h) (fun _ _ _ => trivial)) rfl rfl hl.1 rfl (lv_room (Nat.le_of_ble_eq_true rfl)) d_Ps_run_48 ⟨Nat.le_of_ble_eq_true rfl, Nat.le_of_ble_eq_true rfl⟩) (fun rv2 u2 H locs hw hP hD hS => ?_)
  have hP : va_P D classes [(h0, .inr (10, [.ref oS, .ref oW, .ref oM, .ref oR, .ref oC, .ref oE])), (oE, .inr (7, [.ref oS, .ref oM, .ref oC, .ref su, .ref tr, .int p0, .int 0, .int 0, .int 0, .int 0, .int 0])), (oR, .inr (5, [.ref oW, .ref st, .ref tx, .int 0, .int 0, .int 0, .int 0, .double 0, .ref gt, .ref bg]))] H := hP
  have hD : va_D A [(h0, .inr (10, [.ref oS, .ref oW, .ref oM, .ref oR, .ref oC, .ref oE])), (oE, .inr (7, [.ref oS, .ref oM, .ref oC, .ref su, .ref tr, .int p0, .int 0, .int 0, .int 0, .int 0, .int 0])), (oR, .inr (5, [.ref oW, .ref st, .ref tx, .int 0, .int 0, .int 0, .int 0, .double 0, .ref gt, .ref bg]))] := hD
  have hw2 : rv2 = 0 := hw
  refine j_eqi (y := 0) hw2 ?_
  refine lv_if_eq (tgt := 101) hx hb d_Ps_run_51 (by decide) (fun _ => ?_) (fun c9 => absurd c9 (by decide +kernel))
  refine lv_aload_n hx hb d_Ps_run_101 rfl (lv_at hl 2 rfl) ?_
  refine va_get (D := D) (ci := 10) (v := .ref oR) (C := "PageScribe") (T := F_Ps) (N := 6) hx hb hts i_Ps hown hK hP 0 rfl rfl 3 (by decide) (hts _ k_2_61) (fun _ h9 => h9) rfl d_Ps_run_102 ?_
  refine j_cv (wc := [(oR, .inr (5, [.ref oW, .ref st, .ref tx, .int 0, .int 0, .int 0, .int 0, .double 0, .ref gt, .ref bg]))]) (wr := [(h0, .inr (10, [.ref oS, .ref oW, .ref oM, .ref oR, .ref oC, .ref oE])), (oE, .inr (7, [.ref oS, .ref oM, .ref oC, .ref su, .ref tr, .int p0, .int 0, .int 0, .int 0, .int 0, .int 0]))]) hK hP hD hS hA [2] [0, 1] rfl rfl (by decide) (by decide) (va_runV (As := []) (rest := []) F (c_Reader_empty l D T oR oW st tx gt bg H.size) (j_cV (k := 0) (C := "PageScribe$Reader") hts k_6_23 k_1_7 k_6_20 k_6_21 k_6_22 (by decide +kernel) ⟨Nat.le_of_ble_eq_true rfl, Nat.le_of_ble_eq_true rfl⟩) (j_preV (q0 := 2) (ci := 5) hK hP hD [2] rfl (by decide) rfl rfl (fun _ _ _ _ h => h) (fun _ _ _ => trivial)) rfl rfl hl.1 rfl (lv_room (Nat.le_of_ble_eq_true rfl)) d_Ps_run_105 ⟨Nat.le_of_ble_eq_true rfl, Nat.le_of_ble_eq_true rfl⟩) (fun u3 H locs hw hP hD hS => ?_)
  have hP : va_P D classes [(h0, .inr (10, [.ref oS, .ref oW, .ref oM, .ref oR, .ref oC, .ref oE])), (oE, .inr (7, [.ref oS, .ref oM, .ref oC, .ref su, .ref tr, .int p0, .int 0, .int 0, .int 0, .int 0, .int 0])), (oR, .inr (5, [.ref oW, .ref st, .ref tx, .int 0, .int 0, .int 0, .int 0, .double 0, .ref gt, .ref bg]))] H := hP
  have hD : va_D A [(h0, .inr (10, [.ref oS, .ref oW, .ref oM, .ref oR, .ref oC, .ref oE])), (oE, .inr (7, [.ref oS, .ref oM, .ref oC, .ref su, .ref tr, .int p0, .int 0, .int 0, .int 0, .int 0, .int 0])), (oR, .inr (5, [.ref oW, .ref st, .ref tx, .int 0, .int 0, .int 0, .int 0, .double 0, .ref gt, .ref bg]))] := hD
  refine lv_aload_n hx hb d_Ps_run_108 rfl (lv_at hl 2 rfl) ?_
  refine va_get (D := D) (ci := 10) (v := .ref oE) (C := "PageScribe") (T := F_Ps) (N := 6) hx hb hts i_Ps hown hK hP 0 rfl rfl 5 (by decide) (hts _ k_2_63) (fun _ h9 => h9) rfl d_Ps_run_109 ?_
  refine lv_iload_n hx hb d_Ps_run_112 rfl (lv_at hl 1 rfl) ?_
  refine j_cv (wc := [(oE, .inr (7, [.ref oS, .ref oM, .ref oC, .ref su, .ref tr, .int p0, .int 0, .int 0, .int 0, .int 0, .int 0]))]) (wr := [(h0, .inr (10, [.ref oS, .ref oW, .ref oM, .ref oR, .ref oC, .ref oE])), (oR, .inr (5, [.ref oW, .ref st, .ref tx, .int 0, .int 0, .int 0, .int 0, .double 0, .ref gt, .ref bg]))]) hK hP hD hS hA [1] [0, 2] rfl rfl (by decide) (by decide) (va_runV (As := [.int 0]) (rest := []) F (c_Engine_note l D T oE oS oM oC su tr p0 H.size) (j_cV (k := 1) (C := "PageScribe$Engine") hts k_6_14 k_1_9 k_6_24 k_6_12 k_6_13 (by decide +kernel) ⟨Nat.le_of_ble_eq_true rfl, Nat.le_of_ble_eq_true rfl⟩) (j_preV (q0 := 1) (ci := 7) hK hP hD [1] rfl (by decide) rfl rfl (fun _ _ _ _ h => h) (fun _ _ _ => trivial)) rfl rfl hl.1 rfl (lv_room (Nat.le_of_ble_eq_true rfl)) d_Ps_run_113 ⟨Nat.le_of_ble_eq_true rfl, Nat.le_of_ble_eq_true rfl⟩) (fun u4 H locs hw hP hD hS => ?_)
  have hP : va_P D classes [(h0, .inr (10, [.ref oS, .ref oW, .ref oM, .ref oR, .ref oC, .ref oE])), (oR, .inr (5, [.ref oW, .ref st, .ref tx, .int 0, .int 0, .int 0, .int 0, .double 0, .ref gt, .ref bg])), (oE, .inr (7, [.ref oS, .ref oM, .ref oC, .ref su, .ref tr, .int p0, .int 0, .int 0, .int 0, .int 0, .int 0]))] H := hP
  have hD : va_D A [(h0, .inr (10, [.ref oS, .ref oW, .ref oM, .ref oR, .ref oC, .ref oE])), (oR, .inr (5, [.ref oW, .ref st, .ref tx, .int 0, .int 0, .int 0, .int 0, .double 0, .ref gt, .ref bg])), (oE, .inr (7, [.ref oS, .ref oM, .ref oC, .ref su, .ref tr, .int p0, .int 0, .int 0, .int 0, .int 0, .int 0]))] := hD
  refine lv_iload_n hx hb d_Ps_run_116 rfl (lv_at hl 1 rfl) ?_
  have hP9 := hP.sub (ws' := [(h0, .inr (10, [.ref oS, .ref oW, .ref oM, .ref oR, .ref oC, .ref oE])), (oE, .inr (7, [.ref oS, .ref oM, .ref oC, .ref su, .ref tr, .int p0, .int 0, .int 0, .int 0, .int 0, .int 0])), (oR, .inr (5, [.ref oW, .ref st, .ref tx, .int 0, .int 0, .int 0, .int 0, .double 0, .ref gt, .ref bg]))]) [0, 2, 1] rfl
  have hD9 := hD.sub (ws' := [(h0, .inr (10, [.ref oS, .ref oW, .ref oM, .ref oR, .ref oC, .ref oE])), (oE, .inr (7, [.ref oS, .ref oM, .ref oC, .ref su, .ref tr, .int p0, .int 0, .int 0, .int 0, .int 0, .int 0])), (oR, .inr (5, [.ref oW, .ref st, .ref tx, .int 0, .int 0, .int 0, .int 0, .double 0, .ref gt, .ref bg]))]) [0, 2, 1] (by decide) rfl
  refine W.widen (k := 0) (n := 0) (Nat.le_of_ble_eq_true rfl) (Nat.le_of_ble_eq_true rfl) ?_
  exact j_iret F hr hlocks hK hS () rfl hP9 hD9 d_Ps_run_117
theorem d_Row_push_0 : decode prog_8_method_6_code 0 = .ok (.aload_n 0, 1) := by decide +kernel
theorem d_Row_push_1 : decode prog_8_method_6_code 1 = .ok (.getfield 9, 3) := by decide +kernel
theorem d_Row_push_4 : decode prog_8_method_6_code 4 = .ok (.ifCond .lt 15, 3) := by decide +kernel
theorem d_Row_push_7 : decode prog_8_method_6_code 7 = .ok (.aload_n 0, 1) := by decide +kernel
theorem d_Row_push_8 : decode prog_8_method_6_code 8 = .ok (.getfield 9, 3) := by decide +kernel
theorem d_Row_push_11 : decode prog_8_method_6_code 11 = .ok (.aload_n 0, 1) := by decide +kernel
theorem d_Row_push_12 : decode prog_8_method_6_code 12 = .ok (.getfield 15, 3) := by decide +kernel
theorem d_Row_push_15 : decode prog_8_method_6_code 15 = .ok (.arraylength, 1) := by decide +kernel
theorem d_Row_push_16 : decode prog_8_method_6_code 16 = .ok (.if_icmp .lt 5, 3) := by decide +kernel
theorem d_Row_push_21 : decode prog_8_method_6_code 21 = .ok (.aload_n 0, 1) := by decide +kernel
theorem d_Row_push_22 : decode prog_8_method_6_code 22 = .ok (.getfield 15, 3) := by decide +kernel
theorem d_Row_push_25 : decode prog_8_method_6_code 25 = .ok (.aload_n 0, 1) := by decide +kernel
theorem d_Row_push_26 : decode prog_8_method_6_code 26 = .ok (.getfield 9, 3) := by decide +kernel
theorem d_Row_push_29 : decode prog_8_method_6_code 29 = .ok (.iload_n 1, 1) := by decide +kernel
theorem d_Row_push_30 : decode prog_8_method_6_code 30 = .ok (.iastore, 1) := by decide +kernel
theorem d_Row_push_31 : decode prog_8_method_6_code 31 = .ok (.aload_n 0, 1) := by decide +kernel
theorem d_Row_push_32 : decode prog_8_method_6_code 32 = .ok (.getfield 19, 3) := by decide +kernel
theorem d_Row_push_35 : decode prog_8_method_6_code 35 = .ok (.aload_n 0, 1) := by decide +kernel
theorem d_Row_push_36 : decode prog_8_method_6_code 36 = .ok (.getfield 9, 3) := by decide +kernel
theorem d_Row_push_39 : decode prog_8_method_6_code 39 = .ok (.iload_n 2, 1) := by decide +kernel
theorem d_Row_push_40 : decode prog_8_method_6_code 40 = .ok (.iastore, 1) := by decide +kernel
theorem d_Row_push_41 : decode prog_8_method_6_code 41 = .ok (.aload_n 0, 1) := by decide +kernel
theorem d_Row_push_42 : decode prog_8_method_6_code 42 = .ok (.getfield 22, 3) := by decide +kernel
theorem d_Row_push_45 : decode prog_8_method_6_code 45 = .ok (.aload_n 0, 1) := by decide +kernel
theorem d_Row_push_46 : decode prog_8_method_6_code 46 = .ok (.getfield 9, 3) := by decide +kernel
theorem d_Row_push_49 : decode prog_8_method_6_code 49 = .ok (.dload_n 3, 1) := by decide +kernel
theorem d_Row_push_50 : decode prog_8_method_6_code 50 = .ok (.dastore, 1) := by decide +kernel
theorem d_Row_push_51 : decode prog_8_method_6_code 51 = .ok (.aload_n 0, 1) := by decide +kernel
theorem d_Row_push_52 : decode prog_8_method_6_code 52 = .ok (.dup, 1) := by decide +kernel
theorem d_Row_push_53 : decode prog_8_method_6_code 53 = .ok (.getfield 9, 3) := by decide +kernel
theorem d_Row_push_56 : decode prog_8_method_6_code 56 = .ok (.iconst 1, 1) := by decide +kernel
theorem d_Row_push_57 : decode prog_8_method_6_code 57 = .ok (.iadd, 1) := by decide +kernel
theorem d_Row_push_58 : decode prog_8_method_6_code 58 = .ok (.putfield 9, 3) := by decide +kernel
theorem d_Row_push_61 : decode prog_8_method_6_code 61 = .ok (.iconst 0, 1) := by decide +kernel
theorem d_Row_push_62 : decode prog_8_method_6_code 62 = .ok (.ireturn, 1) := by decide +kernel
set_option maxHeartbeats 4000000 in
set_option maxRecDepth 100000 in
theorem c_Row_push (l : Launch) (D : va_G) (T : Nat → ClassId) (oS : Nat) (k1 : Nat) (k2 : Nat) (k3 : Nat) (p0 : Int32) (p1 : Int32) (v0 : UInt64) (sz : Nat) : Met l ⟨"PageScribe$Row", "push", "(IID)I"⟩ (wy ⟨"PageScribe$Row", "push", "(IID)I"⟩ prog_8_method_6_code 5 (some .int)) ({ frames := 0, cells := 0, slots := 0, locals := 0 }) (va_Pc [.ref oS, .int p0, .int p1, .double v0] (Pw D T [(oS, .inr (0, [.ref k1, .ref k2, .ref k3, .int 0])), (k1, .inl (T 0, 40, .inl zI)), (k2, .inl (T 0, 40, .inl zI)), (k3, .inl (T 3, 40, .inr (.inr (.inr (.inl zD)))))] sz E0)) (va_Qi (fun (r : Int32) (u : (Nat → Int32) × (Nat → Int32) × (Nat → UInt64)) => r = 0) (fun u t => Bw D T (va_A [(oS, .inr (0, [.ref k1, .ref k2, .ref k3, .int 0])), (k1, .inl (T 0, 40, .inl zI)), (k2, .inl (T 0, 40, .inl zI)), (k3, .inl (T 3, 40, .inr (.inr (.inr (.inl zD)))))] sz) [(oS, .inr (0, [.ref k1, .ref k2, .ref k3, .int 1])), (k1, .inl (T 0, 40, .inl u.1)), (k2, .inl (T 0, 40, .inl u.2.1)), (k3, .inl (T 3, 40, .inr (.inr (.inr (.inl u.2.2)))))] t) (va_A [(oS, .inr (0, [.ref k1, .ref k2, .ref k3, .int 0])), (k1, .inl (T 0, 40, .inl zI)), (k2, .inl (T 0, 40, .inl zI)), (k3, .inl (T 3, 40, .inr (.inr (.inr (.inl zD)))))] sz)) 0 0 (va_A [(oS, .inr (0, [.ref k1, .ref k2, .ref k3, .int 0])), (k1, .inl (T 0, 40, .inl zI)), (k2, .inl (T 0, 40, .inl zI)), (k3, .inl (T 3, 40, .inr (.inr (.inr (.inl zD)))))] sz) := by
  refine j_met (Qc := fun A => va_Qi (fun (r : Int32) (u : (Nat → Int32) × (Nat → Int32) × (Nat → UInt64)) => r = 0) (fun u t => Bw D T A [(oS, .inr (0, [.ref k1, .ref k2, .ref k3, .int 1])), (k1, .inl (T 0, 40, .inl u.1)), (k2, .inl (T 0, 40, .inl u.2.1)), (k3, .inl (T 3, 40, .inr (.inr (.inr (.inl u.2.2)))))] t) A) (by decide +kernel) (Nat.le_of_ble_eq_true rfl) (fun p e s m args below meth c A ls F hr hlocks hnm hK hP hD hS hA hN hE hl => ?_)
  obtain ⟨hx, hb, hml, hown, hts⟩ := id F
  have hin := hnm
  have hl : lv_has ls 5 [(0, .ref oS), (1, .int p0), (2, .int p1), (3, .double v0)] := hl
  refine lv_aload_n hx hb d_Row_push_0 rfl (lv_at hl 0 rfl) ?_
  refine va_get (D := D) (ci := 0) (v := .int 0) (C := "PageScribe$Stack") (T := F_Stack) (N := 4) hx hb hts i_Stack hown hK hP 0 rfl rfl 3 (by decide) (hts _ k_1_49) (fun _ h9 => h9) rfl d_Row_push_1 ?_
  refine lv_if_lt (tgt := 19) hx hb d_Row_push_4 (by decide) (fun c9 => absurd c9 (by decide +kernel)) (fun _ => ?_)
  refine lv_aload_n hx hb d_Row_push_7 rfl (lv_at hl 0 rfl) ?_
  refine va_get (D := D) (ci := 0) (v := .int 0) (C := "PageScribe$Stack") (T := F_Stack) (N := 4) hx hb hts i_Stack hown hK hP 0 rfl rfl 3 (by decide) (hts _ k_1_49) (fun _ h9 => h9) rfl d_Row_push_8 ?_
  refine lv_aload_n hx hb d_Row_push_11 rfl (lv_at hl 0 rfl) ?_
  refine va_get (D := D) (ci := 0) (v := .ref k1) (C := "PageScribe$Stack") (T := F_Stack) (N := 4) hx hb hts i_Stack hown hK hP 0 rfl rfl 0 (by decide) (hts _ k_1_46) (fun _ h9 => h9) rfl d_Row_push_12 ?_
  refine va_alen (v := 40) hx hb hK hP 1 0 rfl rfl (by decide +kernel) d_Row_push_15 ?_
  refine lv_icmp_lt (tgt := 21) hx hb d_Row_push_16 (by decide) (fun _ => ?_) (fun c9 => absurd c9 (by decide +kernel))
  refine lv_aload_n hx hb d_Row_push_21 rfl (lv_at hl 0 rfl) ?_
  refine va_get (D := D) (ci := 0) (v := .ref k1) (C := "PageScribe$Stack") (T := F_Stack) (N := 4) hx hb hts i_Stack hown hK hP 0 rfl rfl 0 (by decide) (hts _ k_1_46) (fun _ h9 => h9) rfl d_Row_push_22 ?_
  refine lv_aload_n hx hb d_Row_push_25 rfl (lv_at hl 0 rfl) ?_
  refine va_get (D := D) (ci := 0) (v := .int 0) (C := "PageScribe$Stack") (T := F_Stack) (N := 4) hx hb hts i_Stack hown hK hP 0 rfl rfl 3 (by decide) (hts _ k_1_49) (fun _ h9 => h9) rfl d_Row_push_26 ?_
  refine lv_iload_n hx hb d_Row_push_29 rfl (lv_at hl 1 rfl) ?_
  refine j_iast F hK hP hD hS 1 0 rfl rfl (by unfold vp_in; decide +kernel) d_Row_push_30 (fun g1 H locs hP hD hS => ?_)
  have hP : va_P D classes [(oS, .inr (0, [.ref k1, .ref k2, .ref k3, .int 0])), (k1, .inl (T 0, 40, .inl g1)), (k2, .inl (T 0, 40, .inl zI)), (k3, .inl (T 3, 40, .inr (.inr (.inr (.inl zD)))))] H := hP
  have hD : va_D A [(oS, .inr (0, [.ref k1, .ref k2, .ref k3, .int 0])), (k1, .inl (T 0, 40, .inl g1)), (k2, .inl (T 0, 40, .inl zI)), (k3, .inl (T 3, 40, .inr (.inr (.inr (.inl zD)))))] := hD
  refine lv_aload_n hx hb d_Row_push_31 rfl (lv_at hl 0 rfl) ?_
  refine va_get (D := D) (ci := 0) (v := .ref k2) (C := "PageScribe$Stack") (T := F_Stack) (N := 4) hx hb hts i_Stack hown hK hP 0 rfl rfl 1 (by decide) (hts _ k_1_47) (fun _ h9 => h9) rfl d_Row_push_32 ?_
  refine lv_aload_n hx hb d_Row_push_35 rfl (lv_at hl 0 rfl) ?_
  refine va_get (D := D) (ci := 0) (v := .int 0) (C := "PageScribe$Stack") (T := F_Stack) (N := 4) hx hb hts i_Stack hown hK hP 0 rfl rfl 3 (by decide) (hts _ k_1_49) (fun _ h9 => h9) rfl d_Row_push_36 ?_
  refine lv_iload_n hx hb d_Row_push_39 rfl (lv_at hl 2 rfl) ?_
  refine j_iast F hK hP hD hS 2 0 rfl rfl (by unfold vp_in; decide +kernel) d_Row_push_40 (fun g2 H locs hP hD hS => ?_)
  have hP : va_P D classes [(oS, .inr (0, [.ref k1, .ref k2, .ref k3, .int 0])), (k1, .inl (T 0, 40, .inl g1)), (k2, .inl (T 0, 40, .inl g2)), (k3, .inl (T 3, 40, .inr (.inr (.inr (.inl zD)))))] H := hP
  have hD : va_D A [(oS, .inr (0, [.ref k1, .ref k2, .ref k3, .int 0])), (k1, .inl (T 0, 40, .inl g1)), (k2, .inl (T 0, 40, .inl g2)), (k3, .inl (T 3, 40, .inr (.inr (.inr (.inl zD)))))] := hD
  refine lv_aload_n hx hb d_Row_push_41 rfl (lv_at hl 0 rfl) ?_
  refine va_get (D := D) (ci := 0) (v := .ref k3) (C := "PageScribe$Stack") (T := F_Stack) (N := 4) hx hb hts i_Stack hown hK hP 0 rfl rfl 2 (by decide) (hts _ k_1_48) (fun _ h9 => h9) rfl d_Row_push_42 ?_
  refine lv_aload_n hx hb d_Row_push_45 rfl (lv_at hl 0 rfl) ?_
  refine va_get (D := D) (ci := 0) (v := .int 0) (C := "PageScribe$Stack") (T := F_Stack) (N := 4) hx hb hts i_Stack hown hK hP 0 rfl rfl 3 (by decide) (hts _ k_1_49) (fun _ h9 => h9) rfl d_Row_push_46 ?_
  refine lv_dload_n hx hb d_Row_push_49 rfl (lv_at hl 3 rfl) ?_
  refine j_dast F hK hP hD hS 3 3 rfl rfl (by unfold vp_in; decide +kernel) d_Row_push_50 (fun g3 H locs hP hD hS => ?_)
  have hP : va_P D classes [(oS, .inr (0, [.ref k1, .ref k2, .ref k3, .int 0])), (k1, .inl (T 0, 40, .inl g1)), (k2, .inl (T 0, 40, .inl g2)), (k3, .inl (T 3, 40, .inr (.inr (.inr (.inl g3)))))] H := hP
  have hD : va_D A [(oS, .inr (0, [.ref k1, .ref k2, .ref k3, .int 0])), (k1, .inl (T 0, 40, .inl g1)), (k2, .inl (T 0, 40, .inl g2)), (k3, .inl (T 3, 40, .inr (.inr (.inr (.inl g3)))))] := hD
  refine lv_aload_n hx hb d_Row_push_51 rfl (lv_at hl 0 rfl) ?_
  refine lv_dup hx hb d_Row_push_52 rfl ?_
  refine va_get (D := D) (ci := 0) (v := .int 0) (C := "PageScribe$Stack") (T := F_Stack) (N := 4) hx hb hts i_Stack hown hK hP 0 rfl rfl 3 (by decide) (hts _ k_1_49) (fun _ h9 => h9) rfl d_Row_push_53 ?_
  refine lv_iconst (v := 1) hx hb d_Row_push_56 (by decide) ?_
  refine lv_iadd hx hb d_Row_push_57 ?_
  refine j_eqi (y := 1) (by decide +kernel) ?_
  refine va_put (D := D) (ci := 0) (v := .int 1) (ty := .int) (C := "PageScribe$Stack") (T := F_Stack) (N := 4) hx hb hts i_Stack t_Stack t_Stack_ok n_Stack hown hK hP hD hS 0 rfl rfl 3 (by decide) (hts _ k_1_49) (fun _ h9 => h9) rfl (by decide +kernel) rfl rfl (Nat.le_of_ble_eq_true rfl) d_Row_push_58 (fun H locs hP hD hS => ?_)
  have hP : va_P D classes [(oS, .inr (0, [.ref k1, .ref k2, .ref k3, .int 1])), (k1, .inl (T 0, 40, .inl g1)), (k2, .inl (T 0, 40, .inl g2)), (k3, .inl (T 3, 40, .inr (.inr (.inr (.inl g3)))))] H := hP
  have hD : va_D A [(oS, .inr (0, [.ref k1, .ref k2, .ref k3, .int 1])), (k1, .inl (T 0, 40, .inl g1)), (k2, .inl (T 0, 40, .inl g2)), (k3, .inl (T 3, 40, .inr (.inr (.inr (.inl g3)))))] := hD
  refine lv_iconst (v := 0) hx hb d_Row_push_61 (by decide) ?_
  have hP9 := hP.sub (ws' := [(oS, .inr (0, [.ref k1, .ref k2, .ref k3, .int 1])), (k1, .inl (T 0, 40, .inl g1)), (k2, .inl (T 0, 40, .inl g2)), (k3, .inl (T 3, 40, .inr (.inr (.inr (.inl g3)))))]) [0, 1, 2, 3] rfl
  have hD9 := hD.sub (ws' := [(oS, .inr (0, [.ref k1, .ref k2, .ref k3, .int 1])), (k1, .inl (T 0, 40, .inl g1)), (k2, .inl (T 0, 40, .inl g2)), (k3, .inl (T 3, 40, .inr (.inr (.inr (.inl g3)))))]) [0, 1, 2, 3] (by decide) rfl
  refine W.widen (k := 0) (n := 0) (Nat.le_of_ble_eq_true rfl) (Nat.le_of_ble_eq_true rfl) ?_
  exact j_iret F hr hlocks hK hS (g1, g2, g3) rfl hP9 hD9 d_Row_push_62
/-- a double that may be fed -/
def feedOk (v : UInt64) : Prop := ¬ Op.cmpValue (FP.dcmp v 14009883241494872064) .l < 0 ∧ ¬ (0 : Int32) < Op.cmpValue (FP.dcmp v 4786511204640096256) .g
theorem d_Ps_feed_0 : decode prog_1_method_6_code 0 = .ok (.dload_n 1, 1) := by decide +kernel
theorem d_Ps_feed_1 : decode prog_1_method_6_code 1 = .ok (.ldc2_w 113, 3) := by decide +kernel
theorem k_2_97 : Cond.constantDouble "PageScribe" 113 (14009883241494872064 : UInt64) ∈ gw := gw_of (tb_2 (List.mem_of_getElem? (i := 97) (by decide +kernel))) (by decide +kernel)
theorem d_Ps_feed_4 : decode prog_1_method_6_code 4 = .ok (.dcmp .l, 1) := by decide +kernel
theorem d_Ps_feed_5 : decode prog_1_method_6_code 5 = .ok (.ifCond .lt 28, 3) := by decide +kernel
theorem d_Ps_feed_33 : decode prog_1_method_6_code 33 = .ok (.iconst 0, 1) := by decide +kernel
theorem d_Ps_feed_34 : decode prog_1_method_6_code 34 = .ok (.ireturn, 1) := by decide +kernel
theorem d_Ps_feed_8 : decode prog_1_method_6_code 8 = .ok (.dload_n 1, 1) := by decide +kernel
theorem d_Ps_feed_9 : decode prog_1_method_6_code 9 = .ok (.ldc2_w 115, 3) := by decide +kernel
theorem k_2_98 : Cond.constantDouble "PageScribe" 115 (4786511204640096256 : UInt64) ∈ gw := gw_of (tb_2 (List.mem_of_getElem? (i := 98) (by decide +kernel))) (by decide +kernel)
theorem d_Ps_feed_12 : decode prog_1_method_6_code 12 = .ok (.dcmp .g, 1) := by decide +kernel
theorem d_Ps_feed_13 : decode prog_1_method_6_code 13 = .ok (.ifCond .gt 20, 3) := by decide +kernel
theorem d_Ps_feed_16 : decode prog_1_method_6_code 16 = .ok (.aload_n 0, 1) := by decide +kernel
theorem d_Ps_feed_17 : decode prog_1_method_6_code 17 = .ok (.getfield 12, 3) := by decide +kernel
theorem d_Ps_feed_20 : decode prog_1_method_6_code 20 = .ok (.iconst 1, 1) := by decide +kernel
theorem d_Ps_feed_21 : decode prog_1_method_6_code 21 = .ok (.iconst 0, 1) := by decide +kernel
theorem d_Ps_feed_22 : decode prog_1_method_6_code 22 = .ok (.dload_n 1, 1) := by decide +kernel
theorem d_Ps_feed_23 : decode prog_1_method_6_code 23 = .ok (.invokevirtual 117, 3) := by decide +kernel
theorem k_2_104 : Cond.code ⟨"PageScribe$Row", "push", "(IID)I"⟩ prog_8_method_6_code 5 (some .int) ∈ gw := gw_of (tb_2 (List.mem_of_getElem? (i := 104) (by decide +kernel))) (by decide +kernel)
theorem k_2_99 : Cond.methodLink "PageScribe" 117 ⟨"PageScribe$Stack", "push", "(IID)I"⟩ ∈ gw := gw_of (tb_2 (List.mem_of_getElem? (i := 99) (by decide +kernel))) (by decide +kernel)
theorem k_2_100 : Cond.sameMethod "PageScribe$Stack" "PageScribe$Row" "push" "(IID)I" ∈ gw := gw_of (tb_2 (List.mem_of_getElem? (i := 100) (by decide +kernel))) (by decide +kernel)
theorem k_2_102 : Cond.selects "PageScribe$Stack" ⟨"PageScribe$Stack", "push", "(IID)I"⟩ ⟨"PageScribe$Row", "push", "(IID)I"⟩ ∈ gw := gw_of (tb_2 (List.mem_of_getElem? (i := 102) (by decide +kernel))) (by decide +kernel)
theorem k_2_103 : Cond.instanceMethod ⟨"PageScribe$Row", "push", "(IID)I"⟩ ∈ gw := gw_of (tb_2 (List.mem_of_getElem? (i := 103) (by decide +kernel))) (by decide +kernel)
theorem d_Ps_feed_26 : decode prog_1_method_6_code 26 = .ok (.ifCond .ne 7, 3) := by decide +kernel
theorem d_Ps_feed_29 : decode prog_1_method_6_code 29 = .ok (.iconst 1, 1) := by decide +kernel
theorem d_Ps_feed_30 : decode prog_1_method_6_code 30 = .ok (.goto 4, 3) := by decide +kernel
set_option maxHeartbeats 4000000 in
set_option maxRecDepth 100000 in
theorem c_Ps_feed (l : Launch) (D : va_G) (T : Nat → ClassId) (h0 : Nat) (oS : Nat) (oW : Nat) (oM : Nat) (oR : Nat) (oC : Nat) (oE : Nat) (k1 : Nat) (k2 : Nat) (k3 : Nat) (v0 : UInt64) (sz : Nat) : Met l ⟨"PageScribe", "feed", "(D)Z"⟩ (wy ⟨"PageScribe", "feed", "(D)Z"⟩ prog_1_method_6_code 3 (some .boolean)) ({ frames := 1, cells := 0, slots := 0, locals := 70 }) (va_Pc [.ref h0, .double v0] (Pw D T [(h0, .inr (10, [.ref oS, .ref oW, .ref oM, .ref oR, .ref oC, .ref oE])), (oS, .inr (0, [.ref k1, .ref k2, .ref k3, .int 0])), (k1, .inl (T 0, 40, .inl zI)), (k2, .inl (T 0, 40, .inl zI)), (k3, .inl (T 3, 40, .inr (.inr (.inr (.inl zD)))))] sz E0)) (va_Qi (fun (r : Int32) (u : Unit) => (r = 1 ∧ feedOk v0) ∨ (r = 0 ∧ ¬ feedOk v0)) (fun u t => Bw D T (va_A [(h0, .inr (10, [.ref oS, .ref oW, .ref oM, .ref oR, .ref oC, .ref oE])), (oS, .inr (0, [.ref k1, .ref k2, .ref k3, .int 0])), (k1, .inl (T 0, 40, .inl zI)), (k2, .inl (T 0, 40, .inl zI)), (k3, .inl (T 3, 40, .inr (.inr (.inr (.inl zD)))))] sz) [(h0, .inr (10, [.ref oS, .ref oW, .ref oM, .ref oR, .ref oC, .ref oE]))] t) (va_A [(h0, .inr (10, [.ref oS, .ref oW, .ref oM, .ref oR, .ref oC, .ref oE])), (oS, .inr (0, [.ref k1, .ref k2, .ref k3, .int 0])), (k1, .inl (T 0, 40, .inl zI)), (k2, .inl (T 0, 40, .inl zI)), (k3, .inl (T 3, 40, .inr (.inr (.inr (.inl zD)))))] sz)) 0 0 (va_A [(h0, .inr (10, [.ref oS, .ref oW, .ref oM, .ref oR, .ref oC, .ref oE])), (oS, .inr (0, [.ref k1, .ref k2, .ref k3, .int 0])), (k1, .inl (T 0, 40, .inl zI)), (k2, .inl (T 0, 40, .inl zI)), (k3, .inl (T 3, 40, .inr (.inr (.inr (.inl zD)))))] sz) := by
  refine j_met (Qc := fun A => va_Qi (fun (r : Int32) (u : Unit) => (r = 1 ∧ feedOk v0) ∨ (r = 0 ∧ ¬ feedOk v0)) (fun u t => Bw D T A [(h0, .inr (10, [.ref oS, .ref oW, .ref oM, .ref oR, .ref oC, .ref oE]))] t) A) (by decide +kernel) (Nat.le_of_ble_eq_true rfl) (fun p e s m args below meth c A ls F hr hlocks hnm hK hP hD hS hA hN hE hl => ?_)
  obtain ⟨hx, hb, hml, hown, hts⟩ := id F
  have hin := hnm
  have hl : lv_has ls 3 [(0, .ref h0), (1, .double v0)] := hl
  refine lv_dload_n hx hb d_Ps_feed_0 rfl (lv_at hl 1 rfl) ?_
  refine lv_ldc2d (v := 14009883241494872064) hx hb hown (hts _ k_2_97) d_Ps_feed_1 ?_
  refine lv_dcmp hx hb d_Ps_feed_4 ?_
  refine lv_topi (fun x1 ex1 => ?_)
  refine lv_if_lt (tgt := 33) hx hb d_Ps_feed_5 (by decide) (fun c_5 => ?_) (fun c_5 => ?_)
  · refine lv_iconst (v := 0) hx hb d_Ps_feed_33 (by decide) ?_
    have hP9 := hP.sub (ws' := [(h0, .inr (10, [.ref oS, .ref oW, .ref oM, .ref oR, .ref oC, .ref oE]))]) [0] rfl
    have hD9 := hD.sub (ws' := [(h0, .inr (10, [.ref oS, .ref oW, .ref oM, .ref oR, .ref oC, .ref oE]))]) [0] (by decide) rfl
    refine W.widen (k := 0) (n := 0) (Nat.le_of_ble_eq_true rfl) (Nat.le_of_ble_eq_true rfl) ?_
    exact j_zret F hr rfl hlocks hK hS () (by first | exact Or.inl ⟨rfl, ⟨ex1 ▸ c_5, ex2 ▸ c_13⟩⟩ | exact Or.inr ⟨rfl, fun h => h.2 (ex2 ▸ c_13)⟩ | exact Or.inr ⟨rfl, fun h => h.1 (ex1 ▸ c_5)⟩) hP9 hD9 d_Ps_feed_34
  · refine lv_dload_n hx hb d_Ps_feed_8 rfl (lv_at hl 1 rfl) ?_
    refine lv_ldc2d (v := 4786511204640096256) hx hb hown (hts _ k_2_98) d_Ps_feed_9 ?_
    refine lv_dcmp hx hb d_Ps_feed_12 ?_
    refine lv_topi (fun x2 ex2 => ?_)
    refine lv_if_gt (tgt := 33) hx hb d_Ps_feed_13 (by decide) (fun c_13 => ?_) (fun c_13 => ?_)
    · refine lv_iconst (v := 0) hx hb d_Ps_feed_33 (by decide) ?_
      have hP9 := hP.sub (ws' := [(h0, .inr (10, [.ref oS, .ref oW, .ref oM, .ref oR, .ref oC, .ref oE]))]) [0] rfl
      have hD9 := hD.sub (ws' := [(h0, .inr (10, [.ref oS, .ref oW, .ref oM, .ref oR, .ref oC, .ref oE]))]) [0] (by decide) rfl
      refine W.widen (k := 0) (n := 0) (Nat.le_of_ble_eq_true rfl) (Nat.le_of_ble_eq_true rfl) ?_
      exact j_zret F hr rfl hlocks hK hS () (by first | exact Or.inl ⟨rfl, ⟨ex1 ▸ c_5, ex2 ▸ c_13⟩⟩ | exact Or.inr ⟨rfl, fun h => h.2 (ex2 ▸ c_13)⟩ | exact Or.inr ⟨rfl, fun h => h.1 (ex1 ▸ c_5)⟩) hP9 hD9 d_Ps_feed_34
    · refine lv_aload_n hx hb d_Ps_feed_16 rfl (lv_at hl 0 rfl) ?_
      refine va_get (D := D) (ci := 10) (v := .ref oS) (C := "PageScribe") (T := F_Ps) (N := 6) hx hb hts i_Ps hown hK hP 0 rfl rfl 0 (by decide) (hts _ k_2_58) (fun _ h9 => h9) rfl d_Ps_feed_17 ?_
      refine lv_iconst (v := 1) hx hb d_Ps_feed_20 (by decide) ?_
      refine lv_iconst (v := 0) hx hb d_Ps_feed_21 (by decide) ?_
      refine lv_dload_n hx hb d_Ps_feed_22 rfl (lv_at hl 1 rfl) ?_
      refine j_ci (wc := [(oS, .inr (0, [.ref k1, .ref k2, .ref k3, .int 0])), (k1, .inl (T 0, 40, .inl zI)), (k2, .inl (T 0, 40, .inl zI)), (k3, .inl (T 3, 40, .inr (.inr (.inr (.inl zD)))))]) (wr := [(h0, .inr (10, [.ref oS, .ref oW, .ref oM, .ref oR, .ref oC, .ref oE]))]) hK hP hD hS hA [1, 2, 3, 4] [0] rfl rfl (by decide) (by decide) (va_runU (As := [.int 1, .int 0, .double v0]) (rest := []) F (c_Row_push l D T oS k1 k2 k3 1 0 v0 s.heap.size) (j_cU (k := 3) (C := "PageScribe$Stack") (owner := "PageScribe$Row") (x := ⟨"PageScribe$Stack", "push", "(IID)I"⟩) hts k_2_104 k_2_99 k_2_100 k_2_102 k_2_103 k_1_2 rfl (by decide +kernel) ⟨Nat.le_of_ble_eq_true rfl, Nat.le_of_ble_eq_true rfl⟩) (j_preV (q0 := 1) (ci := 0) hK hP hD [1, 2, 3, 4] rfl (by decide) rfl rfl (fun _ _ _ _ h => h) (fun _ _ _ => trivial)) rfl rfl hl.1 rfl (lv_room (Nat.le_of_ble_eq_true rfl)) d_Ps_feed_23 ⟨Nat.le_of_ble_eq_true rfl, Nat.le_of_ble_eq_true rfl⟩) (fun rv1 u1 H locs hw hP hD hS => ?_)
      obtain ⟨g1_1, g2_1, g3_1⟩ := u1
      have hP : va_P D classes [(h0, .inr (10, [.ref oS, .ref oW, .ref oM, .ref oR, .ref oC, .ref oE])), (oS, .inr (0, [.ref k1, .ref k2, .ref k3, .int 1])), (k1, .inl (T 0, 40, .inl g1_1)), (k2, .inl (T 0, 40, .inl g2_1)), (k3, .inl (T 3, 40, .inr (.inr (.inr (.inl g3_1)))))] H := hP
      have hD : va_D A [(h0, .inr (10, [.ref oS, .ref oW, .ref oM, .ref oR, .ref oC, .ref oE])), (oS, .inr (0, [.ref k1, .ref k2, .ref k3, .int 1])), (k1, .inl (T 0, 40, .inl g1_1)), (k2, .inl (T 0, 40, .inl g2_1)), (k3, .inl (T 3, 40, .inr (.inr (.inr (.inl g3_1)))))] := hD
      have hw1 : rv1 = 0 := hw
      refine j_eqi (y := 0) hw1 ?_
      refine lv_if_ne (tgt := 33) hx hb d_Ps_feed_26 (by decide) (fun c9 => absurd c9 (by decide +kernel)) (fun _ => ?_)
      refine lv_iconst (v := 1) hx hb d_Ps_feed_29 (by decide) ?_
      refine lv_goto (tgt := 34) hx hb d_Ps_feed_30 (by decide) ?_
      have hP9 := hP.sub (ws' := [(h0, .inr (10, [.ref oS, .ref oW, .ref oM, .ref oR, .ref oC, .ref oE]))]) [0] rfl
      have hD9 := hD.sub (ws' := [(h0, .inr (10, [.ref oS, .ref oW, .ref oM, .ref oR, .ref oC, .ref oE]))]) [0] (by decide) rfl
      refine W.widen (k := 0) (n := 0) (Nat.le_of_ble_eq_true rfl) (Nat.le_of_ble_eq_true rfl) ?_
      exact j_zret F hr rfl hlocks hK hS () (by first | exact Or.inl ⟨rfl, ⟨ex1 ▸ c_5, ex2 ▸ c_13⟩⟩ | exact Or.inr ⟨rfl, fun h => h.2 (ex2 ▸ c_13)⟩ | exact Or.inr ⟨rfl, fun h => h.1 (ex1 ▸ c_5)⟩) hP9 hD9 d_Ps_feed_34
/-- a character of the text, or none -/
def okB (b : Int32) : Prop := b = 0 ∨ (¬ b < 32 ∧ ¬ 126 < b)
def shA : Nat → Int32
  | 0 => 56
  | 1 => 48
  | 2 => 40
  | 3 => 32
  | 4 => 24
  | 5 => 16
  | 6 => 8
  | 7 => 0
  | _ => -8
theorem shA_s : ∀ j, j < 8 → shA j + Int32.ofInt (-8) = shA (j + 1) := by decide +kernel
theorem shA_n : ∀ j, j < 8 → ¬ shA j < 0 := by decide +kernel
theorem shA_8 : shA 8 < 0 := by decide +kernel
/-- the byte j of eight, from the highest -/
def byA (x : Int64) (j : Nat) : Int32 := (x.toUInt64 >>> ((shA j).toInt64.toUInt64 &&& Int64.toUInt64 63)).toInt64.toInt32 &&& 255
def okW (x : Int64) : Prop := ∀ i, i < 8 → okB (byA x i)
theorem shA_lt {j : Nat} (h : j ≤ 8) (h2 : ¬ shA j < 0) : j < 8 := by
  rcases Nat.lt_or_ge j 8 with q | q
  · exact q
  · exact absurd (by rw [show j = 8 by omega]; exact shA_8) h2
theorem shA_ge {j : Nat} (h : j ≤ 8) (h2 : shA j < 0) : j = 8 := by
  rcases Nat.lt_or_ge j 8 with q | q
  · exact absurd h2 (shA_n j q)
  · omega
theorem d_Reader_append_0 : decode prog_7_method_2_code 0 = .ok (.iconst 0, 1) := by decide +kernel
theorem d_Reader_append_1 : decode prog_7_method_2_code 1 = .ok (.istore_n 3, 1) := by decide +kernel
theorem d_Reader_append_2 : decode prog_7_method_2_code 2 = .ok (.bipush 56, 2) := by decide +kernel
theorem d_Reader_append_4 : decode prog_7_method_2_code 4 = .ok (.istore 4, 2) := by decide +kernel
theorem d_Reader_append_6 : decode prog_7_method_2_code 6 = .ok (.iload 4, 2) := by decide +kernel
theorem d_Reader_append_8 : decode prog_7_method_2_code 8 = .ok (.ifCond .lt 54, 3) := by decide +kernel
theorem d_Reader_append_62 : decode prog_7_method_2_code 62 = .ok (.aload_n 0, 1) := by decide +kernel
theorem d_Reader_append_63 : decode prog_7_method_2_code 63 = .ok (.getfield 15, 3) := by decide +kernel
theorem d_Reader_append_66 : decode prog_7_method_2_code 66 = .ok (.iload_n 3, 1) := by decide +kernel
theorem d_Reader_append_67 : decode prog_7_method_2_code 67 = .ok (.iadd, 1) := by decide +kernel
theorem d_Reader_append_68 : decode prog_7_method_2_code 68 = .ok (.bipush 120, 2) := by decide +kernel
theorem d_Reader_append_70 : decode prog_7_method_2_code 70 = .ok (.if_icmp .le 5, 3) := by decide +kernel
theorem d_Reader_append_75 : decode prog_7_method_2_code 75 = .ok (.bipush 56, 2) := by decide +kernel
theorem d_Reader_append_77 : decode prog_7_method_2_code 77 = .ok (.istore 4, 2) := by decide +kernel
theorem d_Reader_append_79 : decode prog_7_method_2_code 79 = .ok (.iload 4, 2) := by decide +kernel
theorem d_Reader_append_81 : decode prog_7_method_2_code 81 = .ok (.ifCond .lt 56, 3) := by decide +kernel
theorem d_Reader_append_137 : decode prog_7_method_2_code 137 = .ok (.iconst 1, 1) := by decide +kernel
theorem d_Reader_append_138 : decode prog_7_method_2_code 138 = .ok (.ireturn, 1) := by decide +kernel
theorem d_Reader_append_84 : decode prog_7_method_2_code 84 = .ok (.lload_n 1, 1) := by decide +kernel
theorem d_Reader_append_85 : decode prog_7_method_2_code 85 = .ok (.iload 4, 2) := by decide +kernel
theorem d_Reader_append_87 : decode prog_7_method_2_code 87 = .ok (.lushr, 1) := by decide +kernel
theorem d_Reader_append_88 : decode prog_7_method_2_code 88 = .ok (.l2i, 1) := by decide +kernel
theorem d_Reader_append_89 : decode prog_7_method_2_code 89 = .ok (.sipush 255, 3) := by decide +kernel
theorem d_Reader_append_92 : decode prog_7_method_2_code 92 = .ok (.iand, 1) := by decide +kernel
theorem d_Reader_append_93 : decode prog_7_method_2_code 93 = .ok (.istore 5, 2) := by decide +kernel
theorem d_Reader_append_95 : decode prog_7_method_2_code 95 = .ok (.iload 5, 2) := by decide +kernel
theorem d_Reader_append_97 : decode prog_7_method_2_code 97 = .ok (.ifCond .eq 34, 3) := by decide +kernel
theorem d_Reader_append_131 : decode prog_7_method_2_code 131 = .ok (.iinc 4 (-8), 3) := by decide +kernel
theorem d_Reader_append_134 : decode prog_7_method_2_code 134 = .ok (.goto (-55), 3) := by decide +kernel
theorem d_Reader_append_100 : decode prog_7_method_2_code 100 = .ok (.aload_n 0, 1) := by decide +kernel
theorem d_Reader_append_101 : decode prog_7_method_2_code 101 = .ok (.getfield 15, 3) := by decide +kernel
theorem d_Reader_append_104 : decode prog_7_method_2_code 104 = .ok (.bipush 120, 2) := by decide +kernel
theorem d_Reader_append_106 : decode prog_7_method_2_code 106 = .ok (.if_icmp .ge 25, 3) := by decide +kernel
theorem d_Reader_append_109 : decode prog_7_method_2_code 109 = .ok (.aload_n 0, 1) := by decide +kernel
theorem d_Reader_append_110 : decode prog_7_method_2_code 110 = .ok (.getfield 9, 3) := by decide +kernel
theorem d_Reader_append_113 : decode prog_7_method_2_code 113 = .ok (.aload_n 0, 1) := by decide +kernel
theorem d_Reader_append_114 : decode prog_7_method_2_code 114 = .ok (.getfield 15, 3) := by decide +kernel
theorem d_Reader_append_117 : decode prog_7_method_2_code 117 = .ok (.iload 5, 2) := by decide +kernel
theorem d_Reader_append_119 : decode prog_7_method_2_code 119 = .ok (.i2c, 1) := by decide +kernel
theorem d_Reader_append_120 : decode prog_7_method_2_code 120 = .ok (.castore, 1) := by decide +kernel
theorem d_Reader_append_121 : decode prog_7_method_2_code 121 = .ok (.aload_n 0, 1) := by decide +kernel
theorem d_Reader_append_122 : decode prog_7_method_2_code 122 = .ok (.dup, 1) := by decide +kernel
theorem d_Reader_append_123 : decode prog_7_method_2_code 123 = .ok (.getfield 15, 3) := by decide +kernel
theorem d_Reader_append_126 : decode prog_7_method_2_code 126 = .ok (.iconst 1, 1) := by decide +kernel
theorem d_Reader_append_127 : decode prog_7_method_2_code 127 = .ok (.iadd, 1) := by decide +kernel
theorem d_Reader_append_128 : decode prog_7_method_2_code 128 = .ok (.putfield 15, 3) := by decide +kernel
theorem d_Reader_append_11 : decode prog_7_method_2_code 11 = .ok (.lload_n 1, 1) := by decide +kernel
theorem d_Reader_append_12 : decode prog_7_method_2_code 12 = .ok (.iload 4, 2) := by decide +kernel
theorem d_Reader_append_14 : decode prog_7_method_2_code 14 = .ok (.lushr, 1) := by decide +kernel
theorem d_Reader_append_15 : decode prog_7_method_2_code 15 = .ok (.l2i, 1) := by decide +kernel
theorem d_Reader_append_16 : decode prog_7_method_2_code 16 = .ok (.sipush 255, 3) := by decide +kernel
theorem d_Reader_append_19 : decode prog_7_method_2_code 19 = .ok (.iand, 1) := by decide +kernel
theorem d_Reader_append_20 : decode prog_7_method_2_code 20 = .ok (.istore 5, 2) := by decide +kernel
theorem d_Reader_append_43 : decode prog_7_method_2_code 43 = .ok (.iload_n 3, 1) := by decide +kernel
theorem d_Reader_append_44 : decode prog_7_method_2_code 44 = .ok (.iload 5, 2) := by decide +kernel
theorem d_Reader_append_46 : decode prog_7_method_2_code 46 = .ok (.ifCond .ne 7, 3) := by decide +kernel
theorem d_Reader_append_53 : decode prog_7_method_2_code 53 = .ok (.iconst 1, 1) := by decide +kernel
theorem d_Reader_append_54 : decode prog_7_method_2_code 54 = .ok (.iadd, 1) := by decide +kernel
theorem d_Reader_append_55 : decode prog_7_method_2_code 55 = .ok (.istore_n 3, 1) := by decide +kernel
theorem d_Reader_append_56 : decode prog_7_method_2_code 56 = .ok (.iinc 4 (-8), 3) := by decide +kernel
theorem d_Reader_append_59 : decode prog_7_method_2_code 59 = .ok (.goto (-53), 3) := by decide +kernel
theorem d_Reader_append_49 : decode prog_7_method_2_code 49 = .ok (.iconst 0, 1) := by decide +kernel
theorem d_Reader_append_50 : decode prog_7_method_2_code 50 = .ok (.goto 4, 3) := by decide +kernel
theorem d_Reader_append_22 : decode prog_7_method_2_code 22 = .ok (.iload 5, 2) := by decide +kernel
theorem d_Reader_append_24 : decode prog_7_method_2_code 24 = .ok (.ifCond .eq 19, 3) := by decide +kernel
theorem d_Reader_append_27 : decode prog_7_method_2_code 27 = .ok (.iload 5, 2) := by decide +kernel
theorem d_Reader_append_29 : decode prog_7_method_2_code 29 = .ok (.bipush 32, 2) := by decide +kernel
theorem d_Reader_append_31 : decode prog_7_method_2_code 31 = .ok (.if_icmp .lt 10, 3) := by decide +kernel
theorem d_Reader_append_41 : decode prog_7_method_2_code 41 = .ok (.iconst 0, 1) := by decide +kernel
theorem d_Reader_append_42 : decode prog_7_method_2_code 42 = .ok (.ireturn, 1) := by decide +kernel
theorem d_Reader_append_34 : decode prog_7_method_2_code 34 = .ok (.iload 5, 2) := by decide +kernel
theorem d_Reader_append_36 : decode prog_7_method_2_code 36 = .ok (.bipush 126, 2) := by decide +kernel
theorem d_Reader_append_38 : decode prog_7_method_2_code 38 = .ok (.if_icmp .le 5, 3) := by decide +kernel
set_option maxHeartbeats 4000000 in
set_option maxRecDepth 100000 in
theorem c_Reader_append (l : Launch) (D : va_G) (T : Nat → ClassId) (oR : Nat) (oW : Nat) (st : Nat) (tx : Nat) (gt : Nat) (bg : Nat) (v0 : Int64) (sz : Nat) : Met l ⟨"PageScribe$Reader", "append", "(J)Z"⟩ (wy ⟨"PageScribe$Reader", "append", "(J)Z"⟩ prog_7_method_2_code 6 (some .boolean)) ({ frames := 0, cells := 0, slots := 0, locals := 0 }) (va_Pc [.ref oR, .long v0] (Pw D T [(oR, .inr (5, [.ref oW, .ref st, .ref tx, .int 0, .int 0, .int 0, .int 0, .double 0, .ref gt, .ref bg])), (tx, .inl (T 2, 120, .inl zI))] sz E0)) (va_Qi (fun (r : Int32) (u : Unit) => (r = 1 ∧ okW v0) ∨ (r = 0 ∧ ¬ okW v0)) (fun u t => Bw D T (va_A [(oR, .inr (5, [.ref oW, .ref st, .ref tx, .int 0, .int 0, .int 0, .int 0, .double 0, .ref gt, .ref bg])), (tx, .inl (T 2, 120, .inl zI))] sz) [] t) (va_A [(oR, .inr (5, [.ref oW, .ref st, .ref tx, .int 0, .int 0, .int 0, .int 0, .double 0, .ref gt, .ref bg])), (tx, .inl (T 2, 120, .inl zI))] sz)) 0 0 (va_A [(oR, .inr (5, [.ref oW, .ref st, .ref tx, .int 0, .int 0, .int 0, .int 0, .double 0, .ref gt, .ref bg])), (tx, .inl (T 2, 120, .inl zI))] sz) := by
  refine j_met (Qc := fun A => va_Qi (fun (r : Int32) (u : Unit) => (r = 1 ∧ okW v0) ∨ (r = 0 ∧ ¬ okW v0)) (fun u t => Bw D T A [] t) A) (by decide +kernel) (Nat.le_of_ble_eq_true rfl) (fun p e s m args below meth c A ls F hr hlocks hnm hK hP hD hS hA hN hE hl => ?_)
  obtain ⟨hx, hb, hml, hown, hts⟩ := id F
  have hin := hnm
  have hl : lv_has ls 6 [(0, .ref oR), (1, .long v0)] := hl
  refine lv_iconst (v := 0) hx hb d_Reader_append_0 (by decide) ?_
  refine lv_istore_n (lv' := [(3, .int 0), (0, .ref oR), (1, .long v0)]) hx hb d_Reader_append_1 rfl hl (by decide) rfl (fun ls hl => ?_)
  refine lv_bipush (v := 56) hx hb d_Reader_append_2 (by decide) ?_
  refine lv_istore (lv' := [(4, .int 56), (3, .int 0), (0, .ref oR), (1, .long v0)]) hx hb d_Reader_append_4 hl (by decide) rfl (fun ls hl => ?_)
  refine j_loop (α := Nat × Nat) (fun k x H locs ls => (x.1 + k = 8 ∧ x.2 ≤ x.1 ∧ ∀ i, i < x.1 → okB (byA v0 i)) ∧ va_P D classes [(oR, .inr (5, [.ref oW, .ref st, .ref tx, .int 0, .int 0, .int 0, .int 0, .double 0, .ref gt, .ref bg])), (tx, .inl (T 2, 120, .inl zI))] H ∧ va_D A [(oR, .inr (5, [.ref oW, .ref st, .ref tx, .int 0, .int 0, .int 0, .int 0, .double 0, .ref gt, .ref bg])), (tx, .inl (T 2, 120, .inl zI))] ∧ va_S A s.heap H locs ∧ lv_has ls 6 [(0, .ref oR), (1, .long v0), (3, .int (nI x.2)), (4, .int (shA x.1))]) (fun _ _ ls => F0 m 6 ls []) (fun k x H locs ls hI ih => ?_) 8 (0, 0) _ _ _ ⟨⟨(by dsimp only <;> omega), (by dsimp only <;> omega), fun i hi => absurd hi (Nat.not_lt_zero i)⟩, hP.sub [0, 1] rfl, hD.sub [0, 1] (by decide) rfl, hS, lv_sub hl [2, 3, 1, 0] rfl⟩
  obtain ⟨j, t⟩ := x
  obtain ⟨⟨hj1, hj2, hj3⟩, hP, hD, hS, hl⟩ := hI
  dsimp only at hj1 hj2 hj3
  have hP : va_P D classes [(oR, .inr (5, [.ref oW, .ref st, .ref tx, .int 0, .int 0, .int 0, .int 0, .double 0, .ref gt, .ref bg])), (tx, .inl (T 2, 120, .inl zI))] H := hP
  have hD : va_D A [(oR, .inr (5, [.ref oW, .ref st, .ref tx, .int 0, .int 0, .int 0, .int 0, .double 0, .ref gt, .ref bg])), (tx, .inl (T 2, 120, .inl zI))] := hD
  have hl : lv_has ls 6 [(0, .ref oR), (1, .long v0), (3, .int (nI t)), (4, .int (shA j))] := hl
  refine lv_iload hx hb d_Reader_append_6 (lv_at hl 3 rfl) ?_
  refine lv_if_lt (tgt := 62) hx hb d_Reader_append_8 (by decide) (fun c_8 => ?_) (fun c_8 => ?_)
  · have hj : j = 8 := shA_ge (by omega) c_8
    subst hj
    have hall : okW v0 := hj3
    refine lv_aload_n hx hb d_Reader_append_62 rfl (lv_at hl 0 rfl) ?_
    refine va_get (D := D) (ci := 5) (v := .int 0) (C := "PageScribe$Reader") (T := F_Reader) (N := 10) hx hb hts i_Reader hown hK hP 0 rfl rfl 3 (by decide) (hts _ k_1_169) (fun _ h9 => h9) rfl d_Reader_append_63 ?_
    refine lv_iload_n hx hb d_Reader_append_66 rfl (lv_at hl 2 rfl) ?_
    refine lv_iadd hx hb d_Reader_append_67 ?_
    refine j_eqi (y := (nI t)) (by rw [← nI_0, nI_add, Nat.zero_add]) ?_
    refine lv_bipush (v := 120) hx hb d_Reader_append_68 (by decide) ?_
    refine lv_icmp_le (tgt := 75) hx hb d_Reader_append_70 (by decide) (fun c_70 => ?_) (fun c_70 => absurd c_70 (fun q => q (show nI t ≤ nI 120 from nI_le (by omega) (by omega))))
    refine lv_bipush (v := 56) hx hb d_Reader_append_75 (by decide) ?_
    refine lv_istore (lv' := [(4, .int 56), (0, .ref oR), (1, .long v0), (3, .int (nI t))]) hx hb d_Reader_append_77 hl (by decide) rfl (fun ls hl => ?_)
    refine j_loop (α := Nat × Nat × (Nat → Int32)) (fun k x H locs ls => (x.1 + k = 8 ∧ x.2.1 ≤ x.1) ∧ va_P D classes [(oR, .inr (5, [.ref oW, .ref st, .ref tx, .int (nI x.2.1), .int 0, .int 0, .int 0, .double 0, .ref gt, .ref bg])), (tx, .inl (T 2, 120, .inl x.2.2))] H ∧ va_D A [(oR, .inr (5, [.ref oW, .ref st, .ref tx, .int (nI x.2.1), .int 0, .int 0, .int 0, .double 0, .ref gt, .ref bg])), (tx, .inl (T 2, 120, .inl x.2.2))] ∧ va_S A s.heap H locs ∧ lv_has ls 6 [(0, .ref oR), (1, .long v0), (4, .int (shA x.1))]) (fun _ _ ls => F0 m 79 ls []) (fun k x H locs ls hI ih => ?_) 8 (0, 0, zI) _ _ _ ⟨⟨(by dsimp only <;> omega), (by dsimp only <;> omega)⟩, hP.sub [0, 1] rfl, hD.sub [0, 1] (by decide) rfl, hS, lv_sub hl [1, 2, 0] rfl⟩
    obtain ⟨j, t, g⟩ := x
    obtain ⟨⟨hj1, hj2⟩, hP, hD, hS, hl⟩ := hI
    dsimp only at hj1 hj2
    have hP : va_P D classes [(oR, .inr (5, [.ref oW, .ref st, .ref tx, .int (nI t), .int 0, .int 0, .int 0, .double 0, .ref gt, .ref bg])), (tx, .inl (T 2, 120, .inl g))] H := hP
    have hD : va_D A [(oR, .inr (5, [.ref oW, .ref st, .ref tx, .int (nI t), .int 0, .int 0, .int 0, .double 0, .ref gt, .ref bg])), (tx, .inl (T 2, 120, .inl g))] := hD
    have hl : lv_has ls 6 [(0, .ref oR), (1, .long v0), (4, .int (shA j))] := hl
    refine lv_iload hx hb d_Reader_append_79 (lv_at hl 2 rfl) ?_
    refine lv_if_lt (tgt := 137) hx hb d_Reader_append_81 (by decide) (fun c_81 => ?_) (fun c_81 => ?_)
    · refine lv_iconst (v := 1) hx hb d_Reader_append_137 (by decide) ?_
      have hP9 := hP.sub (ws' := []) [] rfl
      have hD9 := hD.sub (ws' := []) [] (by decide) rfl
      refine W.widen (k := 0) (n := 0) (Nat.le_of_ble_eq_true rfl) (Nat.le_of_ble_eq_true rfl) ?_
      exact j_zret F hr rfl hlocks hK hS () (by first | exact Or.inr ⟨rfl, fun hw => (by rw [← hb9]; exact fun h => h.elim c_24 (fun h => h.1 c_31) : ¬ okB (byA v0 j)) (hw j hj8)⟩ | exact Or.inr ⟨rfl, fun hw => (by rw [← hb9]; exact fun h => h.elim c_24 (fun h => h.2 (Int32.not_le.mp c_38)) : ¬ okB (byA v0 j)) (hw j hj8)⟩ | exact Or.inl ⟨rfl, hall⟩) hP9 hD9 d_Reader_append_138
    · have hj8 : j < 8 := shA_lt (by omega) c_81
      refine lv_lload_n hx hb d_Reader_append_84 rfl (lv_at hl 1 rfl) ?_
      refine lv_iload hx hb d_Reader_append_85 (lv_at hl 2 rfl) ?_
      refine lv_lushr (v := ((v0).toUInt64 >>> (((shA j) : Int32).toInt64.toUInt64 &&& Int64.toUInt64 63)).toInt64) hx hb d_Reader_append_87 rfl ?_
      refine lv_topl (fun x1 ex1 => ?_)
      refine lv_l2i (v := (x1).toInt32) hx hb d_Reader_append_88 rfl ?_
      refine lv_topi (fun x2 ex2 => ?_)
      refine lv_sipush (v := 255) hx hb d_Reader_append_89 (by decide) ?_
      refine lv_iand hx hb d_Reader_append_92 ?_
      refine lv_topi (fun x3 ex3 => ?_)
      refine lv_istore (lv' := [(5, .int x3), (0, .ref oR), (1, .long v0), (4, .int (shA j))]) hx hb d_Reader_append_93 hl (by decide) rfl (fun ls hl => ?_)
      refine lv_iload hx hb d_Reader_append_95 (lv_at hl 0 rfl) ?_
      refine lv_if_eq (tgt := 131) hx hb d_Reader_append_97 (by decide) (fun c_97 => ?_) (fun c_97 => ?_)
      · refine lv_iinc (v := (shA (j + 1))) (lv' := [(4, .int (shA (j + 1))), (5, .int x3), (0, .ref oR), (1, .long v0)]) hx hb d_Reader_append_131 hl (k := 3) rfl (shA_s j hj8) (by decide) rfl (fun ls hl => ?_)
        refine lv_goto (tgt := 79) hx hb d_Reader_append_134 (by decide) ?_
        exact ih (k - 1) (j + 1, t, g) _ _ _ (by omega) ⟨⟨(by dsimp only <;> omega), (by dsimp only <;> omega)⟩, hP.sub [0, 1] rfl, hD.sub [0, 1] (by decide) rfl, hS, lv_sub hl [2, 3, 0] rfl⟩
      · refine lv_aload_n hx hb d_Reader_append_100 rfl (lv_at hl 1 rfl) ?_
        refine va_get (D := D) (ci := 5) (v := .int (nI t)) (C := "PageScribe$Reader") (T := F_Reader) (N := 10) hx hb hts i_Reader hown hK hP 0 rfl rfl 3 (by decide) (hts _ k_1_169) (fun _ h9 => h9) rfl d_Reader_append_101 ?_
        refine lv_bipush (v := 120) hx hb d_Reader_append_104 (by decide) ?_
        refine lv_icmp_ge (tgt := 131) hx hb d_Reader_append_106 (by decide) (fun c_106 => absurd c_106 (nI_ge (a := t) (b := 120) (by omega) (by omega))) (fun c_106 => ?_)
        refine lv_aload_n hx hb d_Reader_append_109 rfl (lv_at hl 1 rfl) ?_
        refine va_get (D := D) (ci := 5) (v := .ref tx) (C := "PageScribe$Reader") (T := F_Reader) (N := 10) hx hb hts i_Reader hown hK hP 0 rfl rfl 2 (by decide) (hts _ k_1_168) (fun _ h9 => h9) rfl d_Reader_append_110 ?_
        refine lv_aload_n hx hb d_Reader_append_113 rfl (lv_at hl 1 rfl) ?_
        refine va_get (D := D) (ci := 5) (v := .int (nI t)) (C := "PageScribe$Reader") (T := F_Reader) (N := 10) hx hb hts i_Reader hown hK hP 0 rfl rfl 3 (by decide) (hts _ k_1_169) (fun _ h9 => h9) rfl d_Reader_append_114 ?_
        refine lv_iload hx hb d_Reader_append_117 (lv_at hl 0 rfl) ?_
        refine lv_i2c (v := ((x3).toUInt32 % 65536).toInt32) hx hb d_Reader_append_119 rfl ?_
        refine lv_topi (fun x4 ex4 => ?_)
        refine j_cast F hK hP hD hS 1 2 rfl rfl (vp_in_nI (n := t) (N := 120) (by omega) (by omega)) d_Reader_append_120 (fun g1 H locs hP hD hS => ?_)
        have hP : va_P D classes [(oR, .inr (5, [.ref oW, .ref st, .ref tx, .int (nI t), .int 0, .int 0, .int 0, .double 0, .ref gt, .ref bg])), (tx, .inl (T 2, 120, .inl g1))] H := hP
        have hD : va_D A [(oR, .inr (5, [.ref oW, .ref st, .ref tx, .int (nI t), .int 0, .int 0, .int 0, .double 0, .ref gt, .ref bg])), (tx, .inl (T 2, 120, .inl g1))] := hD
        refine lv_aload_n hx hb d_Reader_append_121 rfl (lv_at hl 1 rfl) ?_
        refine lv_dup hx hb d_Reader_append_122 rfl ?_
        refine va_get (D := D) (ci := 5) (v := .int (nI t)) (C := "PageScribe$Reader") (T := F_Reader) (N := 10) hx hb hts i_Reader hown hK hP 0 rfl rfl 3 (by decide) (hts _ k_1_169) (fun _ h9 => h9) rfl d_Reader_append_123 ?_
        refine lv_iconst (v := 1) hx hb d_Reader_append_126 (by decide) ?_
        refine lv_iadd hx hb d_Reader_append_127 ?_
        refine j_eqi (y := (nI (t + 1))) (nI_add t 1) ?_
        refine va_put (D := D) (ci := 5) (v := .int (nI (t + 1))) (ty := .int) (C := "PageScribe$Reader") (T := F_Reader) (N := 10) hx hb hts i_Reader t_Reader t_Reader_ok n_Reader hown hK hP hD hS 0 rfl rfl 3 (by decide) (hts _ k_1_169) (fun _ h9 => h9) rfl (by decide +kernel) rfl rfl (Nat.le_of_ble_eq_true rfl) d_Reader_append_128 (fun H locs hP hD hS => ?_)
        have hP : va_P D classes [(oR, .inr (5, [.ref oW, .ref st, .ref tx, .int (nI (t + 1)), .int 0, .int 0, .int 0, .double 0, .ref gt, .ref bg])), (tx, .inl (T 2, 120, .inl g1))] H := hP
        have hD : va_D A [(oR, .inr (5, [.ref oW, .ref st, .ref tx, .int (nI (t + 1)), .int 0, .int 0, .int 0, .double 0, .ref gt, .ref bg])), (tx, .inl (T 2, 120, .inl g1))] := hD
        refine lv_iinc (v := (shA (j + 1))) (lv' := [(4, .int (shA (j + 1))), (5, .int x3), (0, .ref oR), (1, .long v0)]) hx hb d_Reader_append_131 hl (k := 3) rfl (shA_s j hj8) (by decide) rfl (fun ls hl => ?_)
        refine lv_goto (tgt := 79) hx hb d_Reader_append_134 (by decide) ?_
        exact ih (k - 1) (j + 1, (t + 1), g1) _ _ _ (by omega) ⟨⟨(by dsimp only <;> omega), (by dsimp only <;> omega)⟩, hP.sub [0, 1] rfl, hD.sub [0, 1] (by decide) rfl, hS, lv_sub hl [2, 3, 0] rfl⟩
  · have hj8 : j < 8 := shA_lt (by omega) c_8
    refine lv_lload_n hx hb d_Reader_append_11 rfl (lv_at hl 1 rfl) ?_
    refine lv_iload hx hb d_Reader_append_12 (lv_at hl 3 rfl) ?_
    refine lv_lushr (v := ((v0).toUInt64 >>> (((shA j) : Int32).toInt64.toUInt64 &&& Int64.toUInt64 63)).toInt64) hx hb d_Reader_append_14 rfl ?_
    refine lv_topl (fun x5 ex5 => ?_)
    refine lv_l2i (v := (x5).toInt32) hx hb d_Reader_append_15 rfl ?_
    refine lv_topi (fun x6 ex6 => ?_)
    refine lv_sipush (v := 255) hx hb d_Reader_append_16 (by decide) ?_
    refine lv_iand hx hb d_Reader_append_19 ?_
    refine lv_topi (fun x7 ex7 => ?_)
    refine lv_istore (lv' := [(5, .int x7), (0, .ref oR), (1, .long v0), (3, .int (nI t)), (4, .int (shA j))]) hx hb d_Reader_append_20 hl (by decide) rfl (fun ls hl => ?_)
    have hb9 : x7 = byA v0 j := by rw [ex7, ex6, ex5]; rfl
    refine j_join (α := Unit) (fun _ => okB x7) (fun _ => F0 m 43 ls []) (fun _ hok => ?_) (fun key => ?_)
    · refine lv_iload_n hx hb d_Reader_append_43 rfl (lv_at hl 3 rfl) ?_
      refine lv_iload hx hb d_Reader_append_44 (lv_at hl 0 rfl) ?_
      refine lv_if_ne (tgt := 53) hx hb d_Reader_append_46 (by decide) (fun c_46 => ?_) (fun c_46 => ?_)
      · refine lv_iconst (v := 1) hx hb d_Reader_append_53 (by decide) ?_
        refine lv_iadd hx hb d_Reader_append_54 ?_
        refine j_eqi (y := (nI (t + 1))) (nI_add t 1) ?_
        refine lv_istore_n (lv' := [(3, .int (nI (t + 1))), (5, .int x7), (0, .ref oR), (1, .long v0), (4, .int (shA j))]) hx hb d_Reader_append_55 rfl hl (by decide) rfl (fun ls hl => ?_)
        refine lv_iinc (v := (shA (j + 1))) (lv' := [(4, .int (shA (j + 1))), (3, .int (nI (t + 1))), (5, .int x7), (0, .ref oR), (1, .long v0)]) hx hb d_Reader_append_56 hl (k := 4) rfl (shA_s j hj8) (by decide) rfl (fun ls hl => ?_)
        refine lv_goto (tgt := 6) hx hb d_Reader_append_59 (by decide) ?_
        exact ih (k - 1) (j + 1, (t + 1)) _ _ _ (by omega) ⟨⟨(by dsimp only <;> omega), (by dsimp only <;> omega), (fun i hi => by dsimp only at hi; rcases Nat.lt_or_ge i j with q | q; exact hj3 i q; rw [show i = j by omega, ← hb9]; exact hok)⟩, hP.sub [0, 1] rfl, hD.sub [0, 1] (by decide) rfl, hS, lv_sub hl [3, 4, 1, 0] rfl⟩
      · refine lv_iconst (v := 0) hx hb d_Reader_append_49 (by decide) ?_
        refine lv_goto (tgt := 54) hx hb d_Reader_append_50 (by decide) ?_
        refine lv_iadd hx hb d_Reader_append_54 ?_
        refine j_eqi (y := (nI (t + 0))) (nI_add t 0) ?_
        refine lv_istore_n (lv' := [(3, .int (nI (t + 0))), (5, .int x7), (0, .ref oR), (1, .long v0), (4, .int (shA j))]) hx hb d_Reader_append_55 rfl hl (by decide) rfl (fun ls hl => ?_)
        refine lv_iinc (v := (shA (j + 1))) (lv' := [(4, .int (shA (j + 1))), (3, .int (nI (t + 0))), (5, .int x7), (0, .ref oR), (1, .long v0)]) hx hb d_Reader_append_56 hl (k := 4) rfl (shA_s j hj8) (by decide) rfl (fun ls hl => ?_)
        refine lv_goto (tgt := 6) hx hb d_Reader_append_59 (by decide) ?_
        exact ih (k - 1) (j + 1, (t + 0)) _ _ _ (by omega) ⟨⟨(by dsimp only <;> omega), (by dsimp only <;> omega), (fun i hi => by dsimp only at hi; rcases Nat.lt_or_ge i j with q | q; exact hj3 i q; rw [show i = j by omega, ← hb9]; exact hok)⟩, hP.sub [0, 1] rfl, hD.sub [0, 1] (by decide) rfl, hS, lv_sub hl [3, 4, 1, 0] rfl⟩
    · refine lv_iload hx hb d_Reader_append_22 (lv_at hl 0 rfl) ?_
      refine lv_if_eq (tgt := 43) hx hb d_Reader_append_24 (by decide) (fun c_24 => ?_) (fun c_24 => ?_)
      · exact key () (by first | exact Or.inl c_24 | exact Or.inr ⟨c_31, Int32.not_lt.mpr c_38⟩)
      · refine lv_iload hx hb d_Reader_append_27 (lv_at hl 0 rfl) ?_
        refine lv_bipush (v := 32) hx hb d_Reader_append_29 (by decide) ?_
        refine lv_icmp_lt (tgt := 41) hx hb d_Reader_append_31 (by decide) (fun c_31 => ?_) (fun c_31 => ?_)
        · refine lv_iconst (v := 0) hx hb d_Reader_append_41 (by decide) ?_
          have hP9 := hP.sub (ws' := []) [] rfl
          have hD9 := hD.sub (ws' := []) [] (by decide) rfl
          refine W.widen (k := 0) (n := 0) (Nat.le_of_ble_eq_true rfl) (Nat.le_of_ble_eq_true rfl) ?_
          exact j_zret F hr rfl hlocks hK hS () (by first | exact Or.inr ⟨rfl, fun hw => (by rw [← hb9]; exact fun h => h.elim c_24 (fun h => h.1 c_31) : ¬ okB (byA v0 j)) (hw j hj8)⟩ | exact Or.inr ⟨rfl, fun hw => (by rw [← hb9]; exact fun h => h.elim c_24 (fun h => h.2 (Int32.not_le.mp c_38)) : ¬ okB (byA v0 j)) (hw j hj8)⟩ | exact Or.inl ⟨rfl, hall⟩) hP9 hD9 d_Reader_append_42
        · refine lv_iload hx hb d_Reader_append_34 (lv_at hl 0 rfl) ?_
          refine lv_bipush (v := 126) hx hb d_Reader_append_36 (by decide) ?_
          refine lv_icmp_le (tgt := 43) hx hb d_Reader_append_38 (by decide) (fun c_38 => ?_) (fun c_38 => ?_)
          · exact key () (by first | exact Or.inl c_24 | exact Or.inr ⟨c_31, Int32.not_lt.mpr c_38⟩)
          · refine lv_iconst (v := 0) hx hb d_Reader_append_41 (by decide) ?_
            have hP9 := hP.sub (ws' := []) [] rfl
            have hD9 := hD.sub (ws' := []) [] (by decide) rfl
            refine W.widen (k := 0) (n := 0) (Nat.le_of_ble_eq_true rfl) (Nat.le_of_ble_eq_true rfl) ?_
            exact j_zret F hr rfl hlocks hK hS () (by first | exact Or.inr ⟨rfl, fun hw => (by rw [← hb9]; exact fun h => h.elim c_24 (fun h => h.1 c_31) : ¬ okB (byA v0 j)) (hw j hj8)⟩ | exact Or.inr ⟨rfl, fun hw => (by rw [← hb9]; exact fun h => h.elim c_24 (fun h => h.2 (Int32.not_le.mp c_38)) : ¬ okB (byA v0 j)) (hw j hj8)⟩ | exact Or.inl ⟨rfl, hall⟩) hP9 hD9 d_Reader_append_42
theorem d_Ps_write_0 : decode prog_1_method_2_code 0 = .ok (.aload_n 0, 1) := by decide +kernel
theorem d_Ps_write_1 : decode prog_1_method_2_code 1 = .ok (.getfield 41, 3) := by decide +kernel
theorem d_Ps_write_4 : decode prog_1_method_2_code 4 = .ok (.lload_n 1, 1) := by decide +kernel
theorem d_Ps_write_5 : decode prog_1_method_2_code 5 = .ok (.invokevirtual 63, 3) := by decide +kernel
theorem k_2_84 : Cond.code ⟨"PageScribe$Reader", "append", "(J)Z"⟩ prog_7_method_2_code 6 (some .boolean) ∈ gw := gw_of (tb_2 (List.mem_of_getElem? (i := 84) (by decide +kernel))) (by decide +kernel)
theorem k_2_81 : Cond.methodLink "PageScribe" 63 ⟨"PageScribe$Reader", "append", "(J)Z"⟩ ∈ gw := gw_of (tb_2 (List.mem_of_getElem? (i := 81) (by decide +kernel))) (by decide +kernel)
theorem k_2_82 : Cond.instanceMethod ⟨"PageScribe$Reader", "append", "(J)Z"⟩ ∈ gw := gw_of (tb_2 (List.mem_of_getElem? (i := 82) (by decide +kernel))) (by decide +kernel)
theorem k_2_83 : Cond.selects "PageScribe$Reader" ⟨"PageScribe$Reader", "append", "(J)Z"⟩ ⟨"PageScribe$Reader", "append", "(J)Z"⟩ ∈ gw := gw_of (tb_2 (List.mem_of_getElem? (i := 83) (by decide +kernel))) (by decide +kernel)
theorem d_Ps_write_8 : decode prog_1_method_2_code 8 = .ok (.ireturn, 1) := by decide +kernel
set_option maxHeartbeats 4000000 in
set_option maxRecDepth 100000 in
theorem c_Ps_write (l : Launch) (D : va_G) (T : Nat → ClassId) (h0 : Nat) (oS : Nat) (oW : Nat) (oM : Nat) (oR : Nat) (oC : Nat) (oE : Nat) (st : Nat) (tx : Nat) (gt : Nat) (bg : Nat) (v0 : Int64) (sz : Nat) : Met l ⟨"PageScribe", "write", "(J)Z"⟩ (wy ⟨"PageScribe", "write", "(J)Z"⟩ prog_1_method_2_code 3 (some .boolean)) ({ frames := 1, cells := 0, slots := 0, locals := 70 }) (va_Pc [.ref h0, .long v0] (Pw D T [(h0, .inr (10, [.ref oS, .ref oW, .ref oM, .ref oR, .ref oC, .ref oE])), (oR, .inr (5, [.ref oW, .ref st, .ref tx, .int 0, .int 0, .int 0, .int 0, .double 0, .ref gt, .ref bg])), (tx, .inl (T 2, 120, .inl zI))] sz E0)) (va_Qi (fun (r : Int32) (u : Unit) => (r = 1 ∧ okW v0) ∨ (r = 0 ∧ ¬ okW v0)) (fun u t => Bw D T (va_A [(h0, .inr (10, [.ref oS, .ref oW, .ref oM, .ref oR, .ref oC, .ref oE])), (oR, .inr (5, [.ref oW, .ref st, .ref tx, .int 0, .int 0, .int 0, .int 0, .double 0, .ref gt, .ref bg])), (tx, .inl (T 2, 120, .inl zI))] sz) [] t) (va_A [(h0, .inr (10, [.ref oS, .ref oW, .ref oM, .ref oR, .ref oC, .ref oE])), (oR, .inr (5, [.ref oW, .ref st, .ref tx, .int 0, .int 0, .int 0, .int 0, .double 0, .ref gt, .ref bg])), (tx, .inl (T 2, 120, .inl zI))] sz)) 0 0 (va_A [(h0, .inr (10, [.ref oS, .ref oW, .ref oM, .ref oR, .ref oC, .ref oE])), (oR, .inr (5, [.ref oW, .ref st, .ref tx, .int 0, .int 0, .int 0, .int 0, .double 0, .ref gt, .ref bg])), (tx, .inl (T 2, 120, .inl zI))] sz) := by
  refine j_met (Qc := fun A => va_Qi (fun (r : Int32) (u : Unit) => (r = 1 ∧ okW v0) ∨ (r = 0 ∧ ¬ okW v0)) (fun u t => Bw D T A [] t) A) (by decide +kernel) (Nat.le_of_ble_eq_true rfl) (fun p e s m args below meth c A ls F hr hlocks hnm hK hP hD hS hA hN hE hl => ?_)
  obtain ⟨hx, hb, hml, hown, hts⟩ := id F
  have hin := hnm
  have hl : lv_has ls 3 [(0, .ref h0), (1, .long v0)] := hl
  refine lv_aload_n hx hb d_Ps_write_0 rfl (lv_at hl 0 rfl) ?_
  refine va_get (D := D) (ci := 10) (v := .ref oR) (C := "PageScribe") (T := F_Ps) (N := 6) hx hb hts i_Ps hown hK hP 0 rfl rfl 3 (by decide) (hts _ k_2_61) (fun _ h9 => h9) rfl d_Ps_write_1 ?_
  refine lv_lload_n hx hb d_Ps_write_4 rfl (lv_at hl 1 rfl) ?_
  refine j_ci (wc := [(oR, .inr (5, [.ref oW, .ref st, .ref tx, .int 0, .int 0, .int 0, .int 0, .double 0, .ref gt, .ref bg])), (tx, .inl (T 2, 120, .inl zI))]) (wr := [(h0, .inr (10, [.ref oS, .ref oW, .ref oM, .ref oR, .ref oC, .ref oE]))]) hK hP hD hS hA [1, 2] [0] rfl rfl (by decide) (by decide) (va_runV (As := [.long v0]) (rest := []) F (c_Reader_append l D T oR oW st tx gt bg v0 s.heap.size) (j_cV (k := 1) (C := "PageScribe$Reader") hts k_2_84 k_1_7 k_2_81 k_2_82 k_2_83 (by decide +kernel) ⟨Nat.le_of_ble_eq_true rfl, Nat.le_of_ble_eq_true rfl⟩) (j_preV (q0 := 1) (ci := 5) hK hP hD [1, 2] rfl (by decide) rfl rfl (fun _ _ _ _ h => h) (fun _ _ _ => trivial)) rfl rfl hl.1 rfl (lv_room (Nat.le_of_ble_eq_true rfl)) d_Ps_write_5 ⟨Nat.le_of_ble_eq_true rfl, Nat.le_of_ble_eq_true rfl⟩) (fun rv1 u1 H locs hw hP hD hS => ?_)
  have hP : va_P D classes [(h0, .inr (10, [.ref oS, .ref oW, .ref oM, .ref oR, .ref oC, .ref oE]))] H := hP
  have hD : va_D A [(h0, .inr (10, [.ref oS, .ref oW, .ref oM, .ref oR, .ref oC, .ref oE]))] := hD
  have hw1 : (rv1 = 1 ∧ okW v0) ∨ (rv1 = 0 ∧ ¬ okW v0) := hw
  have hP9 := hP.sub (ws' := []) [] rfl
  have hD9 := hD.sub (ws' := []) [] (by decide) rfl
  refine W.widen (k := 0) (n := 0) (Nat.le_of_ble_eq_true rfl) (Nat.le_of_ble_eq_true rfl) ?_
  exact j_zret F hr (by rcases hw1 with ⟨rfl, -⟩ | ⟨rfl, -⟩ <;> rfl) hlocks hK hS () hw1 hP9 hD9 d_Ps_write_8
end
