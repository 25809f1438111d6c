section
-- ===== PART A: goes FIRST, ahead of the names: the tables' words, and 'selects' of the private methods out of them =====
/-- a private method of a class that the tables say can be made, by its rows of tables_1 -/
def lw_okq (q : MethodName × Nat) : Prop := (q.1.cls ≠ "java/lang/invoke/MethodHandle" ∧ q.1.cls ≠ "java/lang/invoke/VarHandle") ∧ Cond.instantiable q.1.cls q.2 ∈ tables_1 ∧ Cond.privateMethod q.1 ∈ tables_1 ∧ Cond.instanceMethod q.1 ∈ tables_1
theorem lw_p0 : lw_okq (⟨"LoanChest$RuleReader", "startAgain", "()V"⟩, 6) := ⟨⟨by decide +kernel, by decide +kernel⟩, List.mem_of_getElem? (i := 51) (by decide +kernel), List.mem_of_getElem? (i := 214) (by decide +kernel), List.mem_of_getElem? (i := 215) (by decide +kernel)⟩
theorem lw_p1 : lw_okq (⟨"LoanChest$RuleReader", "step", "(LLoanChest$Tape;)V"⟩, 6) := ⟨⟨by decide +kernel, by decide +kernel⟩, List.mem_of_getElem? (i := 51) (by decide +kernel), List.mem_of_getElem? (i := 218) (by decide +kernel), List.mem_of_getElem? (i := 219) (by decide +kernel)⟩
theorem lw_p2 : lw_okq (⟨"LoanChest$RuleReader", "readToken", "(LLoanChest$Tape;)V"⟩, 6) := ⟨⟨by decide +kernel, by decide +kernel⟩, List.mem_of_getElem? (i := 51) (by decide +kernel), List.mem_of_getElem? (i := 233) (by decide +kernel), List.mem_of_getElem? (i := 234) (by decide +kernel)⟩
theorem lw_p3 : lw_okq (⟨"LoanChest$RuleReader", "faultOfRule", "(LLoanChest$Tape;)I"⟩, 6) := ⟨⟨by decide +kernel, by decide +kernel⟩, List.mem_of_getElem? (i := 51) (by decide +kernel), List.mem_of_getElem? (i := 243) (by decide +kernel), List.mem_of_getElem? (i := 244) (by decide +kernel)⟩
theorem lw_p4 : lw_okq (⟨"LoanChest$RuleReader", "kindOfWord", "(LLoanChest$Tape;)LLoanChest$Kind;"⟩, 6) := ⟨⟨by decide +kernel, by decide +kernel⟩, List.mem_of_getElem? (i := 51) (by decide +kernel), List.mem_of_getElem? (i := 247) (by decide +kernel), List.mem_of_getElem? (i := 248) (by decide +kernel)⟩
theorem lw_p5 : lw_okq (⟨"LoanChest$RuleReader", "isWordRead", "(Ljava/lang/String;LLoanChest$Tape;)Z"⟩, 6) := ⟨⟨by decide +kernel, by decide +kernel⟩, List.mem_of_getElem? (i := 51) (by decide +kernel), List.mem_of_getElem? (i := 251) (by decide +kernel), List.mem_of_getElem? (i := 252) (by decide +kernel)⟩
theorem lw_p6 : lw_okq (⟨"LoanChest$RuleReader", "numberRead", "(LLoanChest$Tape;)I"⟩, 6) := ⟨⟨by decide +kernel, by decide +kernel⟩, List.mem_of_getElem? (i := 51) (by decide +kernel), List.mem_of_getElem? (i := 303) (by decide +kernel), List.mem_of_getElem? (i := 304) (by decide +kernel)⟩
theorem lw_p7 : lw_okq (⟨"LoanChest", "isPerson", "(I)Z"⟩, 8) := ⟨⟨by decide +kernel, by decide +kernel⟩, List.mem_of_getElem? (i := 29) (by decide +kernel), List.mem_of_getElem? (i := 340) (by decide +kernel), List.mem_of_getElem? (i := 341) (by decide +kernel)⟩
theorem lw_p8 : lw_okq (⟨"LoanChest", "whyRefused", "(II)I"⟩, 8) := ⟨⟨by decide +kernel, by decide +kernel⟩, List.mem_of_getElem? (i := 29) (by decide +kernel), List.mem_of_getElem? (i := 373) (by decide +kernel), List.mem_of_getElem? (i := 374) (by decide +kernel)⟩
theorem lw_p9 : lw_okq (⟨"LoanChest", "whyRefusedForBorrower", "(II)I"⟩, 8) := ⟨⟨by decide +kernel, by decide +kernel⟩, List.mem_of_getElem? (i := 29) (by decide +kernel), List.mem_of_getElem? (i := 377) (by decide +kernel), List.mem_of_getElem? (i := 378) (by decide +kernel)⟩
theorem lw_p10 : lw_okq (⟨"LoanChest", "isBarred", "(I)Z"⟩, 8) := ⟨⟨by decide +kernel, by decide +kernel⟩, List.mem_of_getElem? (i := 29) (by decide +kernel), List.mem_of_getElem? (i := 412) (by decide +kernel), List.mem_of_getElem? (i := 413) (by decide +kernel)⟩
theorem lw_p11 : lw_okq (⟨"LoanChest", "whyRefusedForSureties", "(I)I"⟩, 8) := ⟨⟨by decide +kernel, by decide +kernel⟩, List.mem_of_getElem? (i := 29) (by decide +kernel), List.mem_of_getElem? (i := 431) (by decide +kernel), List.mem_of_getElem? (i := 432) (by decide +kernel)⟩
theorem lw_p12 : lw_okq (⟨"LoanChest", "areOthersAllDifferent", "(I)Z"⟩, 8) := ⟨⟨by decide +kernel, by decide +kernel⟩, List.mem_of_getElem? (i := 29) (by decide +kernel), List.mem_of_getElem? (i := 437) (by decide +kernel), List.mem_of_getElem? (i := 438) (by decide +kernel)⟩
theorem lw_p13 : lw_okq (⟨"LoanChest", "bitsOnTape", "()J"⟩, 8) := ⟨⟨by decide +kernel, by decide +kernel⟩, List.mem_of_getElem? (i := 29) (by decide +kernel), List.mem_of_getElem? (i := 456) (by decide +kernel), List.mem_of_getElem? (i := 457) (by decide +kernel)⟩
theorem lw_p14 : lw_okq (⟨"LoanChest$Ledger", "suretiesOfAll", "(J)J"⟩, 3) := ⟨⟨by decide +kernel, by decide +kernel⟩, List.mem_of_getElem? (i := 115) (by decide +kernel), List.mem_of_getElem? (i := 465) (by decide +kernel), List.mem_of_getElem? (i := 466) (by decide +kernel)⟩
theorem lw_p15 : lw_okq (⟨"LoanChest$Funds", "aboveKeep", "(I)I"⟩, 6) := ⟨⟨by decide +kernel, by decide +kernel⟩, List.mem_of_getElem? (i := 90) (by decide +kernel), List.mem_of_getElem? (i := 477) (by decide +kernel), List.mem_of_getElem? (i := 478) (by decide +kernel)⟩
def lw_privs_1 : List (MethodName × Nat) := [(⟨"LoanChest$RuleReader", "startAgain", "()V"⟩, 6), (⟨"LoanChest$RuleReader", "step", "(LLoanChest$Tape;)V"⟩, 6), (⟨"LoanChest$RuleReader", "readToken", "(LLoanChest$Tape;)V"⟩, 6), (⟨"LoanChest$RuleReader", "faultOfRule", "(LLoanChest$Tape;)I"⟩, 6), (⟨"LoanChest$RuleReader", "kindOfWord", "(LLoanChest$Tape;)LLoanChest$Kind;"⟩, 6), (⟨"LoanChest$RuleReader", "isWordRead", "(Ljava/lang/String;LLoanChest$Tape;)Z"⟩, 6), (⟨"LoanChest$RuleReader", "numberRead", "(LLoanChest$Tape;)I"⟩, 6), (⟨"LoanChest", "isPerson", "(I)Z"⟩, 8), (⟨"LoanChest", "whyRefused", "(II)I"⟩, 8), (⟨"LoanChest", "whyRefusedForBorrower", "(II)I"⟩, 8), (⟨"LoanChest", "isBarred", "(I)Z"⟩, 8), (⟨"LoanChest", "whyRefusedForSureties", "(I)I"⟩, 8), (⟨"LoanChest", "areOthersAllDifferent", "(I)Z"⟩, 8), (⟨"LoanChest", "bitsOnTape", "()J"⟩, 8), (⟨"LoanChest$Ledger", "suretiesOfAll", "(J)J"⟩, 3), (⟨"LoanChest$Funds", "aboveKeep", "(I)I"⟩, 6)]
theorem lw_r1 : ∀ q ∈ lw_privs_1, lw_okq q := List.forall_mem_cons.mpr ⟨lw_p0, List.forall_mem_cons.mpr ⟨lw_p1, List.forall_mem_cons.mpr ⟨lw_p2, List.forall_mem_cons.mpr ⟨lw_p3, List.forall_mem_cons.mpr ⟨lw_p4, List.forall_mem_cons.mpr ⟨lw_p5, List.forall_mem_cons.mpr ⟨lw_p6, List.forall_mem_cons.mpr ⟨lw_p7, List.forall_mem_cons.mpr ⟨lw_p8, List.forall_mem_cons.mpr ⟨lw_p9, List.forall_mem_cons.mpr ⟨lw_p10, List.forall_mem_cons.mpr ⟨lw_p11, List.forall_mem_cons.mpr ⟨lw_p12, List.forall_mem_cons.mpr ⟨lw_p13, List.forall_mem_cons.mpr ⟨lw_p14, List.forall_mem_cons.mpr ⟨lw_p15, fun _ h => absurd h List.not_mem_nil⟩⟩⟩⟩⟩⟩⟩⟩⟩⟩⟩⟩⟩⟩⟩⟩
theorem lw_p16 : lw_okq (⟨"LoanChest$Funds", "isFor", "(II)Z"⟩, 6) := ⟨⟨by decide +kernel, by decide +kernel⟩, List.mem_of_getElem? (i := 90) (by decide +kernel), List.mem_of_getElem? (i := 484) (by decide +kernel), List.mem_of_getElem? (i := 485) (by decide +kernel)⟩
theorem lw_p17 : lw_okq (⟨"LoanChest", "lend", "(II)I"⟩, 8) := ⟨⟨by decide +kernel, by decide +kernel⟩, List.mem_of_getElem? (i := 29) (by decide +kernel), List.mem_of_getElem? (i := 488) (by decide +kernel), List.mem_of_getElem? (i := 489) (by decide +kernel)⟩
theorem lw_p18 : lw_okq (⟨"LoanChest$Funds", "take", "(LLoanChest$Loan;II)I"⟩, 6) := ⟨⟨by decide +kernel, by decide +kernel⟩, List.mem_of_getElem? (i := 90) (by decide +kernel), List.mem_of_getElem? (i := 600) (by decide +kernel), List.mem_of_getElem? (i := 601) (by decide +kernel)⟩
theorem lw_p19 : lw_okq (⟨"java/util/ArrayList", "add", "(Ljava/lang/Object;[Ljava/lang/Object;I)V"⟩, 3) := ⟨⟨by decide +kernel, by decide +kernel⟩, List.mem_of_getElem? (i := 121) (by decide +kernel), List.mem_of_getElem? (i := 612) (by decide +kernel), List.mem_of_getElem? (i := 613) (by decide +kernel)⟩
theorem lw_p20 : lw_okq (⟨"java/util/ArrayList", "grow", "()[Ljava/lang/Object;"⟩, 3) := ⟨⟨by decide +kernel, by decide +kernel⟩, List.mem_of_getElem? (i := 121) (by decide +kernel), List.mem_of_getElem? (i := 616) (by decide +kernel), List.mem_of_getElem? (i := 617) (by decide +kernel)⟩
theorem lw_p21 : lw_okq (⟨"java/util/ArrayList", "grow", "(I)[Ljava/lang/Object;"⟩, 3) := ⟨⟨by decide +kernel, by decide +kernel⟩, List.mem_of_getElem? (i := 121) (by decide +kernel), List.mem_of_getElem? (i := 620) (by decide +kernel), List.mem_of_getElem? (i := 621) (by decide +kernel)⟩
theorem lw_p22 : lw_okq (⟨"LoanChest$Funds", "putBack", "(LLoanChest$Loan;II)I"⟩, 6) := ⟨⟨by decide +kernel, by decide +kernel⟩, List.mem_of_getElem? (i := 90) (by decide +kernel), List.mem_of_getElem? (i := 694) (by decide +kernel), List.mem_of_getElem? (i := 695) (by decide +kernel)⟩
theorem lw_p23 : lw_okq (⟨"LoanChest$Ledger", "callIn", "(LLoanChest$Loan;)V"⟩, 3) := ⟨⟨by decide +kernel, by decide +kernel⟩, List.mem_of_getElem? (i := 115) (by decide +kernel), List.mem_of_getElem? (i := 730) (by decide +kernel), List.mem_of_getElem? (i := 731) (by decide +kernel)⟩
theorem lw_p24 : lw_okq (⟨"java/lang/Throwable", "fillInStackTrace", "(I)Ljava/lang/Throwable;"⟩, 6) := ⟨⟨by decide +kernel, by decide +kernel⟩, List.mem_of_getElem? (i := 838) (by decide +kernel), List.mem_of_getElem? (i := 836) (by decide +kernel), List.mem_of_getElem? (i := 837) (by decide +kernel)⟩
theorem lw_p25 : lw_okq (⟨"LoanChest", "openLoanNumber", "(I)I"⟩, 8) := ⟨⟨by decide +kernel, by decide +kernel⟩, List.mem_of_getElem? (i := 29) (by decide +kernel), List.mem_of_getElem? (i := 901) (by decide +kernel), List.mem_of_getElem? (i := 902) (by decide +kernel)⟩
theorem lw_p26 : lw_okq (⟨"LoanChestModel", "come", "(I)V"⟩, 48) := ⟨⟨by decide +kernel, by decide +kernel⟩, List.mem_of_getElem? (i := 907) (by decide +kernel), List.mem_of_getElem? (i := 1067) (by decide +kernel), List.mem_of_getElem? (i := 1068) (by decide +kernel)⟩
theorem lw_p27 : lw_okq (⟨"LoanChestModel", "readRules", "()Z"⟩, 48) := ⟨⟨by decide +kernel, by decide +kernel⟩, List.mem_of_getElem? (i := 907) (by decide +kernel), List.mem_of_getElem? (i := 1079) (by decide +kernel), List.mem_of_getElem? (i := 1080) (by decide +kernel)⟩
theorem lw_p28 : lw_okq (⟨"LoanChestModel", "go", "()V"⟩, 48) := ⟨⟨by decide +kernel, by decide +kernel⟩, List.mem_of_getElem? (i := 907) (by decide +kernel), List.mem_of_getElem? (i := 1083) (by decide +kernel), List.mem_of_getElem? (i := 1084) (by decide +kernel)⟩
theorem lw_p29 : lw_okq (⟨"LoanChestModel", "at", "(I)I"⟩, 48) := ⟨⟨by decide +kernel, by decide +kernel⟩, List.mem_of_getElem? (i := 907) (by decide +kernel), List.mem_of_getElem? (i := 1093) (by decide +kernel), List.mem_of_getElem? (i := 1094) (by decide +kernel)⟩
theorem lw_p30 : lw_okq (⟨"LoanChestModel", "ruleAtHand", "()I"⟩, 48) := ⟨⟨by decide +kernel, by decide +kernel⟩, List.mem_of_getElem? (i := 907) (by decide +kernel), List.mem_of_getElem? (i := 1100) (by decide +kernel), List.mem_of_getElem? (i := 1101) (by decide +kernel)⟩
theorem lw_p31 : lw_okq (⟨"LoanChestModel", "bad", "(I)Z"⟩, 48) := ⟨⟨by decide +kernel, by decide +kernel⟩, List.mem_of_getElem? (i := 907) (by decide +kernel), List.mem_of_getElem? (i := 1110) (by decide +kernel), List.mem_of_getElem? (i := 1111) (by decide +kernel)⟩
def lw_privs_2 : List (MethodName × Nat) := [(⟨"LoanChest$Funds", "isFor", "(II)Z"⟩, 6), (⟨"LoanChest", "lend", "(II)I"⟩, 8), (⟨"LoanChest$Funds", "take", "(LLoanChest$Loan;II)I"⟩, 6), (⟨"java/util/ArrayList", "add", "(Ljava/lang/Object;[Ljava/lang/Object;I)V"⟩, 3), (⟨"java/util/ArrayList", "grow", "()[Ljava/lang/Object;"⟩, 3), (⟨"java/util/ArrayList", "grow", "(I)[Ljava/lang/Object;"⟩, 3), (⟨"LoanChest$Funds", "putBack", "(LLoanChest$Loan;II)I"⟩, 6), (⟨"LoanChest$Ledger", "callIn", "(LLoanChest$Loan;)V"⟩, 3), (⟨"java/lang/Throwable", "fillInStackTrace", "(I)Ljava/lang/Throwable;"⟩, 6), (⟨"LoanChest", "openLoanNumber", "(I)I"⟩, 8), (⟨"LoanChestModel", "come", "(I)V"⟩, 48), (⟨"LoanChestModel", "readRules", "()Z"⟩, 48), (⟨"LoanChestModel", "go", "()V"⟩, 48), (⟨"LoanChestModel", "at", "(I)I"⟩, 48), (⟨"LoanChestModel", "ruleAtHand", "()I"⟩, 48), (⟨"LoanChestModel", "bad", "(I)Z"⟩, 48)]
theorem lw_r2 : ∀ q ∈ lw_privs_2, lw_okq q := List.forall_mem_cons.mpr ⟨lw_p16, List.forall_mem_cons.mpr ⟨lw_p17, List.forall_mem_cons.mpr ⟨lw_p18, List.forall_mem_cons.mpr ⟨lw_p19, List.forall_mem_cons.mpr ⟨lw_p20, List.forall_mem_cons.mpr ⟨lw_p21, List.forall_mem_cons.mpr ⟨lw_p22, List.forall_mem_cons.mpr ⟨lw_p23, List.forall_mem_cons.mpr ⟨lw_p24, List.forall_mem_cons.mpr ⟨lw_p25, List.forall_mem_cons.mpr ⟨lw_p26, List.forall_mem_cons.mpr ⟨lw_p27, List.forall_mem_cons.mpr ⟨lw_p28, List.forall_mem_cons.mpr ⟨lw_p29, List.forall_mem_cons.mpr ⟨lw_p30, List.forall_mem_cons.mpr ⟨lw_p31, fun _ h => absurd h List.not_mem_nil⟩⟩⟩⟩⟩⟩⟩⟩⟩⟩⟩⟩⟩⟩⟩⟩
theorem lw_p32 : lw_okq (⟨"LoanChestModel", "isPerson", "(I)Z"⟩, 48) := ⟨⟨by decide +kernel, by decide +kernel⟩, List.mem_of_getElem? (i := 907) (by decide +kernel), List.mem_of_getElem? (i := 1130) (by decide +kernel), List.mem_of_getElem? (i := 1131) (by decide +kernel)⟩
theorem lw_p33 : lw_okq (⟨"LoanChestModel", "isFund", "(I)Z"⟩, 48) := ⟨⟨by decide +kernel, by decide +kernel⟩, List.mem_of_getElem? (i := 907) (by decide +kernel), List.mem_of_getElem? (i := 1143) (by decide +kernel), List.mem_of_getElem? (i := 1144) (by decide +kernel)⟩
theorem lw_p34 : lw_okq (⟨"LoanChestModel", "why", "(III)I"⟩, 48) := ⟨⟨by decide +kernel, by decide +kernel⟩, List.mem_of_getElem? (i := 907) (by decide +kernel), List.mem_of_getElem? (i := 1152) (by decide +kernel), List.mem_of_getElem? (i := 1153) (by decide +kernel)⟩
theorem lw_p35 : lw_okq (⟨"LoanChestModel", "openOf", "(I)I"⟩, 48) := ⟨⟨by decide +kernel, by decide +kernel⟩, List.mem_of_getElem? (i := 907) (by decide +kernel), List.mem_of_getElem? (i := 1156) (by decide +kernel), List.mem_of_getElem? (i := 1157) (by decide +kernel)⟩
theorem lw_p36 : lw_okq (⟨"LoanChestModel", "isBarred", "(I)Z"⟩, 48) := ⟨⟨by decide +kernel, by decide +kernel⟩, List.mem_of_getElem? (i := 907) (by decide +kernel), List.mem_of_getElem? (i := 1160) (by decide +kernel), List.mem_of_getElem? (i := 1161) (by decide +kernel)⟩
theorem lw_p37 : lw_okq (⟨"LoanChestModel", "isTwice", "(II)Z"⟩, 48) := ⟨⟨by decide +kernel, by decide +kernel⟩, List.mem_of_getElem? (i := 907) (by decide +kernel), List.mem_of_getElem? (i := 1164) (by decide +kernel), List.mem_of_getElem? (i := 1165) (by decide +kernel)⟩
theorem lw_p38 : lw_okq (⟨"LoanChestModel", "standsFor", "(I)I"⟩, 48) := ⟨⟨by decide +kernel, by decide +kernel⟩, List.mem_of_getElem? (i := 907) (by decide +kernel), List.mem_of_getElem? (i := 1168) (by decide +kernel), List.mem_of_getElem? (i := 1169) (by decide +kernel)⟩
theorem lw_p39 : lw_okq (⟨"LoanChestModel", "clear", "()V"⟩, 48) := ⟨⟨by decide +kernel, by decide +kernel⟩, List.mem_of_getElem? (i := 907) (by decide +kernel), List.mem_of_getElem? (i := 1172) (by decide +kernel), List.mem_of_getElem? (i := 1173) (by decide +kernel)⟩
theorem lw_p40 : lw_okq (⟨"LoanChestModel", "spread", "()V"⟩, 48) := ⟨⟨by decide +kernel, by decide +kernel⟩, List.mem_of_getElem? (i := 907) (by decide +kernel), List.mem_of_getElem? (i := 1176) (by decide +kernel), List.mem_of_getElem? (i := 1177) (by decide +kernel)⟩
theorem lw_p41 : lw_okq (⟨"LoanChestModel", "steps", "(I)Z"⟩, 48) := ⟨⟨by decide +kernel, by decide +kernel⟩, List.mem_of_getElem? (i := 907) (by decide +kernel), List.mem_of_getElem? (i := 1180) (by decide +kernel), List.mem_of_getElem? (i := 1181) (by decide +kernel)⟩
theorem lw_p42 : lw_okq (⟨"LoanChestModel", "owed", "(I)I"⟩, 48) := ⟨⟨by decide +kernel, by decide +kernel⟩, List.mem_of_getElem? (i := 907) (by decide +kernel), List.mem_of_getElem? (i := 1188) (by decide +kernel), List.mem_of_getElem? (i := 1189) (by decide +kernel)⟩
theorem lw_p43 : lw_okq (⟨"LoanChestModel", "callsOf", "(I)I"⟩, 48) := ⟨⟨by decide +kernel, by decide +kernel⟩, List.mem_of_getElem? (i := 907) (by decide +kernel), List.mem_of_getElem? (i := 1192) (by decide +kernel), List.mem_of_getElem? (i := 1193) (by decide +kernel)⟩
theorem lw_p44 : lw_okq (⟨"LoanChestModel", "comesBack", "(II)V"⟩, 48) := ⟨⟨by decide +kernel, by decide +kernel⟩, List.mem_of_getElem? (i := 907) (by decide +kernel), List.mem_of_getElem? (i := 1200) (by decide +kernel), List.mem_of_getElem? (i := 1201) (by decide +kernel)⟩
theorem lw_p45 : lw_okq (⟨"LoanChestModel", "isLate", "(I)V"⟩, 48) := ⟨⟨by decide +kernel, by decide +kernel⟩, List.mem_of_getElem? (i := 907) (by decide +kernel), List.mem_of_getElem? (i := 1208) (by decide +kernel), List.mem_of_getElem? (i := 1209) (by decide +kernel)⟩
theorem lw_p46 : lw_okq (⟨"LoanChestModel", "isLoan", "(I)Z"⟩, 48) := ⟨⟨by decide +kernel, by decide +kernel⟩, List.mem_of_getElem? (i := 907) (by decide +kernel), List.mem_of_getElem? (i := 1220) (by decide +kernel), List.mem_of_getElem? (i := 1221) (by decide +kernel)⟩
theorem lw_p47 : lw_okq (⟨"LoanChestModel", "refuse", "()I"⟩, 48) := ⟨⟨by decide +kernel, by decide +kernel⟩, List.mem_of_getElem? (i := 907) (by decide +kernel), List.mem_of_getElem? (i := 1224) (by decide +kernel), List.mem_of_getElem? (i := 1225) (by decide +kernel)⟩
def lw_privs_3 : List (MethodName × Nat) := [(⟨"LoanChestModel", "isPerson", "(I)Z"⟩, 48), (⟨"LoanChestModel", "isFund", "(I)Z"⟩, 48), (⟨"LoanChestModel", "why", "(III)I"⟩, 48), (⟨"LoanChestModel", "openOf", "(I)I"⟩, 48), (⟨"LoanChestModel", "isBarred", "(I)Z"⟩, 48), (⟨"LoanChestModel", "isTwice", "(II)Z"⟩, 48), (⟨"LoanChestModel", "standsFor", "(I)I"⟩, 48), (⟨"LoanChestModel", "clear", "()V"⟩, 48), (⟨"LoanChestModel", "spread", "()V"⟩, 48), (⟨"LoanChestModel", "steps", "(I)Z"⟩, 48), (⟨"LoanChestModel", "owed", "(I)I"⟩, 48), (⟨"LoanChestModel", "callsOf", "(I)I"⟩, 48), (⟨"LoanChestModel", "comesBack", "(II)V"⟩, 48), (⟨"LoanChestModel", "isLate", "(I)V"⟩, 48), (⟨"LoanChestModel", "isLoan", "(I)Z"⟩, 48), (⟨"LoanChestModel", "refuse", "()I"⟩, 48)]
theorem lw_r3 : ∀ q ∈ lw_privs_3, lw_okq q := List.forall_mem_cons.mpr ⟨lw_p32, List.forall_mem_cons.mpr ⟨lw_p33, List.forall_mem_cons.mpr ⟨lw_p34, List.forall_mem_cons.mpr ⟨lw_p35, List.forall_mem_cons.mpr ⟨lw_p36, List.forall_mem_cons.mpr ⟨lw_p37, List.forall_mem_cons.mpr ⟨lw_p38, List.forall_mem_cons.mpr ⟨lw_p39, List.forall_mem_cons.mpr ⟨lw_p40, List.forall_mem_cons.mpr ⟨lw_p41, List.forall_mem_cons.mpr ⟨lw_p42, List.forall_mem_cons.mpr ⟨lw_p43, List.forall_mem_cons.mpr ⟨lw_p44, List.forall_mem_cons.mpr ⟨lw_p45, List.forall_mem_cons.mpr ⟨lw_p46, List.forall_mem_cons.mpr ⟨lw_p47, fun _ h => absurd h List.not_mem_nil⟩⟩⟩⟩⟩⟩⟩⟩⟩⟩⟩⟩⟩⟩⟩⟩
theorem lw_p48 : lw_okq (⟨"LoanChestModel", "character", "(I)I"⟩, 48) := ⟨⟨by decide +kernel, by decide +kernel⟩, List.mem_of_getElem? (i := 907) (by decide +kernel), List.mem_of_getElem? (i := 1240) (by decide +kernel), List.mem_of_getElem? (i := 1241) (by decide +kernel)⟩
def lw_privs_4 : List (MethodName × Nat) := [(⟨"LoanChestModel", "character", "(I)I"⟩, 48)]
theorem lw_r4 : ∀ q ∈ lw_privs_4, lw_okq q := List.forall_mem_cons.mpr ⟨lw_p48, fun _ h => absurd h List.not_mem_nil⟩
def lw_privs : List (MethodName × Nat) := lw_privs_1 ++ (lw_privs_2 ++ (lw_privs_3 ++ (lw_privs_4)))
def lw_tbl : List Cond := k2_sels lw_privs ++ tables_1
theorem lw_privs_ok : ∀ q ∈ lw_privs, lw_okq q := by
  show ∀ q ∈ lw_privs_1 ++ (lw_privs_2 ++ (lw_privs_3 ++ (lw_privs_4))), lw_okq q
  exact List.forall_mem_append.mpr ⟨lw_r1, List.forall_mem_append.mpr ⟨lw_r2, List.forall_mem_append.mpr ⟨lw_r3, lw_r4⟩⟩⟩
/-- all the tables' words that are steady: every contract here rests on them -/
def BW : List Cond := lw_tbl.filter goodWord
theorem bw_of {w : Cond} (h : w ∈ tables_1) (g : goodWord w = true) : w ∈ BW := List.mem_filter.mpr ⟨List.mem_append_right _ h, g⟩
theorem bw_1 {w : Cond} (i : Nat) (h : tables_1_1[i]? = some w) (g : goodWord w = true) : w ∈ BW := bw_of (List.mem_append_left _ (List.mem_of_getElem? h)) g
theorem bw_2 {w : Cond} (i : Nat) (h : tables_1_2[i]? = some w) (g : goodWord w = true) : w ∈ BW := bw_of (List.mem_append_right _ (List.mem_append_left _ (List.mem_of_getElem? h))) g
theorem bw_3 {w : Cond} (i : Nat) (h : tables_1_3[i]? = some w) (g : goodWord w = true) : w ∈ BW := bw_of (List.mem_append_right _ (List.mem_append_right _ (List.mem_append_left _ (List.mem_of_getElem? h)))) g
theorem bw_4 {w : Cond} (i : Nat) (h : tables_1_4[i]? = some w) (g : goodWord w = true) : w ∈ BW := bw_of (List.mem_append_right _ (List.mem_append_right _ (List.mem_append_right _ (List.mem_append_left _ (List.mem_of_getElem? h))))) g
theorem bw_5 {w : Cond} (i : Nat) (h : tables_1_5[i]? = some w) (g : goodWord w = true) : w ∈ BW := bw_of (List.mem_append_right _ (List.mem_append_right _ (List.mem_append_right _ (List.mem_append_right _ (List.mem_append_left _ (List.mem_of_getElem? h)))))) g
theorem bw_6 {w : Cond} (i : Nat) (h : tables_1_6[i]? = some w) (g : goodWord w = true) : w ∈ BW := bw_of (List.mem_append_right _ (List.mem_append_right _ (List.mem_append_right _ (List.mem_append_right _ (List.mem_append_right _ (List.mem_of_getElem? h)))))) g
theorem bw_p1 {q : MethodName × Nat} (i : Nat) (h : lw_privs_1[i]? = some q) : Cond.selects q.1.cls q.1 q.1 ∈ BW := List.mem_filter.mpr ⟨List.mem_append_left _ (List.mem_map.mpr ⟨q, List.mem_append_left _ (List.mem_of_getElem? h), rfl⟩), rfl⟩
theorem bw_p2 {q : MethodName × Nat} (i : Nat) (h : lw_privs_2[i]? = some q) : Cond.selects q.1.cls q.1 q.1 ∈ BW := List.mem_filter.mpr ⟨List.mem_append_left _ (List.mem_map.mpr ⟨q, List.mem_append_right _ (List.mem_append_left _ (List.mem_of_getElem? h)), rfl⟩), rfl⟩
theorem bw_p3 {q : MethodName × Nat} (i : Nat) (h : lw_privs_3[i]? = some q) : Cond.selects q.1.cls q.1 q.1 ∈ BW := List.mem_filter.mpr ⟨List.mem_append_left _ (List.mem_map.mpr ⟨q, List.mem_append_right _ (List.mem_append_right _ (List.mem_append_left _ (List.mem_of_getElem? h))), rfl⟩), rfl⟩
theorem bw_p4 {q : MethodName × Nat} (i : Nat) (h : lw_privs_4[i]? = some q) : Cond.selects q.1.cls q.1 q.1 ∈ BW := List.mem_filter.mpr ⟨List.mem_append_left _ (List.mem_map.mpr ⟨q, List.mem_append_right _ (List.mem_append_right _ (List.mem_append_right _ (List.mem_of_getElem? h))), rfl⟩), rfl⟩
theorem bw_good : ∀ w ∈ BW, (w.onTables && w.keeps) = true ∨ ∃ ty, w = .arrayClass ty := fun w h => good_of_word (List.mem_filter.mp h).2
end
section
def RX0 : String := "LoanChest$Call"
def TX0 : u_T := fun k => match k with
  | 0 => ("LoanChest$Call", "person", "I", true)
  | 1 => ("LoanChest$Call", "loan", "LLoanChest$Loan;", true)
  | 2 => ("LoanChest$Call", "sum", "I", true)
  | _ => ("LoanChest$Call", "paid", "I", false)
def tyX0 : Nat → FieldType := fun k => match k with
  | 0 => .int
  | 1 => .object "LoanChest$Loan"
  | 2 => .int
  | _ => .int
abbrev wsX00 : List Cond := u_ws RX0 TX0 4
theorem nmX0 : ∀ a, a < 4 → ∀ b, b < 4 → a ≠ b → (TX0 a).2.1 ≠ (TX0 b).2.1 := by decide +kernel
theorem tyX0_ok : ∀ k, k < 4 → parseFieldDescriptor (TX0 k).2.2.1 = some (tyX0 k) := by decide +kernel
abbrev cX0_init : ByteArray := prog_2_method_1_code
def yX0_init : MethodName := ⟨RX0, "<init>", "(ILLoanChest$Loan;I)V"⟩
abbrev cX0_rest : ByteArray := prog_2_method_2_code
def yX0_rest : MethodName := ⟨RX0, "rest", "()I"⟩
abbrev cX0_receive : ByteArray := prog_2_method_3_code
def yX0_receive : MethodName := ⟨RX0, "receive", "(I)V"⟩
def RX1 : String := "LoanChest$Funds"
def TX1 : u_T := fun k => match k with
  | 0 => ("LoanChest$Funds", "pence", "[I", true)
  | 1 => ("LoanChest$Funds", "tagOf", "[I", true)
  | 2 => ("LoanChest$Funds", "madeIn", "[I", true)
  | 3 => ("LoanChest$Funds", "book", "[I", true)
  | 4 => ("LoanChest$Funds", "made", "I", false)
  | _ => ("LoanChest$Funds", "given", "I", false)
def tyX1 : Nat → FieldType := fun k => match k with
  | 0 => .array .int
  | 1 => .array .int
  | 2 => .array .int
  | 3 => .array .int
  | 4 => .int
  | _ => .int
abbrev wsX10 : List Cond := u_ws RX1 TX1 6
theorem nmX1 : ∀ a, a < 6 → ∀ b, b < 6 → a ≠ b → (TX1 a).2.1 ≠ (TX1 b).2.1 := by decide +kernel
theorem tyX1_ok : ∀ k, k < 6 → parseFieldDescriptor (TX1 k).2.2.1 = some (tyX1 k) := by decide +kernel
abbrev cX1_init : ByteArray := prog_3_method_1_code
def yX1_init : MethodName := ⟨RX1, "<init>", "()V"⟩
abbrev cX1_howMany : ByteArray := prog_3_method_2_code
def yX1_howMany : MethodName := ⟨RX1, "howMany", "()I"⟩
abbrev cX1_givenInAll : ByteArray := prog_3_method_3_code
def yX1_givenInAll : MethodName := ⟨RX1, "givenInAll", "()I"⟩
abbrev cX1_has : ByteArray := prog_3_method_4_code
def yX1_has : MethodName := ⟨RX1, "has", "(I)Z"⟩
abbrev cX1_penceNow : ByteArray := prog_3_method_5_code
def yX1_penceNow : MethodName := ⟨RX1, "penceNow", "(I)I"⟩
abbrev cX1_penceAtEnd : ByteArray := prog_3_method_6_code
def yX1_penceAtEnd : MethodName := ⟨RX1, "penceAtEnd", "(II)I"⟩
abbrev cX1_writeDown : ByteArray := prog_3_method_7_code
def yX1_writeDown : MethodName := ⟨RX1, "writeDown", "(I)V"⟩
abbrev cX1_found : ByteArray := prog_3_method_8_code
def yX1_found : MethodName := ⟨RX1, "found", "(III)I"⟩
abbrev cX1_give : ByteArray := prog_3_method_9_code
def yX1_give : MethodName := ⟨RX1, "give", "(II)I"⟩
abbrev cX1_canLend : ByteArray := prog_3_method_10_code
def yX1_canLend : MethodName := ⟨RX1, "canLend", "(II)I"⟩
abbrev cX1_lendTo : ByteArray := prog_3_method_11_code
def yX1_lendTo : MethodName := ⟨RX1, "lendTo", "(LLoanChest$Loan;II)V"⟩
abbrev cX1_bringBack : ByteArray := prog_3_method_12_code
def yX1_bringBack : MethodName := ⟨RX1, "bringBack", "(LLoanChest$Loan;I)V"⟩
abbrev cX1_addForAll : ByteArray := prog_3_method_13_code
def yX1_addForAll : MethodName := ⟨RX1, "addForAll", "(I)V"⟩
abbrev cX1_isFor : ByteArray := prog_3_method_14_code
def yX1_isFor : MethodName := ⟨RX1, "isFor", "(II)Z"⟩
abbrev cX1_aboveKeep : ByteArray := prog_3_method_15_code
def yX1_aboveKeep : MethodName := ⟨RX1, "aboveKeep", "(I)I"⟩
abbrev cX1_take : ByteArray := prog_3_method_16_code
def yX1_take : MethodName := ⟨RX1, "take", "(LLoanChest$Loan;II)I"⟩
abbrev cX1_putBack : ByteArray := prog_3_method_17_code
def yX1_putBack : MethodName := ⟨RX1, "putBack", "(LLoanChest$Loan;II)I"⟩
def RX2 : String := "LoanChest$Kind"
def TX2 : u_T := fun k => match k with
  | _ => ("", "", "", false)
def tyX2 : Nat → FieldType := fun k => match k with
  | _ => .int
abbrev wsX20 : List Cond := u_ws RX2 TX2 0
theorem nmX2 : ∀ a, a < 0 → ∀ b, b < 0 → a ≠ b → (TX2 a).2.1 ≠ (TX2 b).2.1 := by decide +kernel
theorem tyX2_ok : ∀ k, k < 0 → parseFieldDescriptor (TX2 k).2.2.1 = some (tyX2 k) := by decide +kernel
def RX3 : String := "LoanChest$Ledger"
def TX3 : u_T := fun k => match k with
  | 0 => ("LoanChest$Ledger", "loans", "Ljava/util/ArrayList;", true)
  | 1 => ("LoanChest$Ledger", "calls", "Ljava/util/ArrayList;", true)
  | _ => ("LoanChest$Ledger", "lost", "I", false)
def tyX3 : Nat → FieldType := fun k => match k with
  | 0 => .object "java/util/ArrayList"
  | 1 => .object "java/util/ArrayList"
  | _ => .int
abbrev wsX30 : List Cond := u_ws RX3 TX3 3
theorem nmX3 : ∀ a, a < 3 → ∀ b, b < 3 → a ≠ b → (TX3 a).2.1 ≠ (TX3 b).2.1 := by decide +kernel
theorem tyX3_ok : ∀ k, k < 3 → parseFieldDescriptor (TX3 k).2.2.1 = some (tyX3 k) := by decide +kernel
abbrev cX3_init : ByteArray := prog_5_method_1_code
def yX3_init : MethodName := ⟨RX3, "<init>", "()V"⟩
abbrev cX3_howManyLoans : ByteArray := prog_5_method_2_code
def yX3_howManyLoans : MethodName := ⟨RX3, "howManyLoans", "()I"⟩
abbrev cX3_lostPence : ByteArray := prog_5_method_3_code
def yX3_lostPence : MethodName := ⟨RX3, "lostPence", "()I"⟩
abbrev cX3_enter : ByteArray := prog_5_method_4_code
def yX3_enter : MethodName := ⟨RX3, "enter", "(LLoanChest$Loan;)V"⟩
abbrev cX3_loanAt : ByteArray := prog_5_method_5_code
def yX3_loanAt : MethodName := ⟨RX3, "loanAt", "(I)LLoanChest$Loan;"⟩
abbrev cX3_howManyOpen : ByteArray := prog_5_method_6_code
def yX3_howManyOpen : MethodName := ⟨RX3, "howManyOpen", "()I"⟩
abbrev cX3_openLoanOf : ByteArray := prog_5_method_7_code
def yX3_openLoanOf : MethodName := ⟨RX3, "openLoanOf", "(I)LLoanChest$Loan;"⟩
abbrev cX3_calledLoansOf : ByteArray := prog_5_method_8_code
def yX3_calledLoansOf : MethodName := ⟨RX3, "calledLoansOf", "(I)I"⟩
abbrev cX3_standsFor : ByteArray := prog_5_method_9_code
def yX3_standsFor : MethodName := ⟨RX3, "standsFor", "(I)I"⟩
abbrev cX3_characterOf : ByteArray := prog_5_method_10_code
def yX3_characterOf : MethodName := ⟨RX3, "characterOf", "(I)I"⟩
abbrev cX3_worthOf : ByteArray := prog_5_method_11_code
def yX3_worthOf : MethodName := ⟨RX3, "worthOf", "(LLoanChest$Loan;)I"⟩
abbrev cX3_unpaidCalls : ByteArray := prog_5_method_12_code
def yX3_unpaidCalls : MethodName := ⟨RX3, "unpaidCalls", "(I)I"⟩
abbrev cX3_owedByCalls : ByteArray := prog_5_method_13_code
def yX3_owedByCalls : MethodName := ⟨RX3, "owedByCalls", "(I)I"⟩
abbrev cX3_debtOf : ByteArray := prog_5_method_14_code
def yX3_debtOf : MethodName := ⟨RX3, "debtOf", "(I)I"⟩
abbrev cX3_shortestRing : ByteArray := prog_5_method_15_code
def yX3_shortestRing : MethodName := ⟨RX3, "shortestRing", "(IJ)I"⟩
abbrev cX3_suretiesOfAll : ByteArray := prog_5_method_16_code
def yX3_suretiesOfAll : MethodName := ⟨RX3, "suretiesOfAll", "(J)J"⟩
abbrev cX3_endWeek : ByteArray := prog_5_method_17_code
def yX3_endWeek : MethodName := ⟨RX3, "endWeek", "(I)V"⟩
abbrev cX3_callIn : ByteArray := prog_5_method_18_code
def yX3_callIn : MethodName := ⟨RX3, "callIn", "(LLoanChest$Loan;)V"⟩
abbrev cX3_takePayment : ByteArray := prog_5_method_19_code
def yX3_takePayment : MethodName := ⟨RX3, "takePayment", "(IILLoanChest$Funds;)V"⟩
abbrev cX3_payCall : ByteArray := prog_5_method_20_code
def yX3_payCall : MethodName := ⟨RX3, "payCall", "(LLoanChest$Call;ILLoanChest$Funds;)I"⟩
abbrev cX3_payLoan : ByteArray := prog_5_method_21_code
def yX3_payLoan : MethodName := ⟨RX3, "payLoan", "(LLoanChest$Loan;ILLoanChest$Funds;)V"⟩
def RX4 : String := "LoanChest$Loan"
def TX4 : u_T := fun k => match k with
  | 0 => ("LoanChest$Loan", "number", "I", true)
  | 1 => ("LoanChest$Loan", "borrower", "I", true)
  | 2 => ("LoanChest$Loan", "amount", "I", true)
  | 3 => ("LoanChest$Loan", "began", "I", true)
  | 4 => ("LoanChest$Loan", "sureties", "[I", true)
  | 5 => ("LoanChest$Loan", "suretyBits", "J", true)
  | 6 => ("LoanChest$Loan", "weeks", "I", true)
  | 7 => ("LoanChest$Loan", "late", "I", true)
  | 8 => ("LoanChest$Loan", "call", "I", true)
  | 9 => ("LoanChest$Loan", "takenFrom", "[I", true)
  | 10 => ("LoanChest$Loan", "stillAway", "[I", true)
  | 11 => ("LoanChest$Loan", "paid", "I", false)
  | 12 => ("LoanChest$Loan", "fines", "I", false)
  | 13 => ("LoanChest$Loan", "finesPaid", "I", false)
  | 14 => ("LoanChest$Loan", "timesLate", "I", false)
  | 15 => ("LoanChest$Loan", "lateInARow", "I", false)
  | 16 => ("LoanChest$Loan", "state", "I", false)
  | _ => ("LoanChest$Loan", "cameBack", "I", false)
def tyX4 : Nat → FieldType := fun k => match k with
  | 0 => .int
  | 1 => .int
  | 2 => .int
  | 3 => .int
  | 4 => .array .int
  | 5 => .long
  | 6 => .int
  | 7 => .int
  | 8 => .int
  | 9 => .array .int
  | 10 => .array .int
  | 11 => .int
  | 12 => .int
  | 13 => .int
  | 14 => .int
  | 15 => .int
  | 16 => .int
  | _ => .int
abbrev wsX40 : List Cond := u_ws RX4 TX4 18
theorem nmX4 : ∀ a, a < 18 → ∀ b, b < 18 → a ≠ b → (TX4 a).2.1 ≠ (TX4 b).2.1 := by decide +kernel
theorem tyX4_ok : ∀ k, k < 18 → parseFieldDescriptor (TX4 k).2.2.1 = some (tyX4 k) := by decide +kernel
abbrev cX4_init : ByteArray := prog_6_method_1_code
def yX4_init : MethodName := ⟨RX4, "<init>", "(IIII[IJLLoanChest$Rules;)V"⟩
abbrev cX4_isOpenOf : ByteArray := prog_6_method_2_code
def yX4_isOpenOf : MethodName := ⟨RX4, "isOpenOf", "(I)Z"⟩
abbrev cX4_isOpenWithSurety : ByteArray := prog_6_method_3_code
def yX4_isOpenWithSurety : MethodName := ⟨RX4, "isOpenWithSurety", "(I)Z"⟩
abbrev cX4_rest : ByteArray := prog_6_method_4_code
def yX4_rest : MethodName := ⟨RX4, "rest", "()I"⟩
abbrev cX4_dueAtEnd : ByteArray := prog_6_method_5_code
def yX4_dueAtEnd : MethodName := ⟨RX4, "dueAtEnd", "(I)I"⟩
abbrev cX4_isToBeCalledAtEnd : ByteArray := prog_6_method_6_code
def yX4_isToBeCalledAtEnd : MethodName := ⟨RX4, "isToBeCalledAtEnd", "(I)Z"⟩
def RX5 : String := "LoanChest$RuleReader"
def TX5 : u_T := fun k => match k with
  | 0 => ("LoanChest$RuleReader", "read", "[I", true)
  | 1 => ("LoanChest$RuleReader", "met", "[Z", true)
  | 2 => ("LoanChest$RuleReader", "form", "I", false)
  | 3 => ("LoanChest$RuleReader", "start", "I", false)
  | 4 => ("LoanChest$RuleReader", "behind", "I", false)
  | _ => ("LoanChest$RuleReader", "faultKind", "I", false)
def tyX5 : Nat → FieldType := fun k => match k with
  | 0 => .array .int
  | 1 => .array .boolean
  | 2 => .int
  | 3 => .int
  | 4 => .int
  | _ => .int
abbrev wsX50 : List Cond := u_ws RX5 TX5 6
theorem nmX5 : ∀ a, a < 6 → ∀ b, b < 6 → a ≠ b → (TX5 a).2.1 ≠ (TX5 b).2.1 := by decide +kernel
theorem tyX5_ok : ∀ k, k < 6 → parseFieldDescriptor (TX5 k).2.2.1 = some (tyX5 k) := by decide +kernel
abbrev cX5_init : ByteArray := prog_7_method_1_code
def yX5_init : MethodName := ⟨RX5, "<init>", "()V"⟩
abbrev cX5_faultKind : ByteArray := prog_7_method_2_code
def yX5_faultKind : MethodName := ⟨RX5, "faultKind", "()I"⟩
abbrev cX5_valueRead : ByteArray := prog_7_method_3_code
def yX5_valueRead : MethodName := ⟨RX5, "valueRead", "(LLoanChest$Kind;)I"⟩
abbrev cX5_readAll : ByteArray := prog_7_method_4_code
def yX5_readAll : MethodName := ⟨RX5, "readAll", "(LLoanChest$Tape;)I"⟩
abbrev cX5_startAgain : ByteArray := prog_7_method_5_code
def yX5_startAgain : MethodName := ⟨RX5, "startAgain", "()V"⟩
abbrev cX5_faultOfRule : ByteArray := prog_7_method_6_code
def yX5_faultOfRule : MethodName := ⟨RX5, "faultOfRule", "(LLoanChest$Tape;)I"⟩
abbrev cX5_step : ByteArray := prog_7_method_7_code
def yX5_step : MethodName := ⟨RX5, "step", "(LLoanChest$Tape;)V"⟩
abbrev cX5_readToken : ByteArray := prog_7_method_8_code
def yX5_readToken : MethodName := ⟨RX5, "readToken", "(LLoanChest$Tape;)V"⟩
abbrev cX5_kindOfWord : ByteArray := prog_7_method_9_code
def yX5_kindOfWord : MethodName := ⟨RX5, "kindOfWord", "(LLoanChest$Tape;)LLoanChest$Kind;"⟩
abbrev cX5_isWordRead : ByteArray := prog_7_method_10_code
def yX5_isWordRead : MethodName := ⟨RX5, "isWordRead", "(Ljava/lang/String;LLoanChest$Tape;)Z"⟩
abbrev cX5_numberRead : ByteArray := prog_7_method_11_code
def yX5_numberRead : MethodName := ⟨RX5, "numberRead", "(LLoanChest$Tape;)I"⟩
abbrev cX5_isBlank : ByteArray := prog_7_method_12_code
def yX5_isBlank : MethodName := ⟨RX5, "isBlank", "(I)Z"⟩
abbrev cX5_isDigit : ByteArray := prog_7_method_13_code
def yX5_isDigit : MethodName := ⟨RX5, "isDigit", "(I)Z"⟩
abbrev cX5_isLetterOrDigit : ByteArray := prog_7_method_14_code
def yX5_isLetterOrDigit : MethodName := ⟨RX5, "isLetterOrDigit", "(I)Z"⟩
def RX6 : String := "LoanChest$Rules"
def TX6 : u_T := fun k => match k with
  | _ => ("LoanChest$Rules", "values", "[I", true)
def tyX6 : Nat → FieldType := fun k => match k with
  | _ => .array .int
abbrev wsX60 : List Cond := u_ws RX6 TX6 1
theorem nmX6 : ∀ a, a < 1 → ∀ b, b < 1 → a ≠ b → (TX6 a).2.1 ≠ (TX6 b).2.1 := by decide +kernel
theorem tyX6_ok : ∀ k, k < 1 → parseFieldDescriptor (TX6 k).2.2.1 = some (tyX6 k) := by decide +kernel
abbrev cX6_init : ByteArray := prog_8_method_1_code
def yX6_init : MethodName := ⟨RX6, "<init>", "()V"⟩
abbrev cX6_current : ByteArray := prog_8_method_2_code
def yX6_current : MethodName := ⟨RX6, "current", "(LLoanChest$Kind;)I"⟩
abbrev cX6_takeOver : ByteArray := prog_8_method_3_code
def yX6_takeOver : MethodName := ⟨RX6, "takeOver", "(LLoanChest$RuleReader;)V"⟩
def RX7 : String := "LoanChest$Tape"
def TX7 : u_T := fun k => match k with
  | 0 => ("LoanChest$Tape", "bytes", "[I", true)
  | _ => ("LoanChest$Tape", "length", "I", false)
def tyX7 : Nat → FieldType := fun k => match k with
  | 0 => .array .int
  | _ => .int
abbrev wsX70 : List Cond := u_ws RX7 TX7 2
theorem nmX7 : ∀ a, a < 2 → ∀ b, b < 2 → a ≠ b → (TX7 a).2.1 ≠ (TX7 b).2.1 := by decide +kernel
theorem tyX7_ok : ∀ k, k < 2 → parseFieldDescriptor (TX7 k).2.2.1 = some (tyX7 k) := by decide +kernel
abbrev cX7_init : ByteArray := prog_9_method_1_code
def yX7_init : MethodName := ⟨RX7, "<init>", "()V"⟩
abbrev cX7_length : ByteArray := prog_9_method_2_code
def yX7_length : MethodName := ⟨RX7, "length", "()I"⟩
abbrev cX7_hasRoomForFive : ByteArray := prog_9_method_3_code
def yX7_hasRoomForFive : MethodName := ⟨RX7, "hasRoomForFive", "()Z"⟩
abbrev cX7_append : ByteArray := prog_9_method_4_code
def yX7_append : MethodName := ⟨RX7, "append", "(I)V"⟩
abbrev cX7_cutTo : ByteArray := prog_9_method_5_code
def yX7_cutTo : MethodName := ⟨RX7, "cutTo", "(I)Z"⟩
abbrev cX7_byteAt : ByteArray := prog_9_method_6_code
def yX7_byteAt : MethodName := ⟨RX7, "byteAt", "(I)I"⟩
abbrev cX7_copy : ByteArray := prog_9_method_7_code
def yX7_copy : MethodName := ⟨RX7, "copy", "()[I"⟩
def RX8 : String := "LoanChest"
def TX8 : u_T := fun k => match k with
  | 0 => ("LoanChest", "tape", "LLoanChest$Tape;", true)
  | 1 => ("LoanChest", "reader", "LLoanChest$RuleReader;", true)
  | 2 => ("LoanChest", "law", "LLoanChest$Rules;", true)
  | 3 => ("LoanChest", "purse", "LLoanChest$Funds;", true)
  | 4 => ("LoanChest", "ledger", "LLoanChest$Ledger;", true)
  | 5 => ("LoanChest", "tagsOf", "[I", true)
  | 6 => ("LoanChest", "people", "I", false)
  | _ => ("LoanChest", "week", "I", false)
def tyX8 : Nat → FieldType := fun k => match k with
  | 0 => .object "LoanChest$Tape"
  | 1 => .object "LoanChest$RuleReader"
  | 2 => .object "LoanChest$Rules"
  | 3 => .object "LoanChest$Funds"
  | 4 => .object "LoanChest$Ledger"
  | 5 => .array .int
  | 6 => .int
  | _ => .int
abbrev wsX80 : List Cond := u_ws RX8 TX8 8
theorem nmX8 : ∀ a, a < 8 → ∀ b, b < 8 → a ≠ b → (TX8 a).2.1 ≠ (TX8 b).2.1 := by decide +kernel
theorem tyX8_ok : ∀ k, k < 8 → parseFieldDescriptor (TX8 k).2.2.1 = some (tyX8 k) := by decide +kernel
abbrev cX8_init : ByteArray := prog_1_method_1_code
def yX8_init : MethodName := ⟨RX8, "<init>", "()V"⟩
abbrev cX8_feed : ByteArray := prog_1_method_2_code
def yX8_feed : MethodName := ⟨RX8, "feed", "(IIIII)I"⟩
abbrev cX8_end : ByteArray := prog_1_method_3_code
def yX8_end : MethodName := ⟨RX8, "end", "(I)Z"⟩
abbrev cX8_rules : ByteArray := prog_1_method_4_code
def yX8_rules : MethodName := ⟨RX8, "rules", "()I"⟩
abbrev cX8_fault : ByteArray := prog_1_method_5_code
def yX8_fault : MethodName := ⟨RX8, "fault", "()I"⟩
abbrev cX8_rule : ByteArray := prog_1_method_6_code
def yX8_rule : MethodName := ⟨RX8, "rule", "(I)I"⟩
abbrev cX8_person : ByteArray := prog_1_method_7_code
def yX8_person : MethodName := ⟨RX8, "person", "(I)I"⟩
abbrev cX8_tag : ByteArray := prog_1_method_8_code
def yX8_tag : MethodName := ⟨RX8, "tag", "(IIZ)Z"⟩
abbrev cX8_fund : ByteArray := prog_1_method_9_code
def yX8_fund : MethodName := ⟨RX8, "fund", "(II)I"⟩
abbrev cX8_gift : ByteArray := prog_1_method_10_code
def yX8_gift : MethodName := ⟨RX8, "gift", "(II)I"⟩
abbrev cX8_ask : ByteArray := prog_1_method_11_code
def yX8_ask : MethodName := ⟨RX8, "ask", "(II)I"⟩
abbrev cX8_pay : ByteArray := prog_1_method_12_code
def yX8_pay : MethodName := ⟨RX8, "pay", "(II)Z"⟩
abbrev cX8_owes : ByteArray := prog_1_method_13_code
def yX8_owes : MethodName := ⟨RX8, "owes", "(I)I"⟩
abbrev cX8_next : ByteArray := prog_1_method_14_code
def yX8_next : MethodName := ⟨RX8, "next", "()I"⟩
abbrev cX8_chest : ByteArray := prog_1_method_15_code
def yX8_chest : MethodName := ⟨RX8, "chest", "(II)I"⟩
abbrev cX8_loan : ByteArray := prog_1_method_16_code
def yX8_loan : MethodName := ⟨RX8, "loan", "(II)I"⟩
abbrev cX8_surety : ByteArray := prog_1_method_17_code
def yX8_surety : MethodName := ⟨RX8, "surety", "(II)I"⟩
abbrev cX8_taken : ByteArray := prog_1_method_18_code
def yX8_taken : MethodName := ⟨RX8, "taken", "(II)I"⟩
abbrev cX8_about : ByteArray := prog_1_method_19_code
def yX8_about : MethodName := ⟨RX8, "about", "(II)I"⟩
abbrev cX8_ring : ByteArray := prog_1_method_20_code
def yX8_ring : MethodName := ⟨RX8, "ring", "(I)I"⟩
abbrev cX8_count : ByteArray := prog_1_method_21_code
def yX8_count : MethodName := ⟨RX8, "count", "(I)I"⟩
abbrev cX8_isPerson : ByteArray := prog_1_method_22_code
def yX8_isPerson : MethodName := ⟨RX8, "isPerson", "(I)Z"⟩
abbrev cX8_isTag : ByteArray := prog_1_method_23_code
def yX8_isTag : MethodName := ⟨RX8, "isTag", "(I)Z"⟩
abbrev cX8_isBarred : ByteArray := prog_1_method_24_code
def yX8_isBarred : MethodName := ⟨RX8, "isBarred", "(I)Z"⟩
abbrev cX8_openLoanNumber : ByteArray := prog_1_method_25_code
def yX8_openLoanNumber : MethodName := ⟨RX8, "openLoanNumber", "(I)I"⟩
abbrev cX8_whyRefused : ByteArray := prog_1_method_26_code
def yX8_whyRefused : MethodName := ⟨RX8, "whyRefused", "(II)I"⟩
abbrev cX8_whyRefusedForBorrower : ByteArray := prog_1_method_27_code
def yX8_whyRefusedForBorrower : MethodName := ⟨RX8, "whyRefusedForBorrower", "(II)I"⟩
abbrev cX8_whyRefusedForSureties : ByteArray := prog_1_method_28_code
def yX8_whyRefusedForSureties : MethodName := ⟨RX8, "whyRefusedForSureties", "(I)I"⟩
abbrev cX8_areOthersAllDifferent : ByteArray := prog_1_method_29_code
def yX8_areOthersAllDifferent : MethodName := ⟨RX8, "areOthersAllDifferent", "(I)Z"⟩
abbrev cX8_bitsOnTape : ByteArray := prog_1_method_30_code
def yX8_bitsOnTape : MethodName := ⟨RX8, "bitsOnTape", "()J"⟩
abbrev cX8_lend : ByteArray := prog_1_method_31_code
def yX8_lend : MethodName := ⟨RX8, "lend", "(II)I"⟩
abbrev cX8_bitOf : ByteArray := prog_1_method_32_code
def yX8_bitOf : MethodName := ⟨RX8, "bitOf", "(I)J"⟩
def RX9 : String := "LoanChestModel"
def TX9 : u_T := fun k => match k with
  | 0 => ("LoanChestModel", "thrown", "I", false)
  | 1 => ("LoanChestModel", "tape", "[I", true)
  | 2 => ("LoanChestModel", "taped", "I", false)
  | 3 => ("LoanChestModel", "rule", "[I", true)
  | 4 => ("LoanChestModel", "usual", "[I", true)
  | 5 => ("LoanChestModel", "low", "[I", true)
  | 6 => ("LoanChestModel", "high", "[I", true)
  | 7 => ("LoanChestModel", "newRule", "[I", true)
  | 8 => ("LoanChestModel", "fault", "I", false)
  | 9 => ("LoanChestModel", "place", "I", false)
  | 10 => ("LoanChestModel", "size", "I", false)
  | 11 => ("LoanChestModel", "to", "I", false)
  | 12 => ("LoanChestModel", "from", "I", false)
  | 13 => ("LoanChestModel", "kind", "I", false)
  | 14 => ("LoanChestModel", "number", "I", false)
  | 15 => ("LoanChestModel", "name", "J", false)
  | 16 => ("LoanChestModel", "told", "I", false)
  | 17 => ("LoanChestModel", "tags", "[I", true)
  | 18 => ("LoanChestModel", "fundTag", "[I", true)
  | 19 => ("LoanChestModel", "pence", "[I", true)
  | 20 => ("LoanChestModel", "book", "[I", true)
  | 21 => ("LoanChestModel", "people", "I", false)
  | 22 => ("LoanChestModel", "funds", "I", false)
  | 23 => ("LoanChestModel", "week", "I", false)
  | 24 => ("LoanChestModel", "given", "I", false)
  | 25 => ("LoanChestModel", "lost", "I", false)
  | 26 => ("LoanChestModel", "who", "[I", true)
  | 27 => ("LoanChestModel", "amount", "[I", true)
  | 28 => ("LoanChestModel", "began", "[I", true)
  | 29 => ("LoanChestModel", "weeks", "[I", true)
  | 30 => ("LoanChestModel", "fine", "[I", true)
  | 31 => ("LoanChestModel", "callAt", "[I", true)
  | 32 => ("LoanChestModel", "paid", "[I", true)
  | 33 => ("LoanChestModel", "fines", "[I", true)
  | 34 => ("LoanChestModel", "finesPaid", "[I", true)
  | 35 => ("LoanChestModel", "late", "[I", true)
  | 36 => ("LoanChestModel", "lateRow", "[I", true)
  | 37 => ("LoanChestModel", "state", "[I", true)
  | 38 => ("LoanChestModel", "backAll", "[I", true)
  | 39 => ("LoanChestModel", "sureties", "[I", true)
  | 40 => ("LoanChestModel", "surety", "[I", true)
  | 41 => ("LoanChestModel", "taken", "[I", true)
  | 42 => ("LoanChestModel", "loans", "I", false)
  | 43 => ("LoanChestModel", "callWho", "[I", true)
  | 44 => ("LoanChestModel", "callLoan", "[I", true)
  | 45 => ("LoanChestModel", "callLeft", "[I", true)
  | 46 => ("LoanChestModel", "calls", "I", false)
  | _ => ("LoanChestModel", "far", "[I", true)
def tyX9 : Nat → FieldType := fun k => match k with
  | 0 => .int
  | 1 => .array .int
  | 2 => .int
  | 3 => .array .int
  | 4 => .array .int
  | 5 => .array .int
  | 6 => .array .int
  | 7 => .array .int
  | 8 => .int
  | 9 => .int
  | 10 => .int
  | 11 => .int
  | 12 => .int
  | 13 => .int
  | 14 => .int
  | 15 => .long
  | 16 => .int
  | 17 => .array .int
  | 18 => .array .int
  | 19 => .array .int
  | 20 => .array .int
  | 21 => .int
  | 22 => .int
  | 23 => .int
  | 24 => .int
  | 25 => .int
  | 26 => .array .int
  | 27 => .array .int
  | 28 => .array .int
  | 29 => .array .int
  | 30 => .array .int
  | 31 => .array .int
  | 32 => .array .int
  | 33 => .array .int
  | 34 => .array .int
  | 35 => .array .int
  | 36 => .array .int
  | 37 => .array .int
  | 38 => .array .int
  | 39 => .array .int
  | 40 => .array .int
  | 41 => .array .int
  | 42 => .int
  | 43 => .array .int
  | 44 => .array .int
  | 45 => .array .int
  | 46 => .int
  | _ => .array .int
abbrev wsX90 : List Cond := u_ws RX9 TX9 48
theorem nmX9 : ∀ a, a < 48 → ∀ b, b < 48 → a ≠ b → (TX9 a).2.1 ≠ (TX9 b).2.1 := by decide +kernel
theorem tyX9_ok : ∀ k, k < 48 → parseFieldDescriptor (TX9 k).2.2.1 = some (tyX9 k) := by decide +kernel
abbrev cX9_init : ByteArray := prog_11_method_1_code
def yX9_init : MethodName := ⟨RX9, "<init>", "()V"⟩
abbrev cX9_thrown : ByteArray := prog_11_method_2_code
def yX9_thrown : MethodName := ⟨RX9, "thrown", "()I"⟩
abbrev cX9_refuse : ByteArray := prog_11_method_3_code
def yX9_refuse : MethodName := ⟨RX9, "refuse", "()I"⟩
abbrev cX9_come : ByteArray := prog_11_method_4_code
def yX9_come : MethodName := ⟨RX9, "come", "(I)V"⟩
abbrev cX9_feed : ByteArray := prog_11_method_5_code
def yX9_feed : MethodName := ⟨RX9, "feed", "(IIIII)I"⟩
abbrev cX9_end : ByteArray := prog_11_method_6_code
def yX9_end : MethodName := ⟨RX9, "end", "(I)Z"⟩
abbrev cX9_at : ByteArray := prog_11_method_7_code
def yX9_at : MethodName := ⟨RX9, "at", "(I)I"⟩
abbrev cX9_isDigit : ByteArray := prog_11_method_8_code
def yX9_isDigit : MethodName := ⟨RX9, "isDigit", "(I)Z"⟩
abbrev cX9_isLetter : ByteArray := prog_11_method_9_code
def yX9_isLetter : MethodName := ⟨RX9, "isLetter", "(I)Z"⟩
abbrev cX9_go : ByteArray := prog_11_method_10_code
def yX9_go : MethodName := ⟨RX9, "go", "()V"⟩
abbrev cX9_spelt : ByteArray := prog_11_method_11_code
def yX9_spelt : MethodName := ⟨RX9, "spelt", "(IIIII)J"⟩
abbrev cX9_ruleAtHand : ByteArray := prog_11_method_12_code
def yX9_ruleAtHand : MethodName := ⟨RX9, "ruleAtHand", "()I"⟩
abbrev cX9_bad : ByteArray := prog_11_method_13_code
def yX9_bad : MethodName := ⟨RX9, "bad", "(I)Z"⟩
abbrev cX9_readRules : ByteArray := prog_11_method_14_code
def yX9_readRules : MethodName := ⟨RX9, "readRules", "()Z"⟩
abbrev cX9_rules : ByteArray := prog_11_method_15_code
def yX9_rules : MethodName := ⟨RX9, "rules", "()I"⟩
abbrev cX9_fault : ByteArray := prog_11_method_16_code
def yX9_fault : MethodName := ⟨RX9, "fault", "()I"⟩
abbrev cX9_rule : ByteArray := prog_11_method_17_code
def yX9_rule : MethodName := ⟨RX9, "rule", "(I)I"⟩
abbrev cX9_isPerson : ByteArray := prog_11_method_18_code
def yX9_isPerson : MethodName := ⟨RX9, "isPerson", "(I)Z"⟩
abbrev cX9_isFund : ByteArray := prog_11_method_19_code
def yX9_isFund : MethodName := ⟨RX9, "isFund", "(I)Z"⟩
abbrev cX9_person : ByteArray := prog_11_method_20_code
def yX9_person : MethodName := ⟨RX9, "person", "(I)I"⟩
abbrev cX9_tag : ByteArray := prog_11_method_21_code
def yX9_tag : MethodName := ⟨RX9, "tag", "(IIZ)Z"⟩
abbrev cX9_fund : ByteArray := prog_11_method_22_code
def yX9_fund : MethodName := ⟨RX9, "fund", "(II)I"⟩
abbrev cX9_gift : ByteArray := prog_11_method_23_code
def yX9_gift : MethodName := ⟨RX9, "gift", "(II)I"⟩
abbrev cX9_openOf : ByteArray := prog_11_method_24_code
def yX9_openOf : MethodName := ⟨RX9, "openOf", "(I)I"⟩
abbrev cX9_isBarred : ByteArray := prog_11_method_25_code
def yX9_isBarred : MethodName := ⟨RX9, "isBarred", "(I)Z"⟩
abbrev cX9_standsFor : ByteArray := prog_11_method_26_code
def yX9_standsFor : MethodName := ⟨RX9, "standsFor", "(I)I"⟩
abbrev cX9_steps : ByteArray := prog_11_method_27_code
def yX9_steps : MethodName := ⟨RX9, "steps", "(I)Z"⟩
abbrev cX9_spread : ByteArray := prog_11_method_28_code
def yX9_spread : MethodName := ⟨RX9, "spread", "()V"⟩
abbrev cX9_clear : ByteArray := prog_11_method_29_code
def yX9_clear : MethodName := ⟨RX9, "clear", "()V"⟩
abbrev cX9_isTwice : ByteArray := prog_11_method_30_code
def yX9_isTwice : MethodName := ⟨RX9, "isTwice", "(II)Z"⟩
abbrev cX9_why : ByteArray := prog_11_method_31_code
def yX9_why : MethodName := ⟨RX9, "why", "(III)I"⟩
abbrev cX9_ask : ByteArray := prog_11_method_32_code
def yX9_ask : MethodName := ⟨RX9, "ask", "(II)I"⟩
abbrev cX9_comesBack : ByteArray := prog_11_method_33_code
def yX9_comesBack : MethodName := ⟨RX9, "comesBack", "(II)V"⟩
abbrev cX9_callsOf : ByteArray := prog_11_method_34_code
def yX9_callsOf : MethodName := ⟨RX9, "callsOf", "(I)I"⟩
abbrev cX9_owed : ByteArray := prog_11_method_35_code
def yX9_owed : MethodName := ⟨RX9, "owed", "(I)I"⟩
abbrev cX9_owes : ByteArray := prog_11_method_36_code
def yX9_owes : MethodName := ⟨RX9, "owes", "(I)I"⟩
abbrev cX9_pay : ByteArray := prog_11_method_37_code
def yX9_pay : MethodName := ⟨RX9, "pay", "(II)Z"⟩
abbrev cX9_isLate : ByteArray := prog_11_method_38_code
def yX9_isLate : MethodName := ⟨RX9, "isLate", "(I)V"⟩
abbrev cX9_next : ByteArray := prog_11_method_39_code
def yX9_next : MethodName := ⟨RX9, "next", "()I"⟩
abbrev cX9_chest : ByteArray := prog_11_method_40_code
def yX9_chest : MethodName := ⟨RX9, "chest", "(II)I"⟩
abbrev cX9_isLoan : ByteArray := prog_11_method_41_code
def yX9_isLoan : MethodName := ⟨RX9, "isLoan", "(I)Z"⟩
abbrev cX9_loan : ByteArray := prog_11_method_42_code
def yX9_loan : MethodName := ⟨RX9, "loan", "(II)I"⟩
abbrev cX9_surety : ByteArray := prog_11_method_43_code
def yX9_surety : MethodName := ⟨RX9, "surety", "(II)I"⟩
abbrev cX9_taken : ByteArray := prog_11_method_44_code
def yX9_taken : MethodName := ⟨RX9, "taken", "(II)I"⟩
abbrev cX9_character : ByteArray := prog_11_method_45_code
def yX9_character : MethodName := ⟨RX9, "character", "(I)I"⟩
abbrev cX9_about : ByteArray := prog_11_method_46_code
def yX9_about : MethodName := ⟨RX9, "about", "(II)I"⟩
abbrev cX9_ring : ByteArray := prog_11_method_47_code
def yX9_ring : MethodName := ⟨RX9, "ring", "(I)I"⟩
abbrev cX9_count : ByteArray := prog_11_method_48_code
def yX9_count : MethodName := ⟨RX9, "count", "(I)I"⟩
def RJx145de : String := "java/io/Serializable"
def TJx145de : u_T := fun k => match k with
  | _ => ("", "", "", false)
def tyJx145de : Nat → FieldType := fun k => match k with
  | _ => .int
abbrev wsJx145de0 : List Cond := u_ws RJx145de TJx145de 0
theorem nmJx145de : ∀ a, a < 0 → ∀ b, b < 0 → a ≠ b → (TJx145de a).2.1 ≠ (TJx145de b).2.1 := by decide +kernel
theorem tyJx145de_ok : ∀ k, k < 0 → parseFieldDescriptor (TJx145de k).2.2.1 = some (tyJx145de k) := by decide +kernel
def RJx8e188 : String := "java/lang/Cloneable"
def TJx8e188 : u_T := fun k => match k with
  | _ => ("", "", "", false)
def tyJx8e188 : Nat → FieldType := fun k => match k with
  | _ => .int
abbrev wsJx8e1880 : List Cond := u_ws RJx8e188 TJx8e188 0
theorem nmJx8e188 : ∀ a, a < 0 → ∀ b, b < 0 → a ≠ b → (TJx8e188 a).2.1 ≠ (TJx8e188 b).2.1 := by decide +kernel
theorem tyJx8e188_ok : ∀ k, k < 0 → parseFieldDescriptor (TJx8e188 k).2.2.1 = some (tyJx8e188 k) := by decide +kernel
def RJx29ce0 : String := "java/lang/Enum"
def TJx29ce0 : u_T := fun k => match k with
  | _ => ("", "", "", false)
def tyJx29ce0 : Nat → FieldType := fun k => match k with
  | _ => .int
abbrev wsJx29ce00 : List Cond := u_ws RJx29ce0 TJx29ce0 0
theorem nmJx29ce0 : ∀ a, a < 0 → ∀ b, b < 0 → a ≠ b → (TJx29ce0 a).2.1 ≠ (TJx29ce0 b).2.1 := by decide +kernel
theorem tyJx29ce0_ok : ∀ k, k < 0 → parseFieldDescriptor (TJx29ce0 k).2.2.1 = some (tyJx29ce0 k) := by decide +kernel
def RJxab1ab : String := "java/lang/Iterable"
def TJxab1ab : u_T := fun k => match k with
  | _ => ("", "", "", false)
def tyJxab1ab : Nat → FieldType := fun k => match k with
  | _ => .int
abbrev wsJxab1ab0 : List Cond := u_ws RJxab1ab TJxab1ab 0
theorem nmJxab1ab : ∀ a, a < 0 → ∀ b, b < 0 → a ≠ b → (TJxab1ab a).2.1 ≠ (TJxab1ab b).2.1 := by decide +kernel
theorem tyJxab1ab_ok : ∀ k, k < 0 → parseFieldDescriptor (TJxab1ab k).2.2.1 = some (tyJxab1ab k) := by decide +kernel
def RJ9 : String := "java/lang/Math"
def TJ9 : u_T := fun k => match k with
  | _ => ("", "", "", false)
def tyJ9 : Nat → FieldType := fun k => match k with
  | _ => .int
abbrev wsJ90 : List Cond := u_ws RJ9 TJ9 0
theorem nmJ9 : ∀ a, a < 0 → ∀ b, b < 0 → a ≠ b → (TJ9 a).2.1 ≠ (TJ9 b).2.1 := by decide +kernel
theorem tyJ9_ok : ∀ k, k < 0 → parseFieldDescriptor (TJ9 k).2.2.1 = some (tyJ9 k) := by decide +kernel
abbrev cJ9_max_7cf53 : ByteArray := prog_17_method_65_code
def yJ9_max_7cf53 : MethodName := ⟨RJ9, "max", "(II)I"⟩
abbrev cJ9_min_7cf53 : ByteArray := prog_17_method_69_code
def yJ9_min_7cf53 : MethodName := ⟨RJ9, "min", "(II)I"⟩
def RJ0 : String := "java/lang/String"
def TJ0 : u_T := fun k => match k with
  | _ => ("", "", "", false)
def tyJ0 : Nat → FieldType := fun k => match k with
  | _ => .int
abbrev wsJ00 : List Cond := u_ws RJ0 TJ0 0
theorem nmJ0 : ∀ a, a < 0 → ∀ b, b < 0 → a ≠ b → (TJ0 a).2.1 ≠ (TJ0 b).2.1 := by decide +kernel
theorem tyJ0_ok : ∀ k, k < 0 → parseFieldDescriptor (TJ0 k).2.2.1 = some (tyJ0 k) := by decide +kernel
abbrev cJ0_length_8abf5 : ByteArray := prog_19_method_54_code
def yJ0_length_8abf5 : MethodName := ⟨RJ0, "length", "()I"⟩
abbrev cJ0_charAt_5068e : ByteArray := prog_19_method_56_code
def yJ0_charAt_5068e : MethodName := ⟨RJ0, "charAt", "(I)C"⟩
abbrev cJ0_coder_7d493 : ByteArray := prog_19_method_152_code
def yJ0_coder_7d493 : MethodName := ⟨RJ0, "coder", "()B"⟩
abbrev cJ0_isLatin1_aae02 : ByteArray := prog_19_method_154_code
def yJ0_isLatin1_aae02 : MethodName := ⟨RJ0, "isLatin1", "()Z"⟩
abbrev cJ0_checkIndex_df160 : ByteArray := prog_19_method_155_code
def yJ0_checkIndex_df160 : MethodName := ⟨RJ0, "checkIndex", "(II)V"⟩
def RJ1 : String := "java/lang/StringLatin1"
def TJ1 : u_T := fun k => match k with
  | _ => ("", "", "", false)
def tyJ1 : Nat → FieldType := fun k => match k with
  | _ => .int
abbrev wsJ10 : List Cond := u_ws RJ1 TJ1 0
theorem nmJ1 : ∀ a, a < 0 → ∀ b, b < 0 → a ≠ b → (TJ1 a).2.1 ≠ (TJ1 b).2.1 := by decide +kernel
theorem tyJ1_ok : ∀ k, k < 0 → parseFieldDescriptor (TJ1 k).2.2.1 = some (tyJ1 k) := by decide +kernel
abbrev cJ1_charAt_3b067 : ByteArray := prog_20_method_2_code
def yJ1_charAt_3b067 : MethodName := ⟨RJ1, "charAt", "([BI)C"⟩
def RJ2 : String := "java/lang/StringUTF16"
def TJ2 : u_T := fun k => match k with
  | _ => ("", "", "", false)
def tyJ2 : Nat → FieldType := fun k => match k with
  | _ => .int
abbrev wsJ20 : List Cond := u_ws RJ2 TJ2 0
theorem nmJ2 : ∀ a, a < 0 → ∀ b, b < 0 → a ≠ b → (TJ2 a).2.1 ≠ (TJ2 b).2.1 := by decide +kernel
theorem tyJ2_ok : ∀ k, k < 0 → parseFieldDescriptor (TJ2 k).2.2.1 = some (tyJ2 k) := by decide +kernel
abbrev cJ2_getChar_3b067 : ByteArray := prog_21_method_5_code
def yJ2_getChar_3b067 : MethodName := ⟨RJ2, "getChar", "([BI)C"⟩
abbrev cJ2_length_9d52b : ByteArray := prog_21_method_6_code
def yJ2_length_9d52b : MethodName := ⟨RJ2, "length", "([B)I"⟩
abbrev cJ2_charAt_3b067 : ByteArray := prog_21_method_83_code
def yJ2_charAt_3b067 : MethodName := ⟨RJ2, "charAt", "([BI)C"⟩
abbrev cJ2_checkIndex_2214a : ByteArray := prog_21_method_91_code
def yJ2_checkIndex_2214a : MethodName := ⟨RJ2, "checkIndex", "(I[B)V"⟩
def RJ10 : String := "java/lang/System"
def TJ10 : u_T := fun k => match k with
  | _ => ("", "", "", false)
def tyJ10 : Nat → FieldType := fun k => match k with
  | _ => .int
abbrev wsJ100 : List Cond := u_ws RJ10 TJ10 0
theorem nmJ10 : ∀ a, a < 0 → ∀ b, b < 0 → a ≠ b → (TJ10 a).2.1 ≠ (TJ10 b).2.1 := by decide +kernel
theorem tyJ10_ok : ∀ k, k < 0 → parseFieldDescriptor (TJ10 k).2.2.1 = some (tyJ10 k) := by decide +kernel
def RJxa1e45 : String := "java/util/AbstractCollection"
def TJxa1e45 : u_T := fun k => match k with
  | _ => ("", "", "", false)
def tyJxa1e45 : Nat → FieldType := fun k => match k with
  | _ => .int
abbrev wsJxa1e450 : List Cond := u_ws RJxa1e45 TJxa1e45 0
theorem nmJxa1e45 : ∀ a, a < 0 → ∀ b, b < 0 → a ≠ b → (TJxa1e45 a).2.1 ≠ (TJxa1e45 b).2.1 := by decide +kernel
theorem tyJxa1e45_ok : ∀ k, k < 0 → parseFieldDescriptor (TJxa1e45 k).2.2.1 = some (tyJxa1e45 k) := by decide +kernel
abbrev cJxa1e45_init_da8c8 : ByteArray := prog_24_method_1_code
def yJxa1e45_init_da8c8 : MethodName := ⟨RJxa1e45, "<init>", "()V"⟩
def RJxc12de : String := "java/util/AbstractList"
def TJxc12de : u_T := fun k => match k with
  | _ => ("", "", "", false)
def tyJxc12de : Nat → FieldType := fun k => match k with
  | _ => .int
abbrev wsJxc12de0 : List Cond := u_ws RJxc12de TJxc12de 0
theorem nmJxc12de : ∀ a, a < 0 → ∀ b, b < 0 → a ≠ b → (TJxc12de a).2.1 ≠ (TJxc12de b).2.1 := by decide +kernel
theorem tyJxc12de_ok : ∀ k, k < 0 → parseFieldDescriptor (TJxc12de k).2.2.1 = some (tyJxc12de k) := by decide +kernel
abbrev cJxc12de_init_da8c8 : ByteArray := prog_25_method_1_code
def yJxc12de_init_da8c8 : MethodName := ⟨RJxc12de, "<init>", "()V"⟩
def RJx4a65c : String := "java/util/ArrayList"
def TJx4a65c : u_T := fun k => match k with
  | 0 => ("java/util/AbstractList", "modCount", "I", false)
  | 1 => ("java/util/ArrayList", "elementData", "[Ljava/lang/Object;", false)
  | _ => ("java/util/ArrayList", "size", "I", false)
def tyJx4a65c : Nat → FieldType := fun k => match k with
  | 0 => .int
  | 1 => .array (.object "java/lang/Object")
  | _ => .int
abbrev wsJx4a65c0 : List Cond := u_ws RJx4a65c TJx4a65c 3
theorem nmJx4a65c : ∀ a, a < 3 → ∀ b, b < 3 → a ≠ b → (TJx4a65c a).2.1 ≠ (TJx4a65c b).2.1 := by decide +kernel
theorem tyJx4a65c_ok : ∀ k, k < 3 → parseFieldDescriptor (TJx4a65c k).2.2.1 = some (tyJx4a65c k) := by decide +kernel
abbrev cJx4a65c_init_da8c8 : ByteArray := prog_26_method_2_code
def yJx4a65c_init_da8c8 : MethodName := ⟨RJx4a65c, "<init>", "()V"⟩
abbrev cJx4a65c_grow_92f84 : ByteArray := prog_26_method_6_code
def yJx4a65c_grow_92f84 : MethodName := ⟨RJx4a65c, "grow", "(I)[Ljava/lang/Object;"⟩
abbrev cJx4a65c_grow_d5877 : ByteArray := prog_26_method_7_code
def yJx4a65c_grow_d5877 : MethodName := ⟨RJx4a65c, "grow", "()[Ljava/lang/Object;"⟩
abbrev cJx4a65c_size_8abf5 : ByteArray := prog_26_method_8_code
def yJx4a65c_size_8abf5 : MethodName := ⟨RJx4a65c, "size", "()I"⟩
abbrev cJx4a65c_elementData_915e3 : ByteArray := prog_26_method_18_code
def yJx4a65c_elementData_915e3 : MethodName := ⟨RJx4a65c, "elementData", "(I)Ljava/lang/Object;"⟩
abbrev cJx4a65c_get_915e3 : ByteArray := prog_26_method_20_code
def yJx4a65c_get_915e3 : MethodName := ⟨RJx4a65c, "get", "(I)Ljava/lang/Object;"⟩
abbrev cJx4a65c_add_72be8 : ByteArray := prog_26_method_24_code
def yJx4a65c_add_72be8 : MethodName := ⟨RJx4a65c, "add", "(Ljava/lang/Object;[Ljava/lang/Object;I)V"⟩
abbrev cJx4a65c_add_9ea2d : ByteArray := prog_26_method_25_code
def yJx4a65c_add_9ea2d : MethodName := ⟨RJx4a65c, "add", "(Ljava/lang/Object;)Z"⟩
def RJ7 : String := "java/util/Arrays"
def TJ7 : u_T := fun k => match k with
  | _ => ("", "", "", false)
def tyJ7 : Nat → FieldType := fun k => match k with
  | _ => .int
abbrev wsJ70 : List Cond := u_ws RJ7 TJ7 0
theorem nmJ7 : ∀ a, a < 0 → ∀ b, b < 0 → a ≠ b → (TJ7 a).2.1 ≠ (TJ7 b).2.1 := by decide +kernel
theorem tyJ7_ok : ∀ k, k < 0 → parseFieldDescriptor (TJ7 k).2.2.1 = some (tyJ7 k) := by decide +kernel
abbrev cJ7_copyOf_1904c : ByteArray := prog_27_method_119_code
def yJ7_copyOf_1904c : MethodName := ⟨RJ7, "copyOf", "([Ljava/lang/Object;I)[Ljava/lang/Object;"⟩
abbrev cJ7_copyOf_6403c : ByteArray := prog_27_method_120_code
def yJ7_copyOf_6403c : MethodName := ⟨RJ7, "copyOf", "([Ljava/lang/Object;ILjava/lang/Class;)[Ljava/lang/Object;"⟩
def RJx5ef63 : String := "java/util/Collection"
def TJx5ef63 : u_T := fun k => match k with
  | _ => ("", "", "", false)
def tyJx5ef63 : Nat → FieldType := fun k => match k with
  | _ => .int
abbrev wsJx5ef630 : List Cond := u_ws RJx5ef63 TJx5ef63 0
theorem nmJx5ef63 : ∀ a, a < 0 → ∀ b, b < 0 → a ≠ b → (TJx5ef63 a).2.1 ≠ (TJx5ef63 b).2.1 := by decide +kernel
theorem tyJx5ef63_ok : ∀ k, k < 0 → parseFieldDescriptor (TJx5ef63 k).2.2.1 = some (tyJx5ef63 k) := by decide +kernel
def RJxbd725 : String := "java/util/List"
def TJxbd725 : u_T := fun k => match k with
  | _ => ("", "", "", false)
def tyJxbd725 : Nat → FieldType := fun k => match k with
  | _ => .int
abbrev wsJxbd7250 : List Cond := u_ws RJxbd725 TJxbd725 0
theorem nmJxbd725 : ∀ a, a < 0 → ∀ b, b < 0 → a ≠ b → (TJxbd725 a).2.1 ≠ (TJxbd725 b).2.1 := by decide +kernel
theorem tyJxbd725_ok : ∀ k, k < 0 → parseFieldDescriptor (TJxbd725 k).2.2.1 = some (tyJxbd725 k) := by decide +kernel
def RJ15 : String := "java/util/Objects"
def TJ15 : u_T := fun k => match k with
  | _ => ("", "", "", false)
def tyJ15 : Nat → FieldType := fun k => match k with
  | _ => .int
abbrev wsJ150 : List Cond := u_ws RJ15 TJ15 0
theorem nmJ15 : ∀ a, a < 0 → ∀ b, b < 0 → a ≠ b → (TJ15 a).2.1 ≠ (TJ15 b).2.1 := by decide +kernel
theorem tyJ15_ok : ∀ k, k < 0 → parseFieldDescriptor (TJ15 k).2.2.1 = some (tyJ15 k) := by decide +kernel
abbrev cJ15_checkIndex_7cf53 : ByteArray := prog_31_method_17_code
def yJ15_checkIndex_7cf53 : MethodName := ⟨RJ15, "checkIndex", "(II)I"⟩
def RJxf0a74 : String := "java/util/RandomAccess"
def TJxf0a74 : u_T := fun k => match k with
  | _ => ("", "", "", false)
def tyJxf0a74 : Nat → FieldType := fun k => match k with
  | _ => .int
abbrev wsJxf0a740 : List Cond := u_ws RJxf0a74 TJxf0a74 0
theorem nmJxf0a74 : ∀ a, a < 0 → ∀ b, b < 0 → a ≠ b → (TJxf0a74 a).2.1 ≠ (TJxf0a74 b).2.1 := by decide +kernel
theorem tyJxf0a74_ok : ∀ k, k < 0 → parseFieldDescriptor (TJxf0a74 k).2.2.1 = some (tyJxf0a74 k) := by decide +kernel
def RJxa66e6 : String := "java/util/SequencedCollection"
def TJxa66e6 : u_T := fun k => match k with
  | _ => ("", "", "", false)
def tyJxa66e6 : Nat → FieldType := fun k => match k with
  | _ => .int
abbrev wsJxa66e60 : List Cond := u_ws RJxa66e6 TJxa66e6 0
theorem nmJxa66e6 : ∀ a, a < 0 → ∀ b, b < 0 → a ≠ b → (TJxa66e6 a).2.1 ≠ (TJxa66e6 b).2.1 := by decide +kernel
theorem tyJxa66e6_ok : ∀ k, k < 0 → parseFieldDescriptor (TJxa66e6 k).2.2.1 = some (tyJxa66e6 k) := by decide +kernel
def RJ8 : String := "jdk/internal/util/ArraysSupport"
def TJ8 : u_T := fun k => match k with
  | _ => ("", "", "", false)
def tyJ8 : Nat → FieldType := fun k => match k with
  | _ => .int
abbrev wsJ80 : List Cond := u_ws RJ8 TJ8 0
theorem nmJ8 : ∀ a, a < 0 → ∀ b, b < 0 → a ≠ b → (TJ8 a).2.1 ≠ (TJ8 b).2.1 := by decide +kernel
theorem tyJ8_ok : ∀ k, k < 0 → parseFieldDescriptor (TJ8 k).2.2.1 = some (tyJ8 k) := by decide +kernel
abbrev cJ8_newLength_cabcc : ByteArray := prog_34_method_27_code
def yJ8_newLength_cabcc : MethodName := ⟨RJ8, "newLength", "(III)I"⟩
abbrev cJ8_hugeLength_7cf53 : ByteArray := prog_34_method_28_code
def yJ8_hugeLength_7cf53 : MethodName := ⟨RJ8, "hugeLength", "(II)I"⟩
def RJ3 : String := "jdk/internal/util/Preconditions"
def TJ3 : u_T := fun k => match k with
  | _ => ("", "", "", false)
def tyJ3 : Nat → FieldType := fun k => match k with
  | _ => .int
abbrev wsJ30 : List Cond := u_ws RJ3 TJ3 0
theorem nmJ3 : ∀ a, a < 0 → ∀ b, b < 0 → a ≠ b → (TJ3 a).2.1 ≠ (TJ3 b).2.1 := by decide +kernel
theorem tyJ3_ok : ∀ k, k < 0 → parseFieldDescriptor (TJ3 k).2.2.1 = some (tyJ3 k) := by decide +kernel
abbrev cJ3_checkIndex_8e157 : ByteArray := prog_35_method_11_code
def yJ3_checkIndex_8e157 : MethodName := ⟨RJ3, "checkIndex", "(IILjava/util/function/BiFunction;)I"⟩
def RL : String := "LoanChestLaw"
abbrev cL_loan : ByteArray := method_3_code
def yL_loan : MethodName := ⟨RL, "loan", "(LLoanChest;II[J)I"⟩
abbrev cL_surety : ByteArray := method_4_code
def yL_surety : MethodName := ⟨RL, "surety", "(LLoanChest;II[J)I"⟩
abbrev cL_taken : ByteArray := method_5_code
def yL_taken : MethodName := ⟨RL, "taken", "(LLoanChest;II[J)I"⟩
abbrev cL_about : ByteArray := method_6_code
def yL_about : MethodName := ⟨RL, "about", "(LLoanChest;II[J)I"⟩
abbrev cL_law : ByteArray := code
def yL_law : MethodName := ⟨RL, "law", "([I)Z"⟩
abbrev vwCl : List vw_C := [(RJx4a65c, TJx4a65c, 3), (RX0, TX0, 4), (RX1, TX1, 6), (RX3, TX3, 3), (RX4, TX4, 18), (RX5, TX5, 6), (RX6, TX6, 1), (RX7, TX7, 2), (RX8, TX8, 8), (RX9, TX9, 48)]
end
section
theorem wd_1_0 : Cond.initialized "LoanChestLaw" ∈ BW := bw_1 0 rfl rfl
theorem wd_1_1 : Cond.initialized "LoanChest" ∈ BW := bw_1 1 rfl rfl
theorem wd_1_2 : Cond.initialized "LoanChest$Tape" ∈ BW := bw_1 2 rfl rfl
theorem wd_1_3 : Cond.initialized "LoanChest$RuleReader" ∈ BW := bw_1 3 rfl rfl
theorem wd_1_4 : Cond.initialized "LoanChest$Rules" ∈ BW := bw_1 4 rfl rfl
theorem wd_1_5 : Cond.initialized "LoanChest$Funds" ∈ BW := bw_1 5 rfl rfl
theorem wd_1_6 : Cond.initialized "LoanChest$Ledger" ∈ BW := bw_1 6 rfl rfl
theorem wd_1_7 : Cond.initialized "java/util/AbstractCollection" ∈ BW := bw_1 7 rfl rfl
theorem wd_1_8 : Cond.initialized "java/util/AbstractList" ∈ BW := bw_1 8 rfl rfl
theorem wd_1_9 : Cond.initialized "java/util/ArrayList" ∈ BW := bw_1 9 rfl rfl
theorem wd_1_10 : Cond.initialized "LoanChestModel" ∈ BW := bw_1 10 rfl rfl
theorem wd_1_11 : Cond.initialized "java/lang/Math" ∈ BW := bw_1 11 rfl rfl
theorem wd_1_12 : Cond.initialized "java/lang/String" ∈ BW := bw_1 12 rfl rfl
theorem wd_1_13 : Cond.initialized "java/lang/StringLatin1" ∈ BW := bw_1 13 rfl rfl
theorem wd_1_14 : Cond.initialized "jdk/internal/util/Preconditions" ∈ BW := bw_1 14 rfl rfl
theorem wd_1_15 : Cond.initialized "java/lang/StringUTF16" ∈ BW := bw_1 15 rfl rfl
theorem wd_1_16 : Cond.initialized "java/lang/Enum" ∈ BW := bw_1 16 rfl rfl
theorem wd_1_17 : Cond.initialized "LoanChest$Kind" ∈ BW := bw_1 17 rfl rfl
theorem wd_1_18 : Cond.initialized "java/util/Objects" ∈ BW := bw_1 18 rfl rfl
theorem wd_1_19 : Cond.initialized "LoanChest$Loan" ∈ BW := bw_1 19 rfl rfl
theorem wd_1_20 : Cond.initialized "java/lang/System" ∈ BW := bw_1 20 rfl rfl
theorem wd_1_21 : Cond.initialized "jdk/internal/util/ArraysSupport" ∈ BW := bw_1 21 rfl rfl
theorem wd_1_22 : Cond.initialized "java/util/Arrays" ∈ BW := bw_1 22 rfl rfl
theorem wd_1_23 : Cond.initialized "LoanChest$Call" ∈ BW := bw_1 23 rfl rfl
theorem wd_1_24 : Cond.initialized "java/lang/Throwable" ∈ BW := bw_1 24 rfl rfl
theorem wd_1_25 : Cond.initialized "java/lang/Exception" ∈ BW := bw_1 25 rfl rfl
theorem wd_1_26 : Cond.initialized "java/lang/RuntimeException" ∈ BW := bw_1 26 rfl rfl
theorem wd_1_27 : Cond.initialized "java/util/NoSuchElementException" ∈ BW := bw_1 27 rfl rfl
theorem wd_1_28 : Cond.classLink "LoanChestLaw" 8 "LoanChest" ∈ BW := bw_1 28 rfl rfl
theorem wd_1_29 : Cond.instantiable "LoanChest" 8 ∈ BW := bw_1 29 rfl rfl
theorem wd_1_30 : Cond.methodLink "LoanChestLaw" 24 yX8_init ∈ BW := bw_1 30 rfl rfl
theorem wd_1_31 : Cond.instanceMethod yX8_init ∈ BW := bw_1 31 rfl rfl
theorem wd_1_32 : Cond.code yX8_init prog_1_method_1_code 1 none ∈ BW := bw_1 32 rfl rfl
theorem wd_1_33 : Cond.methodLink "LoanChest" 1 (⟨"java/lang/Object", "<init>", "()V"⟩ : MethodName) ∈ BW := bw_1 33 rfl rfl
theorem wd_1_34 : Cond.instanceMethod (⟨"java/lang/Object", "<init>", "()V"⟩ : MethodName) ∈ BW := bw_1 34 rfl rfl
theorem wd_1_35 : Cond.code (⟨"java/lang/Object", "<init>", "()V"⟩ : MethodName) object_method_1_code 1 none ∈ BW := bw_1 35 rfl rfl
theorem wd_1_36 : Cond.classLink "LoanChest" 7 "LoanChest$Tape" ∈ BW := bw_1 36 rfl rfl
theorem wd_1_37 : Cond.instantiable "LoanChest$Tape" 2 ∈ BW := bw_1 37 rfl rfl
theorem wd_1_38 : Cond.methodLinkNest "LoanChest" 9 yX7_init "LoanChest" ∈ lw_tbl := List.mem_append_right _ (List.mem_append_left _ (List.mem_of_getElem? (i := 38) rfl))
theorem wd_1_39 : Cond.instanceMethod yX7_init ∈ BW := bw_1 39 rfl rfl
theorem wd_1_40 : Cond.code yX7_init prog_9_method_1_code 1 none ∈ BW := bw_1 40 rfl rfl
theorem wd_1_41 : Cond.methodLink "LoanChest$Tape" 3 (⟨"java/lang/Object", "<init>", "()V"⟩ : MethodName) ∈ BW := bw_1 41 rfl rfl
theorem wd_1_42 : Cond.fieldLink "LoanChest$Tape" 11 "LoanChest$Tape" "bytes" "[I" ∈ BW := bw_1 42 rfl rfl
theorem wd_1_43 : Cond.fieldLink "LoanChest$Tape" 15 "LoanChest$Tape" "length" "I" ∈ BW := bw_1 43 rfl rfl
theorem wd_1_44 : Cond.laysFinal "LoanChest$Tape" "LoanChest$Tape" "bytes" "[I" ∈ BW := bw_1 44 rfl rfl
theorem wd_1_46 : Cond.lays "LoanChest$Tape" "LoanChest$Tape" "length" "I" ∈ BW := bw_1 46 rfl rfl
theorem wd_1_49 : Cond.arrayClass .int ∈ BW := bw_1 49 rfl rfl
theorem wd_1_50 : Cond.classLink "LoanChest" 16 "LoanChest$RuleReader" ∈ BW := bw_1 50 rfl rfl
theorem wd_1_51 : Cond.instantiable "LoanChest$RuleReader" 6 ∈ BW := bw_1 51 rfl rfl
theorem wd_1_52 : Cond.methodLinkNest "LoanChest" 18 yX5_init "LoanChest" ∈ lw_tbl := List.mem_append_right _ (List.mem_append_left _ (List.mem_of_getElem? (i := 52) rfl))
theorem wd_1_53 : Cond.instanceMethod yX5_init ∈ BW := bw_1 53 rfl rfl
theorem wd_1_54 : Cond.code yX5_init prog_7_method_1_code 1 none ∈ BW := bw_1 54 rfl rfl
theorem wd_1_55 : Cond.methodLink "LoanChest$RuleReader" 1 (⟨"java/lang/Object", "<init>", "()V"⟩ : MethodName) ∈ BW := bw_1 55 rfl rfl
theorem wd_1_56 : Cond.fieldLinkNest "LoanChest$RuleReader" 7 "LoanChest" "KINDS" "[LLoanChest$Kind;" "LoanChest" ∈ lw_tbl := List.mem_append_right _ (List.mem_append_left _ (List.mem_of_getElem? (i := 56) rfl))
theorem wd_1_57 : Cond.laysStatic "LoanChest" "KINDS" "[LLoanChest$Kind;" ∈ lw_tbl := List.mem_append_right _ (List.mem_append_left _ (List.mem_of_getElem? (i := 57) rfl))
theorem wd_1_58 : Cond.fieldLink "LoanChest$RuleReader" 13 "LoanChest$RuleReader" "read" "[I" ∈ BW := bw_1 58 rfl rfl
theorem wd_1_59 : Cond.fieldLink "LoanChest$RuleReader" 19 "LoanChest$RuleReader" "met" "[Z" ∈ BW := bw_1 59 rfl rfl
theorem wd_1_60 : Cond.fieldLink "LoanChest$RuleReader" 23 "LoanChest$RuleReader" "form" "I" ∈ BW := bw_1 60 rfl rfl
theorem wd_1_61 : Cond.fieldLink "LoanChest$RuleReader" 27 "LoanChest$RuleReader" "start" "I" ∈ BW := bw_1 61 rfl rfl
theorem wd_1_62 : Cond.fieldLink "LoanChest$RuleReader" 30 "LoanChest$RuleReader" "behind" "I" ∈ BW := bw_1 62 rfl rfl
theorem wd_1_63 : Cond.fieldLink "LoanChest$RuleReader" 33 "LoanChest$RuleReader" "faultKind" "I" ∈ BW := bw_1 63 rfl rfl
theorem wd_1_64 : Cond.laysFinal "LoanChest$RuleReader" "LoanChest$RuleReader" "read" "[I" ∈ BW := bw_1 64 rfl rfl
theorem wd_1_66 : Cond.laysFinal "LoanChest$RuleReader" "LoanChest$RuleReader" "met" "[Z" ∈ BW := bw_1 66 rfl rfl
theorem wd_1_68 : Cond.lays "LoanChest$RuleReader" "LoanChest$RuleReader" "form" "I" ∈ BW := bw_1 68 rfl rfl
theorem wd_1_70 : Cond.lays "LoanChest$RuleReader" "LoanChest$RuleReader" "start" "I" ∈ BW := bw_1 70 rfl rfl
theorem wd_1_72 : Cond.lays "LoanChest$RuleReader" "LoanChest$RuleReader" "behind" "I" ∈ BW := bw_1 72 rfl rfl
theorem wd_1_74 : Cond.lays "LoanChest$RuleReader" "LoanChest$RuleReader" "faultKind" "I" ∈ BW := bw_1 74 rfl rfl
theorem wd_1_77 : Cond.arrayClass .boolean ∈ BW := bw_1 77 rfl rfl
theorem wd_1_78 : Cond.classLink "LoanChest" 23 "LoanChest$Rules" ∈ BW := bw_1 78 rfl rfl
theorem wd_1_79 : Cond.instantiable "LoanChest$Rules" 1 ∈ BW := bw_1 79 rfl rfl
theorem wd_1_80 : Cond.methodLink "LoanChest" 25 yX6_init ∈ BW := bw_1 80 rfl rfl
theorem wd_1_81 : Cond.instanceMethod yX6_init ∈ BW := bw_1 81 rfl rfl
theorem wd_1_82 : Cond.code yX6_init prog_8_method_1_code 2 none ∈ BW := bw_1 82 rfl rfl
theorem wd_1_83 : Cond.methodLink "LoanChest$Rules" 1 (⟨"java/lang/Object", "<init>", "()V"⟩ : MethodName) ∈ BW := bw_1 83 rfl rfl
theorem wd_1_84 : Cond.fieldLinkNest "LoanChest$Rules" 7 "LoanChest" "KINDS" "[LLoanChest$Kind;" "LoanChest" ∈ lw_tbl := List.mem_append_right _ (List.mem_append_left _ (List.mem_of_getElem? (i := 84) rfl))
theorem wd_1_85 : Cond.fieldLink "LoanChest$Rules" 13 "LoanChest$Rules" "values" "[I" ∈ BW := bw_1 85 rfl rfl
theorem wd_1_86 : Cond.laysFinal "LoanChest$Rules" "LoanChest$Rules" "values" "[I" ∈ BW := bw_1 86 rfl rfl
theorem wd_1_89 : Cond.classLink "LoanChest" 30 "LoanChest$Funds" ∈ BW := bw_1 89 rfl rfl
theorem wd_1_90 : Cond.instantiable "LoanChest$Funds" 6 ∈ BW := bw_1 90 rfl rfl
theorem wd_1_91 : Cond.methodLinkNest "LoanChest" 32 yX1_init "LoanChest" ∈ lw_tbl := List.mem_append_right _ (List.mem_append_left _ (List.mem_of_getElem? (i := 91) rfl))
theorem wd_1_92 : Cond.instanceMethod yX1_init ∈ BW := bw_1 92 rfl rfl
theorem wd_1_93 : Cond.code yX1_init prog_3_method_1_code 1 none ∈ BW := bw_1 93 rfl rfl
theorem wd_1_94 : Cond.methodLink "LoanChest$Funds" 3 (⟨"java/lang/Object", "<init>", "()V"⟩ : MethodName) ∈ BW := bw_1 94 rfl rfl
theorem wd_1_95 : Cond.fieldLink "LoanChest$Funds" 9 "LoanChest$Funds" "pence" "[I" ∈ BW := bw_1 95 rfl rfl
theorem wd_1_96 : Cond.fieldLink "LoanChest$Funds" 15 "LoanChest$Funds" "tagOf" "[I" ∈ BW := bw_1 96 rfl rfl
theorem wd_1_97 : Cond.fieldLink "LoanChest$Funds" 18 "LoanChest$Funds" "madeIn" "[I" ∈ BW := bw_1 97 rfl rfl
theorem wd_1_98 : Cond.fieldLink "LoanChest$Funds" 21 "LoanChest$Funds" "book" "[I" ∈ BW := bw_1 98 rfl rfl
theorem wd_1_99 : Cond.fieldLink "LoanChest$Funds" 24 "LoanChest$Funds" "made" "I" ∈ BW := bw_1 99 rfl rfl
theorem wd_1_100 : Cond.fieldLink "LoanChest$Funds" 28 "LoanChest$Funds" "given" "I" ∈ BW := bw_1 100 rfl rfl
theorem wd_1_101 : Cond.laysFinal "LoanChest$Funds" "LoanChest$Funds" "pence" "[I" ∈ BW := bw_1 101 rfl rfl
theorem wd_1_103 : Cond.laysFinal "LoanChest$Funds" "LoanChest$Funds" "tagOf" "[I" ∈ BW := bw_1 103 rfl rfl
theorem wd_1_105 : Cond.laysFinal "LoanChest$Funds" "LoanChest$Funds" "madeIn" "[I" ∈ BW := bw_1 105 rfl rfl
theorem wd_1_107 : Cond.laysFinal "LoanChest$Funds" "LoanChest$Funds" "book" "[I" ∈ BW := bw_1 107 rfl rfl
theorem wd_1_109 : Cond.lays "LoanChest$Funds" "LoanChest$Funds" "made" "I" ∈ BW := bw_1 109 rfl rfl
theorem wd_1_111 : Cond.lays "LoanChest$Funds" "LoanChest$Funds" "given" "I" ∈ BW := bw_1 111 rfl rfl
theorem wd_1_114 : Cond.classLink "LoanChest" 37 "LoanChest$Ledger" ∈ BW := bw_1 114 rfl rfl
theorem wd_1_115 : Cond.instantiable "LoanChest$Ledger" 3 ∈ BW := bw_1 115 rfl rfl
theorem wd_1_116 : Cond.methodLinkNest "LoanChest" 39 yX3_init "LoanChest" ∈ lw_tbl := List.mem_append_right _ (List.mem_append_left _ (List.mem_of_getElem? (i := 116) rfl))
theorem wd_1_117 : Cond.instanceMethod yX3_init ∈ BW := bw_1 117 rfl rfl
theorem wd_1_118 : Cond.code yX3_init prog_5_method_1_code 1 none ∈ BW := bw_1 118 rfl rfl
theorem wd_1_119 : Cond.methodLink "LoanChest$Ledger" 3 (⟨"java/lang/Object", "<init>", "()V"⟩ : MethodName) ∈ BW := bw_1 119 rfl rfl
theorem wd_1_120 : Cond.classLink "LoanChest$Ledger" 9 "java/util/ArrayList" ∈ BW := bw_1 120 rfl rfl
theorem wd_1_121 : Cond.instantiable "java/util/ArrayList" 3 ∈ BW := bw_1 121 rfl rfl
theorem wd_1_122 : Cond.methodLink "LoanChest$Ledger" 11 yJx4a65c_init_da8c8 ∈ BW := bw_1 122 rfl rfl
theorem wd_1_123 : Cond.instanceMethod yJx4a65c_init_da8c8 ∈ BW := bw_1 123 rfl rfl
theorem wd_1_124 : Cond.code yJx4a65c_init_da8c8 prog_26_method_2_code 1 none ∈ BW := bw_1 124 rfl rfl
theorem wd_1_125 : Cond.methodLink "java/util/ArrayList" 1 yJxc12de_init_da8c8 ∈ BW := bw_1 125 rfl rfl
theorem wd_1_126 : Cond.instanceMethod yJxc12de_init_da8c8 ∈ BW := bw_1 126 rfl rfl
theorem wd_1_127 : Cond.code yJxc12de_init_da8c8 prog_25_method_1_code 1 none ∈ BW := bw_1 127 rfl rfl
theorem wd_1_128 : Cond.methodLink "java/util/AbstractList" 1 yJxa1e45_init_da8c8 ∈ BW := bw_1 128 rfl rfl
theorem wd_1_129 : Cond.instanceMethod yJxa1e45_init_da8c8 ∈ BW := bw_1 129 rfl rfl
theorem wd_1_130 : Cond.code yJxa1e45_init_da8c8 prog_24_method_1_code 1 none ∈ BW := bw_1 130 rfl rfl
theorem wd_1_131 : Cond.methodLink "java/util/AbstractCollection" 1 (⟨"java/lang/Object", "<init>", "()V"⟩ : MethodName) ∈ BW := bw_1 131 rfl rfl
theorem wd_1_132 : Cond.fieldLink "java/util/ArrayList" 39 "java/util/ArrayList" "DEFAULTCAPACITY_EMPTY_ELEMENTDATA" "[Ljava/lang/Object;" ∈ BW := bw_1 132 rfl rfl
theorem wd_1_133 : Cond.laysStatic "java/util/ArrayList" "DEFAULTCAPACITY_EMPTY_ELEMENTDATA" "[Ljava/lang/Object;" ∈ lw_tbl := List.mem_append_right _ (List.mem_append_left _ (List.mem_of_getElem? (i := 133) rfl))
theorem wd_1_134 : Cond.fieldLink "java/util/ArrayList" 9 "java/util/ArrayList" "elementData" "[Ljava/lang/Object;" ∈ BW := bw_1 134 rfl rfl
theorem wd_1_135 : Cond.fieldLink "java/util/ArrayList" 48 "java/util/ArrayList" "size" "I" ∈ BW := bw_1 135 rfl rfl
theorem wd_1_136 : Cond.fieldLink "java/util/AbstractList" 7 "java/util/AbstractList" "modCount" "I" ∈ BW := bw_1 136 rfl rfl
theorem wd_1_137 : Cond.fieldLink "java/util/ArrayList" 63 "java/util/ArrayList" "modCount" "I" ∈ BW := bw_1 137 rfl rfl
theorem wd_1_138 : Cond.sameField "java/util/ArrayList" "java/util/AbstractList" "modCount" "I" ∈ BW := bw_1 138 rfl rfl
theorem wd_1_139 : Cond.lays "java/util/ArrayList" "java/util/ArrayList" "elementData" "[Ljava/lang/Object;" ∈ BW := bw_1 139 rfl rfl
theorem wd_1_141 : Cond.lays "java/util/ArrayList" "java/util/ArrayList" "size" "I" ∈ BW := bw_1 141 rfl rfl
theorem wd_1_143 : Cond.lays "java/util/ArrayList" "java/util/AbstractList" "modCount" "I" ∈ BW := bw_1 143 rfl rfl
theorem wd_1_146 : Cond.fieldLink "LoanChest$Ledger" 12 "LoanChest$Ledger" "loans" "Ljava/util/ArrayList;" ∈ BW := bw_1 146 rfl rfl
theorem wd_1_147 : Cond.fieldLink "LoanChest$Ledger" 18 "LoanChest$Ledger" "calls" "Ljava/util/ArrayList;" ∈ BW := bw_1 147 rfl rfl
theorem wd_1_148 : Cond.fieldLink "LoanChest$Ledger" 21 "LoanChest$Ledger" "lost" "I" ∈ BW := bw_1 148 rfl rfl
theorem wd_1_149 : Cond.laysFinal "LoanChest$Ledger" "LoanChest$Ledger" "loans" "Ljava/util/ArrayList;" ∈ BW := bw_1 149 rfl rfl
theorem wd_1_151 : Cond.laysFinal "LoanChest$Ledger" "LoanChest$Ledger" "calls" "Ljava/util/ArrayList;" ∈ BW := bw_1 151 rfl rfl
theorem wd_1_153 : Cond.lays "LoanChest$Ledger" "LoanChest$Ledger" "lost" "I" ∈ BW := bw_1 153 rfl rfl
theorem wd_1_156 : Cond.fieldLink "LoanChest" 10 "LoanChest" "tape" "LLoanChest$Tape;" ∈ BW := bw_1 156 rfl rfl
theorem wd_1_157 : Cond.fieldLink "LoanChest" 19 "LoanChest" "reader" "LLoanChest$RuleReader;" ∈ BW := bw_1 157 rfl rfl
theorem wd_1_158 : Cond.fieldLink "LoanChest" 26 "LoanChest" "law" "LLoanChest$Rules;" ∈ BW := bw_1 158 rfl rfl
theorem wd_1_159 : Cond.fieldLink "LoanChest" 33 "LoanChest" "purse" "LLoanChest$Funds;" ∈ BW := bw_1 159 rfl rfl
theorem wd_1_160 : Cond.fieldLink "LoanChest" 40 "LoanChest" "ledger" "LLoanChest$Ledger;" ∈ BW := bw_1 160 rfl rfl
theorem wd_1_161 : Cond.fieldLink "LoanChest" 44 "LoanChest" "tagsOf" "[I" ∈ BW := bw_1 161 rfl rfl
theorem wd_1_162 : Cond.fieldLink "LoanChest" 48 "LoanChest" "people" "I" ∈ BW := bw_1 162 rfl rfl
theorem wd_1_163 : Cond.fieldLink "LoanChest" 52 "LoanChest" "week" "I" ∈ BW := bw_1 163 rfl rfl
theorem wd_1_164 : Cond.laysFinal "LoanChest" "LoanChest" "tape" "LLoanChest$Tape;" ∈ BW := bw_1 164 rfl rfl
theorem wd_1_166 : Cond.laysFinal "LoanChest" "LoanChest" "reader" "LLoanChest$RuleReader;" ∈ BW := bw_1 166 rfl rfl
theorem wd_1_168 : Cond.laysFinal "LoanChest" "LoanChest" "law" "LLoanChest$Rules;" ∈ BW := bw_1 168 rfl rfl
theorem wd_1_170 : Cond.laysFinal "LoanChest" "LoanChest" "purse" "LLoanChest$Funds;" ∈ BW := bw_1 170 rfl rfl
theorem wd_1_172 : Cond.laysFinal "LoanChest" "LoanChest" "ledger" "LLoanChest$Ledger;" ∈ BW := bw_1 172 rfl rfl
theorem wd_1_174 : Cond.laysFinal "LoanChest" "LoanChest" "tagsOf" "[I" ∈ BW := bw_1 174 rfl rfl
theorem wd_1_176 : Cond.lays "LoanChest" "LoanChest" "people" "I" ∈ BW := bw_1 176 rfl rfl
theorem wd_1_178 : Cond.lays "LoanChest" "LoanChest" "week" "I" ∈ BW := bw_1 178 rfl rfl
theorem wd_1_181 : Cond.methodLink "LoanChestLaw" 28 yX8_feed ∈ BW := bw_1 181 rfl rfl
theorem wd_1_182 : Cond.instanceMethod yX8_feed ∈ BW := bw_1 182 rfl rfl
theorem wd_1_183 : Cond.selects "LoanChest" yX8_feed yX8_feed ∈ BW := bw_1 183 rfl rfl
theorem wd_1_184 : Cond.code yX8_feed prog_1_method_2_code 6 (some .int) ∈ BW := bw_1 184 rfl rfl
theorem wd_1_185 : Cond.methodLink "LoanChest" 55 yX7_hasRoomForFive ∈ BW := bw_1 185 rfl rfl
theorem wd_1_186 : Cond.instanceMethod yX7_hasRoomForFive ∈ BW := bw_1 186 rfl rfl
theorem wd_1_187 : Cond.selects "LoanChest$Tape" yX7_hasRoomForFive yX7_hasRoomForFive ∈ BW := bw_1 187 rfl rfl
theorem wd_1_188 : Cond.code yX7_hasRoomForFive prog_9_method_3_code 1 (some .boolean) ∈ BW := bw_1 188 rfl rfl
theorem wd_1_189 : Cond.methodLink "LoanChest" 59 yX7_append ∈ BW := bw_1 189 rfl rfl
theorem wd_1_190 : Cond.instanceMethod yX7_append ∈ BW := bw_1 190 rfl rfl
theorem wd_1_191 : Cond.selects "LoanChest$Tape" yX7_append yX7_append ∈ BW := bw_1 191 rfl rfl
theorem wd_1_192 : Cond.code yX7_append prog_9_method_4_code 3 none ∈ BW := bw_1 192 rfl rfl
theorem wd_1_193 : Cond.methodLink "LoanChest" 63 yX7_length ∈ BW := bw_1 193 rfl rfl
theorem wd_1_194 : Cond.instanceMethod yX7_length ∈ BW := bw_1 194 rfl rfl
theorem wd_1_195 : Cond.selects "LoanChest$Tape" yX7_length yX7_length ∈ BW := bw_1 195 rfl rfl
theorem wd_1_196 : Cond.code yX7_length prog_9_method_2_code 1 (some .int) ∈ BW := bw_1 196 rfl rfl
theorem wd_1_197 : Cond.methodLink "LoanChestLaw" 33 yX8_end ∈ BW := bw_1 197 rfl rfl
theorem wd_1_198 : Cond.instanceMethod yX8_end ∈ BW := bw_1 198 rfl rfl
theorem wd_1_199 : Cond.selects "LoanChest" yX8_end yX8_end ∈ BW := bw_1 199 rfl rfl
theorem wd_1_200 : Cond.code yX8_end prog_1_method_3_code 2 (some .boolean) ∈ BW := bw_1 200 rfl rfl
theorem wd_1_201 : Cond.methodLink "LoanChest" 67 yX7_cutTo ∈ BW := bw_1 201 rfl rfl
theorem wd_1_202 : Cond.instanceMethod yX7_cutTo ∈ BW := bw_1 202 rfl rfl
theorem wd_1_203 : Cond.selects "LoanChest$Tape" yX7_cutTo yX7_cutTo ∈ BW := bw_1 203 rfl rfl
theorem wd_1_204 : Cond.code yX7_cutTo prog_9_method_5_code 2 (some .boolean) ∈ BW := bw_1 204 rfl rfl
theorem wd_1_205 : Cond.methodLink "LoanChestLaw" 38 yX8_rules ∈ BW := bw_1 205 rfl rfl
theorem wd_1_206 : Cond.instanceMethod yX8_rules ∈ BW := bw_1 206 rfl rfl
theorem wd_1_207 : Cond.selects "LoanChest" yX8_rules yX8_rules ∈ BW := bw_1 207 rfl rfl
theorem wd_1_208 : Cond.code yX8_rules prog_1_method_4_code 2 (some .int) ∈ BW := bw_1 208 rfl rfl
theorem wd_1_209 : Cond.methodLink "LoanChest" 71 yX5_readAll ∈ BW := bw_1 209 rfl rfl
theorem wd_1_210 : Cond.instanceMethod yX5_readAll ∈ BW := bw_1 210 rfl rfl
theorem wd_1_211 : Cond.selects "LoanChest$RuleReader" yX5_readAll yX5_readAll ∈ BW := bw_1 211 rfl rfl
theorem wd_1_212 : Cond.code yX5_readAll prog_7_method_4_code 3 (some .int) ∈ BW := bw_1 212 rfl rfl
theorem wd_1_213 : Cond.methodLink "LoanChest$RuleReader" 41 yX5_startAgain ∈ BW := bw_1 213 rfl rfl
theorem wd_1_215 : Cond.instanceMethod yX5_startAgain ∈ BW := bw_1 215 rfl rfl
theorem wd_1_216 : Cond.code yX5_startAgain prog_7_method_5_code 2 none ∈ BW := bw_1 216 rfl rfl
theorem wd_1_217 : Cond.methodLink "LoanChest$RuleReader" 44 yX5_step ∈ BW := bw_1 217 rfl rfl
theorem wd_1_219 : Cond.instanceMethod yX5_step ∈ BW := bw_1 219 rfl rfl
theorem wd_1_220 : Cond.code yX5_step prog_7_method_7_code 3 none ∈ BW := bw_1 220 rfl rfl
theorem wd_1_221 : Cond.methodLink "LoanChest$RuleReader" 68 yX7_length ∈ BW := bw_1 221 rfl rfl
theorem wd_1_222 : Cond.methodLink "LoanChest$RuleReader" 74 yJ9_min_7cf53 ∈ BW := bw_1 222 rfl rfl
theorem wd_1_223 : Cond.static yJ9_min_7cf53 ∈ BW := bw_1 223 rfl rfl
theorem wd_1_224 : Cond.code yJ9_min_7cf53 prog_17_method_69_code 2 (some .int) ∈ BW := bw_1 224 rfl rfl
theorem wd_1_225 : Cond.methodLink "LoanChest$RuleReader" 80 yX7_byteAt ∈ BW := bw_1 225 rfl rfl
theorem wd_1_226 : Cond.instanceMethod yX7_byteAt ∈ BW := bw_1 226 rfl rfl
theorem wd_1_227 : Cond.selects "LoanChest$Tape" yX7_byteAt yX7_byteAt ∈ BW := bw_1 227 rfl rfl
theorem wd_1_228 : Cond.code yX7_byteAt prog_9_method_6_code 2 (some .int) ∈ BW := bw_1 228 rfl rfl
theorem wd_1_229 : Cond.methodLink "LoanChest$RuleReader" 84 yX5_isBlank ∈ BW := bw_1 229 rfl rfl
theorem wd_1_230 : Cond.static yX5_isBlank ∈ BW := bw_1 230 rfl rfl
theorem wd_1_231 : Cond.code yX5_isBlank prog_7_method_12_code 1 (some .boolean) ∈ BW := bw_1 231 rfl rfl
theorem wd_1_232 : Cond.methodLink "LoanChest$RuleReader" 88 yX5_readToken ∈ BW := bw_1 232 rfl rfl
theorem wd_1_234 : Cond.instanceMethod yX5_readToken ∈ BW := bw_1 234 rfl rfl
theorem wd_1_235 : Cond.code yX5_readToken prog_7_method_8_code 4 none ∈ BW := bw_1 235 rfl rfl
theorem wd_1_236 : Cond.methodLink "LoanChest$RuleReader" 91 yX5_isLetterOrDigit ∈ BW := bw_1 236 rfl rfl
theorem wd_1_237 : Cond.static yX5_isLetterOrDigit ∈ BW := bw_1 237 rfl rfl
theorem wd_1_238 : Cond.code yX5_isLetterOrDigit prog_7_method_14_code 1 (some .boolean) ∈ BW := bw_1 238 rfl rfl
theorem wd_1_239 : Cond.methodLink "LoanChest$RuleReader" 94 yX5_isDigit ∈ BW := bw_1 239 rfl rfl
theorem wd_2_0 : Cond.static yX5_isDigit ∈ BW := bw_2 0 rfl rfl
theorem wd_2_1 : Cond.code yX5_isDigit prog_7_method_13_code 1 (some .boolean) ∈ BW := bw_2 1 rfl rfl
theorem wd_2_2 : Cond.methodLink "LoanChest$RuleReader" 48 yX5_faultOfRule ∈ BW := bw_2 2 rfl rfl
theorem wd_2_4 : Cond.instanceMethod yX5_faultOfRule ∈ BW := bw_2 4 rfl rfl
theorem wd_2_5 : Cond.code yX5_faultOfRule prog_7_method_6_code 4 (some .int) ∈ BW := bw_2 5 rfl rfl
theorem wd_2_6 : Cond.methodLink "LoanChest$RuleReader" 55 yX5_kindOfWord ∈ BW := bw_2 6 rfl rfl
theorem wd_2_8 : Cond.instanceMethod yX5_kindOfWord ∈ BW := bw_2 8 rfl rfl
theorem wd_2_9 : Cond.code yX5_kindOfWord prog_7_method_9_code 3 (some (.object "LoanChest$Kind")) ∈ BW := bw_2 9 rfl rfl
theorem wd_2_10 : Cond.methodLink "LoanChest$RuleReader" 101 yX5_isWordRead ∈ BW := bw_2 10 rfl rfl
theorem wd_2_12 : Cond.instanceMethod yX5_isWordRead ∈ BW := bw_2 12 rfl rfl
theorem wd_2_13 : Cond.code yX5_isWordRead prog_7_method_10_code 4 (some .boolean) ∈ BW := bw_2 13 rfl rfl
theorem wd_2_14 : Cond.methodLink "LoanChest$RuleReader" 105 yJ0_length_8abf5 ∈ BW := bw_2 14 rfl rfl
theorem wd_2_15 : Cond.instanceMethod yJ0_length_8abf5 ∈ BW := bw_2 15 rfl rfl
theorem wd_2_16 : Cond.selects "java/lang/String" yJ0_length_8abf5 yJ0_length_8abf5 ∈ BW := bw_2 16 rfl rfl
theorem wd_2_17 : Cond.code yJ0_length_8abf5 prog_19_method_54_code 1 (some .int) ∈ BW := bw_2 17 rfl rfl
theorem wd_2_18 : Cond.methodLink "java/lang/String" 335 yJ0_coder_7d493 ∈ BW := bw_2 18 rfl rfl
theorem wd_2_19 : Cond.instanceMethod yJ0_coder_7d493 ∈ BW := bw_2 19 rfl rfl
theorem wd_2_20 : Cond.selects "java/lang/String" yJ0_coder_7d493 yJ0_coder_7d493 ∈ BW := bw_2 20 rfl rfl
theorem wd_2_21 : Cond.code yJ0_coder_7d493 prog_19_method_152_code 1 (some .byte) ∈ BW := bw_2 21 rfl rfl
theorem wd_2_22 : Cond.fieldLink "java/lang/String" 38 "java/lang/String" "COMPACT_STRINGS" "Z" ∈ BW := bw_2 22 rfl rfl
theorem wd_2_23 : Cond.laysStatic "java/lang/String" "COMPACT_STRINGS" "Z" ∈ lw_tbl := List.mem_append_right _ (List.mem_append_right _ (List.mem_append_left _ (List.mem_of_getElem? (i := 23) rfl)))
theorem wd_2_24 : Cond.methodLink "LoanChest$RuleReader" 108 yJ0_charAt_5068e ∈ BW := bw_2 24 rfl rfl
theorem wd_2_25 : Cond.instanceMethod yJ0_charAt_5068e ∈ BW := bw_2 25 rfl rfl
theorem wd_2_26 : Cond.selects "java/lang/String" yJ0_charAt_5068e yJ0_charAt_5068e ∈ BW := bw_2 26 rfl rfl
theorem wd_2_27 : Cond.code yJ0_charAt_5068e prog_19_method_56_code 2 (some .char) ∈ BW := bw_2 27 rfl rfl
theorem wd_2_28 : Cond.methodLink "java/lang/String" 492 yJ0_isLatin1_aae02 ∈ BW := bw_2 28 rfl rfl
theorem wd_2_29 : Cond.instanceMethod yJ0_isLatin1_aae02 ∈ BW := bw_2 29 rfl rfl
theorem wd_2_30 : Cond.selects "java/lang/String" yJ0_isLatin1_aae02 yJ0_isLatin1_aae02 ∈ BW := bw_2 30 rfl rfl
theorem wd_2_31 : Cond.code yJ0_isLatin1_aae02 prog_19_method_154_code 1 (some .boolean) ∈ BW := bw_2 31 rfl rfl
theorem wd_2_32 : Cond.methodLink "java/lang/String" 495 yJ1_charAt_3b067 ∈ BW := bw_2 32 rfl rfl
theorem wd_2_33 : Cond.static yJ1_charAt_3b067 ∈ BW := bw_2 33 rfl rfl
theorem wd_2_34 : Cond.code yJ1_charAt_3b067 prog_20_method_2_code 2 (some .char) ∈ BW := bw_2 34 rfl rfl
theorem wd_2_35 : Cond.methodLink "java/lang/StringLatin1" 9 yJ0_checkIndex_df160 ∈ BW := bw_2 35 rfl rfl
theorem wd_2_36 : Cond.static yJ0_checkIndex_df160 ∈ BW := bw_2 36 rfl rfl
theorem wd_2_37 : Cond.code yJ0_checkIndex_df160 prog_19_method_155_code 2 none ∈ BW := bw_2 37 rfl rfl
theorem wd_2_38 : Cond.fieldLink "java/lang/String" 1053 "jdk/internal/util/Preconditions" "SIOOBE_FORMATTER" "Ljava/util/function/BiFunction;" ∈ BW := bw_2 38 rfl rfl
theorem wd_2_39 : Cond.laysStatic "jdk/internal/util/Preconditions" "SIOOBE_FORMATTER" "Ljava/util/function/BiFunction;" ∈ lw_tbl := List.mem_append_right _ (List.mem_append_right _ (List.mem_append_left _ (List.mem_of_getElem? (i := 39) rfl)))
theorem wd_2_40 : Cond.methodLink "java/lang/String" 1059 yJ3_checkIndex_8e157 ∈ BW := bw_2 40 rfl rfl
theorem wd_2_41 : Cond.static yJ3_checkIndex_8e157 ∈ BW := bw_2 41 rfl rfl
theorem wd_2_42 : Cond.code yJ3_checkIndex_8e157 prog_35_method_11_code 3 (some .int) ∈ BW := bw_2 42 rfl rfl
theorem wd_2_43 : Cond.methodLink "java/lang/String" 498 yJ2_charAt_3b067 ∈ BW := bw_2 43 rfl rfl
theorem wd_2_44 : Cond.static yJ2_charAt_3b067 ∈ BW := bw_2 44 rfl rfl
theorem wd_2_45 : Cond.code yJ2_charAt_3b067 prog_21_method_83_code 2 (some .char) ∈ BW := bw_2 45 rfl rfl
theorem wd_2_46 : Cond.methodLink "java/lang/StringUTF16" 67 yJ2_checkIndex_2214a ∈ BW := bw_2 46 rfl rfl
theorem wd_2_47 : Cond.static yJ2_checkIndex_2214a ∈ BW := bw_2 47 rfl rfl
theorem wd_2_48 : Cond.code yJ2_checkIndex_2214a prog_21_method_91_code 2 none ∈ BW := bw_2 48 rfl rfl
theorem wd_2_49 : Cond.methodLink "java/lang/StringUTF16" 48 yJ2_length_9d52b ∈ BW := bw_2 49 rfl rfl
theorem wd_2_50 : Cond.static yJ2_length_9d52b ∈ BW := bw_2 50 rfl rfl
theorem wd_2_51 : Cond.code yJ2_length_9d52b prog_21_method_6_code 1 (some .int) ∈ BW := bw_2 51 rfl rfl
theorem wd_2_52 : Cond.methodLink "java/lang/StringUTF16" 414 yJ0_checkIndex_df160 ∈ BW := bw_2 52 rfl rfl
theorem wd_2_53 : Cond.methodLink "java/lang/StringUTF16" 71 yJ2_getChar_3b067 ∈ BW := bw_2 53 rfl rfl
theorem wd_2_54 : Cond.static yJ2_getChar_3b067 ∈ BW := bw_2 54 rfl rfl
theorem wd_2_55 : Cond.code yJ2_getChar_3b067 prog_21_method_5_code 2 (some .char) ∈ BW := bw_2 55 rfl rfl
theorem wd_2_56 : Cond.fieldLink "java/lang/StringUTF16" 44 "java/lang/StringUTF16" "$assertionsDisabled" "Z" ∈ BW := bw_2 56 rfl rfl
theorem wd_2_57 : Cond.laysStatic "java/lang/StringUTF16" "$assertionsDisabled" "Z" ∈ lw_tbl := List.mem_append_right _ (List.mem_append_right _ (List.mem_append_left _ (List.mem_of_getElem? (i := 57) rfl)))
theorem wd_2_58 : Cond.fieldLink "java/lang/StringUTF16" 59 "java/lang/StringUTF16" "HI_BYTE_SHIFT" "I" ∈ BW := bw_2 58 rfl rfl
theorem wd_2_59 : Cond.laysStatic "java/lang/StringUTF16" "HI_BYTE_SHIFT" "I" ∈ lw_tbl := List.mem_append_right _ (List.mem_append_right _ (List.mem_append_left _ (List.mem_of_getElem? (i := 59) rfl)))
theorem wd_2_60 : Cond.fieldLink "java/lang/StringUTF16" 63 "java/lang/StringUTF16" "LO_BYTE_SHIFT" "I" ∈ BW := bw_2 60 rfl rfl
theorem wd_2_61 : Cond.laysStatic "java/lang/StringUTF16" "LO_BYTE_SHIFT" "I" ∈ lw_tbl := List.mem_append_right _ (List.mem_append_right _ (List.mem_append_left _ (List.mem_of_getElem? (i := 61) rfl)))
theorem wd_2_62 : Cond.methodLink "LoanChest$RuleReader" 59 yX5_numberRead ∈ BW := bw_2 62 rfl rfl
theorem wd_2_64 : Cond.instanceMethod yX5_numberRead ∈ BW := bw_2 64 rfl rfl
theorem wd_2_65 : Cond.code yX5_numberRead prog_7_method_11_code 4 (some .int) ∈ BW := bw_2 65 rfl rfl
theorem wd_2_66 : Cond.methodLink "LoanChest" 75 yX6_takeOver ∈ BW := bw_2 66 rfl rfl
theorem wd_2_67 : Cond.instanceMethod yX6_takeOver ∈ BW := bw_2 67 rfl rfl
theorem wd_2_68 : Cond.selects "LoanChest$Rules" yX6_takeOver yX6_takeOver ∈ BW := bw_2 68 rfl rfl
theorem wd_2_69 : Cond.code yX6_takeOver prog_8_method_3_code 3 none ∈ BW := bw_2 69 rfl rfl
theorem wd_2_70 : Cond.methodLink "LoanChest$Rules" 28 yX5_valueRead ∈ BW := bw_2 70 rfl rfl
theorem wd_2_71 : Cond.instanceMethod yX5_valueRead ∈ BW := bw_2 71 rfl rfl
theorem wd_2_72 : Cond.selects "LoanChest$RuleReader" yX5_valueRead yX5_valueRead ∈ BW := bw_2 72 rfl rfl
theorem wd_2_73 : Cond.code yX5_valueRead prog_7_method_3_code 2 (some .int) ∈ BW := bw_2 73 rfl rfl
theorem wd_2_74 : Cond.methodLink "LoanChestLaw" 43 yX8_fault ∈ BW := bw_2 74 rfl rfl
theorem wd_2_75 : Cond.instanceMethod yX8_fault ∈ BW := bw_2 75 rfl rfl
theorem wd_2_76 : Cond.selects "LoanChest" yX8_fault yX8_fault ∈ BW := bw_2 76 rfl rfl
theorem wd_2_77 : Cond.code yX8_fault prog_1_method_5_code 1 (some .int) ∈ BW := bw_2 77 rfl rfl
theorem wd_2_78 : Cond.methodLink "LoanChest" 79 yX5_faultKind ∈ BW := bw_2 78 rfl rfl
theorem wd_2_79 : Cond.instanceMethod yX5_faultKind ∈ BW := bw_2 79 rfl rfl
theorem wd_2_80 : Cond.selects "LoanChest$RuleReader" yX5_faultKind yX5_faultKind ∈ BW := bw_2 80 rfl rfl
theorem wd_2_81 : Cond.code yX5_faultKind prog_7_method_2_code 1 (some .int) ∈ BW := bw_2 81 rfl rfl
theorem wd_2_82 : Cond.methodLink "LoanChestLaw" 47 yX8_rule ∈ BW := bw_2 82 rfl rfl
theorem wd_2_83 : Cond.instanceMethod yX8_rule ∈ BW := bw_2 83 rfl rfl
theorem wd_2_84 : Cond.selects "LoanChest" yX8_rule yX8_rule ∈ BW := bw_2 84 rfl rfl
theorem wd_2_85 : Cond.code yX8_rule prog_1_method_6_code 2 (some .int) ∈ BW := bw_2 85 rfl rfl
theorem wd_2_86 : Cond.fieldLink "LoanChest" 82 "LoanChest" "KINDS" "[LLoanChest$Kind;" ∈ BW := bw_2 86 rfl rfl
theorem wd_2_87 : Cond.methodLink "LoanChest" 86 yX6_current ∈ BW := bw_2 87 rfl rfl
theorem wd_2_88 : Cond.instanceMethod yX6_current ∈ BW := bw_2 88 rfl rfl
theorem wd_2_89 : Cond.selects "LoanChest$Rules" yX6_current yX6_current ∈ BW := bw_2 89 rfl rfl
theorem wd_2_90 : Cond.code yX6_current prog_8_method_2_code 2 (some .int) ∈ BW := bw_2 90 rfl rfl
theorem wd_2_91 : Cond.methodLink "LoanChestLaw" 52 yX8_person ∈ BW := bw_2 91 rfl rfl
theorem wd_2_92 : Cond.instanceMethod yX8_person ∈ BW := bw_2 92 rfl rfl
theorem wd_2_93 : Cond.selects "LoanChest" yX8_person yX8_person ∈ BW := bw_2 93 rfl rfl
theorem wd_2_94 : Cond.code yX8_person prog_1_method_7_code 2 (some .int) ∈ BW := bw_2 94 rfl rfl
theorem wd_2_95 : Cond.methodLink "LoanChestLaw" 56 yX8_tag ∈ BW := bw_2 95 rfl rfl
theorem wd_2_96 : Cond.instanceMethod yX8_tag ∈ BW := bw_2 96 rfl rfl
theorem wd_2_97 : Cond.selects "LoanChest" yX8_tag yX8_tag ∈ BW := bw_2 97 rfl rfl
theorem wd_2_98 : Cond.code yX8_tag prog_1_method_8_code 5 (some .boolean) ∈ BW := bw_2 98 rfl rfl
theorem wd_2_99 : Cond.methodLink "LoanChest" 90 yX8_isPerson ∈ BW := bw_2 99 rfl rfl
theorem wd_2_101 : Cond.instanceMethod yX8_isPerson ∈ BW := bw_2 101 rfl rfl
theorem wd_2_102 : Cond.code yX8_isPerson prog_1_method_22_code 2 (some .boolean) ∈ BW := bw_2 102 rfl rfl
theorem wd_2_103 : Cond.methodLink "LoanChest" 93 yX8_isTag ∈ BW := bw_2 103 rfl rfl
theorem wd_2_104 : Cond.static yX8_isTag ∈ BW := bw_2 104 rfl rfl
theorem wd_2_105 : Cond.code yX8_isTag prog_1_method_23_code 1 (some .boolean) ∈ BW := bw_2 105 rfl rfl
theorem wd_2_106 : Cond.methodLink "LoanChestLaw" 61 yX8_fund ∈ BW := bw_2 106 rfl rfl
theorem wd_2_107 : Cond.instanceMethod yX8_fund ∈ BW := bw_2 107 rfl rfl
theorem wd_2_108 : Cond.selects "LoanChest" yX8_fund yX8_fund ∈ BW := bw_2 108 rfl rfl
theorem wd_2_109 : Cond.code yX8_fund prog_1_method_9_code 3 (some .int) ∈ BW := bw_2 109 rfl rfl
theorem wd_2_110 : Cond.constant "LoanChest" 96 (100000 : Int32) ∈ BW := bw_2 110 rfl rfl
theorem wd_2_111 : Cond.methodLink "LoanChest" 97 yX1_found ∈ BW := bw_2 111 rfl rfl
theorem wd_2_112 : Cond.instanceMethod yX1_found ∈ BW := bw_2 112 rfl rfl
theorem wd_2_113 : Cond.selects "LoanChest$Funds" yX1_found yX1_found ∈ BW := bw_2 113 rfl rfl
theorem wd_2_114 : Cond.code yX1_found prog_3_method_8_code 4 (some .int) ∈ BW := bw_2 114 rfl rfl
theorem wd_2_115 : Cond.methodLink "LoanChestLaw" 65 yX8_gift ∈ BW := bw_2 115 rfl rfl
theorem wd_2_116 : Cond.instanceMethod yX8_gift ∈ BW := bw_2 116 rfl rfl
theorem wd_2_117 : Cond.selects "LoanChest" yX8_gift yX8_gift ∈ BW := bw_2 117 rfl rfl
theorem wd_2_118 : Cond.code yX8_gift prog_1_method_10_code 3 (some .int) ∈ BW := bw_2 118 rfl rfl
theorem wd_2_119 : Cond.methodLink "LoanChest" 101 yX1_has ∈ BW := bw_2 119 rfl rfl
theorem wd_2_120 : Cond.instanceMethod yX1_has ∈ BW := bw_2 120 rfl rfl
theorem wd_2_121 : Cond.selects "LoanChest$Funds" yX1_has yX1_has ∈ BW := bw_2 121 rfl rfl
theorem wd_2_122 : Cond.code yX1_has prog_3_method_4_code 2 (some .boolean) ∈ BW := bw_2 122 rfl rfl
theorem wd_2_123 : Cond.methodLink "LoanChest" 104 yX1_give ∈ BW := bw_2 123 rfl rfl
theorem wd_2_124 : Cond.instanceMethod yX1_give ∈ BW := bw_2 124 rfl rfl
theorem wd_2_125 : Cond.selects "LoanChest$Funds" yX1_give yX1_give ∈ BW := bw_2 125 rfl rfl
theorem wd_2_126 : Cond.code yX1_give prog_3_method_9_code 3 (some .int) ∈ BW := bw_2 126 rfl rfl
theorem wd_2_127 : Cond.constant "LoanChest$Funds" 31 (1000000 : Int32) ∈ BW := bw_2 127 rfl rfl
theorem wd_2_128 : Cond.methodLink "LoanChestLaw" 69 yX8_ask ∈ BW := bw_2 128 rfl rfl
theorem wd_2_129 : Cond.instanceMethod yX8_ask ∈ BW := bw_2 129 rfl rfl
theorem wd_2_130 : Cond.selects "LoanChest" yX8_ask yX8_ask ∈ BW := bw_2 130 rfl rfl
theorem wd_2_131 : Cond.code yX8_ask prog_1_method_11_code 5 (some .int) ∈ BW := bw_2 131 rfl rfl
theorem wd_2_132 : Cond.methodLink "LoanChest" 108 yX8_whyRefused ∈ BW := bw_2 132 rfl rfl
theorem wd_2_134 : Cond.instanceMethod yX8_whyRefused ∈ BW := bw_2 134 rfl rfl
theorem wd_2_135 : Cond.code yX8_whyRefused prog_1_method_26_code 5 (some .int) ∈ BW := bw_2 135 rfl rfl
theorem wd_2_136 : Cond.methodLink "LoanChest" 246 yX8_whyRefusedForBorrower ∈ BW := bw_2 136 rfl rfl
theorem wd_2_138 : Cond.instanceMethod yX8_whyRefusedForBorrower ∈ BW := bw_2 138 rfl rfl
theorem wd_2_139 : Cond.code yX8_whyRefusedForBorrower prog_1_method_27_code 3 (some .int) ∈ BW := bw_2 139 rfl rfl
theorem wd_2_140 : Cond.fieldLink "LoanChest" 265 "LoanChest$Kind" "MOST" "LLoanChest$Kind;" ∈ BW := bw_2 140 rfl rfl
theorem wd_2_141 : Cond.laysStatic "LoanChest$Kind" "MOST" "LLoanChest$Kind;" ∈ lw_tbl := List.mem_append_right _ (List.mem_append_right _ (List.mem_append_left _ (List.mem_of_getElem? (i := 141) rfl)))
theorem wd_2_142 : Cond.methodLink "LoanChest" 222 yX3_howManyLoans ∈ BW := bw_2 142 rfl rfl
theorem wd_2_143 : Cond.instanceMethod yX3_howManyLoans ∈ BW := bw_2 143 rfl rfl
theorem wd_2_144 : Cond.selects "LoanChest$Ledger" yX3_howManyLoans yX3_howManyLoans ∈ BW := bw_2 144 rfl rfl
theorem wd_2_145 : Cond.code yX3_howManyLoans prog_5_method_2_code 1 (some .int) ∈ BW := bw_2 145 rfl rfl
theorem wd_2_146 : Cond.methodLink "LoanChest$Ledger" 25 yJx4a65c_size_8abf5 ∈ BW := bw_2 146 rfl rfl
theorem wd_2_147 : Cond.instanceMethod yJx4a65c_size_8abf5 ∈ BW := bw_2 147 rfl rfl
theorem wd_2_148 : Cond.selects "java/util/ArrayList" yJx4a65c_size_8abf5 yJx4a65c_size_8abf5 ∈ BW := bw_2 148 rfl rfl
theorem wd_2_149 : Cond.code yJx4a65c_size_8abf5 prog_26_method_8_code 1 (some .int) ∈ BW := bw_2 149 rfl rfl
theorem wd_2_150 : Cond.methodLink "LoanChest" 208 yX3_openLoanOf ∈ BW := bw_2 150 rfl rfl
theorem wd_2_151 : Cond.instanceMethod yX3_openLoanOf ∈ BW := bw_2 151 rfl rfl
theorem wd_2_152 : Cond.selects "LoanChest$Ledger" yX3_openLoanOf yX3_openLoanOf ∈ BW := bw_2 152 rfl rfl
theorem wd_2_153 : Cond.code yX3_openLoanOf prog_5_method_7_code 3 (some (.object "LoanChest$Loan")) ∈ BW := bw_2 153 rfl rfl
theorem wd_2_154 : Cond.methodLink "LoanChest$Ledger" 33 yJx4a65c_get_915e3 ∈ BW := bw_2 154 rfl rfl
theorem wd_2_155 : Cond.instanceMethod yJx4a65c_get_915e3 ∈ BW := bw_2 155 rfl rfl
theorem wd_2_156 : Cond.selects "java/util/ArrayList" yJx4a65c_get_915e3 yJx4a65c_get_915e3 ∈ BW := bw_2 156 rfl rfl
theorem wd_2_157 : Cond.code yJx4a65c_get_915e3 prog_26_method_20_code 2 (some (.object "java/lang/Object")) ∈ BW := bw_2 157 rfl rfl
theorem wd_2_158 : Cond.methodLink "java/util/ArrayList" 118 yJ15_checkIndex_7cf53 ∈ BW := bw_2 158 rfl rfl
theorem wd_2_159 : Cond.static yJ15_checkIndex_7cf53 ∈ BW := bw_2 159 rfl rfl
theorem wd_2_160 : Cond.code yJ15_checkIndex_7cf53 prog_31_method_17_code 2 (some .int) ∈ BW := bw_2 160 rfl rfl
theorem wd_2_161 : Cond.methodLink "java/util/Objects" 105 yJ3_checkIndex_8e157 ∈ BW := bw_2 161 rfl rfl
theorem wd_2_162 : Cond.methodLink "java/util/ArrayList" 123 yJx4a65c_elementData_915e3 ∈ BW := bw_2 162 rfl rfl
theorem wd_2_163 : Cond.instanceMethod yJx4a65c_elementData_915e3 ∈ BW := bw_2 163 rfl rfl
theorem wd_2_164 : Cond.selects "java/util/ArrayList" yJx4a65c_elementData_915e3 yJx4a65c_elementData_915e3 ∈ BW := bw_2 164 rfl rfl
theorem wd_2_165 : Cond.code yJx4a65c_elementData_915e3 prog_26_method_18_code 2 (some (.object "java/lang/Object")) ∈ BW := bw_2 165 rfl rfl
theorem wd_2_166 : Cond.classLink "LoanChest$Ledger" 37 "LoanChest$Loan" ∈ BW := bw_2 166 rfl rfl
theorem wd_2_167 : Cond.methodLink "LoanChest$Ledger" 42 yX4_isOpenOf ∈ BW := bw_2 167 rfl rfl
theorem wd_2_168 : Cond.instanceMethod yX4_isOpenOf ∈ BW := bw_2 168 rfl rfl
theorem wd_2_169 : Cond.selects "LoanChest$Loan" yX4_isOpenOf yX4_isOpenOf ∈ BW := bw_2 169 rfl rfl
theorem wd_2_170 : Cond.code yX4_isOpenOf prog_6_method_2_code 2 (some .boolean) ∈ BW := bw_2 170 rfl rfl
theorem wd_2_171 : Cond.methodLink "LoanChest" 191 yX8_isBarred ∈ BW := bw_2 171 rfl rfl
theorem wd_2_173 : Cond.instanceMethod yX8_isBarred ∈ BW := bw_2 173 rfl rfl
theorem wd_2_174 : Cond.code yX8_isBarred prog_1_method_24_code 2 (some .boolean) ∈ BW := bw_2 174 rfl rfl
theorem wd_2_175 : Cond.methodLink "LoanChest" 200 yX3_unpaidCalls ∈ BW := bw_2 175 rfl rfl
theorem wd_2_176 : Cond.instanceMethod yX3_unpaidCalls ∈ BW := bw_2 176 rfl rfl
theorem wd_2_177 : Cond.selects "LoanChest$Ledger" yX3_unpaidCalls yX3_unpaidCalls ∈ BW := bw_2 177 rfl rfl
theorem wd_2_178 : Cond.code yX3_unpaidCalls prog_5_method_12_code 4 (some .int) ∈ BW := bw_2 178 rfl rfl
theorem wd_2_179 : Cond.classLink "LoanChest$Ledger" 68 "LoanChest$Call" ∈ BW := bw_2 179 rfl rfl
theorem wd_2_180 : Cond.methodLink "LoanChest$Ledger" 73 yX0_rest ∈ BW := bw_2 180 rfl rfl
theorem wd_2_181 : Cond.instanceMethod yX0_rest ∈ BW := bw_2 181 rfl rfl
theorem wd_2_182 : Cond.selects "LoanChest$Call" yX0_rest yX0_rest ∈ BW := bw_2 182 rfl rfl
theorem wd_2_183 : Cond.code yX0_rest prog_2_method_2_code 1 (some .int) ∈ BW := bw_2 183 rfl rfl
theorem wd_2_184 : Cond.methodLink "LoanChest" 234 yX3_calledLoansOf ∈ BW := bw_2 184 rfl rfl
theorem wd_2_185 : Cond.instanceMethod yX3_calledLoansOf ∈ BW := bw_2 185 rfl rfl
theorem wd_2_186 : Cond.selects "LoanChest$Ledger" yX3_calledLoansOf yX3_calledLoansOf ∈ BW := bw_2 186 rfl rfl
theorem wd_2_187 : Cond.code yX3_calledLoansOf prog_5_method_8_code 4 (some .int) ∈ BW := bw_2 187 rfl rfl
theorem wd_2_188 : Cond.fieldLink "LoanChest" 237 "LoanChest$Kind" "BAR" "LLoanChest$Kind;" ∈ BW := bw_2 188 rfl rfl
theorem wd_2_189 : Cond.laysStatic "LoanChest$Kind" "BAR" "LLoanChest$Kind;" ∈ lw_tbl := List.mem_append_right _ (List.mem_append_right _ (List.mem_append_left _ (List.mem_of_getElem? (i := 189) rfl)))
theorem wd_2_190 : Cond.methodLink "LoanChest" 249 yX8_whyRefusedForSureties ∈ BW := bw_2 190 rfl rfl
theorem wd_2_192 : Cond.instanceMethod yX8_whyRefusedForSureties ∈ BW := bw_2 192 rfl rfl
theorem wd_2_193 : Cond.code yX8_whyRefusedForSureties prog_1_method_28_code 3 (some .int) ∈ BW := bw_2 193 rfl rfl
theorem wd_2_194 : Cond.fieldLink "LoanChest" 268 "LoanChest$Kind" "SURETIES" "LLoanChest$Kind;" ∈ BW := bw_2 194 rfl rfl
theorem wd_2_195 : Cond.laysStatic "LoanChest$Kind" "SURETIES" "LLoanChest$Kind;" ∈ lw_tbl := List.mem_append_right _ (List.mem_append_right _ (List.mem_append_left _ (List.mem_of_getElem? (i := 195) rfl)))
theorem wd_2_196 : Cond.methodLink "LoanChest" 271 yX8_areOthersAllDifferent ∈ BW := bw_2 196 rfl rfl
theorem wd_2_198 : Cond.instanceMethod yX8_areOthersAllDifferent ∈ BW := bw_2 198 rfl rfl
theorem wd_2_199 : Cond.code yX8_areOthersAllDifferent prog_1_method_29_code 6 (some .boolean) ∈ BW := bw_2 199 rfl rfl
theorem wd_2_200 : Cond.methodLink "LoanChest" 280 yX8_bitOf ∈ BW := bw_2 200 rfl rfl
theorem wd_2_201 : Cond.static yX8_bitOf ∈ BW := bw_2 201 rfl rfl
theorem wd_2_202 : Cond.code yX8_bitOf prog_1_method_32_code 1 (some .long) ∈ BW := bw_2 202 rfl rfl
theorem wd_2_203 : Cond.methodLink "LoanChest" 274 yX7_byteAt ∈ BW := bw_2 203 rfl rfl
theorem wd_2_204 : Cond.methodLink "LoanChest" 197 yX3_standsFor ∈ BW := bw_2 204 rfl rfl
theorem wd_2_205 : Cond.instanceMethod yX3_standsFor ∈ BW := bw_2 205 rfl rfl
theorem wd_2_206 : Cond.selects "LoanChest$Ledger" yX3_standsFor yX3_standsFor ∈ BW := bw_2 206 rfl rfl
theorem wd_2_207 : Cond.code yX3_standsFor prog_5_method_9_code 4 (some .int) ∈ BW := bw_2 207 rfl rfl
theorem wd_2_208 : Cond.methodLink "LoanChest$Ledger" 49 yX4_isOpenWithSurety ∈ BW := bw_2 208 rfl rfl
theorem wd_2_209 : Cond.instanceMethod yX4_isOpenWithSurety ∈ BW := bw_2 209 rfl rfl
theorem wd_2_210 : Cond.selects "LoanChest$Loan" yX4_isOpenWithSurety yX4_isOpenWithSurety ∈ BW := bw_2 210 rfl rfl
theorem wd_2_211 : Cond.code yX4_isOpenWithSurety prog_6_method_3_code 2 (some .boolean) ∈ BW := bw_2 211 rfl rfl
theorem wd_2_212 : Cond.methodLinkNest "LoanChest$Loan" 86 yX8_bitOf "LoanChest" ∈ lw_tbl := List.mem_append_right _ (List.mem_append_right _ (List.mem_append_left _ (List.mem_of_getElem? (i := 212) rfl)))
theorem wd_2_213 : Cond.fieldLink "LoanChest" 277 "LoanChest$Kind" "STANDS" "LLoanChest$Kind;" ∈ BW := bw_2 213 rfl rfl
theorem wd_2_214 : Cond.laysStatic "LoanChest$Kind" "STANDS" "LLoanChest$Kind;" ∈ lw_tbl := List.mem_append_right _ (List.mem_append_right _ (List.mem_append_left _ (List.mem_of_getElem? (i := 214) rfl)))
theorem wd_2_215 : Cond.methodLink "LoanChest" 252 yX8_bitsOnTape ∈ BW := bw_2 215 rfl rfl
theorem wd_2_217 : Cond.instanceMethod yX8_bitsOnTape ∈ BW := bw_2 217 rfl rfl
theorem wd_2_218 : Cond.code yX8_bitsOnTape prog_1_method_30_code 4 (some .long) ∈ BW := bw_2 218 rfl rfl
theorem wd_2_219 : Cond.methodLink "LoanChest" 215 yX3_shortestRing ∈ BW := bw_2 219 rfl rfl
theorem wd_2_220 : Cond.instanceMethod yX3_shortestRing ∈ BW := bw_2 220 rfl rfl
theorem wd_2_221 : Cond.selects "LoanChest$Ledger" yX3_shortestRing yX3_shortestRing ∈ BW := bw_2 221 rfl rfl
theorem wd_2_222 : Cond.code yX3_shortestRing prog_5_method_15_code 7 (some .int) ∈ BW := bw_2 222 rfl rfl
theorem wd_2_223 : Cond.methodLinkNest "LoanChest$Ledger" 85 yX8_bitOf "LoanChest" ∈ lw_tbl := List.mem_append_right _ (List.mem_append_right _ (List.mem_append_left _ (List.mem_of_getElem? (i := 223) rfl)))
theorem wd_2_224 : Cond.methodLink "LoanChest$Ledger" 89 yX3_suretiesOfAll ∈ BW := bw_2 224 rfl rfl
theorem wd_2_226 : Cond.instanceMethod yX3_suretiesOfAll ∈ BW := bw_2 226 rfl rfl
theorem wd_2_227 : Cond.code yX3_suretiesOfAll prog_5_method_16_code 7 (some .long) ∈ BW := bw_2 227 rfl rfl
theorem wd_2_228 : Cond.fieldLink "LoanChest" 256 "LoanChest$Kind" "RING" "LLoanChest$Kind;" ∈ BW := bw_2 228 rfl rfl
theorem wd_2_229 : Cond.laysStatic "LoanChest$Kind" "RING" "LLoanChest$Kind;" ∈ lw_tbl := List.mem_append_right _ (List.mem_append_right _ (List.mem_append_left _ (List.mem_of_getElem? (i := 229) rfl)))
theorem wd_2_230 : Cond.fieldLink "LoanChest" 259 "LoanChest$Kind" "KEEP" "LLoanChest$Kind;" ∈ BW := bw_2 230 rfl rfl
theorem wd_2_231 : Cond.laysStatic "LoanChest$Kind" "KEEP" "LLoanChest$Kind;" ∈ lw_tbl := List.mem_append_right _ (List.mem_append_right _ (List.mem_append_left _ (List.mem_of_getElem? (i := 231) rfl)))
theorem wd_2_232 : Cond.methodLink "LoanChest" 262 yX1_canLend ∈ BW := bw_2 232 rfl rfl
theorem wd_2_233 : Cond.instanceMethod yX1_canLend ∈ BW := bw_2 233 rfl rfl
theorem wd_2_234 : Cond.selects "LoanChest$Funds" yX1_canLend yX1_canLend ∈ BW := bw_2 234 rfl rfl
theorem wd_2_235 : Cond.code yX1_canLend prog_3_method_10_code 5 (some .int) ∈ BW := bw_2 235 rfl rfl
theorem wd_2_236 : Cond.methodLink "LoanChest$Funds" 32 yX1_aboveKeep ∈ BW := bw_2 236 rfl rfl
theorem wd_2_238 : Cond.instanceMethod yX1_aboveKeep ∈ BW := bw_2 238 rfl rfl
theorem wd_2_239 : Cond.code yX1_aboveKeep prog_3_method_15_code 2 (some .int) ∈ BW := bw_2 239 rfl rfl
theorem wd_3_0 : Cond.methodLink "LoanChest$Funds" 61 yJ9_max_7cf53 ∈ BW := bw_3 0 rfl rfl
theorem wd_3_1 : Cond.static yJ9_max_7cf53 ∈ BW := bw_3 1 rfl rfl
theorem wd_3_2 : Cond.code yJ9_max_7cf53 prog_17_method_65_code 2 (some .int) ∈ BW := bw_3 2 rfl rfl
theorem wd_3_3 : Cond.methodLink "LoanChest$Funds" 36 yX1_isFor ∈ BW := bw_3 3 rfl rfl
theorem wd_3_5 : Cond.instanceMethod yX1_isFor ∈ BW := bw_3 5 rfl rfl
theorem wd_3_6 : Cond.code yX1_isFor prog_3_method_14_code 3 (some .boolean) ∈ BW := bw_3 6 rfl rfl
theorem wd_3_7 : Cond.methodLink "LoanChest" 111 yX8_lend ∈ BW := bw_3 7 rfl rfl
theorem wd_3_9 : Cond.instanceMethod yX8_lend ∈ BW := bw_3 9 rfl rfl
theorem wd_3_10 : Cond.code yX8_lend prog_1_method_31_code 4 (some .int) ∈ BW := bw_3 10 rfl rfl
theorem wd_3_11 : Cond.classLink "LoanChest" 146 "LoanChest$Loan" ∈ BW := bw_3 11 rfl rfl
theorem wd_3_12 : Cond.instantiable "LoanChest$Loan" 18 ∈ BW := bw_3 12 rfl rfl
theorem wd_3_13 : Cond.methodLink "LoanChest" 284 yX7_copy ∈ BW := bw_3 13 rfl rfl
theorem wd_3_14 : Cond.instanceMethod yX7_copy ∈ BW := bw_3 14 rfl rfl
theorem wd_3_15 : Cond.selects "LoanChest$Tape" yX7_copy yX7_copy ∈ BW := bw_3 15 rfl rfl
theorem wd_3_16 : Cond.code yX7_copy prog_9_method_7_code 2 (some (.array .int)) ∈ BW := bw_3 16 rfl rfl
theorem wd_3_17 : Cond.methodLink "LoanChest$Tape" 19 (⟨"java/lang/System", "arraycopy", "(Ljava/lang/Object;ILjava/lang/Object;II)V"⟩ : MethodName) ∈ BW := bw_3 17 rfl rfl
theorem wd_3_18 : Cond.static (⟨"java/lang/System", "arraycopy", "(Ljava/lang/Object;ILjava/lang/Object;II)V"⟩ : MethodName) ∈ BW := bw_3 18 rfl rfl
theorem wd_3_19 : Cond.native (⟨"java/lang/System", "arraycopy", "(Ljava/lang/Object;ILjava/lang/Object;II)V"⟩ : MethodName) ∈ BW := bw_3 19 rfl rfl
theorem wd_3_20 : Cond.methodLink "LoanChest" 288 yX4_init ∈ BW := bw_3 20 rfl rfl
theorem wd_3_21 : Cond.instanceMethod yX4_init ∈ BW := bw_3 21 rfl rfl
theorem wd_3_22 : Cond.code yX4_init prog_6_method_1_code 9 none ∈ BW := bw_3 22 rfl rfl
theorem wd_3_23 : Cond.methodLink "LoanChest$Loan" 3 (⟨"java/lang/Object", "<init>", "()V"⟩ : MethodName) ∈ BW := bw_3 23 rfl rfl
theorem wd_3_24 : Cond.fieldLink "LoanChest$Loan" 59 "LoanChest$Kind" "WEEKS" "LLoanChest$Kind;" ∈ BW := bw_3 24 rfl rfl
theorem wd_3_25 : Cond.laysStatic "LoanChest$Kind" "WEEKS" "LLoanChest$Kind;" ∈ lw_tbl := List.mem_append_right _ (List.mem_append_right _ (List.mem_append_right _ (List.mem_append_left _ (List.mem_of_getElem? (i := 25) rfl))))
theorem wd_3_26 : Cond.methodLink "LoanChest$Loan" 65 yX6_current ∈ BW := bw_3 26 rfl rfl
theorem wd_3_27 : Cond.fieldLink "LoanChest$Loan" 74 "LoanChest$Kind" "LATE" "LLoanChest$Kind;" ∈ BW := bw_3 27 rfl rfl
theorem wd_3_28 : Cond.laysStatic "LoanChest$Kind" "LATE" "LLoanChest$Kind;" ∈ lw_tbl := List.mem_append_right _ (List.mem_append_right _ (List.mem_append_right _ (List.mem_append_left _ (List.mem_of_getElem? (i := 28) rfl))))
theorem wd_3_29 : Cond.fieldLink "LoanChest$Loan" 80 "LoanChest$Kind" "CALL" "LLoanChest$Kind;" ∈ BW := bw_3 29 rfl rfl
theorem wd_3_30 : Cond.laysStatic "LoanChest$Kind" "CALL" "LLoanChest$Kind;" ∈ lw_tbl := List.mem_append_right _ (List.mem_append_right _ (List.mem_append_right _ (List.mem_append_left _ (List.mem_of_getElem? (i := 30) rfl))))
theorem wd_3_31 : Cond.fieldLink "LoanChest$Loan" 40 "LoanChest$Loan" "number" "I" ∈ BW := bw_3 31 rfl rfl
theorem wd_3_32 : Cond.fieldLink "LoanChest" 243 "LoanChest$Loan" "number" "I" ∈ BW := bw_3 32 rfl rfl
theorem wd_3_33 : Cond.fieldLink "LoanChest$Loan" 43 "LoanChest$Loan" "borrower" "I" ∈ BW := bw_3 33 rfl rfl
theorem wd_3_34 : Cond.fieldLink "LoanChest$Ledger" 46 "LoanChest$Loan" "borrower" "I" ∈ BW := bw_3 34 rfl rfl
theorem wd_3_35 : Cond.fieldLink "LoanChest" 145 "LoanChest$Loan" "borrower" "I" ∈ BW := bw_3 35 rfl rfl
theorem wd_3_36 : Cond.fieldLink "LoanChest$Loan" 46 "LoanChest$Loan" "amount" "I" ∈ BW := bw_3 36 rfl rfl
theorem wd_3_37 : Cond.fieldLink "LoanChest$Funds" 40 "LoanChest$Loan" "amount" "I" ∈ BW := bw_3 37 rfl rfl
theorem wd_3_38 : Cond.fieldLink "LoanChest" 150 "LoanChest$Loan" "amount" "I" ∈ BW := bw_3 38 rfl rfl
theorem wd_3_39 : Cond.fieldLink "LoanChest$Ledger" 126 "LoanChest$Loan" "amount" "I" ∈ BW := bw_3 39 rfl rfl
theorem wd_3_40 : Cond.fieldLink "LoanChest$Loan" 49 "LoanChest$Loan" "began" "I" ∈ BW := bw_3 40 rfl rfl
theorem wd_3_41 : Cond.fieldLink "LoanChest" 153 "LoanChest$Loan" "began" "I" ∈ BW := bw_3 41 rfl rfl
theorem wd_3_42 : Cond.fieldLink "LoanChest$Ledger" 97 "LoanChest$Loan" "began" "I" ∈ BW := bw_3 42 rfl rfl
theorem wd_3_43 : Cond.fieldLink "LoanChest$Loan" 52 "LoanChest$Loan" "sureties" "[I" ∈ BW := bw_3 43 rfl rfl
theorem wd_3_44 : Cond.fieldLink "LoanChest" 171 "LoanChest$Loan" "sureties" "[I" ∈ BW := bw_3 44 rfl rfl
theorem wd_3_45 : Cond.fieldLink "LoanChest$Ledger" 107 "LoanChest$Loan" "sureties" "[I" ∈ BW := bw_3 45 rfl rfl
theorem wd_3_46 : Cond.fieldLink "LoanChest$Loan" 55 "LoanChest$Loan" "suretyBits" "J" ∈ BW := bw_3 46 rfl rfl
theorem wd_3_47 : Cond.fieldLink "LoanChest$Ledger" 93 "LoanChest$Loan" "suretyBits" "J" ∈ BW := bw_3 47 rfl rfl
theorem wd_3_48 : Cond.fieldLink "LoanChest" 211 "LoanChest$Loan" "suretyBits" "J" ∈ BW := bw_3 48 rfl rfl
theorem wd_3_49 : Cond.fieldLink "LoanChest$Loan" 71 "LoanChest$Loan" "weeks" "I" ∈ BW := bw_3 49 rfl rfl
theorem wd_3_50 : Cond.fieldLink "LoanChest$Loan" 77 "LoanChest$Loan" "late" "I" ∈ BW := bw_3 50 rfl rfl
theorem wd_3_51 : Cond.fieldLink "LoanChest$Loan" 83 "LoanChest$Loan" "call" "I" ∈ BW := bw_3 51 rfl rfl
theorem wd_3_52 : Cond.fieldLink "LoanChest$Loan" 9 "LoanChest$Loan" "takenFrom" "[I" ∈ BW := bw_3 52 rfl rfl
theorem wd_3_53 : Cond.fieldLink "LoanChest$Funds" 64 "LoanChest$Loan" "takenFrom" "[I" ∈ BW := bw_3 53 rfl rfl
theorem wd_3_54 : Cond.fieldLink "LoanChest" 183 "LoanChest$Loan" "takenFrom" "[I" ∈ BW := bw_3 54 rfl rfl
theorem wd_3_55 : Cond.fieldLink "LoanChest$Loan" 15 "LoanChest$Loan" "stillAway" "[I" ∈ BW := bw_3 55 rfl rfl
theorem wd_3_56 : Cond.fieldLink "LoanChest$Funds" 67 "LoanChest$Loan" "stillAway" "[I" ∈ BW := bw_3 56 rfl rfl
theorem wd_3_57 : Cond.fieldLink "LoanChest$Loan" 18 "LoanChest$Loan" "paid" "I" ∈ BW := bw_3 57 rfl rfl
theorem wd_3_58 : Cond.fieldLink "LoanChest" 156 "LoanChest$Loan" "paid" "I" ∈ BW := bw_3 58 rfl rfl
theorem wd_3_59 : Cond.fieldLink "LoanChest$Ledger" 151 "LoanChest$Loan" "paid" "I" ∈ BW := bw_3 59 rfl rfl
theorem wd_3_60 : Cond.fieldLink "LoanChest$Loan" 22 "LoanChest$Loan" "fines" "I" ∈ BW := bw_3 60 rfl rfl
theorem wd_3_61 : Cond.fieldLink "LoanChest" 159 "LoanChest$Loan" "fines" "I" ∈ BW := bw_3 61 rfl rfl
theorem wd_3_62 : Cond.fieldLink "LoanChest$Ledger" 145 "LoanChest$Loan" "fines" "I" ∈ BW := bw_3 62 rfl rfl
theorem wd_3_63 : Cond.fieldLink "LoanChest$Loan" 25 "LoanChest$Loan" "finesPaid" "I" ∈ BW := bw_3 63 rfl rfl
theorem wd_3_64 : Cond.fieldLink "LoanChest" 162 "LoanChest$Loan" "finesPaid" "I" ∈ BW := bw_3 64 rfl rfl
theorem wd_3_65 : Cond.fieldLink "LoanChest$Ledger" 148 "LoanChest$Loan" "finesPaid" "I" ∈ BW := bw_3 65 rfl rfl
theorem wd_3_66 : Cond.fieldLink "LoanChest$Loan" 28 "LoanChest$Loan" "timesLate" "I" ∈ BW := bw_3 66 rfl rfl
theorem wd_3_67 : Cond.fieldLink "LoanChest$Ledger" 65 "LoanChest$Loan" "timesLate" "I" ∈ BW := bw_3 67 rfl rfl
theorem wd_3_68 : Cond.fieldLink "LoanChest" 165 "LoanChest$Loan" "timesLate" "I" ∈ BW := bw_3 68 rfl rfl
theorem wd_3_69 : Cond.fieldLink "LoanChest$Loan" 31 "LoanChest$Loan" "lateInARow" "I" ∈ BW := bw_3 69 rfl rfl
theorem wd_3_70 : Cond.fieldLink "LoanChest$Loan" 34 "LoanChest$Loan" "state" "I" ∈ BW := bw_3 70 rfl rfl
theorem wd_3_71 : Cond.fieldLink "LoanChest$Ledger" 39 "LoanChest$Loan" "state" "I" ∈ BW := bw_3 71 rfl rfl
theorem wd_3_72 : Cond.fieldLink "LoanChest" 168 "LoanChest$Loan" "state" "I" ∈ BW := bw_3 72 rfl rfl
theorem wd_3_73 : Cond.fieldLink "LoanChest$Loan" 37 "LoanChest$Loan" "cameBack" "I" ∈ BW := bw_3 73 rfl rfl
theorem wd_3_74 : Cond.fieldLink "LoanChest$Funds" 58 "LoanChest$Loan" "cameBack" "I" ∈ BW := bw_3 74 rfl rfl
theorem wd_3_75 : Cond.fieldLink "LoanChest" 174 "LoanChest$Loan" "cameBack" "I" ∈ BW := bw_3 75 rfl rfl
theorem wd_3_76 : Cond.fieldLink "LoanChest$Ledger" 129 "LoanChest$Loan" "cameBack" "I" ∈ BW := bw_3 76 rfl rfl
theorem wd_3_77 : Cond.laysFinal "LoanChest$Loan" "LoanChest$Loan" "number" "I" ∈ BW := bw_3 77 rfl rfl
theorem wd_3_79 : Cond.laysFinal "LoanChest$Loan" "LoanChest$Loan" "borrower" "I" ∈ BW := bw_3 79 rfl rfl
theorem wd_3_81 : Cond.laysFinal "LoanChest$Loan" "LoanChest$Loan" "amount" "I" ∈ BW := bw_3 81 rfl rfl
theorem wd_3_83 : Cond.laysFinal "LoanChest$Loan" "LoanChest$Loan" "began" "I" ∈ BW := bw_3 83 rfl rfl
theorem wd_3_85 : Cond.laysFinal "LoanChest$Loan" "LoanChest$Loan" "sureties" "[I" ∈ BW := bw_3 85 rfl rfl
theorem wd_3_87 : Cond.laysFinal "LoanChest$Loan" "LoanChest$Loan" "suretyBits" "J" ∈ BW := bw_3 87 rfl rfl
theorem wd_3_89 : Cond.laysFinal "LoanChest$Loan" "LoanChest$Loan" "weeks" "I" ∈ BW := bw_3 89 rfl rfl
theorem wd_3_91 : Cond.laysFinal "LoanChest$Loan" "LoanChest$Loan" "late" "I" ∈ BW := bw_3 91 rfl rfl
theorem wd_3_93 : Cond.laysFinal "LoanChest$Loan" "LoanChest$Loan" "call" "I" ∈ BW := bw_3 93 rfl rfl
theorem wd_3_95 : Cond.laysFinal "LoanChest$Loan" "LoanChest$Loan" "takenFrom" "[I" ∈ BW := bw_3 95 rfl rfl
theorem wd_3_97 : Cond.laysFinal "LoanChest$Loan" "LoanChest$Loan" "stillAway" "[I" ∈ BW := bw_3 97 rfl rfl
theorem wd_3_99 : Cond.lays "LoanChest$Loan" "LoanChest$Loan" "paid" "I" ∈ BW := bw_3 99 rfl rfl
theorem wd_3_101 : Cond.lays "LoanChest$Loan" "LoanChest$Loan" "fines" "I" ∈ BW := bw_3 101 rfl rfl
theorem wd_3_103 : Cond.lays "LoanChest$Loan" "LoanChest$Loan" "finesPaid" "I" ∈ BW := bw_3 103 rfl rfl
theorem wd_3_105 : Cond.lays "LoanChest$Loan" "LoanChest$Loan" "timesLate" "I" ∈ BW := bw_3 105 rfl rfl
theorem wd_3_107 : Cond.lays "LoanChest$Loan" "LoanChest$Loan" "lateInARow" "I" ∈ BW := bw_3 107 rfl rfl
theorem wd_3_109 : Cond.lays "LoanChest$Loan" "LoanChest$Loan" "state" "I" ∈ BW := bw_3 109 rfl rfl
theorem wd_3_111 : Cond.lays "LoanChest$Loan" "LoanChest$Loan" "cameBack" "I" ∈ BW := bw_3 111 rfl rfl
theorem wd_3_114 : Cond.methodLink "LoanChest" 291 yX1_lendTo ∈ BW := bw_3 114 rfl rfl
theorem wd_3_115 : Cond.instanceMethod yX1_lendTo ∈ BW := bw_3 115 rfl rfl
theorem wd_3_116 : Cond.selects "LoanChest$Funds" yX1_lendTo yX1_lendTo ∈ BW := bw_3 116 rfl rfl
theorem wd_3_117 : Cond.code yX1_lendTo prog_3_method_11_code 6 none ∈ BW := bw_3 117 rfl rfl
theorem wd_3_118 : Cond.methodLink "LoanChest$Funds" 45 yJ9_min_7cf53 ∈ BW := bw_3 118 rfl rfl
theorem wd_3_119 : Cond.methodLink "LoanChest$Funds" 51 yX1_take ∈ BW := bw_3 119 rfl rfl
theorem wd_3_121 : Cond.instanceMethod yX1_take ∈ BW := bw_3 121 rfl rfl
theorem wd_3_122 : Cond.code yX1_take prog_3_method_16_code 4 (some .int) ∈ BW := bw_3 122 rfl rfl
theorem wd_3_123 : Cond.methodLink "LoanChest" 295 yX3_enter ∈ BW := bw_3 123 rfl rfl
theorem wd_3_124 : Cond.instanceMethod yX3_enter ∈ BW := bw_3 124 rfl rfl
theorem wd_3_125 : Cond.selects "LoanChest$Ledger" yX3_enter yX3_enter ∈ BW := bw_3 125 rfl rfl
theorem wd_3_126 : Cond.code yX3_enter prog_5_method_4_code 2 none ∈ BW := bw_3 126 rfl rfl
theorem wd_3_127 : Cond.methodLink "LoanChest$Ledger" 29 yJx4a65c_add_9ea2d ∈ BW := bw_3 127 rfl rfl
theorem wd_3_128 : Cond.instanceMethod yJx4a65c_add_9ea2d ∈ BW := bw_3 128 rfl rfl
theorem wd_3_129 : Cond.selects "java/util/ArrayList" yJx4a65c_add_9ea2d yJx4a65c_add_9ea2d ∈ BW := bw_3 129 rfl rfl
theorem wd_3_130 : Cond.code yJx4a65c_add_9ea2d prog_26_method_25_code 2 (some .boolean) ∈ BW := bw_3 130 rfl rfl
theorem wd_3_131 : Cond.methodLink "java/util/ArrayList" 131 yJx4a65c_add_72be8 ∈ BW := bw_3 131 rfl rfl
theorem wd_3_133 : Cond.instanceMethod yJx4a65c_add_72be8 ∈ BW := bw_3 133 rfl rfl
theorem wd_3_134 : Cond.code yJx4a65c_add_72be8 prog_26_method_24_code 4 none ∈ BW := bw_3 134 rfl rfl
theorem wd_3_135 : Cond.methodLink "java/util/ArrayList" 129 yJx4a65c_grow_d5877 ∈ BW := bw_3 135 rfl rfl
theorem wd_3_137 : Cond.instanceMethod yJx4a65c_grow_d5877 ∈ BW := bw_3 137 rfl rfl
theorem wd_3_138 : Cond.code yJx4a65c_grow_d5877 prog_26_method_7_code 1 (some (.array (.object "java/lang/Object"))) ∈ BW := bw_3 138 rfl rfl
theorem wd_3_139 : Cond.methodLink "java/util/ArrayList" 69 yJx4a65c_grow_92f84 ∈ BW := bw_3 139 rfl rfl
theorem wd_3_141 : Cond.instanceMethod yJx4a65c_grow_92f84 ∈ BW := bw_3 141 rfl rfl
theorem wd_3_142 : Cond.code yJx4a65c_grow_92f84 prog_26_method_6_code 4 (some (.array (.object "java/lang/Object"))) ∈ BW := bw_3 142 rfl rfl
theorem wd_3_143 : Cond.methodLink "java/util/ArrayList" 73 yJ8_newLength_cabcc ∈ BW := bw_3 143 rfl rfl
theorem wd_3_144 : Cond.static yJ8_newLength_cabcc ∈ BW := bw_3 144 rfl rfl
theorem wd_3_145 : Cond.code yJ8_newLength_cabcc prog_34_method_27_code 4 (some .int) ∈ BW := bw_3 145 rfl rfl
theorem wd_3_146 : Cond.methodLink "jdk/internal/util/ArraysSupport" 194 yJ9_max_7cf53 ∈ BW := bw_3 146 rfl rfl
theorem wd_3_147 : Cond.constant "jdk/internal/util/ArraysSupport" 200 (2147483639 : Int32) ∈ BW := bw_3 147 rfl rfl
theorem wd_3_148 : Cond.methodLink "jdk/internal/util/ArraysSupport" 201 yJ8_hugeLength_7cf53 ∈ BW := bw_3 148 rfl rfl
theorem wd_3_149 : Cond.static yJ8_hugeLength_7cf53 ∈ BW := bw_3 149 rfl rfl
theorem wd_3_150 : Cond.code yJ8_hugeLength_7cf53 prog_34_method_28_code 3 (some .int) ∈ BW := bw_3 150 rfl rfl
theorem wd_3_151 : Cond.methodLink "java/util/ArrayList" 66 yJ7_copyOf_1904c ∈ BW := bw_3 151 rfl rfl
theorem wd_3_152 : Cond.static yJ7_copyOf_1904c ∈ BW := bw_3 152 rfl rfl
theorem wd_3_153 : Cond.code yJ7_copyOf_1904c prog_27_method_119_code 2 (some (.array (.object "java/lang/Object"))) ∈ BW := bw_3 153 rfl rfl
theorem wd_3_154 : Cond.methodLink "java/util/Arrays" 86 (⟨"java/lang/Object", "getClass", "()Ljava/lang/Class;"⟩ : MethodName) ∈ BW := bw_3 154 rfl rfl
theorem wd_3_155 : Cond.instanceMethod (⟨"java/lang/Object", "getClass", "()Ljava/lang/Class;"⟩ : MethodName) ∈ BW := bw_3 155 rfl rfl
theorem wd_3_156 : Cond.sameMethod "java/lang/Object" "java/lang/Object" "getClass" "()Ljava/lang/Class;" ∈ BW := bw_3 156 rfl rfl
theorem wd_3_157 : Cond.selects "LoanChest" (⟨"java/lang/Object", "getClass", "()Ljava/lang/Class;"⟩ : MethodName) (⟨"java/lang/Object", "getClass", "()Ljava/lang/Class;"⟩ : MethodName) ∈ BW := bw_3 157 rfl rfl
theorem wd_3_158 : Cond.selects "LoanChest$Call" (⟨"java/lang/Object", "getClass", "()Ljava/lang/Class;"⟩ : MethodName) (⟨"java/lang/Object", "getClass", "()Ljava/lang/Class;"⟩ : MethodName) ∈ BW := bw_3 158 rfl rfl
theorem wd_3_159 : Cond.selects "LoanChest$Funds" (⟨"java/lang/Object", "getClass", "()Ljava/lang/Class;"⟩ : MethodName) (⟨"java/lang/Object", "getClass", "()Ljava/lang/Class;"⟩ : MethodName) ∈ BW := bw_3 159 rfl rfl
theorem wd_3_160 : Cond.selects "LoanChest$Kind" (⟨"java/lang/Object", "getClass", "()Ljava/lang/Class;"⟩ : MethodName) (⟨"java/lang/Object", "getClass", "()Ljava/lang/Class;"⟩ : MethodName) ∈ BW := bw_3 160 rfl rfl
theorem wd_3_161 : Cond.selects "LoanChest$Ledger" (⟨"java/lang/Object", "getClass", "()Ljava/lang/Class;"⟩ : MethodName) (⟨"java/lang/Object", "getClass", "()Ljava/lang/Class;"⟩ : MethodName) ∈ BW := bw_3 161 rfl rfl
theorem wd_3_162 : Cond.selects "LoanChest$Loan" (⟨"java/lang/Object", "getClass", "()Ljava/lang/Class;"⟩ : MethodName) (⟨"java/lang/Object", "getClass", "()Ljava/lang/Class;"⟩ : MethodName) ∈ BW := bw_3 162 rfl rfl
theorem wd_3_163 : Cond.selects "LoanChest$RuleReader" (⟨"java/lang/Object", "getClass", "()Ljava/lang/Class;"⟩ : MethodName) (⟨"java/lang/Object", "getClass", "()Ljava/lang/Class;"⟩ : MethodName) ∈ BW := bw_3 163 rfl rfl
theorem wd_3_164 : Cond.selects "LoanChest$Rules" (⟨"java/lang/Object", "getClass", "()Ljava/lang/Class;"⟩ : MethodName) (⟨"java/lang/Object", "getClass", "()Ljava/lang/Class;"⟩ : MethodName) ∈ BW := bw_3 164 rfl rfl
theorem wd_3_165 : Cond.selects "LoanChest$Tape" (⟨"java/lang/Object", "getClass", "()Ljava/lang/Class;"⟩ : MethodName) (⟨"java/lang/Object", "getClass", "()Ljava/lang/Class;"⟩ : MethodName) ∈ BW := bw_3 165 rfl rfl
theorem wd_3_166 : Cond.selects "LoanChestModel" (⟨"java/lang/Object", "getClass", "()Ljava/lang/Class;"⟩ : MethodName) (⟨"java/lang/Object", "getClass", "()Ljava/lang/Class;"⟩ : MethodName) ∈ BW := bw_3 166 rfl rfl
theorem wd_3_167 : Cond.selects "java/util/ArrayList" (⟨"java/lang/Object", "getClass", "()Ljava/lang/Class;"⟩ : MethodName) (⟨"java/lang/Object", "getClass", "()Ljava/lang/Class;"⟩ : MethodName) ∈ BW := bw_3 167 rfl rfl
theorem wd_3_168 : Cond.selects "java/util/NoSuchElementException" (⟨"java/lang/Object", "getClass", "()Ljava/lang/Class;"⟩ : MethodName) (⟨"java/lang/Object", "getClass", "()Ljava/lang/Class;"⟩ : MethodName) ∈ BW := bw_3 168 rfl rfl
theorem wd_3_169 : Cond.native (⟨"java/lang/Object", "getClass", "()Ljava/lang/Class;"⟩ : MethodName) ∈ BW := bw_3 169 rfl rfl
theorem wd_3_170 : Cond.methodLink "java/util/Arrays" 300 yJ7_copyOf_6403c ∈ BW := bw_3 170 rfl rfl
theorem wd_3_171 : Cond.static yJ7_copyOf_6403c ∈ BW := bw_3 171 rfl rfl
theorem wd_3_172 : Cond.code yJ7_copyOf_6403c prog_27_method_120_code 4 (some (.array (.object "java/lang/Object"))) ∈ BW := bw_3 172 rfl rfl
theorem wd_3_173 : Cond.classLink "java/util/Arrays" 110 "[Ljava/lang/Object;" ∈ BW := bw_3 173 rfl rfl
theorem wd_3_174 : Cond.arrayOver (.object "java/lang/Object") ∈ lw_tbl := List.mem_append_right _ (List.mem_append_right _ (List.mem_append_right _ (List.mem_append_left _ (List.mem_of_getElem? (i := 174) rfl))))
theorem wd_3_175 : Cond.classLink "java/util/Arrays" 2 "java/lang/Object" ∈ BW := bw_3 175 rfl rfl
theorem wd_3_176 : Cond.methodLink "java/util/Arrays" 304 yJ9_min_7cf53 ∈ BW := bw_3 176 rfl rfl
theorem wd_3_177 : Cond.methodLink "java/util/Arrays" 150 (⟨"java/lang/System", "arraycopy", "(Ljava/lang/Object;ILjava/lang/Object;II)V"⟩ : MethodName) ∈ BW := bw_3 177 rfl rfl
theorem wd_3_178 : Cond.methodLink "java/util/ArrayList" 79 yJ9_max_7cf53 ∈ BW := bw_3 178 rfl rfl
theorem wd_3_179 : Cond.classLink "java/util/ArrayList" 7 "java/lang/Object" ∈ BW := bw_3 179 rfl rfl
theorem wd_3_180 : Cond.methodLink "LoanChestLaw" 73 yX8_pay ∈ BW := bw_3 180 rfl rfl
theorem wd_3_181 : Cond.instanceMethod yX8_pay ∈ BW := bw_3 181 rfl rfl
theorem wd_3_182 : Cond.selects "LoanChest" yX8_pay yX8_pay ∈ BW := bw_3 182 rfl rfl
theorem wd_3_183 : Cond.code yX8_pay prog_1_method_12_code 3 (some .boolean) ∈ BW := bw_3 183 rfl rfl
theorem wd_3_184 : Cond.methodLink "LoanChest" 114 yX3_debtOf ∈ BW := bw_3 184 rfl rfl
theorem wd_3_185 : Cond.instanceMethod yX3_debtOf ∈ BW := bw_3 185 rfl rfl
theorem wd_3_186 : Cond.selects "LoanChest$Ledger" yX3_debtOf yX3_debtOf ∈ BW := bw_3 186 rfl rfl
theorem wd_3_187 : Cond.code yX3_debtOf prog_5_method_14_code 3 (some .int) ∈ BW := bw_3 187 rfl rfl
theorem wd_3_188 : Cond.methodLink "LoanChest$Ledger" 76 yX3_openLoanOf ∈ BW := bw_3 188 rfl rfl
theorem wd_3_189 : Cond.methodLink "LoanChest$Ledger" 80 yX3_owedByCalls ∈ BW := bw_3 189 rfl rfl
theorem wd_3_190 : Cond.instanceMethod yX3_owedByCalls ∈ BW := bw_3 190 rfl rfl
theorem wd_3_191 : Cond.selects "LoanChest$Ledger" yX3_owedByCalls yX3_owedByCalls ∈ BW := bw_3 191 rfl rfl
theorem wd_3_192 : Cond.code yX3_owedByCalls prog_5_method_13_code 4 (some .int) ∈ BW := bw_3 192 rfl rfl
theorem wd_3_193 : Cond.methodLink "LoanChest$Ledger" 84 yX4_rest ∈ BW := bw_3 193 rfl rfl
theorem wd_3_194 : Cond.instanceMethod yX4_rest ∈ BW := bw_3 194 rfl rfl
theorem wd_3_195 : Cond.selects "LoanChest$Loan" yX4_rest yX4_rest ∈ BW := bw_3 195 rfl rfl
theorem wd_3_196 : Cond.code yX4_rest prog_6_method_4_code 1 (some .int) ∈ BW := bw_3 196 rfl rfl
theorem wd_3_197 : Cond.methodLink "LoanChest" 118 yX3_takePayment ∈ BW := bw_3 197 rfl rfl
theorem wd_3_198 : Cond.instanceMethod yX3_takePayment ∈ BW := bw_3 198 rfl rfl
theorem wd_3_199 : Cond.selects "LoanChest$Ledger" yX3_takePayment yX3_takePayment ∈ BW := bw_3 199 rfl rfl
theorem wd_3_200 : Cond.code yX3_takePayment prog_5_method_19_code 6 none ∈ BW := bw_3 200 rfl rfl
theorem wd_3_201 : Cond.methodLink "LoanChest$Ledger" 114 yX3_payCall ∈ BW := bw_3 201 rfl rfl
theorem wd_3_202 : Cond.static yX3_payCall ∈ BW := bw_3 202 rfl rfl
theorem wd_3_203 : Cond.code yX3_payCall prog_5_method_20_code 5 (some .int) ∈ BW := bw_3 203 rfl rfl
theorem wd_3_204 : Cond.methodLink "LoanChest$Ledger" 56 yJ9_min_7cf53 ∈ BW := bw_3 204 rfl rfl
theorem wd_3_205 : Cond.methodLink "LoanChest$Ledger" 132 yX0_receive ∈ BW := bw_3 205 rfl rfl
theorem wd_3_206 : Cond.instanceMethod yX0_receive ∈ BW := bw_3 206 rfl rfl
theorem wd_3_207 : Cond.selects "LoanChest$Call" yX0_receive yX0_receive ∈ BW := bw_3 207 rfl rfl
theorem wd_3_208 : Cond.code yX0_receive prog_2_method_3_code 2 none ∈ BW := bw_3 208 rfl rfl
theorem wd_3_209 : Cond.methodLink "LoanChest$Ledger" 136 yX1_bringBack ∈ BW := bw_3 209 rfl rfl
theorem wd_3_210 : Cond.instanceMethod yX1_bringBack ∈ BW := bw_3 210 rfl rfl
theorem wd_3_211 : Cond.selects "LoanChest$Funds" yX1_bringBack yX1_bringBack ∈ BW := bw_3 211 rfl rfl
theorem wd_3_212 : Cond.code yX1_bringBack prog_3_method_12_code 5 none ∈ BW := bw_3 212 rfl rfl
theorem wd_3_213 : Cond.methodLink "LoanChest$Funds" 55 yX1_putBack ∈ BW := bw_3 213 rfl rfl
theorem wd_3_215 : Cond.instanceMethod yX1_putBack ∈ BW := bw_3 215 rfl rfl
theorem wd_3_216 : Cond.code yX1_putBack prog_3_method_17_code 5 (some .int) ∈ BW := bw_3 216 rfl rfl
theorem wd_3_217 : Cond.methodLink "LoanChest$Ledger" 142 yX1_addForAll ∈ BW := bw_3 217 rfl rfl
theorem wd_3_218 : Cond.instanceMethod yX1_addForAll ∈ BW := bw_3 218 rfl rfl
theorem wd_3_219 : Cond.selects "LoanChest$Funds" yX1_addForAll yX1_addForAll ∈ BW := bw_3 219 rfl rfl
theorem wd_3_220 : Cond.code yX1_addForAll prog_3_method_13_code 2 none ∈ BW := bw_3 220 rfl rfl
theorem wd_3_221 : Cond.methodLink "LoanChest$Ledger" 118 yX3_payLoan ∈ BW := bw_3 221 rfl rfl
theorem wd_3_222 : Cond.static yX3_payLoan ∈ BW := bw_3 222 rfl rfl
theorem wd_3_223 : Cond.code yX3_payLoan prog_5_method_21_code 5 none ∈ BW := bw_3 223 rfl rfl
theorem wd_3_224 : Cond.methodLink "LoanChestLaw" 78 yX8_owes ∈ BW := bw_3 224 rfl rfl
theorem wd_3_225 : Cond.instanceMethod yX8_owes ∈ BW := bw_3 225 rfl rfl
theorem wd_3_226 : Cond.selects "LoanChest" yX8_owes yX8_owes ∈ BW := bw_3 226 rfl rfl
theorem wd_3_227 : Cond.code yX8_owes prog_1_method_13_code 2 (some .int) ∈ BW := bw_3 227 rfl rfl
theorem wd_3_228 : Cond.methodLink "LoanChestLaw" 82 yX8_next ∈ BW := bw_3 228 rfl rfl
theorem wd_3_229 : Cond.instanceMethod yX8_next ∈ BW := bw_3 229 rfl rfl
theorem wd_3_230 : Cond.selects "LoanChest" yX8_next yX8_next ∈ BW := bw_3 230 rfl rfl
theorem wd_3_231 : Cond.code yX8_next prog_1_method_14_code 1 (some .int) ∈ BW := bw_3 231 rfl rfl
theorem wd_3_232 : Cond.methodLink "LoanChest" 122 yX1_writeDown ∈ BW := bw_3 232 rfl rfl
theorem wd_3_233 : Cond.instanceMethod yX1_writeDown ∈ BW := bw_3 233 rfl rfl
theorem wd_3_234 : Cond.selects "LoanChest$Funds" yX1_writeDown yX1_writeDown ∈ BW := bw_3 234 rfl rfl
theorem wd_3_235 : Cond.code yX1_writeDown prog_3_method_7_code 3 none ∈ BW := bw_3 235 rfl rfl
theorem wd_3_236 : Cond.methodLink "LoanChest" 125 yX3_endWeek ∈ BW := bw_3 236 rfl rfl
theorem wd_3_237 : Cond.instanceMethod yX3_endWeek ∈ BW := bw_3 237 rfl rfl
theorem wd_3_238 : Cond.selects "LoanChest$Ledger" yX3_endWeek yX3_endWeek ∈ BW := bw_3 238 rfl rfl
theorem wd_3_239 : Cond.code yX3_endWeek prog_5_method_17_code 4 none ∈ BW := bw_3 239 rfl rfl
theorem wd_4_0 : Cond.methodLink "LoanChest$Ledger" 100 yX4_isToBeCalledAtEnd ∈ BW := bw_4 0 rfl rfl
theorem wd_4_1 : Cond.instanceMethod yX4_isToBeCalledAtEnd ∈ BW := bw_4 1 rfl rfl
theorem wd_4_2 : Cond.selects "LoanChest$Loan" yX4_isToBeCalledAtEnd yX4_isToBeCalledAtEnd ∈ BW := bw_4 2 rfl rfl
theorem wd_4_3 : Cond.code yX4_isToBeCalledAtEnd prog_6_method_6_code 2 (some .boolean) ∈ BW := bw_4 3 rfl rfl
theorem wd_4_4 : Cond.methodLink "LoanChest$Loan" 96 yX4_dueAtEnd ∈ BW := bw_4 4 rfl rfl
theorem wd_4_5 : Cond.instanceMethod yX4_dueAtEnd ∈ BW := bw_4 5 rfl rfl
theorem wd_4_6 : Cond.selects "LoanChest$Loan" yX4_dueAtEnd yX4_dueAtEnd ∈ BW := bw_4 6 rfl rfl
theorem wd_4_7 : Cond.code yX4_dueAtEnd prog_6_method_5_code 3 (some .int) ∈ BW := bw_4 7 rfl rfl
theorem wd_4_8 : Cond.methodLink "LoanChest$Loan" 90 yJ9_min_7cf53 ∈ BW := bw_4 8 rfl rfl
theorem wd_4_9 : Cond.methodLink "LoanChest$Ledger" 103 yX3_callIn ∈ BW := bw_4 9 rfl rfl
theorem wd_4_11 : Cond.instanceMethod yX3_callIn ∈ BW := bw_4 11 rfl rfl
theorem wd_4_12 : Cond.code yX3_callIn prog_5_method_18_code 6 none ∈ BW := bw_4 12 rfl rfl
theorem wd_4_13 : Cond.instantiable "LoanChest$Call" 4 ∈ BW := bw_4 13 rfl rfl
theorem wd_4_14 : Cond.methodLink "LoanChest$Ledger" 111 yX0_init ∈ BW := bw_4 14 rfl rfl
theorem wd_4_15 : Cond.instanceMethod yX0_init ∈ BW := bw_4 15 rfl rfl
theorem wd_4_16 : Cond.code yX0_init prog_2_method_1_code 4 none ∈ BW := bw_4 16 rfl rfl
theorem wd_4_17 : Cond.methodLink "LoanChest$Call" 1 (⟨"java/lang/Object", "<init>", "()V"⟩ : MethodName) ∈ BW := bw_4 17 rfl rfl
theorem wd_4_18 : Cond.fieldLink "LoanChest$Call" 13 "LoanChest$Call" "person" "I" ∈ BW := bw_4 18 rfl rfl
theorem wd_4_19 : Cond.fieldLink "LoanChest$Ledger" 70 "LoanChest$Call" "person" "I" ∈ BW := bw_4 19 rfl rfl
theorem wd_4_20 : Cond.fieldLink "LoanChest$Call" 16 "LoanChest$Call" "loan" "LLoanChest$Loan;" ∈ BW := bw_4 20 rfl rfl
theorem wd_4_21 : Cond.fieldLink "LoanChest$Ledger" 122 "LoanChest$Call" "loan" "LLoanChest$Loan;" ∈ BW := bw_4 21 rfl rfl
theorem wd_4_22 : Cond.fieldLink "LoanChest$Call" 20 "LoanChest$Call" "sum" "I" ∈ BW := bw_4 22 rfl rfl
theorem wd_4_23 : Cond.fieldLink "LoanChest$Call" 7 "LoanChest$Call" "paid" "I" ∈ BW := bw_4 23 rfl rfl
theorem wd_4_24 : Cond.laysFinal "LoanChest$Call" "LoanChest$Call" "person" "I" ∈ BW := bw_4 24 rfl rfl
theorem wd_4_26 : Cond.laysFinal "LoanChest$Call" "LoanChest$Call" "loan" "LLoanChest$Loan;" ∈ BW := bw_4 26 rfl rfl
theorem wd_4_28 : Cond.laysFinal "LoanChest$Call" "LoanChest$Call" "sum" "I" ∈ BW := bw_4 28 rfl rfl
theorem wd_4_30 : Cond.lays "LoanChest$Call" "LoanChest$Call" "paid" "I" ∈ BW := bw_4 30 rfl rfl
theorem wd_4_33 : Cond.methodLink "LoanChestLaw" 86 yX8_chest ∈ BW := bw_4 33 rfl rfl
theorem wd_4_34 : Cond.instanceMethod yX8_chest ∈ BW := bw_4 34 rfl rfl
theorem wd_4_35 : Cond.selects "LoanChest" yX8_chest yX8_chest ∈ BW := bw_4 35 rfl rfl
theorem wd_4_36 : Cond.code yX8_chest prog_1_method_15_code 3 (some .int) ∈ BW := bw_4 36 rfl rfl
theorem wd_4_37 : Cond.methodLink "LoanChest" 128 yX1_penceNow ∈ BW := bw_4 37 rfl rfl
theorem wd_4_38 : Cond.instanceMethod yX1_penceNow ∈ BW := bw_4 38 rfl rfl
theorem wd_4_39 : Cond.selects "LoanChest$Funds" yX1_penceNow yX1_penceNow ∈ BW := bw_4 39 rfl rfl
theorem wd_4_40 : Cond.code yX1_penceNow prog_3_method_5_code 2 (some .int) ∈ BW := bw_4 40 rfl rfl
theorem wd_4_41 : Cond.methodLink "LoanChest" 131 yX1_penceAtEnd ∈ BW := bw_4 41 rfl rfl
theorem wd_4_42 : Cond.instanceMethod yX1_penceAtEnd ∈ BW := bw_4 42 rfl rfl
theorem wd_4_43 : Cond.selects "LoanChest$Funds" yX1_penceAtEnd yX1_penceAtEnd ∈ BW := bw_4 43 rfl rfl
theorem wd_4_44 : Cond.code yX1_penceAtEnd prog_3_method_6_code 3 (some .int) ∈ BW := bw_4 44 rfl rfl
theorem wd_4_45 : Cond.methodLink "LoanChestLaw" 108 yX8_ring ∈ BW := bw_4 45 rfl rfl
theorem wd_4_46 : Cond.instanceMethod yX8_ring ∈ BW := bw_4 46 rfl rfl
theorem wd_4_47 : Cond.selects "LoanChest" yX8_ring yX8_ring ∈ BW := bw_4 47 rfl rfl
theorem wd_4_48 : Cond.code yX8_ring prog_1_method_20_code 3 (some .int) ∈ BW := bw_4 48 rfl rfl
theorem wd_4_49 : Cond.methodLink "LoanChestLaw" 112 yX8_count ∈ BW := bw_4 49 rfl rfl
theorem wd_4_50 : Cond.instanceMethod yX8_count ∈ BW := bw_4 50 rfl rfl
theorem wd_4_51 : Cond.selects "LoanChest" yX8_count yX8_count ∈ BW := bw_4 51 rfl rfl
theorem wd_4_52 : Cond.code yX8_count prog_1_method_21_code 2 (some .int) ∈ BW := bw_4 52 rfl rfl
theorem wd_4_53 : Cond.methodLink "LoanChest" 219 yX1_howMany ∈ BW := bw_4 53 rfl rfl
theorem wd_4_54 : Cond.instanceMethod yX1_howMany ∈ BW := bw_4 54 rfl rfl
theorem wd_4_55 : Cond.selects "LoanChest$Funds" yX1_howMany yX1_howMany ∈ BW := bw_4 55 rfl rfl
theorem wd_4_56 : Cond.code yX1_howMany prog_3_method_2_code 1 (some .int) ∈ BW := bw_4 56 rfl rfl
theorem wd_4_57 : Cond.methodLink "LoanChest" 225 yX3_howManyOpen ∈ BW := bw_4 57 rfl rfl
theorem wd_4_58 : Cond.instanceMethod yX3_howManyOpen ∈ BW := bw_4 58 rfl rfl
theorem wd_4_59 : Cond.selects "LoanChest$Ledger" yX3_howManyOpen yX3_howManyOpen ∈ BW := bw_4 59 rfl rfl
theorem wd_4_60 : Cond.code yX3_howManyOpen prog_5_method_6_code 3 (some .int) ∈ BW := bw_4 60 rfl rfl
theorem wd_4_61 : Cond.methodLink "LoanChest" 228 yX3_lostPence ∈ BW := bw_4 61 rfl rfl
theorem wd_4_62 : Cond.instanceMethod yX3_lostPence ∈ BW := bw_4 62 rfl rfl
theorem wd_4_63 : Cond.selects "LoanChest$Ledger" yX3_lostPence yX3_lostPence ∈ BW := bw_4 63 rfl rfl
theorem wd_4_64 : Cond.code yX3_lostPence prog_5_method_3_code 1 (some .int) ∈ BW := bw_4 64 rfl rfl
theorem wd_4_65 : Cond.methodLink "LoanChest" 231 yX1_givenInAll ∈ BW := bw_4 65 rfl rfl
theorem wd_4_66 : Cond.instanceMethod yX1_givenInAll ∈ BW := bw_4 66 rfl rfl
theorem wd_4_67 : Cond.selects "LoanChest$Funds" yX1_givenInAll yX1_givenInAll ∈ BW := bw_4 67 rfl rfl
theorem wd_4_68 : Cond.code yX1_givenInAll prog_3_method_3_code 1 (some .int) ∈ BW := bw_4 68 rfl rfl
theorem wd_4_69 : Cond.methodLink "LoanChestLaw" 90 yL_loan ∈ BW := bw_4 69 rfl rfl
theorem wd_4_70 : Cond.static yL_loan ∈ BW := bw_4 70 rfl rfl
theorem wd_4_71 : Cond.codeWith yL_loan method_3_code 5 (some .int) [(0, 10, 13, 13)] ∈ BW := bw_4 71 rfl rfl
theorem wd_4_72 : Cond.classLink "LoanChestLaw" 13 "java/util/NoSuchElementException" ∈ BW := bw_4 72 rfl rfl
theorem wd_4_73 : Cond.methodLink "LoanChestLaw" 7 yX8_loan ∈ BW := bw_4 73 rfl rfl
theorem wd_4_74 : Cond.instanceMethod yX8_loan ∈ BW := bw_4 74 rfl rfl
theorem wd_4_75 : Cond.selects "LoanChest" yX8_loan yX8_loan ∈ BW := bw_4 75 rfl rfl
theorem wd_4_76 : Cond.code yX8_loan prog_1_method_16_code 4 (some .int) ∈ BW := bw_4 76 rfl rfl
theorem wd_4_77 : Cond.methodLink "LoanChest" 134 yX3_loanAt ∈ BW := bw_4 77 rfl rfl
theorem wd_4_78 : Cond.instanceMethod yX3_loanAt ∈ BW := bw_4 78 rfl rfl
theorem wd_4_79 : Cond.selects "LoanChest$Ledger" yX3_loanAt yX3_loanAt ∈ BW := bw_4 79 rfl rfl
theorem wd_4_80 : Cond.code yX3_loanAt prog_5_method_5_code 2 (some (.object "LoanChest$Loan")) ∈ BW := bw_4 80 rfl rfl
theorem wd_4_81 : Cond.classLink "LoanChest" 138 "java/util/NoSuchElementException" ∈ BW := bw_4 81 rfl rfl
theorem wd_4_82 : Cond.instantiable "java/util/NoSuchElementException" 6 ∈ BW := bw_4 82 rfl rfl
theorem wd_4_90 : Cond.selects "java/util/NoSuchElementException" (⟨"java/lang/Throwable", "fillInStackTrace", "(I)Ljava/lang/Throwable;"⟩ : MethodName) (⟨"java/lang/Throwable", "fillInStackTrace", "(I)Ljava/lang/Throwable;"⟩ : MethodName) ∈ BW := bw_4 90 rfl rfl
theorem wd_4_91 : Cond.selects "java/util/NoSuchElementException" (⟨"java/lang/Throwable", "fillInStackTrace", "()Ljava/lang/Throwable;"⟩ : MethodName) (⟨"java/lang/Throwable", "fillInStackTrace", "()Ljava/lang/Throwable;"⟩ : MethodName) ∈ BW := bw_4 91 rfl rfl
theorem wd_4_92 : Cond.lays "java/util/NoSuchElementException" "java/lang/Throwable" "cause" "Ljava/lang/Throwable;" ∈ BW := bw_4 92 rfl rfl
theorem wd_4_93 : Cond.lays "java/lang/Throwable" "java/lang/Throwable" "cause" "Ljava/lang/Throwable;" ∈ BW := bw_4 93 rfl rfl
theorem wd_4_94 : Cond.lays "java/util/NoSuchElementException" "java/lang/Throwable" "stackTrace" "[Ljava/lang/StackTraceElement;" ∈ BW := bw_4 94 rfl rfl
theorem wd_4_95 : Cond.lays "java/lang/Throwable" "java/lang/Throwable" "stackTrace" "[Ljava/lang/StackTraceElement;" ∈ BW := bw_4 95 rfl rfl
theorem wd_4_96 : Cond.lays "java/util/NoSuchElementException" "java/lang/Throwable" "suppressedExceptions" "Ljava/util/List;" ∈ BW := bw_4 96 rfl rfl
theorem wd_4_97 : Cond.lays "java/lang/Throwable" "java/lang/Throwable" "suppressedExceptions" "Ljava/util/List;" ∈ BW := bw_4 97 rfl rfl
theorem wd_4_98 : Cond.lays "java/util/NoSuchElementException" "java/lang/Throwable" "detailMessage" "Ljava/lang/String;" ∈ BW := bw_4 98 rfl rfl
theorem wd_4_99 : Cond.lays "java/lang/Throwable" "java/lang/Throwable" "detailMessage" "Ljava/lang/String;" ∈ BW := bw_4 99 rfl rfl
theorem wd_4_100 : Cond.lays "java/util/NoSuchElementException" "java/lang/Throwable" "backtrace" "Ljava/lang/Object;" ∈ BW := bw_4 100 rfl rfl
theorem wd_4_101 : Cond.lays "java/lang/Throwable" "java/lang/Throwable" "backtrace" "Ljava/lang/Object;" ∈ BW := bw_4 101 rfl rfl
theorem wd_4_102 : Cond.fieldLink "java/lang/Throwable" 198 "java/lang/Throwable" "backtrace" "Ljava/lang/Object;" ∈ BW := bw_4 102 rfl rfl
theorem wd_4_104 : Cond.instanceMethod (⟨"java/lang/Throwable", "<init>", "()V"⟩ : MethodName) ∈ BW := bw_4 104 rfl rfl
theorem wd_4_105 : Cond.code (⟨"java/lang/Throwable", "<init>", "()V"⟩ : MethodName) prog_23_method_1_code 1 none ∈ BW := bw_4 105 rfl rfl
theorem wd_4_106 : Cond.methodLink "java/lang/Throwable" 1 (⟨"java/lang/Object", "<init>", "()V"⟩ : MethodName) ∈ BW := bw_4 106 rfl rfl
theorem wd_4_107 : Cond.fieldLink "java/lang/Throwable" 13 "java/lang/Throwable" "UNASSIGNED_STACK" "[Ljava/lang/StackTraceElement;" ∈ BW := bw_4 107 rfl rfl
theorem wd_4_108 : Cond.laysStatic "java/lang/Throwable" "UNASSIGNED_STACK" "[Ljava/lang/StackTraceElement;" ∈ lw_tbl := List.mem_append_right _ (List.mem_append_right _ (List.mem_append_right _ (List.mem_append_right _ (List.mem_append_left _ (List.mem_of_getElem? (i := 108) rfl)))))
theorem wd_4_109 : Cond.fieldLink "java/lang/Throwable" 20 "java/lang/Throwable" "SUPPRESSED_SENTINEL" "Ljava/util/List;" ∈ BW := bw_4 109 rfl rfl
theorem wd_4_110 : Cond.laysStatic "java/lang/Throwable" "SUPPRESSED_SENTINEL" "Ljava/util/List;" ∈ lw_tbl := List.mem_append_right _ (List.mem_append_right _ (List.mem_append_right _ (List.mem_append_right _ (List.mem_append_left _ (List.mem_of_getElem? (i := 110) rfl)))))
theorem wd_4_111 : Cond.methodLink "java/lang/Throwable" 27 (⟨"java/lang/Throwable", "fillInStackTrace", "()Ljava/lang/Throwable;"⟩ : MethodName) ∈ BW := bw_4 111 rfl rfl
theorem wd_4_112 : Cond.instanceMethod (⟨"java/lang/Throwable", "fillInStackTrace", "()Ljava/lang/Throwable;"⟩ : MethodName) ∈ BW := bw_4 112 rfl rfl
theorem wd_4_113 : Cond.sameMethod "java/lang/Throwable" "java/lang/Throwable" "fillInStackTrace" "()Ljava/lang/Throwable;" ∈ BW := bw_4 113 rfl rfl
theorem wd_4_114 : Cond.codeSync (⟨"java/lang/Throwable", "fillInStackTrace", "()Ljava/lang/Throwable;"⟩ : MethodName) prog_23_method_18_code 1 (some (.object "java/lang/Throwable")) ∈ BW := bw_4 114 rfl rfl
theorem wd_4_115 : Cond.methodLink "java/lang/Throwable" 202 (⟨"java/lang/Throwable", "fillInStackTrace", "(I)Ljava/lang/Throwable;"⟩ : MethodName) ∈ BW := bw_4 115 rfl rfl
theorem wd_4_117 : Cond.instanceMethod (⟨"java/lang/Throwable", "fillInStackTrace", "(I)Ljava/lang/Throwable;"⟩ : MethodName) ∈ BW := bw_4 117 rfl rfl
theorem wd_4_118 : Cond.instantiable "java/lang/Throwable" 6 ∈ BW := bw_4 118 rfl rfl
theorem wd_4_119 : Cond.native (⟨"java/lang/Throwable", "fillInStackTrace", "(I)Ljava/lang/Throwable;"⟩ : MethodName) ∈ BW := bw_4 119 rfl rfl
theorem wd_4_121 : Cond.methodLink "LoanChest" 142 (⟨"java/util/NoSuchElementException", "<init>", "(Ljava/lang/String;)V"⟩ : MethodName) ∈ BW := bw_4 121 rfl rfl
theorem wd_4_122 : Cond.instanceMethod (⟨"java/util/NoSuchElementException", "<init>", "(Ljava/lang/String;)V"⟩ : MethodName) ∈ BW := bw_4 122 rfl rfl
theorem wd_4_123 : Cond.code (⟨"java/util/NoSuchElementException", "<init>", "(Ljava/lang/String;)V"⟩ : MethodName) prog_30_method_4_code 2 none ∈ BW := bw_4 123 rfl rfl
theorem wd_4_124 : Cond.methodLink "java/util/NoSuchElementException" 13 (⟨"java/lang/RuntimeException", "<init>", "(Ljava/lang/String;)V"⟩ : MethodName) ∈ BW := bw_4 124 rfl rfl
theorem wd_4_125 : Cond.instanceMethod (⟨"java/lang/RuntimeException", "<init>", "(Ljava/lang/String;)V"⟩ : MethodName) ∈ BW := bw_4 125 rfl rfl
theorem wd_4_126 : Cond.code (⟨"java/lang/RuntimeException", "<init>", "(Ljava/lang/String;)V"⟩ : MethodName) prog_18_method_2_code 2 none ∈ BW := bw_4 126 rfl rfl
theorem wd_4_127 : Cond.methodLink "java/lang/RuntimeException" 7 (⟨"java/lang/Exception", "<init>", "(Ljava/lang/String;)V"⟩ : MethodName) ∈ BW := bw_4 127 rfl rfl
theorem wd_4_128 : Cond.instanceMethod (⟨"java/lang/Exception", "<init>", "(Ljava/lang/String;)V"⟩ : MethodName) ∈ BW := bw_4 128 rfl rfl
theorem wd_4_129 : Cond.code (⟨"java/lang/Exception", "<init>", "(Ljava/lang/String;)V"⟩ : MethodName) prog_15_method_2_code 2 none ∈ BW := bw_4 129 rfl rfl
theorem wd_4_130 : Cond.methodLink "java/lang/Exception" 7 (⟨"java/lang/Throwable", "<init>", "(Ljava/lang/String;)V"⟩ : MethodName) ∈ BW := bw_4 130 rfl rfl
theorem wd_4_131 : Cond.instanceMethod (⟨"java/lang/Throwable", "<init>", "(Ljava/lang/String;)V"⟩ : MethodName) ∈ BW := bw_4 131 rfl rfl
theorem wd_4_132 : Cond.code (⟨"java/lang/Throwable", "<init>", "(Ljava/lang/String;)V"⟩ : MethodName) prog_23_method_2_code 2 none ∈ BW := bw_4 132 rfl rfl
theorem wd_4_134 : Cond.fieldLink "java/lang/Throwable" 31 "java/lang/Throwable" "detailMessage" "Ljava/lang/String;" ∈ BW := bw_4 134 rfl rfl
theorem wd_4_135 : Cond.fieldLink "java/lang/Throwable" 7 "java/lang/Throwable" "cause" "Ljava/lang/Throwable;" ∈ BW := bw_4 135 rfl rfl
theorem wd_4_136 : Cond.fieldLink "java/lang/Throwable" 17 "java/lang/Throwable" "stackTrace" "[Ljava/lang/StackTraceElement;" ∈ BW := bw_4 136 rfl rfl
theorem wd_4_137 : Cond.fieldLink "java/lang/Throwable" 24 "java/lang/Throwable" "suppressedExceptions" "Ljava/util/List;" ∈ BW := bw_4 137 rfl rfl
theorem wd_4_142 : Cond.lays "java/util/NoSuchElementException" "java/lang/Throwable" "depth" "I" ∈ BW := bw_4 142 rfl rfl
theorem wd_4_146 : Cond.arrayClass .byte ∈ BW := bw_4 146 rfl rfl
theorem wd_4_148 : Cond.methodLink "LoanChestLaw" 99 yL_surety ∈ BW := bw_4 148 rfl rfl
theorem wd_4_149 : Cond.static yL_surety ∈ BW := bw_4 149 rfl rfl
theorem wd_4_150 : Cond.codeWith yL_surety method_4_code 5 (some .int) [(0, 10, 13, 13)] ∈ BW := bw_4 150 rfl rfl
theorem wd_4_151 : Cond.methodLink "LoanChestLaw" 15 yX8_surety ∈ BW := bw_4 151 rfl rfl
theorem wd_4_152 : Cond.instanceMethod yX8_surety ∈ BW := bw_4 152 rfl rfl
theorem wd_4_153 : Cond.selects "LoanChest" yX8_surety yX8_surety ∈ BW := bw_4 153 rfl rfl
theorem wd_4_154 : Cond.code yX8_surety prog_1_method_17_code 4 (some .int) ∈ BW := bw_4 154 rfl rfl
theorem wd_4_156 : Cond.methodLink "LoanChestLaw" 102 yL_taken ∈ BW := bw_4 156 rfl rfl
theorem wd_4_157 : Cond.static yL_taken ∈ BW := bw_4 157 rfl rfl
theorem wd_4_158 : Cond.codeWith yL_taken method_5_code 5 (some .int) [(0, 10, 13, 13)] ∈ BW := bw_4 158 rfl rfl
theorem wd_4_159 : Cond.methodLink "LoanChestLaw" 18 yX8_taken ∈ BW := bw_4 159 rfl rfl
theorem wd_4_160 : Cond.instanceMethod yX8_taken ∈ BW := bw_4 160 rfl rfl
theorem wd_4_161 : Cond.selects "LoanChest" yX8_taken yX8_taken ∈ BW := bw_4 161 rfl rfl
theorem wd_4_162 : Cond.code yX8_taken prog_1_method_18_code 4 (some .int) ∈ BW := bw_4 162 rfl rfl
theorem wd_4_164 : Cond.methodLink "LoanChestLaw" 105 yL_about ∈ BW := bw_4 164 rfl rfl
theorem wd_4_165 : Cond.static yL_about ∈ BW := bw_4 165 rfl rfl
theorem wd_4_166 : Cond.codeWith yL_about method_6_code 5 (some .int) [(0, 10, 13, 13)] ∈ BW := bw_4 166 rfl rfl
theorem wd_4_167 : Cond.methodLink "LoanChestLaw" 21 yX8_about ∈ BW := bw_4 167 rfl rfl
theorem wd_4_168 : Cond.instanceMethod yX8_about ∈ BW := bw_4 168 rfl rfl
theorem wd_4_169 : Cond.selects "LoanChest" yX8_about yX8_about ∈ BW := bw_4 169 rfl rfl
theorem wd_4_170 : Cond.code yX8_about prog_1_method_19_code 3 (some .int) ∈ BW := bw_4 170 rfl rfl
theorem wd_4_172 : Cond.methodLink "LoanChest" 188 yX3_characterOf ∈ BW := bw_4 172 rfl rfl
theorem wd_4_173 : Cond.instanceMethod yX3_characterOf ∈ BW := bw_4 173 rfl rfl
theorem wd_4_174 : Cond.selects "LoanChest$Ledger" yX3_characterOf yX3_characterOf ∈ BW := bw_4 174 rfl rfl
theorem wd_4_175 : Cond.code yX3_characterOf prog_5_method_10_code 4 (some .int) ∈ BW := bw_4 175 rfl rfl
theorem wd_4_176 : Cond.methodLink "LoanChest$Ledger" 52 yX3_worthOf ∈ BW := bw_4 176 rfl rfl
theorem wd_4_177 : Cond.static yX3_worthOf ∈ BW := bw_4 177 rfl rfl
theorem wd_4_178 : Cond.code yX3_worthOf prog_5_method_11_code 2 (some .int) ∈ BW := bw_4 178 rfl rfl
theorem wd_4_179 : Cond.methodLink "LoanChest$Ledger" 62 yJ9_max_7cf53 ∈ BW := bw_4 179 rfl rfl
theorem wd_4_180 : Cond.methodLink "LoanChest" 194 yX8_openLoanNumber ∈ BW := bw_4 180 rfl rfl
theorem wd_4_182 : Cond.instanceMethod yX8_openLoanNumber ∈ BW := bw_4 182 rfl rfl
theorem wd_4_183 : Cond.code yX8_openLoanNumber prog_1_method_25_code 3 (some .int) ∈ BW := bw_4 183 rfl rfl
theorem wd_4_184 : Cond.methodLink "LoanChest" 203 yX3_owedByCalls ∈ BW := bw_4 184 rfl rfl
theorem wd_4_186 : Cond.classLink "LoanChestLaw" 25 "LoanChestModel" ∈ BW := bw_4 186 rfl rfl
theorem wd_4_187 : Cond.instantiable "LoanChestModel" 48 ∈ BW := bw_4 187 rfl rfl
theorem wd_4_188 : Cond.methodLink "LoanChestLaw" 27 yX9_init ∈ BW := bw_4 188 rfl rfl
theorem wd_4_189 : Cond.instanceMethod yX9_init ∈ BW := bw_4 189 rfl rfl
theorem wd_4_190 : Cond.code yX9_init prog_11_method_1_code 1 none ∈ BW := bw_4 190 rfl rfl
theorem wd_4_191 : Cond.methodLink "LoanChestModel" 1 (⟨"java/lang/Object", "<init>", "()V"⟩ : MethodName) ∈ BW := bw_4 191 rfl rfl
theorem wd_4_192 : Cond.constant "LoanChestModel" 22 (99999 : Int32) ∈ BW := bw_4 192 rfl rfl
theorem wd_4_193 : Cond.fieldLink "LoanChestModel" 105 "LoanChestModel" "thrown" "I" ∈ BW := bw_4 193 rfl rfl
theorem wd_4_194 : Cond.fieldLink "LoanChestModel" 7 "LoanChestModel" "tape" "[I" ∈ BW := bw_4 194 rfl rfl
theorem wd_4_195 : Cond.fieldLink "LoanChestModel" 108 "LoanChestModel" "taped" "I" ∈ BW := bw_4 195 rfl rfl
theorem wd_4_196 : Cond.fieldLink "LoanChestModel" 13 "LoanChestModel" "rule" "[I" ∈ BW := bw_4 196 rfl rfl
theorem wd_4_197 : Cond.fieldLink "LoanChestModel" 16 "LoanChestModel" "usual" "[I" ∈ BW := bw_4 197 rfl rfl
theorem wd_4_198 : Cond.fieldLink "LoanChestModel" 19 "LoanChestModel" "low" "[I" ∈ BW := bw_4 198 rfl rfl
theorem wd_4_199 : Cond.fieldLink "LoanChestModel" 23 "LoanChestModel" "high" "[I" ∈ BW := bw_4 199 rfl rfl
theorem wd_4_200 : Cond.fieldLink "LoanChestModel" 26 "LoanChestModel" "newRule" "[I" ∈ BW := bw_4 200 rfl rfl
theorem wd_4_201 : Cond.fieldLink "LoanChestModel" 161 "LoanChestModel" "fault" "I" ∈ BW := bw_4 201 rfl rfl
theorem wd_4_202 : Cond.fieldLink "LoanChestModel" 164 "LoanChestModel" "place" "I" ∈ BW := bw_4 202 rfl rfl
theorem wd_4_203 : Cond.fieldLink "LoanChestModel" 115 "LoanChestModel" "size" "I" ∈ BW := bw_4 203 rfl rfl
theorem wd_4_204 : Cond.fieldLink "LoanChestModel" 118 "LoanChestModel" "to" "I" ∈ BW := bw_4 204 rfl rfl
theorem wd_4_205 : Cond.fieldLink "LoanChestModel" 121 "LoanChestModel" "from" "I" ∈ BW := bw_4 205 rfl rfl
theorem wd_4_206 : Cond.fieldLink "LoanChestModel" 124 "LoanChestModel" "kind" "I" ∈ BW := bw_4 206 rfl rfl
theorem wd_4_207 : Cond.fieldLink "LoanChestModel" 138 "LoanChestModel" "number" "I" ∈ BW := bw_4 207 rfl rfl
theorem wd_4_208 : Cond.fieldLink "LoanChestModel" 134 "LoanChestModel" "name" "J" ∈ BW := bw_4 208 rfl rfl
theorem wd_4_209 : Cond.fieldLink "LoanChestModel" 167 "LoanChestModel" "told" "I" ∈ BW := bw_4 209 rfl rfl
theorem wd_4_210 : Cond.fieldLink "LoanChestModel" 29 "LoanChestModel" "tags" "[I" ∈ BW := bw_4 210 rfl rfl
theorem wd_4_211 : Cond.fieldLink "LoanChestModel" 32 "LoanChestModel" "fundTag" "[I" ∈ BW := bw_4 211 rfl rfl
theorem wd_4_212 : Cond.fieldLink "LoanChestModel" 35 "LoanChestModel" "pence" "[I" ∈ BW := bw_4 212 rfl rfl
theorem wd_4_213 : Cond.fieldLink "LoanChestModel" 38 "LoanChestModel" "book" "[I" ∈ BW := bw_4 213 rfl rfl
theorem wd_4_214 : Cond.fieldLink "LoanChestModel" 184 "LoanChestModel" "people" "I" ∈ BW := bw_4 214 rfl rfl
theorem wd_4_215 : Cond.fieldLink "LoanChestModel" 41 "LoanChestModel" "funds" "I" ∈ BW := bw_4 215 rfl rfl
theorem wd_4_216 : Cond.fieldLink "LoanChestModel" 230 "LoanChestModel" "week" "I" ∈ BW := bw_4 216 rfl rfl
theorem wd_4_217 : Cond.fieldLink "LoanChestModel" 191 "LoanChestModel" "given" "I" ∈ BW := bw_4 217 rfl rfl
theorem wd_4_218 : Cond.fieldLink "LoanChestModel" 243 "LoanChestModel" "lost" "I" ∈ BW := bw_4 218 rfl rfl
theorem wd_4_219 : Cond.fieldLink "LoanChestModel" 45 "LoanChestModel" "who" "[I" ∈ BW := bw_4 219 rfl rfl
theorem wd_4_220 : Cond.fieldLink "LoanChestModel" 48 "LoanChestModel" "amount" "[I" ∈ BW := bw_4 220 rfl rfl
theorem wd_4_221 : Cond.fieldLink "LoanChestModel" 51 "LoanChestModel" "began" "[I" ∈ BW := bw_4 221 rfl rfl
theorem wd_4_222 : Cond.fieldLink "LoanChestModel" 54 "LoanChestModel" "weeks" "[I" ∈ BW := bw_4 222 rfl rfl
theorem wd_4_223 : Cond.fieldLink "LoanChestModel" 57 "LoanChestModel" "fine" "[I" ∈ BW := bw_4 223 rfl rfl
theorem wd_4_224 : Cond.fieldLink "LoanChestModel" 60 "LoanChestModel" "callAt" "[I" ∈ BW := bw_4 224 rfl rfl
theorem wd_4_225 : Cond.fieldLink "LoanChestModel" 63 "LoanChestModel" "paid" "[I" ∈ BW := bw_4 225 rfl rfl
theorem wd_4_226 : Cond.fieldLink "LoanChestModel" 66 "LoanChestModel" "fines" "[I" ∈ BW := bw_4 226 rfl rfl
theorem wd_4_227 : Cond.fieldLink "LoanChestModel" 69 "LoanChestModel" "finesPaid" "[I" ∈ BW := bw_4 227 rfl rfl
theorem wd_4_228 : Cond.fieldLink "LoanChestModel" 72 "LoanChestModel" "late" "[I" ∈ BW := bw_4 228 rfl rfl
theorem wd_4_229 : Cond.fieldLink "LoanChestModel" 75 "LoanChestModel" "lateRow" "[I" ∈ BW := bw_4 229 rfl rfl
theorem wd_4_230 : Cond.fieldLink "LoanChestModel" 78 "LoanChestModel" "state" "[I" ∈ BW := bw_4 230 rfl rfl
theorem wd_4_231 : Cond.fieldLink "LoanChestModel" 81 "LoanChestModel" "backAll" "[I" ∈ BW := bw_4 231 rfl rfl
theorem wd_4_232 : Cond.fieldLink "LoanChestModel" 84 "LoanChestModel" "sureties" "[I" ∈ BW := bw_4 232 rfl rfl
theorem wd_4_233 : Cond.fieldLink "LoanChestModel" 87 "LoanChestModel" "surety" "[I" ∈ BW := bw_4 233 rfl rfl
theorem wd_4_234 : Cond.fieldLink "LoanChestModel" 90 "LoanChestModel" "taken" "[I" ∈ BW := bw_4 234 rfl rfl
theorem wd_4_235 : Cond.fieldLink "LoanChestModel" 198 "LoanChestModel" "loans" "I" ∈ BW := bw_4 235 rfl rfl
theorem wd_4_236 : Cond.fieldLink "LoanChestModel" 93 "LoanChestModel" "callWho" "[I" ∈ BW := bw_4 236 rfl rfl
theorem wd_4_237 : Cond.fieldLink "LoanChestModel" 96 "LoanChestModel" "callLoan" "[I" ∈ BW := bw_4 237 rfl rfl
theorem wd_4_238 : Cond.fieldLink "LoanChestModel" 99 "LoanChestModel" "callLeft" "[I" ∈ BW := bw_4 238 rfl rfl
theorem wd_4_239 : Cond.fieldLink "LoanChestModel" 201 "LoanChestModel" "calls" "I" ∈ BW := bw_4 239 rfl rfl
theorem wd_5_0 : Cond.fieldLink "LoanChestModel" 102 "LoanChestModel" "far" "[I" ∈ BW := bw_5 0 rfl rfl
theorem wd_5_1 : Cond.lays "LoanChestModel" "LoanChestModel" "thrown" "I" ∈ BW := bw_5 1 rfl rfl
theorem wd_5_3 : Cond.laysFinal "LoanChestModel" "LoanChestModel" "tape" "[I" ∈ BW := bw_5 3 rfl rfl
theorem wd_5_5 : Cond.lays "LoanChestModel" "LoanChestModel" "taped" "I" ∈ BW := bw_5 5 rfl rfl
theorem wd_5_7 : Cond.laysFinal "LoanChestModel" "LoanChestModel" "rule" "[I" ∈ BW := bw_5 7 rfl rfl
theorem wd_5_9 : Cond.laysFinal "LoanChestModel" "LoanChestModel" "usual" "[I" ∈ BW := bw_5 9 rfl rfl
theorem wd_5_11 : Cond.laysFinal "LoanChestModel" "LoanChestModel" "low" "[I" ∈ BW := bw_5 11 rfl rfl
theorem wd_5_13 : Cond.laysFinal "LoanChestModel" "LoanChestModel" "high" "[I" ∈ BW := bw_5 13 rfl rfl
theorem wd_5_15 : Cond.laysFinal "LoanChestModel" "LoanChestModel" "newRule" "[I" ∈ BW := bw_5 15 rfl rfl
theorem wd_5_17 : Cond.lays "LoanChestModel" "LoanChestModel" "fault" "I" ∈ BW := bw_5 17 rfl rfl
theorem wd_5_19 : Cond.lays "LoanChestModel" "LoanChestModel" "place" "I" ∈ BW := bw_5 19 rfl rfl
theorem wd_5_21 : Cond.lays "LoanChestModel" "LoanChestModel" "size" "I" ∈ BW := bw_5 21 rfl rfl
theorem wd_5_23 : Cond.lays "LoanChestModel" "LoanChestModel" "to" "I" ∈ BW := bw_5 23 rfl rfl
theorem wd_5_25 : Cond.lays "LoanChestModel" "LoanChestModel" "from" "I" ∈ BW := bw_5 25 rfl rfl
theorem wd_5_27 : Cond.lays "LoanChestModel" "LoanChestModel" "kind" "I" ∈ BW := bw_5 27 rfl rfl
theorem wd_5_29 : Cond.lays "LoanChestModel" "LoanChestModel" "number" "I" ∈ BW := bw_5 29 rfl rfl
theorem wd_5_31 : Cond.lays "LoanChestModel" "LoanChestModel" "name" "J" ∈ BW := bw_5 31 rfl rfl
theorem wd_5_33 : Cond.lays "LoanChestModel" "LoanChestModel" "told" "I" ∈ BW := bw_5 33 rfl rfl
theorem wd_5_35 : Cond.laysFinal "LoanChestModel" "LoanChestModel" "tags" "[I" ∈ BW := bw_5 35 rfl rfl
theorem wd_5_37 : Cond.laysFinal "LoanChestModel" "LoanChestModel" "fundTag" "[I" ∈ BW := bw_5 37 rfl rfl
theorem wd_5_39 : Cond.laysFinal "LoanChestModel" "LoanChestModel" "pence" "[I" ∈ BW := bw_5 39 rfl rfl
theorem wd_5_41 : Cond.laysFinal "LoanChestModel" "LoanChestModel" "book" "[I" ∈ BW := bw_5 41 rfl rfl
theorem wd_5_43 : Cond.lays "LoanChestModel" "LoanChestModel" "people" "I" ∈ BW := bw_5 43 rfl rfl
theorem wd_5_45 : Cond.lays "LoanChestModel" "LoanChestModel" "funds" "I" ∈ BW := bw_5 45 rfl rfl
theorem wd_5_47 : Cond.lays "LoanChestModel" "LoanChestModel" "week" "I" ∈ BW := bw_5 47 rfl rfl
theorem wd_5_49 : Cond.lays "LoanChestModel" "LoanChestModel" "given" "I" ∈ BW := bw_5 49 rfl rfl
theorem wd_5_51 : Cond.lays "LoanChestModel" "LoanChestModel" "lost" "I" ∈ BW := bw_5 51 rfl rfl
theorem wd_5_53 : Cond.laysFinal "LoanChestModel" "LoanChestModel" "who" "[I" ∈ BW := bw_5 53 rfl rfl
theorem wd_5_55 : Cond.laysFinal "LoanChestModel" "LoanChestModel" "amount" "[I" ∈ BW := bw_5 55 rfl rfl
theorem wd_5_57 : Cond.laysFinal "LoanChestModel" "LoanChestModel" "began" "[I" ∈ BW := bw_5 57 rfl rfl
theorem wd_5_59 : Cond.laysFinal "LoanChestModel" "LoanChestModel" "weeks" "[I" ∈ BW := bw_5 59 rfl rfl
theorem wd_5_61 : Cond.laysFinal "LoanChestModel" "LoanChestModel" "fine" "[I" ∈ BW := bw_5 61 rfl rfl
theorem wd_5_63 : Cond.laysFinal "LoanChestModel" "LoanChestModel" "callAt" "[I" ∈ BW := bw_5 63 rfl rfl
theorem wd_5_65 : Cond.laysFinal "LoanChestModel" "LoanChestModel" "paid" "[I" ∈ BW := bw_5 65 rfl rfl
theorem wd_5_67 : Cond.laysFinal "LoanChestModel" "LoanChestModel" "fines" "[I" ∈ BW := bw_5 67 rfl rfl
theorem wd_5_69 : Cond.laysFinal "LoanChestModel" "LoanChestModel" "finesPaid" "[I" ∈ BW := bw_5 69 rfl rfl
theorem wd_5_71 : Cond.laysFinal "LoanChestModel" "LoanChestModel" "late" "[I" ∈ BW := bw_5 71 rfl rfl
theorem wd_5_73 : Cond.laysFinal "LoanChestModel" "LoanChestModel" "lateRow" "[I" ∈ BW := bw_5 73 rfl rfl
theorem wd_5_75 : Cond.laysFinal "LoanChestModel" "LoanChestModel" "state" "[I" ∈ BW := bw_5 75 rfl rfl
theorem wd_5_77 : Cond.laysFinal "LoanChestModel" "LoanChestModel" "backAll" "[I" ∈ BW := bw_5 77 rfl rfl
theorem wd_5_79 : Cond.laysFinal "LoanChestModel" "LoanChestModel" "sureties" "[I" ∈ BW := bw_5 79 rfl rfl
theorem wd_5_81 : Cond.laysFinal "LoanChestModel" "LoanChestModel" "surety" "[I" ∈ BW := bw_5 81 rfl rfl
theorem wd_5_83 : Cond.laysFinal "LoanChestModel" "LoanChestModel" "taken" "[I" ∈ BW := bw_5 83 rfl rfl
theorem wd_5_85 : Cond.lays "LoanChestModel" "LoanChestModel" "loans" "I" ∈ BW := bw_5 85 rfl rfl
theorem wd_5_87 : Cond.laysFinal "LoanChestModel" "LoanChestModel" "callWho" "[I" ∈ BW := bw_5 87 rfl rfl
theorem wd_5_89 : Cond.laysFinal "LoanChestModel" "LoanChestModel" "callLoan" "[I" ∈ BW := bw_5 89 rfl rfl
theorem wd_5_91 : Cond.laysFinal "LoanChestModel" "LoanChestModel" "callLeft" "[I" ∈ BW := bw_5 91 rfl rfl
theorem wd_5_93 : Cond.lays "LoanChestModel" "LoanChestModel" "calls" "I" ∈ BW := bw_5 93 rfl rfl
theorem wd_5_95 : Cond.laysFinal "LoanChestModel" "LoanChestModel" "far" "[I" ∈ BW := bw_5 95 rfl rfl
theorem wd_5_98 : Cond.methodLink "LoanChestLaw" 96 yX9_thrown ∈ BW := bw_5 98 rfl rfl
theorem wd_5_99 : Cond.instanceMethod yX9_thrown ∈ BW := bw_5 99 rfl rfl
theorem wd_5_100 : Cond.selects "LoanChestModel" yX9_thrown yX9_thrown ∈ BW := bw_5 100 rfl rfl
theorem wd_5_101 : Cond.code yX9_thrown prog_11_method_2_code 1 (some .int) ∈ BW := bw_5 101 rfl rfl
theorem wd_5_102 : Cond.methodLink "LoanChestLaw" 32 yX9_feed ∈ BW := bw_5 102 rfl rfl
theorem wd_5_103 : Cond.instanceMethod yX9_feed ∈ BW := bw_5 103 rfl rfl
theorem wd_5_104 : Cond.selects "LoanChestModel" yX9_feed yX9_feed ∈ BW := bw_5 104 rfl rfl
theorem wd_5_105 : Cond.code yX9_feed prog_11_method_5_code 6 (some .int) ∈ BW := bw_5 105 rfl rfl
theorem wd_5_106 : Cond.methodLink "LoanChestModel" 111 yX9_come ∈ BW := bw_5 106 rfl rfl
theorem wd_5_108 : Cond.instanceMethod yX9_come ∈ BW := bw_5 108 rfl rfl
theorem wd_5_109 : Cond.code yX9_come prog_11_method_4_code 3 none ∈ BW := bw_5 109 rfl rfl
theorem wd_5_110 : Cond.methodLink "LoanChestLaw" 37 yX9_end ∈ BW := bw_5 110 rfl rfl
theorem wd_5_111 : Cond.instanceMethod yX9_end ∈ BW := bw_5 111 rfl rfl
theorem wd_5_112 : Cond.selects "LoanChestModel" yX9_end yX9_end ∈ BW := bw_5 112 rfl rfl
theorem wd_5_113 : Cond.code yX9_end prog_11_method_6_code 2 (some .boolean) ∈ BW := bw_5 113 rfl rfl
theorem wd_5_114 : Cond.methodLink "LoanChestLaw" 42 yX9_rules ∈ BW := bw_5 114 rfl rfl
theorem wd_5_115 : Cond.instanceMethod yX9_rules ∈ BW := bw_5 115 rfl rfl
theorem wd_5_116 : Cond.selects "LoanChestModel" yX9_rules yX9_rules ∈ BW := bw_5 116 rfl rfl
theorem wd_5_117 : Cond.code yX9_rules prog_11_method_15_code 2 (some .int) ∈ BW := bw_5 117 rfl rfl
theorem wd_5_118 : Cond.methodLink "LoanChestModel" 180 yX9_readRules ∈ BW := bw_5 118 rfl rfl
theorem wd_5_120 : Cond.instanceMethod yX9_readRules ∈ BW := bw_5 120 rfl rfl
theorem wd_5_121 : Cond.code yX9_readRules prog_11_method_14_code 3 (some .boolean) ∈ BW := bw_5 121 rfl rfl
theorem wd_5_122 : Cond.methodLink "LoanChestModel" 170 yX9_go ∈ BW := bw_5 122 rfl rfl
theorem wd_5_124 : Cond.instanceMethod yX9_go ∈ BW := bw_5 124 rfl rfl
theorem wd_5_125 : Cond.code yX9_go prog_11_method_10_code 5 none ∈ BW := bw_5 125 rfl rfl
theorem wd_5_126 : Cond.methodLink "LoanChestModel" 127 yX9_isLetter ∈ BW := bw_5 126 rfl rfl
theorem wd_5_127 : Cond.static yX9_isLetter ∈ BW := bw_5 127 rfl rfl
theorem wd_5_128 : Cond.code yX9_isLetter prog_11_method_9_code 1 (some .boolean) ∈ BW := bw_5 128 rfl rfl
theorem wd_5_129 : Cond.methodLink "LoanChestModel" 131 yX9_isDigit ∈ BW := bw_5 129 rfl rfl
theorem wd_5_130 : Cond.static yX9_isDigit ∈ BW := bw_5 130 rfl rfl
theorem wd_5_131 : Cond.code yX9_isDigit prog_11_method_8_code 1 (some .boolean) ∈ BW := bw_5 131 rfl rfl
theorem wd_5_132 : Cond.methodLink "LoanChestModel" 141 yX9_at ∈ BW := bw_5 132 rfl rfl
theorem wd_5_134 : Cond.instanceMethod yX9_at ∈ BW := bw_5 134 rfl rfl
theorem wd_5_135 : Cond.code yX9_at prog_11_method_7_code 2 (some .int) ∈ BW := bw_5 135 rfl rfl
theorem wd_5_136 : Cond.constantLong "LoanChestModel" 145 (27 : Int64) ∈ BW := bw_5 136 rfl rfl
theorem wd_5_137 : Cond.constantLong "LoanChestModel" 147 (96 : Int64) ∈ BW := bw_5 137 rfl rfl
theorem wd_5_138 : Cond.constantLong "LoanChestModel" 149 (-1 : Int64) ∈ BW := bw_5 138 rfl rfl
theorem wd_5_139 : Cond.methodLink "LoanChestModel" 173 yX9_ruleAtHand ∈ BW := bw_5 139 rfl rfl
theorem wd_5_141 : Cond.instanceMethod yX9_ruleAtHand ∈ BW := bw_5 141 rfl rfl
theorem wd_5_142 : Cond.code yX9_ruleAtHand prog_11_method_12_code 1 (some .int) ∈ BW := bw_5 142 rfl rfl
theorem wd_5_143 : Cond.methodLink "LoanChestModel" 151 yX9_spelt ∈ BW := bw_5 143 rfl rfl
theorem wd_5_144 : Cond.static yX9_spelt ∈ BW := bw_5 144 rfl rfl
theorem wd_5_145 : Cond.code yX9_spelt prog_11_method_11_code 7 (some .long) ∈ BW := bw_5 145 rfl rfl
theorem wd_5_146 : Cond.constantLong "LoanChestModel" 155 (9 : Int64) ∈ BW := bw_5 146 rfl rfl
theorem wd_5_147 : Cond.constantLong "LoanChestModel" 157 (5 : Int64) ∈ BW := bw_5 147 rfl rfl
theorem wd_5_148 : Cond.constantLong "LoanChestModel" 159 (19 : Int64) ∈ BW := bw_5 148 rfl rfl
theorem wd_5_149 : Cond.methodLink "LoanChestModel" 177 yX9_bad ∈ BW := bw_5 149 rfl rfl
theorem wd_5_151 : Cond.instanceMethod yX9_bad ∈ BW := bw_5 151 rfl rfl
theorem wd_5_152 : Cond.code yX9_bad prog_11_method_13_code 2 (some .boolean) ∈ BW := bw_5 152 rfl rfl
theorem wd_5_153 : Cond.methodLink "LoanChestLaw" 46 yX9_fault ∈ BW := bw_5 153 rfl rfl
theorem wd_5_154 : Cond.instanceMethod yX9_fault ∈ BW := bw_5 154 rfl rfl
theorem wd_5_155 : Cond.selects "LoanChestModel" yX9_fault yX9_fault ∈ BW := bw_5 155 rfl rfl
theorem wd_5_156 : Cond.code yX9_fault prog_11_method_16_code 1 (some .int) ∈ BW := bw_5 156 rfl rfl
theorem wd_5_157 : Cond.methodLink "LoanChestLaw" 51 yX9_rule ∈ BW := bw_5 157 rfl rfl
theorem wd_5_158 : Cond.instanceMethod yX9_rule ∈ BW := bw_5 158 rfl rfl
theorem wd_5_159 : Cond.selects "LoanChestModel" yX9_rule yX9_rule ∈ BW := bw_5 159 rfl rfl
theorem wd_5_160 : Cond.code yX9_rule prog_11_method_17_code 2 (some .int) ∈ BW := bw_5 160 rfl rfl
theorem wd_5_161 : Cond.methodLink "LoanChestLaw" 55 yX9_person ∈ BW := bw_5 161 rfl rfl
theorem wd_5_162 : Cond.instanceMethod yX9_person ∈ BW := bw_5 162 rfl rfl
theorem wd_5_163 : Cond.selects "LoanChestModel" yX9_person yX9_person ∈ BW := bw_5 163 rfl rfl
theorem wd_5_164 : Cond.code yX9_person prog_11_method_20_code 2 (some .int) ∈ BW := bw_5 164 rfl rfl
theorem wd_5_165 : Cond.methodLink "LoanChestLaw" 60 yX9_tag ∈ BW := bw_5 165 rfl rfl
theorem wd_5_166 : Cond.instanceMethod yX9_tag ∈ BW := bw_5 166 rfl rfl
theorem wd_5_167 : Cond.selects "LoanChestModel" yX9_tag yX9_tag ∈ BW := bw_5 167 rfl rfl
theorem wd_5_168 : Cond.code yX9_tag prog_11_method_21_code 4 (some .boolean) ∈ BW := bw_5 168 rfl rfl
theorem wd_5_169 : Cond.methodLink "LoanChestModel" 187 yX9_isPerson ∈ BW := bw_5 169 rfl rfl
theorem wd_5_171 : Cond.instanceMethod yX9_isPerson ∈ BW := bw_5 171 rfl rfl
theorem wd_5_172 : Cond.code yX9_isPerson prog_11_method_18_code 2 (some .boolean) ∈ BW := bw_5 172 rfl rfl
theorem wd_5_173 : Cond.methodLink "LoanChestLaw" 64 yX9_fund ∈ BW := bw_5 173 rfl rfl
theorem wd_5_174 : Cond.instanceMethod yX9_fund ∈ BW := bw_5 174 rfl rfl
theorem wd_5_175 : Cond.selects "LoanChestModel" yX9_fund yX9_fund ∈ BW := bw_5 175 rfl rfl
theorem wd_5_176 : Cond.code yX9_fund prog_11_method_22_code 3 (some .int) ∈ BW := bw_5 176 rfl rfl
theorem wd_5_177 : Cond.constant "LoanChestModel" 190 (100000 : Int32) ∈ BW := bw_5 177 rfl rfl
theorem wd_5_178 : Cond.methodLink "LoanChestLaw" 68 yX9_gift ∈ BW := bw_5 178 rfl rfl
theorem wd_5_179 : Cond.instanceMethod yX9_gift ∈ BW := bw_5 179 rfl rfl
theorem wd_5_180 : Cond.selects "LoanChestModel" yX9_gift yX9_gift ∈ BW := bw_5 180 rfl rfl
theorem wd_5_181 : Cond.code yX9_gift prog_11_method_23_code 3 (some .int) ∈ BW := bw_5 181 rfl rfl
theorem wd_5_182 : Cond.methodLink "LoanChestModel" 194 yX9_isFund ∈ BW := bw_5 182 rfl rfl
theorem wd_5_184 : Cond.instanceMethod yX9_isFund ∈ BW := bw_5 184 rfl rfl
theorem wd_5_185 : Cond.code yX9_isFund prog_11_method_19_code 2 (some .boolean) ∈ BW := bw_5 185 rfl rfl
theorem wd_5_186 : Cond.constant "LoanChestModel" 197 (1000000 : Int32) ∈ BW := bw_5 186 rfl rfl
theorem wd_5_187 : Cond.methodLink "LoanChestLaw" 72 yX9_ask ∈ BW := bw_5 187 rfl rfl
theorem wd_5_188 : Cond.instanceMethod yX9_ask ∈ BW := bw_5 188 rfl rfl
theorem wd_5_189 : Cond.selects "LoanChestModel" yX9_ask yX9_ask ∈ BW := bw_5 189 rfl rfl
theorem wd_5_190 : Cond.code yX9_ask prog_11_method_32_code 9 (some .int) ∈ BW := bw_5 190 rfl rfl
theorem wd_5_191 : Cond.methodLink "LoanChestModel" 226 yX9_why ∈ BW := bw_5 191 rfl rfl
theorem wd_5_193 : Cond.instanceMethod yX9_why ∈ BW := bw_5 193 rfl rfl
theorem wd_5_194 : Cond.code yX9_why prog_11_method_31_code 6 (some .int) ∈ BW := bw_5 194 rfl rfl
theorem wd_5_195 : Cond.methodLink "LoanChestModel" 207 yX9_openOf ∈ BW := bw_5 195 rfl rfl
theorem wd_5_197 : Cond.instanceMethod yX9_openOf ∈ BW := bw_5 197 rfl rfl
theorem wd_5_198 : Cond.code yX9_openOf prog_11_method_24_code 3 (some .int) ∈ BW := bw_5 198 rfl rfl
theorem wd_5_199 : Cond.methodLink "LoanChestModel" 210 yX9_isBarred ∈ BW := bw_5 199 rfl rfl
theorem wd_5_201 : Cond.instanceMethod yX9_isBarred ∈ BW := bw_5 201 rfl rfl
theorem wd_5_202 : Cond.code yX9_isBarred prog_11_method_25_code 4 (some .boolean) ∈ BW := bw_5 202 rfl rfl
theorem wd_5_203 : Cond.methodLink "LoanChestModel" 213 yX9_isTwice ∈ BW := bw_5 203 rfl rfl
theorem wd_5_205 : Cond.instanceMethod yX9_isTwice ∈ BW := bw_5 205 rfl rfl
theorem wd_5_206 : Cond.code yX9_isTwice prog_11_method_30_code 4 (some .boolean) ∈ BW := bw_5 206 rfl rfl
theorem wd_5_207 : Cond.methodLink "LoanChestModel" 217 yX9_standsFor ∈ BW := bw_5 207 rfl rfl
theorem wd_5_209 : Cond.instanceMethod yX9_standsFor ∈ BW := bw_5 209 rfl rfl
theorem wd_5_210 : Cond.code yX9_standsFor prog_11_method_26_code 5 (some .int) ∈ BW := bw_5 210 rfl rfl
theorem wd_5_211 : Cond.methodLink "LoanChestModel" 220 yX9_clear ∈ BW := bw_5 211 rfl rfl
theorem wd_5_213 : Cond.instanceMethod yX9_clear ∈ BW := bw_5 213 rfl rfl
theorem wd_5_214 : Cond.code yX9_clear prog_11_method_29_code 2 none ∈ BW := bw_5 214 rfl rfl
theorem wd_5_215 : Cond.methodLink "LoanChestModel" 223 yX9_spread ∈ BW := bw_5 215 rfl rfl
theorem wd_5_217 : Cond.instanceMethod yX9_spread ∈ BW := bw_5 217 rfl rfl
theorem wd_5_218 : Cond.code yX9_spread prog_11_method_28_code 2 none ∈ BW := bw_5 218 rfl rfl
theorem wd_5_219 : Cond.methodLink "LoanChestModel" 204 yX9_steps ∈ BW := bw_5 219 rfl rfl
theorem wd_5_221 : Cond.instanceMethod yX9_steps ∈ BW := bw_5 221 rfl rfl
theorem wd_5_222 : Cond.code yX9_steps prog_11_method_27_code 6 (some .boolean) ∈ BW := bw_5 222 rfl rfl
theorem wd_5_223 : Cond.methodLink "LoanChestLaw" 81 yX9_owes ∈ BW := bw_5 223 rfl rfl
theorem wd_5_224 : Cond.instanceMethod yX9_owes ∈ BW := bw_5 224 rfl rfl
theorem wd_5_225 : Cond.selects "LoanChestModel" yX9_owes yX9_owes ∈ BW := bw_5 225 rfl rfl
theorem wd_5_226 : Cond.code yX9_owes prog_11_method_36_code 2 (some .int) ∈ BW := bw_5 226 rfl rfl
theorem wd_5_227 : Cond.methodLink "LoanChestModel" 236 yX9_owed ∈ BW := bw_5 227 rfl rfl
theorem wd_5_229 : Cond.instanceMethod yX9_owed ∈ BW := bw_5 229 rfl rfl
theorem wd_5_230 : Cond.code yX9_owed prog_11_method_35_code 3 (some .int) ∈ BW := bw_5 230 rfl rfl
theorem wd_5_231 : Cond.methodLink "LoanChestModel" 233 yX9_callsOf ∈ BW := bw_5 231 rfl rfl
theorem wd_5_233 : Cond.instanceMethod yX9_callsOf ∈ BW := bw_5 233 rfl rfl
theorem wd_5_234 : Cond.code yX9_callsOf prog_11_method_34_code 4 (some .int) ∈ BW := bw_5 234 rfl rfl
theorem wd_5_235 : Cond.methodLink "LoanChestLaw" 77 yX9_pay ∈ BW := bw_5 235 rfl rfl
theorem wd_5_236 : Cond.instanceMethod yX9_pay ∈ BW := bw_5 236 rfl rfl
theorem wd_5_237 : Cond.selects "LoanChestModel" yX9_pay yX9_pay ∈ BW := bw_5 237 rfl rfl
theorem wd_5_238 : Cond.code yX9_pay prog_11_method_37_code 8 (some .boolean) ∈ BW := bw_5 238 rfl rfl
theorem wd_5_239 : Cond.methodLink "LoanChestModel" 239 yX9_comesBack ∈ BW := bw_5 239 rfl rfl
theorem wd_6_1 : Cond.instanceMethod yX9_comesBack ∈ BW := bw_6 1 rfl rfl
theorem wd_6_2 : Cond.code yX9_comesBack prog_11_method_33_code 11 none ∈ BW := bw_6 2 rfl rfl
theorem wd_6_3 : Cond.methodLink "LoanChestLaw" 85 yX9_next ∈ BW := bw_6 3 rfl rfl
theorem wd_6_4 : Cond.instanceMethod yX9_next ∈ BW := bw_6 4 rfl rfl
theorem wd_6_5 : Cond.selects "LoanChestModel" yX9_next yX9_next ∈ BW := bw_6 5 rfl rfl
theorem wd_6_6 : Cond.code yX9_next prog_11_method_39_code 4 (some .int) ∈ BW := bw_6 6 rfl rfl
theorem wd_6_7 : Cond.methodLink "LoanChestModel" 246 yX9_isLate ∈ BW := bw_6 7 rfl rfl
theorem wd_6_9 : Cond.instanceMethod yX9_isLate ∈ BW := bw_6 9 rfl rfl
theorem wd_6_10 : Cond.code yX9_isLate prog_11_method_38_code 5 none ∈ BW := bw_6 10 rfl rfl
theorem wd_6_11 : Cond.methodLink "LoanChestLaw" 89 yX9_chest ∈ BW := bw_6 11 rfl rfl
theorem wd_6_12 : Cond.instanceMethod yX9_chest ∈ BW := bw_6 12 rfl rfl
theorem wd_6_13 : Cond.selects "LoanChestModel" yX9_chest yX9_chest ∈ BW := bw_6 13 rfl rfl
theorem wd_6_14 : Cond.code yX9_chest prog_11_method_40_code 3 (some .int) ∈ BW := bw_6 14 rfl rfl
theorem wd_6_15 : Cond.methodLink "LoanChestLaw" 95 yX9_loan ∈ BW := bw_6 15 rfl rfl
theorem wd_6_16 : Cond.instanceMethod yX9_loan ∈ BW := bw_6 16 rfl rfl
theorem wd_6_17 : Cond.selects "LoanChestModel" yX9_loan yX9_loan ∈ BW := bw_6 17 rfl rfl
theorem wd_6_18 : Cond.code yX9_loan prog_11_method_42_code 3 (some .int) ∈ BW := bw_6 18 rfl rfl
theorem wd_6_19 : Cond.methodLink "LoanChestModel" 249 yX9_isLoan ∈ BW := bw_6 19 rfl rfl
theorem wd_6_21 : Cond.instanceMethod yX9_isLoan ∈ BW := bw_6 21 rfl rfl
theorem wd_6_22 : Cond.code yX9_isLoan prog_11_method_41_code 2 (some .boolean) ∈ BW := bw_6 22 rfl rfl
theorem wd_6_23 : Cond.methodLink "LoanChestModel" 252 yX9_refuse ∈ BW := bw_6 23 rfl rfl
theorem wd_6_25 : Cond.instanceMethod yX9_refuse ∈ BW := bw_6 25 rfl rfl
theorem wd_6_26 : Cond.code yX9_refuse prog_11_method_3_code 1 (some .int) ∈ BW := bw_6 26 rfl rfl
theorem wd_6_27 : Cond.methodLink "LoanChestLaw" 101 yX9_surety ∈ BW := bw_6 27 rfl rfl
theorem wd_6_28 : Cond.instanceMethod yX9_surety ∈ BW := bw_6 28 rfl rfl
theorem wd_6_29 : Cond.selects "LoanChestModel" yX9_surety yX9_surety ∈ BW := bw_6 29 rfl rfl
theorem wd_6_30 : Cond.code yX9_surety prog_11_method_43_code 3 (some .int) ∈ BW := bw_6 30 rfl rfl
theorem wd_6_31 : Cond.methodLink "LoanChestLaw" 104 yX9_taken ∈ BW := bw_6 31 rfl rfl
theorem wd_6_32 : Cond.instanceMethod yX9_taken ∈ BW := bw_6 32 rfl rfl
theorem wd_6_33 : Cond.selects "LoanChestModel" yX9_taken yX9_taken ∈ BW := bw_6 33 rfl rfl
theorem wd_6_34 : Cond.code yX9_taken prog_11_method_44_code 3 (some .int) ∈ BW := bw_6 34 rfl rfl
theorem wd_6_35 : Cond.methodLink "LoanChestLaw" 107 yX9_about ∈ BW := bw_6 35 rfl rfl
theorem wd_6_36 : Cond.instanceMethod yX9_about ∈ BW := bw_6 36 rfl rfl
theorem wd_6_37 : Cond.selects "LoanChestModel" yX9_about yX9_about ∈ BW := bw_6 37 rfl rfl
theorem wd_6_38 : Cond.code yX9_about prog_11_method_46_code 5 (some .int) ∈ BW := bw_6 38 rfl rfl
theorem wd_6_39 : Cond.methodLink "LoanChestModel" 255 yX9_character ∈ BW := bw_6 39 rfl rfl
theorem wd_6_41 : Cond.instanceMethod yX9_character ∈ BW := bw_6 41 rfl rfl
theorem wd_6_42 : Cond.code yX9_character prog_11_method_45_code 4 (some .int) ∈ BW := bw_6 42 rfl rfl
theorem wd_6_43 : Cond.methodLink "LoanChestLaw" 111 yX9_ring ∈ BW := bw_6 43 rfl rfl
theorem wd_6_44 : Cond.instanceMethod yX9_ring ∈ BW := bw_6 44 rfl rfl
theorem wd_6_45 : Cond.selects "LoanChestModel" yX9_ring yX9_ring ∈ BW := bw_6 45 rfl rfl
theorem wd_6_46 : Cond.code yX9_ring prog_11_method_47_code 4 (some .int) ∈ BW := bw_6 46 rfl rfl
theorem wd_6_47 : Cond.methodLink "LoanChestLaw" 115 yX9_count ∈ BW := bw_6 47 rfl rfl
theorem wd_6_48 : Cond.instanceMethod yX9_count ∈ BW := bw_6 48 rfl rfl
theorem wd_6_49 : Cond.selects "LoanChestModel" yX9_count yX9_count ∈ BW := bw_6 49 rfl rfl
theorem wd_6_50 : Cond.code yX9_count prog_11_method_48_code 4 (some .int) ∈ BW := bw_6 50 rfl rfl
theorem wd_6_51 : Cond.arrayClass .long ∈ BW := bw_6 51 rfl rfl
theorem wd_6_52 : Cond.sameMethod "java/lang/Throwable" "java/lang/Throwable" "fillInStackTrace" "(I)Ljava/lang/Throwable;" ∈ BW := bw_6 52 rfl rfl
theorem wd_6_67 : Cond.sameMethod "[Ljava/lang/Object;" "java/lang/Object" "getClass" "()Ljava/lang/Class;" ∈ BW := bw_6 67 rfl rfl
theorem wd_6_68 : Cond.selects "[Ljava/lang/Object;" (⟨"java/lang/Object", "getClass", "()Ljava/lang/Class;"⟩ : MethodName) (⟨"java/lang/Object", "getClass", "()Ljava/lang/Class;"⟩ : MethodName) ∈ BW := bw_6 68 rfl rfl
theorem wd_6_75 : Cond.fieldLink "LoanChest$Rules" 19 "LoanChest$Kind" "usual" "I" ∈ BW := bw_6 75 rfl rfl
theorem wd_6_76 : Cond.fieldLink "LoanChest$RuleReader" 52 "LoanChest$Kind" "usual" "I" ∈ BW := bw_6 76 rfl rfl
theorem wd_6_77 : Cond.fieldLink "LoanChest$RuleReader" 97 "LoanChest$Kind" "word" "Ljava/lang/String;" ∈ BW := bw_6 77 rfl rfl
theorem wd_6_78 : Cond.fieldLink "java/lang/String" 9 "java/lang/String" "value" "[B" ∈ BW := bw_6 78 rfl rfl
theorem wd_6_79 : Cond.fieldLink "java/lang/String" 15 "java/lang/String" "coder" "B" ∈ BW := bw_6 79 rfl rfl
theorem wd_6_80 : Cond.fieldLink "LoanChest$RuleReader" 36 "LoanChest$Kind" "number" "I" ∈ BW := bw_6 80 rfl rfl
theorem wd_6_81 : Cond.fieldLink "LoanChest$RuleReader" 62 "LoanChest$Kind" "least" "I" ∈ BW := bw_6 81 rfl rfl
theorem wd_6_82 : Cond.fieldLink "LoanChest$RuleReader" 65 "LoanChest$Kind" "highest" "I" ∈ BW := bw_6 82 rfl rfl
theorem wd_6_83 : Cond.fieldLink "LoanChest$Rules" 25 "LoanChest$Kind" "number" "I" ∈ BW := bw_6 83 rfl rfl
theorem wp_1_0 : Cond.selects "LoanChest$RuleReader" yX5_startAgain yX5_startAgain ∈ BW := bw_p1 0 (q := (yX5_startAgain, 6)) rfl
theorem wp_1_1 : Cond.selects "LoanChest$RuleReader" yX5_step yX5_step ∈ BW := bw_p1 1 (q := (yX5_step, 6)) rfl
theorem wp_1_2 : Cond.selects "LoanChest$RuleReader" yX5_readToken yX5_readToken ∈ BW := bw_p1 2 (q := (yX5_readToken, 6)) rfl
theorem wp_1_3 : Cond.selects "LoanChest$RuleReader" yX5_faultOfRule yX5_faultOfRule ∈ BW := bw_p1 3 (q := (yX5_faultOfRule, 6)) rfl
theorem wp_1_4 : Cond.selects "LoanChest$RuleReader" yX5_kindOfWord yX5_kindOfWord ∈ BW := bw_p1 4 (q := (yX5_kindOfWord, 6)) rfl
theorem wp_1_5 : Cond.selects "LoanChest$RuleReader" yX5_isWordRead yX5_isWordRead ∈ BW := bw_p1 5 (q := (yX5_isWordRead, 6)) rfl
theorem wp_1_6 : Cond.selects "LoanChest$RuleReader" yX5_numberRead yX5_numberRead ∈ BW := bw_p1 6 (q := (yX5_numberRead, 6)) rfl
theorem wp_1_7 : Cond.selects "LoanChest" yX8_isPerson yX8_isPerson ∈ BW := bw_p1 7 (q := (yX8_isPerson, 8)) rfl
theorem wp_1_8 : Cond.selects "LoanChest" yX8_whyRefused yX8_whyRefused ∈ BW := bw_p1 8 (q := (yX8_whyRefused, 8)) rfl
theorem wp_1_9 : Cond.selects "LoanChest" yX8_whyRefusedForBorrower yX8_whyRefusedForBorrower ∈ BW := bw_p1 9 (q := (yX8_whyRefusedForBorrower, 8)) rfl
theorem wp_1_10 : Cond.selects "LoanChest" yX8_isBarred yX8_isBarred ∈ BW := bw_p1 10 (q := (yX8_isBarred, 8)) rfl
theorem wp_1_11 : Cond.selects "LoanChest" yX8_whyRefusedForSureties yX8_whyRefusedForSureties ∈ BW := bw_p1 11 (q := (yX8_whyRefusedForSureties, 8)) rfl
theorem wp_1_12 : Cond.selects "LoanChest" yX8_areOthersAllDifferent yX8_areOthersAllDifferent ∈ BW := bw_p1 12 (q := (yX8_areOthersAllDifferent, 8)) rfl
theorem wp_1_13 : Cond.selects "LoanChest" yX8_bitsOnTape yX8_bitsOnTape ∈ BW := bw_p1 13 (q := (yX8_bitsOnTape, 8)) rfl
theorem wp_1_14 : Cond.selects "LoanChest$Ledger" yX3_suretiesOfAll yX3_suretiesOfAll ∈ BW := bw_p1 14 (q := (yX3_suretiesOfAll, 3)) rfl
theorem wp_1_15 : Cond.selects "LoanChest$Funds" yX1_aboveKeep yX1_aboveKeep ∈ BW := bw_p1 15 (q := (yX1_aboveKeep, 6)) rfl
theorem wp_2_0 : Cond.selects "LoanChest$Funds" yX1_isFor yX1_isFor ∈ BW := bw_p2 0 (q := (yX1_isFor, 6)) rfl
theorem wp_2_1 : Cond.selects "LoanChest" yX8_lend yX8_lend ∈ BW := bw_p2 1 (q := (yX8_lend, 8)) rfl
theorem wp_2_2 : Cond.selects "LoanChest$Funds" yX1_take yX1_take ∈ BW := bw_p2 2 (q := (yX1_take, 6)) rfl
theorem wp_2_3 : Cond.selects "java/util/ArrayList" yJx4a65c_add_72be8 yJx4a65c_add_72be8 ∈ BW := bw_p2 3 (q := (yJx4a65c_add_72be8, 3)) rfl
theorem wp_2_4 : Cond.selects "java/util/ArrayList" yJx4a65c_grow_d5877 yJx4a65c_grow_d5877 ∈ BW := bw_p2 4 (q := (yJx4a65c_grow_d5877, 3)) rfl
theorem wp_2_5 : Cond.selects "java/util/ArrayList" yJx4a65c_grow_92f84 yJx4a65c_grow_92f84 ∈ BW := bw_p2 5 (q := (yJx4a65c_grow_92f84, 3)) rfl
theorem wp_2_6 : Cond.selects "LoanChest$Funds" yX1_putBack yX1_putBack ∈ BW := bw_p2 6 (q := (yX1_putBack, 6)) rfl
theorem wp_2_7 : Cond.selects "LoanChest$Ledger" yX3_callIn yX3_callIn ∈ BW := bw_p2 7 (q := (yX3_callIn, 3)) rfl
theorem wp_2_8 : Cond.selects "java/lang/Throwable" ⟨"java/lang/Throwable", "fillInStackTrace", "(I)Ljava/lang/Throwable;"⟩ ⟨"java/lang/Throwable", "fillInStackTrace", "(I)Ljava/lang/Throwable;"⟩ ∈ BW := bw_p2 8 (q := (⟨"java/lang/Throwable", "fillInStackTrace", "(I)Ljava/lang/Throwable;"⟩, 6)) rfl
theorem wp_2_9 : Cond.selects "LoanChest" yX8_openLoanNumber yX8_openLoanNumber ∈ BW := bw_p2 9 (q := (yX8_openLoanNumber, 8)) rfl
theorem wp_2_10 : Cond.selects "LoanChestModel" yX9_come yX9_come ∈ BW := bw_p2 10 (q := (yX9_come, 48)) rfl
theorem wp_2_11 : Cond.selects "LoanChestModel" yX9_readRules yX9_readRules ∈ BW := bw_p2 11 (q := (yX9_readRules, 48)) rfl
theorem wp_2_12 : Cond.selects "LoanChestModel" yX9_go yX9_go ∈ BW := bw_p2 12 (q := (yX9_go, 48)) rfl
theorem wp_2_13 : Cond.selects "LoanChestModel" yX9_at yX9_at ∈ BW := bw_p2 13 (q := (yX9_at, 48)) rfl
theorem wp_2_14 : Cond.selects "LoanChestModel" yX9_ruleAtHand yX9_ruleAtHand ∈ BW := bw_p2 14 (q := (yX9_ruleAtHand, 48)) rfl
theorem wp_2_15 : Cond.selects "LoanChestModel" yX9_bad yX9_bad ∈ BW := bw_p2 15 (q := (yX9_bad, 48)) rfl
theorem wp_3_0 : Cond.selects "LoanChestModel" yX9_isPerson yX9_isPerson ∈ BW := bw_p3 0 (q := (yX9_isPerson, 48)) rfl
theorem wp_3_1 : Cond.selects "LoanChestModel" yX9_isFund yX9_isFund ∈ BW := bw_p3 1 (q := (yX9_isFund, 48)) rfl
theorem wp_3_2 : Cond.selects "LoanChestModel" yX9_why yX9_why ∈ BW := bw_p3 2 (q := (yX9_why, 48)) rfl
theorem wp_3_3 : Cond.selects "LoanChestModel" yX9_openOf yX9_openOf ∈ BW := bw_p3 3 (q := (yX9_openOf, 48)) rfl
theorem wp_3_4 : Cond.selects "LoanChestModel" yX9_isBarred yX9_isBarred ∈ BW := bw_p3 4 (q := (yX9_isBarred, 48)) rfl
theorem wp_3_5 : Cond.selects "LoanChestModel" yX9_isTwice yX9_isTwice ∈ BW := bw_p3 5 (q := (yX9_isTwice, 48)) rfl
theorem wp_3_6 : Cond.selects "LoanChestModel" yX9_standsFor yX9_standsFor ∈ BW := bw_p3 6 (q := (yX9_standsFor, 48)) rfl
theorem wp_3_7 : Cond.selects "LoanChestModel" yX9_clear yX9_clear ∈ BW := bw_p3 7 (q := (yX9_clear, 48)) rfl
theorem wp_3_8 : Cond.selects "LoanChestModel" yX9_spread yX9_spread ∈ BW := bw_p3 8 (q := (yX9_spread, 48)) rfl
theorem wp_3_9 : Cond.selects "LoanChestModel" yX9_steps yX9_steps ∈ BW := bw_p3 9 (q := (yX9_steps, 48)) rfl
theorem wp_3_10 : Cond.selects "LoanChestModel" yX9_owed yX9_owed ∈ BW := bw_p3 10 (q := (yX9_owed, 48)) rfl
theorem wp_3_11 : Cond.selects "LoanChestModel" yX9_callsOf yX9_callsOf ∈ BW := bw_p3 11 (q := (yX9_callsOf, 48)) rfl
theorem wp_3_12 : Cond.selects "LoanChestModel" yX9_comesBack yX9_comesBack ∈ BW := bw_p3 12 (q := (yX9_comesBack, 48)) rfl
theorem wp_3_13 : Cond.selects "LoanChestModel" yX9_isLate yX9_isLate ∈ BW := bw_p3 13 (q := (yX9_isLate, 48)) rfl
theorem wp_3_14 : Cond.selects "LoanChestModel" yX9_isLoan yX9_isLoan ∈ BW := bw_p3 14 (q := (yX9_isLoan, 48)) rfl
theorem wp_3_15 : Cond.selects "LoanChestModel" yX9_refuse yX9_refuse ∈ BW := bw_p3 15 (q := (yX9_refuse, 48)) rfl
theorem wp_4_0 : Cond.selects "LoanChestModel" yX9_character yX9_character ∈ BW := bw_p4 0 (q := (yX9_character, 48)) rfl
theorem inX0 : ∀ w ∈ u_ws RX0 TX0 4, w ∈ BW := List.forall_mem_cons.mpr ⟨wd_4_24, List.forall_mem_cons.mpr ⟨wd_4_26, List.forall_mem_cons.mpr ⟨wd_4_28, List.forall_mem_cons.mpr ⟨wd_4_30, fun _ h => absurd h List.not_mem_nil⟩⟩⟩⟩
theorem inX1 : ∀ w ∈ u_ws RX1 TX1 6, w ∈ BW := List.forall_mem_cons.mpr ⟨wd_1_101, List.forall_mem_cons.mpr ⟨wd_1_103, List.forall_mem_cons.mpr ⟨wd_1_105, List.forall_mem_cons.mpr ⟨wd_1_107, List.forall_mem_cons.mpr ⟨wd_1_109, List.forall_mem_cons.mpr ⟨wd_1_111, fun _ h => absurd h List.not_mem_nil⟩⟩⟩⟩⟩⟩
theorem inX3 : ∀ w ∈ u_ws RX3 TX3 3, w ∈ BW := List.forall_mem_cons.mpr ⟨wd_1_149, List.forall_mem_cons.mpr ⟨wd_1_151, List.forall_mem_cons.mpr ⟨wd_1_153, fun _ h => absurd h List.not_mem_nil⟩⟩⟩
theorem inX4 : ∀ w ∈ u_ws RX4 TX4 18, w ∈ BW := List.forall_mem_cons.mpr ⟨wd_3_77, List.forall_mem_cons.mpr ⟨wd_3_79, List.forall_mem_cons.mpr ⟨wd_3_81, List.forall_mem_cons.mpr ⟨wd_3_83, List.forall_mem_cons.mpr ⟨wd_3_85, List.forall_mem_cons.mpr ⟨wd_3_87, List.forall_mem_cons.mpr ⟨wd_3_89, List.forall_mem_cons.mpr ⟨wd_3_91, List.forall_mem_cons.mpr ⟨wd_3_93, List.forall_mem_cons.mpr ⟨wd_3_95, List.forall_mem_cons.mpr ⟨wd_3_97, List.forall_mem_cons.mpr ⟨wd_3_99, List.forall_mem_cons.mpr ⟨wd_3_101, List.forall_mem_cons.mpr ⟨wd_3_103, List.forall_mem_cons.mpr ⟨wd_3_105, List.forall_mem_cons.mpr ⟨wd_3_107, List.forall_mem_cons.mpr ⟨wd_3_109, List.forall_mem_cons.mpr ⟨wd_3_111, fun _ h => absurd h List.not_mem_nil⟩⟩⟩⟩⟩⟩⟩⟩⟩⟩⟩⟩⟩⟩⟩⟩⟩⟩
theorem inX5 : ∀ w ∈ u_ws RX5 TX5 6, w ∈ BW := List.forall_mem_cons.mpr ⟨wd_1_64, List.forall_mem_cons.mpr ⟨wd_1_66, List.forall_mem_cons.mpr ⟨wd_1_68, List.forall_mem_cons.mpr ⟨wd_1_70, List.forall_mem_cons.mpr ⟨wd_1_72, List.forall_mem_cons.mpr ⟨wd_1_74, fun _ h => absurd h List.not_mem_nil⟩⟩⟩⟩⟩⟩
theorem inX6 : ∀ w ∈ u_ws RX6 TX6 1, w ∈ BW := List.forall_mem_cons.mpr ⟨wd_1_86, fun _ h => absurd h List.not_mem_nil⟩
theorem inX7 : ∀ w ∈ u_ws RX7 TX7 2, w ∈ BW := List.forall_mem_cons.mpr ⟨wd_1_44, List.forall_mem_cons.mpr ⟨wd_1_46, fun _ h => absurd h List.not_mem_nil⟩⟩
theorem inX8 : ∀ w ∈ u_ws RX8 TX8 8, w ∈ BW := List.forall_mem_cons.mpr ⟨wd_1_164, List.forall_mem_cons.mpr ⟨wd_1_166, List.forall_mem_cons.mpr ⟨wd_1_168, List.forall_mem_cons.mpr ⟨wd_1_170, List.forall_mem_cons.mpr ⟨wd_1_172, List.forall_mem_cons.mpr ⟨wd_1_174, List.forall_mem_cons.mpr ⟨wd_1_176, List.forall_mem_cons.mpr ⟨wd_1_178, fun _ h => absurd h List.not_mem_nil⟩⟩⟩⟩⟩⟩⟩⟩
theorem inX9 : ∀ w ∈ u_ws RX9 TX9 48, w ∈ BW := List.forall_mem_cons.mpr ⟨wd_5_1, List.forall_mem_cons.mpr ⟨wd_5_3, List.forall_mem_cons.mpr ⟨wd_5_5, List.forall_mem_cons.mpr ⟨wd_5_7, List.forall_mem_cons.mpr ⟨wd_5_9, List.forall_mem_cons.mpr ⟨wd_5_11, List.forall_mem_cons.mpr ⟨wd_5_13, List.forall_mem_cons.mpr ⟨wd_5_15, List.forall_mem_cons.mpr ⟨wd_5_17, List.forall_mem_cons.mpr ⟨wd_5_19, List.forall_mem_cons.mpr ⟨wd_5_21, List.forall_mem_cons.mpr ⟨wd_5_23, List.forall_mem_cons.mpr ⟨wd_5_25, List.forall_mem_cons.mpr ⟨wd_5_27, List.forall_mem_cons.mpr ⟨wd_5_29, List.forall_mem_cons.mpr ⟨wd_5_31, List.forall_mem_cons.mpr ⟨wd_5_33, List.forall_mem_cons.mpr ⟨wd_5_35, List.forall_mem_cons.mpr ⟨wd_5_37, List.forall_mem_cons.mpr ⟨wd_5_39, List.forall_mem_cons.mpr ⟨wd_5_41, List.forall_mem_cons.mpr ⟨wd_5_43, List.forall_mem_cons.mpr ⟨wd_5_45, List.forall_mem_cons.mpr ⟨wd_5_47, List.forall_mem_cons.mpr ⟨wd_5_49, List.forall_mem_cons.mpr ⟨wd_5_51, List.forall_mem_cons.mpr ⟨wd_5_53, List.forall_mem_cons.mpr ⟨wd_5_55, List.forall_mem_cons.mpr ⟨wd_5_57, List.forall_mem_cons.mpr ⟨wd_5_59, List.forall_mem_cons.mpr ⟨wd_5_61, List.forall_mem_cons.mpr ⟨wd_5_63, List.forall_mem_cons.mpr ⟨wd_5_65, List.forall_mem_cons.mpr ⟨wd_5_67, List.forall_mem_cons.mpr ⟨wd_5_69, List.forall_mem_cons.mpr ⟨wd_5_71, List.forall_mem_cons.mpr ⟨wd_5_73, List.forall_mem_cons.mpr ⟨wd_5_75, List.forall_mem_cons.mpr ⟨wd_5_77, List.forall_mem_cons.mpr ⟨wd_5_79, List.forall_mem_cons.mpr ⟨wd_5_81, List.forall_mem_cons.mpr ⟨wd_5_83, List.forall_mem_cons.mpr ⟨wd_5_85, List.forall_mem_cons.mpr ⟨wd_5_87, List.forall_mem_cons.mpr ⟨wd_5_89, List.forall_mem_cons.mpr ⟨wd_5_91, List.forall_mem_cons.mpr ⟨wd_5_93, List.forall_mem_cons.mpr ⟨wd_5_95, fun _ h => absurd h List.not_mem_nil⟩⟩⟩⟩⟩⟩⟩⟩⟩⟩⟩⟩⟩⟩⟩⟩⟩⟩⟩⟩⟩⟩⟩⟩⟩⟩⟩⟩⟩⟩⟩⟩⟩⟩⟩⟩⟩⟩⟩⟩⟩⟩⟩⟩⟩⟩⟩⟩
theorem inJx4a65c : ∀ w ∈ u_ws RJx4a65c TJx4a65c 3, w ∈ BW := List.forall_mem_cons.mpr ⟨wd_1_143, List.forall_mem_cons.mpr ⟨wd_1_139, List.forall_mem_cons.mpr ⟨wd_1_141, fun _ h => absurd h List.not_mem_nil⟩⟩⟩
end
section
theorem dX9_init_0 : decode cX9_init 0 = .ok (.aload_n 0, 1) := by decide +kernel
theorem dX9_init_1 : decode cX9_init 1 = .ok (.invokespecial 1, 3) := by decide +kernel
theorem dX9_init_4 : decode cX9_init 4 = .ok (.aload_n 0, 1) := by decide +kernel
theorem dX9_init_5 : decode cX9_init 5 = .ok (.sipush 320, 3) := by decide +kernel
theorem dX9_init_8 : decode cX9_init 8 = .ok (.newarray .int, 2) := by decide +kernel
theorem dX9_init_10 : decode cX9_init 10 = .ok (.putfield 7, 3) := by decide +kernel
theorem dX9_init_13 : decode cX9_init 13 = .ok (.aload_n 0, 1) := by decide +kernel
theorem dX9_init_14 : decode cX9_init 14 = .ok (.bipush 9, 2) := by decide +kernel
theorem dX9_init_16 : decode cX9_init 16 = .ok (.newarray .int, 2) := by decide +kernel
theorem dX9_init_18 : decode cX9_init 18 = .ok (.dup, 1) := by decide +kernel
theorem dX9_init_19 : decode cX9_init 19 = .ok (.iconst 0, 1) := by decide +kernel
theorem dX9_init_20 : decode cX9_init 20 = .ok (.bipush 100, 2) := by decide +kernel
theorem dX9_init_22 : decode cX9_init 22 = .ok (.iastore, 1) := by decide +kernel
theorem dX9_init_23 : decode cX9_init 23 = .ok (.dup, 1) := by decide +kernel
theorem dX9_init_24 : decode cX9_init 24 = .ok (.iconst 1, 1) := by decide +kernel
theorem dX9_init_25 : decode cX9_init 25 = .ok (.bipush 20, 2) := by decide +kernel
theorem dX9_init_27 : decode cX9_init 27 = .ok (.iastore, 1) := by decide +kernel
theorem dX9_init_28 : decode cX9_init 28 = .ok (.dup, 1) := by decide +kernel
theorem dX9_init_29 : decode cX9_init 29 = .ok (.iconst 2, 1) := by decide +kernel
theorem dX9_init_30 : decode cX9_init 30 = .ok (.iconst 2, 1) := by decide +kernel
theorem dX9_init_31 : decode cX9_init 31 = .ok (.iastore, 1) := by decide +kernel
theorem dX9_init_32 : decode cX9_init 32 = .ok (.dup, 1) := by decide +kernel
theorem dX9_init_33 : decode cX9_init 33 = .ok (.iconst 3, 1) := by decide +kernel
theorem dX9_init_34 : decode cX9_init 34 = .ok (.iconst 2, 1) := by decide +kernel
theorem dX9_init_35 : decode cX9_init 35 = .ok (.iastore, 1) := by decide +kernel
theorem dX9_init_36 : decode cX9_init 36 = .ok (.dup, 1) := by decide +kernel
theorem dX9_init_37 : decode cX9_init 37 = .ok (.iconst 4, 1) := by decide +kernel
theorem dX9_init_38 : decode cX9_init 38 = .ok (.iconst 1, 1) := by decide +kernel
theorem dX9_init_39 : decode cX9_init 39 = .ok (.iastore, 1) := by decide +kernel
theorem dX9_init_40 : decode cX9_init 40 = .ok (.dup, 1) := by decide +kernel
theorem dX9_init_41 : decode cX9_init 41 = .ok (.iconst 5, 1) := by decide +kernel
theorem dX9_init_42 : decode cX9_init 42 = .ok (.iconst 4, 1) := by decide +kernel
theorem dX9_init_43 : decode cX9_init 43 = .ok (.iastore, 1) := by decide +kernel
theorem dX9_init_44 : decode cX9_init 44 = .ok (.dup, 1) := by decide +kernel
theorem dX9_init_45 : decode cX9_init 45 = .ok (.bipush 6, 2) := by decide +kernel
theorem dX9_init_47 : decode cX9_init 47 = .ok (.iconst 0, 1) := by decide +kernel
theorem dX9_init_48 : decode cX9_init 48 = .ok (.iastore, 1) := by decide +kernel
theorem dX9_init_49 : decode cX9_init 49 = .ok (.dup, 1) := by decide +kernel
theorem dX9_init_50 : decode cX9_init 50 = .ok (.bipush 7, 2) := by decide +kernel
theorem dX9_init_52 : decode cX9_init 52 = .ok (.iconst 2, 1) := by decide +kernel
theorem dX9_init_53 : decode cX9_init 53 = .ok (.iastore, 1) := by decide +kernel
theorem dX9_init_54 : decode cX9_init 54 = .ok (.dup, 1) := by decide +kernel
theorem dX9_init_55 : decode cX9_init 55 = .ok (.bipush 8, 2) := by decide +kernel
theorem dX9_init_57 : decode cX9_init 57 = .ok (.iconst 3, 1) := by decide +kernel
theorem dX9_init_58 : decode cX9_init 58 = .ok (.iastore, 1) := by decide +kernel
theorem dX9_init_59 : decode cX9_init 59 = .ok (.putfield 13, 3) := by decide +kernel
theorem dX9_init_62 : decode cX9_init 62 = .ok (.aload_n 0, 1) := by decide +kernel
theorem dX9_init_63 : decode cX9_init 63 = .ok (.bipush 9, 2) := by decide +kernel
theorem dX9_init_65 : decode cX9_init 65 = .ok (.newarray .int, 2) := by decide +kernel
theorem dX9_init_67 : decode cX9_init 67 = .ok (.dup, 1) := by decide +kernel
theorem dX9_init_68 : decode cX9_init 68 = .ok (.iconst 0, 1) := by decide +kernel
theorem dX9_init_69 : decode cX9_init 69 = .ok (.bipush 100, 2) := by decide +kernel
theorem dX9_init_71 : decode cX9_init 71 = .ok (.iastore, 1) := by decide +kernel
theorem dX9_init_72 : decode cX9_init 72 = .ok (.dup, 1) := by decide +kernel
theorem dX9_init_73 : decode cX9_init 73 = .ok (.iconst 1, 1) := by decide +kernel
theorem dX9_init_74 : decode cX9_init 74 = .ok (.bipush 20, 2) := by decide +kernel
theorem dX9_init_76 : decode cX9_init 76 = .ok (.iastore, 1) := by decide +kernel
theorem dX9_init_77 : decode cX9_init 77 = .ok (.dup, 1) := by decide +kernel
theorem dX9_init_78 : decode cX9_init 78 = .ok (.iconst 2, 1) := by decide +kernel
theorem dX9_init_79 : decode cX9_init 79 = .ok (.iconst 2, 1) := by decide +kernel
theorem dX9_init_80 : decode cX9_init 80 = .ok (.iastore, 1) := by decide +kernel
theorem dX9_init_81 : decode cX9_init 81 = .ok (.dup, 1) := by decide +kernel
theorem dX9_init_82 : decode cX9_init 82 = .ok (.iconst 3, 1) := by decide +kernel
theorem dX9_init_83 : decode cX9_init 83 = .ok (.iconst 2, 1) := by decide +kernel
theorem dX9_init_84 : decode cX9_init 84 = .ok (.iastore, 1) := by decide +kernel
theorem dX9_init_85 : decode cX9_init 85 = .ok (.dup, 1) := by decide +kernel
theorem dX9_init_86 : decode cX9_init 86 = .ok (.iconst 4, 1) := by decide +kernel
theorem dX9_init_87 : decode cX9_init 87 = .ok (.iconst 1, 1) := by decide +kernel
theorem dX9_init_88 : decode cX9_init 88 = .ok (.iastore, 1) := by decide +kernel
theorem dX9_init_89 : decode cX9_init 89 = .ok (.dup, 1) := by decide +kernel
theorem dX9_init_90 : decode cX9_init 90 = .ok (.iconst 5, 1) := by decide +kernel
theorem dX9_init_91 : decode cX9_init 91 = .ok (.iconst 4, 1) := by decide +kernel
theorem dX9_init_92 : decode cX9_init 92 = .ok (.iastore, 1) := by decide +kernel
theorem dX9_init_93 : decode cX9_init 93 = .ok (.dup, 1) := by decide +kernel
theorem dX9_init_94 : decode cX9_init 94 = .ok (.bipush 6, 2) := by decide +kernel
theorem dX9_init_96 : decode cX9_init 96 = .ok (.iconst 0, 1) := by decide +kernel
theorem dX9_init_97 : decode cX9_init 97 = .ok (.iastore, 1) := by decide +kernel
theorem dX9_init_98 : decode cX9_init 98 = .ok (.dup, 1) := by decide +kernel
theorem dX9_init_99 : decode cX9_init 99 = .ok (.bipush 7, 2) := by decide +kernel
theorem dX9_init_101 : decode cX9_init 101 = .ok (.iconst 2, 1) := by decide +kernel
theorem dX9_init_102 : decode cX9_init 102 = .ok (.iastore, 1) := by decide +kernel
theorem dX9_init_103 : decode cX9_init 103 = .ok (.dup, 1) := by decide +kernel
theorem dX9_init_104 : decode cX9_init 104 = .ok (.bipush 8, 2) := by decide +kernel
theorem dX9_init_106 : decode cX9_init 106 = .ok (.iconst 3, 1) := by decide +kernel
theorem dX9_init_107 : decode cX9_init 107 = .ok (.iastore, 1) := by decide +kernel
theorem dX9_init_108 : decode cX9_init 108 = .ok (.putfield 16, 3) := by decide +kernel
theorem dX9_init_111 : decode cX9_init 111 = .ok (.aload_n 0, 1) := by decide +kernel
theorem dX9_init_112 : decode cX9_init 112 = .ok (.bipush 9, 2) := by decide +kernel
theorem dX9_init_114 : decode cX9_init 114 = .ok (.newarray .int, 2) := by decide +kernel
theorem dX9_init_116 : decode cX9_init 116 = .ok (.dup, 1) := by decide +kernel
theorem dX9_init_117 : decode cX9_init 117 = .ok (.iconst 0, 1) := by decide +kernel
theorem dX9_init_118 : decode cX9_init 118 = .ok (.iconst 1, 1) := by decide +kernel
theorem dX9_init_119 : decode cX9_init 119 = .ok (.iastore, 1) := by decide +kernel
theorem dX9_init_120 : decode cX9_init 120 = .ok (.dup, 1) := by decide +kernel
theorem dX9_init_121 : decode cX9_init 121 = .ok (.iconst 1, 1) := by decide +kernel
theorem dX9_init_122 : decode cX9_init 122 = .ok (.iconst 1, 1) := by decide +kernel
theorem dX9_init_123 : decode cX9_init 123 = .ok (.iastore, 1) := by decide +kernel
theorem dX9_init_124 : decode cX9_init 124 = .ok (.dup, 1) := by decide +kernel
theorem dX9_init_125 : decode cX9_init 125 = .ok (.iconst 2, 1) := by decide +kernel
theorem dX9_init_126 : decode cX9_init 126 = .ok (.iconst 0, 1) := by decide +kernel
theorem dX9_init_127 : decode cX9_init 127 = .ok (.iastore, 1) := by decide +kernel
theorem dX9_init_128 : decode cX9_init 128 = .ok (.dup, 1) := by decide +kernel
theorem dX9_init_129 : decode cX9_init 129 = .ok (.iconst 3, 1) := by decide +kernel
theorem dX9_init_130 : decode cX9_init 130 = .ok (.iconst 1, 1) := by decide +kernel
theorem dX9_init_131 : decode cX9_init 131 = .ok (.iastore, 1) := by decide +kernel
theorem dX9_init_132 : decode cX9_init 132 = .ok (.dup, 1) := by decide +kernel
theorem dX9_init_133 : decode cX9_init 133 = .ok (.iconst 4, 1) := by decide +kernel
theorem dX9_init_134 : decode cX9_init 134 = .ok (.iconst 0, 1) := by decide +kernel
theorem dX9_init_135 : decode cX9_init 135 = .ok (.iastore, 1) := by decide +kernel
theorem dX9_init_136 : decode cX9_init 136 = .ok (.dup, 1) := by decide +kernel
theorem dX9_init_137 : decode cX9_init 137 = .ok (.iconst 5, 1) := by decide +kernel
theorem dX9_init_138 : decode cX9_init 138 = .ok (.iconst 1, 1) := by decide +kernel
theorem dX9_init_139 : decode cX9_init 139 = .ok (.iastore, 1) := by decide +kernel
theorem dX9_init_140 : decode cX9_init 140 = .ok (.dup, 1) := by decide +kernel
theorem dX9_init_141 : decode cX9_init 141 = .ok (.bipush 6, 2) := by decide +kernel
theorem dX9_init_143 : decode cX9_init 143 = .ok (.iconst 0, 1) := by decide +kernel
theorem dX9_init_144 : decode cX9_init 144 = .ok (.iastore, 1) := by decide +kernel
theorem dX9_init_145 : decode cX9_init 145 = .ok (.dup, 1) := by decide +kernel
theorem dX9_init_146 : decode cX9_init 146 = .ok (.bipush 7, 2) := by decide +kernel
theorem dX9_init_148 : decode cX9_init 148 = .ok (.iconst 0, 1) := by decide +kernel
theorem dX9_init_149 : decode cX9_init 149 = .ok (.iastore, 1) := by decide +kernel
theorem dX9_init_150 : decode cX9_init 150 = .ok (.dup, 1) := by decide +kernel
theorem dX9_init_151 : decode cX9_init 151 = .ok (.bipush 8, 2) := by decide +kernel
theorem dX9_init_153 : decode cX9_init 153 = .ok (.iconst 1, 1) := by decide +kernel
theorem dX9_init_154 : decode cX9_init 154 = .ok (.iastore, 1) := by decide +kernel
theorem dX9_init_155 : decode cX9_init 155 = .ok (.putfield 19, 3) := by decide +kernel
theorem dX9_init_158 : decode cX9_init 158 = .ok (.aload_n 0, 1) := by decide +kernel
theorem dX9_init_159 : decode cX9_init 159 = .ok (.bipush 9, 2) := by decide +kernel
theorem dX9_init_161 : decode cX9_init 161 = .ok (.newarray .int, 2) := by decide +kernel
theorem dX9_init_163 : decode cX9_init 163 = .ok (.dup, 1) := by decide +kernel
theorem dX9_init_164 : decode cX9_init 164 = .ok (.iconst 0, 1) := by decide +kernel
theorem dX9_init_165 : decode cX9_init 165 = .ok (.sipush 9999, 3) := by decide +kernel
theorem dX9_init_168 : decode cX9_init 168 = .ok (.iastore, 1) := by decide +kernel
theorem dX9_init_169 : decode cX9_init 169 = .ok (.dup, 1) := by decide +kernel
theorem dX9_init_170 : decode cX9_init 170 = .ok (.iconst 1, 1) := by decide +kernel
theorem dX9_init_171 : decode cX9_init 171 = .ok (.bipush 60, 2) := by decide +kernel
theorem dX9_init_173 : decode cX9_init 173 = .ok (.iastore, 1) := by decide +kernel
theorem dX9_init_174 : decode cX9_init 174 = .ok (.dup, 1) := by decide +kernel
theorem dX9_init_175 : decode cX9_init 175 = .ok (.iconst 2, 1) := by decide +kernel
theorem dX9_init_176 : decode cX9_init 176 = .ok (.iconst 3, 1) := by decide +kernel
theorem dX9_init_177 : decode cX9_init 177 = .ok (.iastore, 1) := by decide +kernel
theorem dX9_init_178 : decode cX9_init 178 = .ok (.dup, 1) := by decide +kernel
theorem dX9_init_179 : decode cX9_init 179 = .ok (.iconst 3, 1) := by decide +kernel
theorem dX9_init_180 : decode cX9_init 180 = .ok (.bipush 9, 2) := by decide +kernel
theorem dX9_init_182 : decode cX9_init 182 = .ok (.iastore, 1) := by decide +kernel
theorem dX9_init_183 : decode cX9_init 183 = .ok (.dup, 1) := by decide +kernel
theorem dX9_init_184 : decode cX9_init 184 = .ok (.iconst 4, 1) := by decide +kernel
theorem dX9_init_185 : decode cX9_init 185 = .ok (.bipush 99, 2) := by decide +kernel
theorem dX9_init_187 : decode cX9_init 187 = .ok (.iastore, 1) := by decide +kernel
theorem dX9_init_188 : decode cX9_init 188 = .ok (.dup, 1) := by decide +kernel
theorem dX9_init_189 : decode cX9_init 189 = .ok (.iconst 5, 1) := by decide +kernel
theorem dX9_init_190 : decode cX9_init 190 = .ok (.bipush 20, 2) := by decide +kernel
theorem dX9_init_192 : decode cX9_init 192 = .ok (.iastore, 1) := by decide +kernel
theorem dX9_init_193 : decode cX9_init 193 = .ok (.dup, 1) := by decide +kernel
theorem dX9_init_194 : decode cX9_init 194 = .ok (.bipush 6, 2) := by decide +kernel
theorem dX9_init_196 : decode cX9_init 196 = .ok (.ldc 22, 2) := by decide +kernel
theorem dX9_init_198 : decode cX9_init 198 = .ok (.iastore, 1) := by decide +kernel
theorem dX9_init_199 : decode cX9_init 199 = .ok (.dup, 1) := by decide +kernel
theorem dX9_init_200 : decode cX9_init 200 = .ok (.bipush 7, 2) := by decide +kernel
theorem dX9_init_202 : decode cX9_init 202 = .ok (.bipush 9, 2) := by decide +kernel
theorem dX9_init_204 : decode cX9_init 204 = .ok (.iastore, 1) := by decide +kernel
theorem dX9_init_205 : decode cX9_init 205 = .ok (.dup, 1) := by decide +kernel
theorem dX9_init_206 : decode cX9_init 206 = .ok (.bipush 8, 2) := by decide +kernel
theorem dX9_init_208 : decode cX9_init 208 = .ok (.bipush 9, 2) := by decide +kernel
theorem dX9_init_210 : decode cX9_init 210 = .ok (.iastore, 1) := by decide +kernel
theorem dX9_init_211 : decode cX9_init 211 = .ok (.putfield 23, 3) := by decide +kernel
theorem dX9_init_214 : decode cX9_init 214 = .ok (.aload_n 0, 1) := by decide +kernel
theorem dX9_init_215 : decode cX9_init 215 = .ok (.bipush 9, 2) := by decide +kernel
theorem dX9_init_217 : decode cX9_init 217 = .ok (.newarray .int, 2) := by decide +kernel
theorem dX9_init_219 : decode cX9_init 219 = .ok (.putfield 26, 3) := by decide +kernel
theorem dX9_init_222 : decode cX9_init 222 = .ok (.aload_n 0, 1) := by decide +kernel
theorem dX9_init_223 : decode cX9_init 223 = .ok (.bipush 40, 2) := by decide +kernel
theorem dX9_init_225 : decode cX9_init 225 = .ok (.newarray .int, 2) := by decide +kernel
theorem dX9_init_227 : decode cX9_init 227 = .ok (.putfield 29, 3) := by decide +kernel
theorem dX9_init_230 : decode cX9_init 230 = .ok (.aload_n 0, 1) := by decide +kernel
theorem dX9_init_231 : decode cX9_init 231 = .ok (.bipush 6, 2) := by decide +kernel
theorem dX9_init_233 : decode cX9_init 233 = .ok (.newarray .int, 2) := by decide +kernel
theorem dX9_init_235 : decode cX9_init 235 = .ok (.putfield 32, 3) := by decide +kernel
theorem dX9_init_238 : decode cX9_init 238 = .ok (.aload_n 0, 1) := by decide +kernel
theorem dX9_init_239 : decode cX9_init 239 = .ok (.bipush 6, 2) := by decide +kernel
theorem dX9_init_241 : decode cX9_init 241 = .ok (.newarray .int, 2) := by decide +kernel
theorem dX9_init_243 : decode cX9_init 243 = .ok (.putfield 35, 3) := by decide +kernel
theorem dX9_init_246 : decode cX9_init 246 = .ok (.aload_n 0, 1) := by decide +kernel
theorem dX9_init_247 : decode cX9_init 247 = .ok (.sipush 2406, 3) := by decide +kernel
theorem dX9_init_250 : decode cX9_init 250 = .ok (.newarray .int, 2) := by decide +kernel
theorem dX9_init_252 : decode cX9_init 252 = .ok (.putfield 38, 3) := by decide +kernel
theorem dX9_init_255 : decode cX9_init 255 = .ok (.aload_n 0, 1) := by decide +kernel
theorem dX9_init_256 : decode cX9_init 256 = .ok (.iconst 1, 1) := by decide +kernel
theorem dX9_init_257 : decode cX9_init 257 = .ok (.putfield 41, 3) := by decide +kernel
theorem dX9_init_260 : decode cX9_init 260 = .ok (.aload_n 0, 1) := by decide +kernel
theorem dX9_init_261 : decode cX9_init 261 = .ok (.bipush 100, 2) := by decide +kernel
theorem dX9_init_263 : decode cX9_init 263 = .ok (.newarray .int, 2) := by decide +kernel
theorem dX9_init_265 : decode cX9_init 265 = .ok (.putfield 45, 3) := by decide +kernel
theorem dX9_init_268 : decode cX9_init 268 = .ok (.aload_n 0, 1) := by decide +kernel
theorem dX9_init_269 : decode cX9_init 269 = .ok (.bipush 100, 2) := by decide +kernel
theorem dX9_init_271 : decode cX9_init 271 = .ok (.newarray .int, 2) := by decide +kernel
theorem dX9_init_273 : decode cX9_init 273 = .ok (.putfield 48, 3) := by decide +kernel
theorem dX9_init_276 : decode cX9_init 276 = .ok (.aload_n 0, 1) := by decide +kernel
theorem dX9_init_277 : decode cX9_init 277 = .ok (.bipush 100, 2) := by decide +kernel
theorem dX9_init_279 : decode cX9_init 279 = .ok (.newarray .int, 2) := by decide +kernel
theorem dX9_init_281 : decode cX9_init 281 = .ok (.putfield 51, 3) := by decide +kernel
theorem dX9_init_284 : decode cX9_init 284 = .ok (.aload_n 0, 1) := by decide +kernel
theorem dX9_init_285 : decode cX9_init 285 = .ok (.bipush 100, 2) := by decide +kernel
theorem dX9_init_287 : decode cX9_init 287 = .ok (.newarray .int, 2) := by decide +kernel
theorem dX9_init_289 : decode cX9_init 289 = .ok (.putfield 54, 3) := by decide +kernel
theorem dX9_init_292 : decode cX9_init 292 = .ok (.aload_n 0, 1) := by decide +kernel
theorem dX9_init_293 : decode cX9_init 293 = .ok (.bipush 100, 2) := by decide +kernel
theorem dX9_init_295 : decode cX9_init 295 = .ok (.newarray .int, 2) := by decide +kernel
theorem dX9_init_297 : decode cX9_init 297 = .ok (.putfield 57, 3) := by decide +kernel
theorem dX9_init_300 : decode cX9_init 300 = .ok (.aload_n 0, 1) := by decide +kernel
theorem dX9_init_301 : decode cX9_init 301 = .ok (.bipush 100, 2) := by decide +kernel
theorem dX9_init_303 : decode cX9_init 303 = .ok (.newarray .int, 2) := by decide +kernel
theorem dX9_init_305 : decode cX9_init 305 = .ok (.putfield 60, 3) := by decide +kernel
theorem dX9_init_308 : decode cX9_init 308 = .ok (.aload_n 0, 1) := by decide +kernel
theorem dX9_init_309 : decode cX9_init 309 = .ok (.bipush 100, 2) := by decide +kernel
theorem dX9_init_311 : decode cX9_init 311 = .ok (.newarray .int, 2) := by decide +kernel
theorem dX9_init_313 : decode cX9_init 313 = .ok (.putfield 63, 3) := by decide +kernel
theorem dX9_init_316 : decode cX9_init 316 = .ok (.aload_n 0, 1) := by decide +kernel
theorem dX9_init_317 : decode cX9_init 317 = .ok (.bipush 100, 2) := by decide +kernel
theorem dX9_init_319 : decode cX9_init 319 = .ok (.newarray .int, 2) := by decide +kernel
theorem dX9_init_321 : decode cX9_init 321 = .ok (.putfield 66, 3) := by decide +kernel
theorem dX9_init_324 : decode cX9_init 324 = .ok (.aload_n 0, 1) := by decide +kernel
theorem dX9_init_325 : decode cX9_init 325 = .ok (.bipush 100, 2) := by decide +kernel
theorem dX9_init_327 : decode cX9_init 327 = .ok (.newarray .int, 2) := by decide +kernel
theorem dX9_init_329 : decode cX9_init 329 = .ok (.putfield 69, 3) := by decide +kernel
theorem dX9_init_332 : decode cX9_init 332 = .ok (.aload_n 0, 1) := by decide +kernel
theorem dX9_init_333 : decode cX9_init 333 = .ok (.bipush 100, 2) := by decide +kernel
theorem dX9_init_335 : decode cX9_init 335 = .ok (.newarray .int, 2) := by decide +kernel
theorem dX9_init_337 : decode cX9_init 337 = .ok (.putfield 72, 3) := by decide +kernel
theorem dX9_init_340 : decode cX9_init 340 = .ok (.aload_n 0, 1) := by decide +kernel
theorem dX9_init_341 : decode cX9_init 341 = .ok (.bipush 100, 2) := by decide +kernel
theorem dX9_init_343 : decode cX9_init 343 = .ok (.newarray .int, 2) := by decide +kernel
theorem dX9_init_345 : decode cX9_init 345 = .ok (.putfield 75, 3) := by decide +kernel
theorem dX9_init_348 : decode cX9_init 348 = .ok (.aload_n 0, 1) := by decide +kernel
theorem dX9_init_349 : decode cX9_init 349 = .ok (.bipush 100, 2) := by decide +kernel
theorem dX9_init_351 : decode cX9_init 351 = .ok (.newarray .int, 2) := by decide +kernel
theorem dX9_init_353 : decode cX9_init 353 = .ok (.putfield 78, 3) := by decide +kernel
theorem dX9_init_356 : decode cX9_init 356 = .ok (.aload_n 0, 1) := by decide +kernel
theorem dX9_init_357 : decode cX9_init 357 = .ok (.bipush 100, 2) := by decide +kernel
theorem dX9_init_359 : decode cX9_init 359 = .ok (.newarray .int, 2) := by decide +kernel
theorem dX9_init_361 : decode cX9_init 361 = .ok (.putfield 81, 3) := by decide +kernel
theorem dX9_init_364 : decode cX9_init 364 = .ok (.aload_n 0, 1) := by decide +kernel
theorem dX9_init_365 : decode cX9_init 365 = .ok (.bipush 100, 2) := by decide +kernel
theorem dX9_init_367 : decode cX9_init 367 = .ok (.newarray .int, 2) := by decide +kernel
theorem dX9_init_369 : decode cX9_init 369 = .ok (.putfield 84, 3) := by decide +kernel
theorem dX9_init_372 : decode cX9_init 372 = .ok (.aload_n 0, 1) := by decide +kernel
theorem dX9_init_373 : decode cX9_init 373 = .ok (.sipush 300, 3) := by decide +kernel
theorem dX9_init_376 : decode cX9_init 376 = .ok (.newarray .int, 2) := by decide +kernel
theorem dX9_init_378 : decode cX9_init 378 = .ok (.putfield 87, 3) := by decide +kernel
theorem dX9_init_381 : decode cX9_init 381 = .ok (.aload_n 0, 1) := by decide +kernel
theorem dX9_init_382 : decode cX9_init 382 = .ok (.sipush 600, 3) := by decide +kernel
theorem dX9_init_385 : decode cX9_init 385 = .ok (.newarray .int, 2) := by decide +kernel
theorem dX9_init_387 : decode cX9_init 387 = .ok (.putfield 90, 3) := by decide +kernel
theorem dX9_init_390 : decode cX9_init 390 = .ok (.aload_n 0, 1) := by decide +kernel
theorem dX9_init_391 : decode cX9_init 391 = .ok (.sipush 300, 3) := by decide +kernel
theorem dX9_init_394 : decode cX9_init 394 = .ok (.newarray .int, 2) := by decide +kernel
theorem dX9_init_396 : decode cX9_init 396 = .ok (.putfield 93, 3) := by decide +kernel
theorem dX9_init_399 : decode cX9_init 399 = .ok (.aload_n 0, 1) := by decide +kernel
theorem dX9_init_400 : decode cX9_init 400 = .ok (.sipush 300, 3) := by decide +kernel
theorem dX9_init_403 : decode cX9_init 403 = .ok (.newarray .int, 2) := by decide +kernel
theorem dX9_init_405 : decode cX9_init 405 = .ok (.putfield 96, 3) := by decide +kernel
theorem dX9_init_408 : decode cX9_init 408 = .ok (.aload_n 0, 1) := by decide +kernel
theorem dX9_init_409 : decode cX9_init 409 = .ok (.sipush 300, 3) := by decide +kernel
theorem dX9_init_412 : decode cX9_init 412 = .ok (.newarray .int, 2) := by decide +kernel
theorem dX9_init_414 : decode cX9_init 414 = .ok (.putfield 99, 3) := by decide +kernel
theorem dX9_init_417 : decode cX9_init 417 = .ok (.aload_n 0, 1) := by decide +kernel
theorem dX9_init_418 : decode cX9_init 418 = .ok (.bipush 40, 2) := by decide +kernel
theorem dX9_init_420 : decode cX9_init 420 = .ok (.newarray .int, 2) := by decide +kernel
theorem dX9_init_422 : decode cX9_init 422 = .ok (.putfield 102, 3) := by decide +kernel
theorem dX9_init_425 : decode cX9_init 425 = .ok (.return_, 1) := by decide +kernel
theorem dX9_thrown_0 : decode cX9_thrown 0 = .ok (.aload_n 0, 1) := by decide +kernel
theorem dX9_thrown_1 : decode cX9_thrown 1 = .ok (.getfield 105, 3) := by decide +kernel
theorem dX9_thrown_4 : decode cX9_thrown 4 = .ok (.ireturn, 1) := by decide +kernel
theorem dX9_refuse_0 : decode cX9_refuse 0 = .ok (.aload_n 0, 1) := by decide +kernel
theorem dX9_refuse_1 : decode cX9_refuse 1 = .ok (.iconst 1, 1) := by decide +kernel
theorem dX9_refuse_2 : decode cX9_refuse 2 = .ok (.putfield 105, 3) := by decide +kernel
theorem dX9_refuse_5 : decode cX9_refuse 5 = .ok (.iconst 0, 1) := by decide +kernel
theorem dX9_refuse_6 : decode cX9_refuse 6 = .ok (.ireturn, 1) := by decide +kernel
theorem dX9_come_0 : decode cX9_come 0 = .ok (.bipush 24, 2) := by decide +kernel
theorem dX9_come_2 : decode cX9_come 2 = .ok (.istore_n 2, 1) := by decide +kernel
theorem dX9_come_3 : decode cX9_come 3 = .ok (.iload_n 2, 1) := by decide +kernel
theorem dX9_come_4 : decode cX9_come 4 = .ok (.ifCond .lt 35, 3) := by decide +kernel
theorem dX9_come_7 : decode cX9_come 7 = .ok (.aload_n 0, 1) := by decide +kernel
theorem dX9_come_8 : decode cX9_come 8 = .ok (.getfield 7, 3) := by decide +kernel
theorem dX9_come_11 : decode cX9_come 11 = .ok (.aload_n 0, 1) := by decide +kernel
theorem dX9_come_12 : decode cX9_come 12 = .ok (.getfield 108, 3) := by decide +kernel
theorem dX9_come_15 : decode cX9_come 15 = .ok (.iload_n 1, 1) := by decide +kernel
theorem dX9_come_16 : decode cX9_come 16 = .ok (.iload_n 2, 1) := by decide +kernel
theorem dX9_come_17 : decode cX9_come 17 = .ok (.iushr, 1) := by decide +kernel
theorem dX9_come_18 : decode cX9_come 18 = .ok (.sipush 255, 3) := by decide +kernel
theorem dX9_come_21 : decode cX9_come 21 = .ok (.iand, 1) := by decide +kernel
theorem dX9_come_22 : decode cX9_come 22 = .ok (.iastore, 1) := by decide +kernel
theorem dX9_come_23 : decode cX9_come 23 = .ok (.aload_n 0, 1) := by decide +kernel
theorem dX9_come_24 : decode cX9_come 24 = .ok (.dup, 1) := by decide +kernel
theorem dX9_come_25 : decode cX9_come 25 = .ok (.getfield 108, 3) := by decide +kernel
theorem dX9_come_28 : decode cX9_come 28 = .ok (.iconst 1, 1) := by decide +kernel
theorem dX9_come_29 : decode cX9_come 29 = .ok (.iadd, 1) := by decide +kernel
theorem dX9_come_30 : decode cX9_come 30 = .ok (.putfield 108, 3) := by decide +kernel
theorem dX9_come_33 : decode cX9_come 33 = .ok (.iinc 2 (-8), 3) := by decide +kernel
theorem dX9_come_36 : decode cX9_come 36 = .ok (.goto (-33), 3) := by decide +kernel
theorem dX9_come_39 : decode cX9_come 39 = .ok (.return_, 1) := by decide +kernel
theorem dX9_feed_0 : decode cX9_feed 0 = .ok (.aload_n 0, 1) := by decide +kernel
theorem dX9_feed_1 : decode cX9_feed 1 = .ok (.iconst 0, 1) := by decide +kernel
theorem dX9_feed_2 : decode cX9_feed 2 = .ok (.putfield 105, 3) := by decide +kernel
theorem dX9_feed_5 : decode cX9_feed 5 = .ok (.aload_n 0, 1) := by decide +kernel
theorem dX9_feed_6 : decode cX9_feed 6 = .ok (.getfield 108, 3) := by decide +kernel
theorem dX9_feed_9 : decode cX9_feed 9 = .ok (.bipush 20, 2) := by decide +kernel
theorem dX9_feed_11 : decode cX9_feed 11 = .ok (.iadd, 1) := by decide +kernel
theorem dX9_feed_12 : decode cX9_feed 12 = .ok (.sipush 320, 3) := by decide +kernel
theorem dX9_feed_15 : decode cX9_feed 15 = .ok (.if_icmp .le 5, 3) := by decide +kernel
theorem dX9_feed_18 : decode cX9_feed 18 = .ok (.iconst (-1), 1) := by decide +kernel
theorem dX9_feed_19 : decode cX9_feed 19 = .ok (.ireturn, 1) := by decide +kernel
theorem dX9_feed_20 : decode cX9_feed 20 = .ok (.aload_n 0, 1) := by decide +kernel
theorem dX9_feed_21 : decode cX9_feed 21 = .ok (.iload_n 1, 1) := by decide +kernel
theorem dX9_feed_22 : decode cX9_feed 22 = .ok (.invokevirtual 111, 3) := by decide +kernel
theorem dX9_feed_25 : decode cX9_feed 25 = .ok (.aload_n 0, 1) := by decide +kernel
theorem dX9_feed_26 : decode cX9_feed 26 = .ok (.iload_n 2, 1) := by decide +kernel
theorem dX9_feed_27 : decode cX9_feed 27 = .ok (.invokevirtual 111, 3) := by decide +kernel
theorem dX9_feed_30 : decode cX9_feed 30 = .ok (.aload_n 0, 1) := by decide +kernel
theorem dX9_feed_31 : decode cX9_feed 31 = .ok (.iload_n 3, 1) := by decide +kernel
theorem dX9_feed_32 : decode cX9_feed 32 = .ok (.invokevirtual 111, 3) := by decide +kernel
theorem dX9_feed_35 : decode cX9_feed 35 = .ok (.aload_n 0, 1) := by decide +kernel
theorem dX9_feed_36 : decode cX9_feed 36 = .ok (.iload 4, 2) := by decide +kernel
theorem dX9_feed_38 : decode cX9_feed 38 = .ok (.invokevirtual 111, 3) := by decide +kernel
theorem dX9_feed_41 : decode cX9_feed 41 = .ok (.aload_n 0, 1) := by decide +kernel
theorem dX9_feed_42 : decode cX9_feed 42 = .ok (.iload 5, 2) := by decide +kernel
theorem dX9_feed_44 : decode cX9_feed 44 = .ok (.invokevirtual 111, 3) := by decide +kernel
theorem dX9_feed_47 : decode cX9_feed 47 = .ok (.aload_n 0, 1) := by decide +kernel
theorem dX9_feed_48 : decode cX9_feed 48 = .ok (.getfield 108, 3) := by decide +kernel
theorem dX9_feed_51 : decode cX9_feed 51 = .ok (.ireturn, 1) := by decide +kernel
theorem dX9_end_0 : decode cX9_end 0 = .ok (.aload_n 0, 1) := by decide +kernel
theorem dX9_end_1 : decode cX9_end 1 = .ok (.iconst 0, 1) := by decide +kernel
theorem dX9_end_2 : decode cX9_end 2 = .ok (.putfield 105, 3) := by decide +kernel
theorem dX9_end_5 : decode cX9_end 5 = .ok (.iload_n 1, 1) := by decide +kernel
theorem dX9_end_6 : decode cX9_end 6 = .ok (.ifCond .lt 11, 3) := by decide +kernel
theorem dX9_end_9 : decode cX9_end 9 = .ok (.iload_n 1, 1) := by decide +kernel
theorem dX9_end_10 : decode cX9_end 10 = .ok (.aload_n 0, 1) := by decide +kernel
theorem dX9_end_11 : decode cX9_end 11 = .ok (.getfield 108, 3) := by decide +kernel
theorem dX9_end_14 : decode cX9_end 14 = .ok (.if_icmp .le 5, 3) := by decide +kernel
theorem dX9_end_17 : decode cX9_end 17 = .ok (.iconst 0, 1) := by decide +kernel
theorem dX9_end_18 : decode cX9_end 18 = .ok (.ireturn, 1) := by decide +kernel
theorem dX9_end_19 : decode cX9_end 19 = .ok (.aload_n 0, 1) := by decide +kernel
theorem dX9_end_20 : decode cX9_end 20 = .ok (.iload_n 1, 1) := by decide +kernel
theorem dX9_end_21 : decode cX9_end 21 = .ok (.putfield 108, 3) := by decide +kernel
theorem dX9_end_24 : decode cX9_end 24 = .ok (.iconst 1, 1) := by decide +kernel
theorem dX9_end_25 : decode cX9_end 25 = .ok (.ireturn, 1) := by decide +kernel
theorem dX9_at_0 : decode cX9_at 0 = .ok (.iload_n 1, 1) := by decide +kernel
theorem dX9_at_1 : decode cX9_at 1 = .ok (.aload_n 0, 1) := by decide +kernel
theorem dX9_at_2 : decode cX9_at 2 = .ok (.getfield 115, 3) := by decide +kernel
theorem dX9_at_5 : decode cX9_at 5 = .ok (.if_icmp .ge 12, 3) := by decide +kernel
theorem dX9_at_8 : decode cX9_at 8 = .ok (.aload_n 0, 1) := by decide +kernel
theorem dX9_at_9 : decode cX9_at 9 = .ok (.getfield 7, 3) := by decide +kernel
theorem dX9_at_12 : decode cX9_at 12 = .ok (.iload_n 1, 1) := by decide +kernel
theorem dX9_at_13 : decode cX9_at 13 = .ok (.iaload, 1) := by decide +kernel
theorem dX9_at_14 : decode cX9_at 14 = .ok (.goto 4, 3) := by decide +kernel
theorem dX9_at_17 : decode cX9_at 17 = .ok (.iconst 0, 1) := by decide +kernel
theorem dX9_at_18 : decode cX9_at 18 = .ok (.ireturn, 1) := by decide +kernel
theorem dX9_isDigit_0 : decode cX9_isDigit 0 = .ok (.iload_n 0, 1) := by decide +kernel
theorem dX9_isDigit_1 : decode cX9_isDigit 1 = .ok (.bipush 48, 2) := by decide +kernel
theorem dX9_isDigit_3 : decode cX9_isDigit 3 = .ok (.if_icmp .lt 13, 3) := by decide +kernel
theorem dX9_isDigit_6 : decode cX9_isDigit 6 = .ok (.iload_n 0, 1) := by decide +kernel
theorem dX9_isDigit_7 : decode cX9_isDigit 7 = .ok (.bipush 57, 2) := by decide +kernel
theorem dX9_isDigit_9 : decode cX9_isDigit 9 = .ok (.if_icmp .gt 7, 3) := by decide +kernel
theorem dX9_isDigit_12 : decode cX9_isDigit 12 = .ok (.iconst 1, 1) := by decide +kernel
theorem dX9_isDigit_13 : decode cX9_isDigit 13 = .ok (.goto 4, 3) := by decide +kernel
theorem dX9_isDigit_16 : decode cX9_isDigit 16 = .ok (.iconst 0, 1) := by decide +kernel
theorem dX9_isDigit_17 : decode cX9_isDigit 17 = .ok (.ireturn, 1) := by decide +kernel
theorem dX9_isLetter_0 : decode cX9_isLetter 0 = .ok (.iload_n 0, 1) := by decide +kernel
theorem dX9_isLetter_1 : decode cX9_isLetter 1 = .ok (.bipush 97, 2) := by decide +kernel
theorem dX9_isLetter_3 : decode cX9_isLetter 3 = .ok (.if_icmp .lt 13, 3) := by decide +kernel
theorem dX9_isLetter_6 : decode cX9_isLetter 6 = .ok (.iload_n 0, 1) := by decide +kernel
theorem dX9_isLetter_7 : decode cX9_isLetter 7 = .ok (.bipush 122, 2) := by decide +kernel
theorem dX9_isLetter_9 : decode cX9_isLetter 9 = .ok (.if_icmp .gt 7, 3) := by decide +kernel
theorem dX9_isLetter_12 : decode cX9_isLetter 12 = .ok (.iconst 1, 1) := by decide +kernel
theorem dX9_isLetter_13 : decode cX9_isLetter 13 = .ok (.goto 4, 3) := by decide +kernel
theorem dX9_isLetter_16 : decode cX9_isLetter 16 = .ok (.iconst 0, 1) := by decide +kernel
theorem dX9_isLetter_17 : decode cX9_isLetter 17 = .ok (.ireturn, 1) := by decide +kernel
theorem dX9_go_0 : decode cX9_go 0 = .ok (.aload_n 0, 1) := by decide +kernel
theorem dX9_go_1 : decode cX9_go 1 = .ok (.getfield 118, 3) := by decide +kernel
theorem dX9_go_4 : decode cX9_go 4 = .ok (.aload_n 0, 1) := by decide +kernel
theorem dX9_go_5 : decode cX9_go 5 = .ok (.getfield 115, 3) := by decide +kernel
theorem dX9_go_8 : decode cX9_go 8 = .ok (.if_icmp .ge 44, 3) := by decide +kernel
theorem dX9_go_11 : decode cX9_go 11 = .ok (.aload_n 0, 1) := by decide +kernel
theorem dX9_go_12 : decode cX9_go 12 = .ok (.getfield 7, 3) := by decide +kernel
theorem dX9_go_15 : decode cX9_go 15 = .ok (.aload_n 0, 1) := by decide +kernel
theorem dX9_go_16 : decode cX9_go 16 = .ok (.getfield 118, 3) := by decide +kernel
theorem dX9_go_19 : decode cX9_go 19 = .ok (.iaload, 1) := by decide +kernel
theorem dX9_go_20 : decode cX9_go 20 = .ok (.bipush 32, 2) := by decide +kernel
theorem dX9_go_22 : decode cX9_go 22 = .ok (.if_icmp .eq 17, 3) := by decide +kernel
theorem dX9_go_25 : decode cX9_go 25 = .ok (.aload_n 0, 1) := by decide +kernel
theorem dX9_go_26 : decode cX9_go 26 = .ok (.getfield 7, 3) := by decide +kernel
theorem dX9_go_29 : decode cX9_go 29 = .ok (.aload_n 0, 1) := by decide +kernel
theorem dX9_go_30 : decode cX9_go 30 = .ok (.getfield 118, 3) := by decide +kernel
theorem dX9_go_33 : decode cX9_go 33 = .ok (.iaload, 1) := by decide +kernel
theorem dX9_go_34 : decode cX9_go 34 = .ok (.bipush 10, 2) := by decide +kernel
theorem dX9_go_36 : decode cX9_go 36 = .ok (.if_icmp .ne 16, 3) := by decide +kernel
theorem dX9_go_39 : decode cX9_go 39 = .ok (.aload_n 0, 1) := by decide +kernel
theorem dX9_go_40 : decode cX9_go 40 = .ok (.dup, 1) := by decide +kernel
theorem dX9_go_41 : decode cX9_go 41 = .ok (.getfield 118, 3) := by decide +kernel
theorem dX9_go_44 : decode cX9_go 44 = .ok (.iconst 1, 1) := by decide +kernel
theorem dX9_go_45 : decode cX9_go 45 = .ok (.iadd, 1) := by decide +kernel
theorem dX9_go_46 : decode cX9_go 46 = .ok (.putfield 118, 3) := by decide +kernel
theorem dX9_go_49 : decode cX9_go 49 = .ok (.goto (-49), 3) := by decide +kernel
theorem dX9_go_52 : decode cX9_go 52 = .ok (.aload_n 0, 1) := by decide +kernel
theorem dX9_go_53 : decode cX9_go 53 = .ok (.aload_n 0, 1) := by decide +kernel
theorem dX9_go_54 : decode cX9_go 54 = .ok (.getfield 118, 3) := by decide +kernel
theorem dX9_go_57 : decode cX9_go 57 = .ok (.putfield 121, 3) := by decide +kernel
theorem dX9_go_60 : decode cX9_go 60 = .ok (.aload_n 0, 1) := by decide +kernel
theorem dX9_go_61 : decode cX9_go 61 = .ok (.getfield 115, 3) := by decide +kernel
theorem dX9_go_64 : decode cX9_go 64 = .ok (.sipush 300, 3) := by decide +kernel
theorem dX9_go_67 : decode cX9_go 67 = .ok (.if_icmp .le 26, 3) := by decide +kernel
theorem dX9_go_70 : decode cX9_go 70 = .ok (.aload_n 0, 1) := by decide +kernel
theorem dX9_go_71 : decode cX9_go 71 = .ok (.getfield 121, 3) := by decide +kernel
theorem dX9_go_74 : decode cX9_go 74 = .ok (.sipush 300, 3) := by decide +kernel
theorem dX9_go_77 : decode cX9_go 77 = .ok (.if_icmp .lt 16, 3) := by decide +kernel
theorem dX9_go_80 : decode cX9_go 80 = .ok (.aload_n 0, 1) := by decide +kernel
theorem dX9_go_81 : decode cX9_go 81 = .ok (.sipush 300, 3) := by decide +kernel
theorem dX9_go_84 : decode cX9_go 84 = .ok (.putfield 121, 3) := by decide +kernel
theorem dX9_go_87 : decode cX9_go 87 = .ok (.aload_n 0, 1) := by decide +kernel
theorem dX9_go_88 : decode cX9_go 88 = .ok (.iconst 1, 1) := by decide +kernel
theorem dX9_go_89 : decode cX9_go 89 = .ok (.putfield 124, 3) := by decide +kernel
theorem dX9_go_92 : decode cX9_go 92 = .ok (.return_, 1) := by decide +kernel
theorem dX9_go_93 : decode cX9_go 93 = .ok (.aload_n 0, 1) := by decide +kernel
theorem dX9_go_94 : decode cX9_go 94 = .ok (.getfield 118, 3) := by decide +kernel
theorem dX9_go_97 : decode cX9_go 97 = .ok (.aload_n 0, 1) := by decide +kernel
theorem dX9_go_98 : decode cX9_go 98 = .ok (.getfield 115, 3) := by decide +kernel
theorem dX9_go_101 : decode cX9_go 101 = .ok (.if_icmp .lt 9, 3) := by decide +kernel
theorem dX9_go_104 : decode cX9_go 104 = .ok (.aload_n 0, 1) := by decide +kernel
theorem dX9_go_105 : decode cX9_go 105 = .ok (.iconst 0, 1) := by decide +kernel
theorem dX9_go_106 : decode cX9_go 106 = .ok (.putfield 124, 3) := by decide +kernel
theorem dX9_go_109 : decode cX9_go 109 = .ok (.return_, 1) := by decide +kernel
theorem dX9_go_110 : decode cX9_go 110 = .ok (.aload_n 0, 1) := by decide +kernel
theorem dX9_go_111 : decode cX9_go 111 = .ok (.getfield 7, 3) := by decide +kernel
theorem dX9_go_114 : decode cX9_go 114 = .ok (.aload_n 0, 1) := by decide +kernel
theorem dX9_go_115 : decode cX9_go 115 = .ok (.getfield 118, 3) := by decide +kernel
theorem dX9_go_118 : decode cX9_go 118 = .ok (.iaload, 1) := by decide +kernel
theorem dX9_go_119 : decode cX9_go 119 = .ok (.istore_n 1, 1) := by decide +kernel
theorem dX9_go_120 : decode cX9_go 120 = .ok (.iload_n 1, 1) := by decide +kernel
theorem dX9_go_121 : decode cX9_go 121 = .ok (.invokestatic 127, 3) := by decide +kernel
theorem dX9_go_124 : decode cX9_go 124 = .ok (.ifCond .ne 36, 3) := by decide +kernel
theorem dX9_go_127 : decode cX9_go 127 = .ok (.iload_n 1, 1) := by decide +kernel
theorem dX9_go_128 : decode cX9_go 128 = .ok (.invokestatic 131, 3) := by decide +kernel
theorem dX9_go_131 : decode cX9_go 131 = .ok (.ifCond .ne 29, 3) := by decide +kernel
theorem dX9_go_134 : decode cX9_go 134 = .ok (.aload_n 0, 1) := by decide +kernel
theorem dX9_go_135 : decode cX9_go 135 = .ok (.iload_n 1, 1) := by decide +kernel
theorem dX9_go_136 : decode cX9_go 136 = .ok (.bipush 59, 2) := by decide +kernel
theorem dX9_go_138 : decode cX9_go 138 = .ok (.if_icmp .ne 7, 3) := by decide +kernel
theorem dX9_go_141 : decode cX9_go 141 = .ok (.iconst 4, 1) := by decide +kernel
theorem dX9_go_142 : decode cX9_go 142 = .ok (.goto 4, 3) := by decide +kernel
theorem dX9_go_145 : decode cX9_go 145 = .ok (.iconst 1, 1) := by decide +kernel
theorem dX9_go_146 : decode cX9_go 146 = .ok (.putfield 124, 3) := by decide +kernel
theorem dX9_go_149 : decode cX9_go 149 = .ok (.aload_n 0, 1) := by decide +kernel
theorem dX9_go_150 : decode cX9_go 150 = .ok (.dup, 1) := by decide +kernel
theorem dX9_go_151 : decode cX9_go 151 = .ok (.getfield 118, 3) := by decide +kernel
theorem dX9_go_154 : decode cX9_go 154 = .ok (.iconst 1, 1) := by decide +kernel
theorem dX9_go_155 : decode cX9_go 155 = .ok (.iadd, 1) := by decide +kernel
theorem dX9_go_156 : decode cX9_go 156 = .ok (.putfield 118, 3) := by decide +kernel
theorem dX9_go_159 : decode cX9_go 159 = .ok (.return_, 1) := by decide +kernel
theorem dX9_go_160 : decode cX9_go 160 = .ok (.iload_n 1, 1) := by decide +kernel
theorem dX9_go_161 : decode cX9_go 161 = .ok (.invokestatic 127, 3) := by decide +kernel
theorem dX9_go_164 : decode cX9_go 164 = .ok (.istore_n 2, 1) := by decide +kernel
theorem dX9_go_165 : decode cX9_go 165 = .ok (.iconst 1, 1) := by decide +kernel
theorem dX9_go_166 : decode cX9_go 166 = .ok (.istore_n 3, 1) := by decide +kernel
theorem dX9_go_167 : decode cX9_go 167 = .ok (.aload_n 0, 1) := by decide +kernel
theorem dX9_go_168 : decode cX9_go 168 = .ok (.lconst 0, 1) := by decide +kernel
theorem dX9_go_169 : decode cX9_go 169 = .ok (.putfield 134, 3) := by decide +kernel
theorem dX9_go_172 : decode cX9_go 172 = .ok (.aload_n 0, 1) := by decide +kernel
theorem dX9_go_173 : decode cX9_go 173 = .ok (.iconst 0, 1) := by decide +kernel
theorem dX9_go_174 : decode cX9_go 174 = .ok (.putfield 138, 3) := by decide +kernel
theorem dX9_go_177 : decode cX9_go 177 = .ok (.aload_n 0, 1) := by decide +kernel
theorem dX9_go_178 : decode cX9_go 178 = .ok (.aload_n 0, 1) := by decide +kernel
theorem dX9_go_179 : decode cX9_go 179 = .ok (.getfield 118, 3) := by decide +kernel
theorem dX9_go_182 : decode cX9_go 182 = .ok (.invokevirtual 141, 3) := by decide +kernel
theorem dX9_go_185 : decode cX9_go 185 = .ok (.invokestatic 127, 3) := by decide +kernel
theorem dX9_go_188 : decode cX9_go 188 = .ok (.ifCond .ne 17, 3) := by decide +kernel
theorem dX9_go_191 : decode cX9_go 191 = .ok (.aload_n 0, 1) := by decide +kernel
theorem dX9_go_192 : decode cX9_go 192 = .ok (.aload_n 0, 1) := by decide +kernel
theorem dX9_go_193 : decode cX9_go 193 = .ok (.getfield 118, 3) := by decide +kernel
theorem dX9_go_196 : decode cX9_go 196 = .ok (.invokevirtual 141, 3) := by decide +kernel
theorem dX9_go_199 : decode cX9_go 199 = .ok (.invokestatic 131, 3) := by decide +kernel
theorem dX9_go_202 : decode cX9_go 202 = .ok (.ifCond .eq 110, 3) := by decide +kernel
theorem dX9_go_205 : decode cX9_go 205 = .ok (.aload_n 0, 1) := by decide +kernel
theorem dX9_go_206 : decode cX9_go 206 = .ok (.getfield 7, 3) := by decide +kernel
theorem dX9_go_209 : decode cX9_go 209 = .ok (.aload_n 0, 1) := by decide +kernel
theorem dX9_go_210 : decode cX9_go 210 = .ok (.getfield 118, 3) := by decide +kernel
theorem dX9_go_213 : decode cX9_go 213 = .ok (.iaload, 1) := by decide +kernel
theorem dX9_go_214 : decode cX9_go 214 = .ok (.istore 4, 2) := by decide +kernel
theorem dX9_go_216 : decode cX9_go 216 = .ok (.iload_n 3, 1) := by decide +kernel
theorem dX9_go_217 : decode cX9_go 217 = .ok (.ifCond .eq 16, 3) := by decide +kernel
theorem dX9_go_220 : decode cX9_go 220 = .ok (.iload 4, 2) := by decide +kernel
theorem dX9_go_222 : decode cX9_go 222 = .ok (.invokestatic 127, 3) := by decide +kernel
theorem dX9_go_225 : decode cX9_go 225 = .ok (.iload_n 2, 1) := by decide +kernel
theorem dX9_go_226 : decode cX9_go 226 = .ok (.if_icmp .ne 7, 3) := by decide +kernel
theorem dX9_go_229 : decode cX9_go 229 = .ok (.iconst 1, 1) := by decide +kernel
theorem dX9_go_230 : decode cX9_go 230 = .ok (.goto 4, 3) := by decide +kernel
theorem dX9_go_233 : decode cX9_go 233 = .ok (.iconst 0, 1) := by decide +kernel
theorem dX9_go_234 : decode cX9_go 234 = .ok (.istore_n 3, 1) := by decide +kernel
theorem dX9_go_235 : decode cX9_go 235 = .ok (.aload_n 0, 1) := by decide +kernel
theorem dX9_go_236 : decode cX9_go 236 = .ok (.getfield 118, 3) := by decide +kernel
theorem dX9_go_239 : decode cX9_go 239 = .ok (.aload_n 0, 1) := by decide +kernel
theorem dX9_go_240 : decode cX9_go 240 = .ok (.getfield 121, 3) := by decide +kernel
theorem dX9_go_243 : decode cX9_go 243 = .ok (.isub, 1) := by decide +kernel
theorem dX9_go_244 : decode cX9_go 244 = .ok (.bipush 10, 2) := by decide +kernel
theorem dX9_go_246 : decode cX9_go 246 = .ok (.if_icmp .ge 23, 3) := by decide +kernel
theorem dX9_go_249 : decode cX9_go 249 = .ok (.aload_n 0, 1) := by decide +kernel
theorem dX9_go_250 : decode cX9_go 250 = .ok (.ldc2_w 145, 3) := by decide +kernel
theorem dX9_go_253 : decode cX9_go 253 = .ok (.aload_n 0, 1) := by decide +kernel
theorem dX9_go_254 : decode cX9_go 254 = .ok (.getfield 134, 3) := by decide +kernel
theorem dX9_go_257 : decode cX9_go 257 = .ok (.lmul, 1) := by decide +kernel
theorem dX9_go_258 : decode cX9_go 258 = .ok (.iload 4, 2) := by decide +kernel
theorem dX9_go_260 : decode cX9_go 260 = .ok (.i2l, 1) := by decide +kernel
theorem dX9_go_261 : decode cX9_go 261 = .ok (.ladd, 1) := by decide +kernel
theorem dX9_go_262 : decode cX9_go 262 = .ok (.ldc2_w 147, 3) := by decide +kernel
theorem dX9_go_265 : decode cX9_go 265 = .ok (.lsub, 1) := by decide +kernel
theorem dX9_go_266 : decode cX9_go 266 = .ok (.putfield 134, 3) := by decide +kernel
theorem dX9_go_269 : decode cX9_go 269 = .ok (.aload_n 0, 1) := by decide +kernel
theorem dX9_go_270 : decode cX9_go 270 = .ok (.getfield 118, 3) := by decide +kernel
theorem dX9_go_273 : decode cX9_go 273 = .ok (.aload_n 0, 1) := by decide +kernel
theorem dX9_go_274 : decode cX9_go 274 = .ok (.getfield 121, 3) := by decide +kernel
theorem dX9_go_277 : decode cX9_go 277 = .ok (.isub, 1) := by decide +kernel
theorem dX9_go_278 : decode cX9_go 278 = .ok (.iconst 5, 1) := by decide +kernel
theorem dX9_go_279 : decode cX9_go 279 = .ok (.if_icmp .ge 20, 3) := by decide +kernel
theorem dX9_go_282 : decode cX9_go 282 = .ok (.aload_n 0, 1) := by decide +kernel
theorem dX9_go_283 : decode cX9_go 283 = .ok (.bipush 10, 2) := by decide +kernel
theorem dX9_go_285 : decode cX9_go 285 = .ok (.aload_n 0, 1) := by decide +kernel
theorem dX9_go_286 : decode cX9_go 286 = .ok (.getfield 138, 3) := by decide +kernel
theorem dX9_go_289 : decode cX9_go 289 = .ok (.imul, 1) := by decide +kernel
theorem dX9_go_290 : decode cX9_go 290 = .ok (.iload 4, 2) := by decide +kernel
theorem dX9_go_292 : decode cX9_go 292 = .ok (.iadd, 1) := by decide +kernel
theorem dX9_go_293 : decode cX9_go 293 = .ok (.bipush 48, 2) := by decide +kernel
theorem dX9_go_295 : decode cX9_go 295 = .ok (.isub, 1) := by decide +kernel
theorem dX9_go_296 : decode cX9_go 296 = .ok (.putfield 138, 3) := by decide +kernel
theorem dX9_go_299 : decode cX9_go 299 = .ok (.aload_n 0, 1) := by decide +kernel
theorem dX9_go_300 : decode cX9_go 300 = .ok (.dup, 1) := by decide +kernel
theorem dX9_go_301 : decode cX9_go 301 = .ok (.getfield 118, 3) := by decide +kernel
theorem dX9_go_304 : decode cX9_go 304 = .ok (.iconst 1, 1) := by decide +kernel
theorem dX9_go_305 : decode cX9_go 305 = .ok (.iadd, 1) := by decide +kernel
theorem dX9_go_306 : decode cX9_go 306 = .ok (.putfield 118, 3) := by decide +kernel
theorem dX9_go_309 : decode cX9_go 309 = .ok (.goto (-132), 3) := by decide +kernel
theorem dX9_go_312 : decode cX9_go 312 = .ok (.aload_n 0, 1) := by decide +kernel
theorem dX9_go_313 : decode cX9_go 313 = .ok (.getfield 118, 3) := by decide +kernel
theorem dX9_go_316 : decode cX9_go 316 = .ok (.aload_n 0, 1) := by decide +kernel
theorem dX9_go_317 : decode cX9_go 317 = .ok (.getfield 121, 3) := by decide +kernel
theorem dX9_go_320 : decode cX9_go 320 = .ok (.isub, 1) := by decide +kernel
theorem dX9_go_321 : decode cX9_go 321 = .ok (.bipush 10, 2) := by decide +kernel
theorem dX9_go_323 : decode cX9_go 323 = .ok (.if_icmp .le 10, 3) := by decide +kernel
theorem dX9_go_326 : decode cX9_go 326 = .ok (.aload_n 0, 1) := by decide +kernel
theorem dX9_go_327 : decode cX9_go 327 = .ok (.ldc2_w 149, 3) := by decide +kernel
theorem dX9_go_330 : decode cX9_go 330 = .ok (.putfield 134, 3) := by decide +kernel
theorem dX9_go_333 : decode cX9_go 333 = .ok (.aload_n 0, 1) := by decide +kernel
theorem dX9_go_334 : decode cX9_go 334 = .ok (.iload_n 3, 1) := by decide +kernel
theorem dX9_go_335 : decode cX9_go 335 = .ok (.ifCond .eq 20, 3) := by decide +kernel
theorem dX9_go_338 : decode cX9_go 338 = .ok (.iload_n 2, 1) := by decide +kernel
theorem dX9_go_339 : decode cX9_go 339 = .ok (.ifCond .ne 20, 3) := by decide +kernel
theorem dX9_go_342 : decode cX9_go 342 = .ok (.aload_n 0, 1) := by decide +kernel
theorem dX9_go_343 : decode cX9_go 343 = .ok (.getfield 118, 3) := by decide +kernel
theorem dX9_go_346 : decode cX9_go 346 = .ok (.aload_n 0, 1) := by decide +kernel
theorem dX9_go_347 : decode cX9_go 347 = .ok (.getfield 121, 3) := by decide +kernel
theorem dX9_go_350 : decode cX9_go 350 = .ok (.isub, 1) := by decide +kernel
theorem dX9_go_351 : decode cX9_go 351 = .ok (.iconst 5, 1) := by decide +kernel
theorem dX9_go_352 : decode cX9_go 352 = .ok (.if_icmp .le 7, 3) := by decide +kernel
theorem dX9_go_355 : decode cX9_go 355 = .ok (.iconst 1, 1) := by decide +kernel
theorem dX9_go_356 : decode cX9_go 356 = .ok (.goto 12, 3) := by decide +kernel
theorem dX9_go_359 : decode cX9_go 359 = .ok (.iload_n 2, 1) := by decide +kernel
theorem dX9_go_360 : decode cX9_go 360 = .ok (.ifCond .eq 7, 3) := by decide +kernel
theorem dX9_go_363 : decode cX9_go 363 = .ok (.iconst 2, 1) := by decide +kernel
theorem dX9_go_364 : decode cX9_go 364 = .ok (.goto 4, 3) := by decide +kernel
theorem dX9_go_367 : decode cX9_go 367 = .ok (.iconst 3, 1) := by decide +kernel
theorem dX9_go_368 : decode cX9_go 368 = .ok (.putfield 124, 3) := by decide +kernel
theorem dX9_go_371 : decode cX9_go 371 = .ok (.return_, 1) := by decide +kernel
theorem dX9_spelt_0 : decode cX9_spelt 0 = .ok (.ldc2_w 145, 3) := by decide +kernel
theorem dX9_spelt_3 : decode cX9_spelt 3 = .ok (.iload_n 0, 1) := by decide +kernel
theorem dX9_spelt_4 : decode cX9_spelt 4 = .ok (.i2l, 1) := by decide +kernel
theorem dX9_spelt_5 : decode cX9_spelt 5 = .ok (.ldc2_w 147, 3) := by decide +kernel
theorem dX9_spelt_8 : decode cX9_spelt 8 = .ok (.lsub, 1) := by decide +kernel
theorem dX9_spelt_9 : decode cX9_spelt 9 = .ok (.lmul, 1) := by decide +kernel
theorem dX9_spelt_10 : decode cX9_spelt 10 = .ok (.iload_n 1, 1) := by decide +kernel
theorem dX9_spelt_11 : decode cX9_spelt 11 = .ok (.i2l, 1) := by decide +kernel
theorem dX9_spelt_12 : decode cX9_spelt 12 = .ok (.ladd, 1) := by decide +kernel
theorem dX9_spelt_13 : decode cX9_spelt 13 = .ok (.ldc2_w 147, 3) := by decide +kernel
theorem dX9_spelt_16 : decode cX9_spelt 16 = .ok (.lsub, 1) := by decide +kernel
theorem dX9_spelt_17 : decode cX9_spelt 17 = .ok (.lstore 5, 2) := by decide +kernel
theorem dX9_spelt_19 : decode cX9_spelt 19 = .ok (.ldc2_w 145, 3) := by decide +kernel
theorem dX9_spelt_22 : decode cX9_spelt 22 = .ok (.lload 5, 2) := by decide +kernel
theorem dX9_spelt_24 : decode cX9_spelt 24 = .ok (.lmul, 1) := by decide +kernel
theorem dX9_spelt_25 : decode cX9_spelt 25 = .ok (.iload_n 2, 1) := by decide +kernel
theorem dX9_spelt_26 : decode cX9_spelt 26 = .ok (.i2l, 1) := by decide +kernel
theorem dX9_spelt_27 : decode cX9_spelt 27 = .ok (.ladd, 1) := by decide +kernel
theorem dX9_spelt_28 : decode cX9_spelt 28 = .ok (.ldc2_w 147, 3) := by decide +kernel
theorem dX9_spelt_31 : decode cX9_spelt 31 = .ok (.lsub, 1) := by decide +kernel
theorem dX9_spelt_32 : decode cX9_spelt 32 = .ok (.lstore 5, 2) := by decide +kernel
theorem dX9_spelt_34 : decode cX9_spelt 34 = .ok (.iload_n 3, 1) := by decide +kernel
theorem dX9_spelt_35 : decode cX9_spelt 35 = .ok (.ifCond .le 18, 3) := by decide +kernel
theorem dX9_spelt_38 : decode cX9_spelt 38 = .ok (.ldc2_w 145, 3) := by decide +kernel
theorem dX9_spelt_41 : decode cX9_spelt 41 = .ok (.lload 5, 2) := by decide +kernel
theorem dX9_spelt_43 : decode cX9_spelt 43 = .ok (.lmul, 1) := by decide +kernel
theorem dX9_spelt_44 : decode cX9_spelt 44 = .ok (.iload_n 3, 1) := by decide +kernel
theorem dX9_spelt_45 : decode cX9_spelt 45 = .ok (.i2l, 1) := by decide +kernel
theorem dX9_spelt_46 : decode cX9_spelt 46 = .ok (.ladd, 1) := by decide +kernel
theorem dX9_spelt_47 : decode cX9_spelt 47 = .ok (.ldc2_w 147, 3) := by decide +kernel
theorem dX9_spelt_50 : decode cX9_spelt 50 = .ok (.lsub, 1) := by decide +kernel
theorem dX9_spelt_51 : decode cX9_spelt 51 = .ok (.lstore 5, 2) := by decide +kernel
theorem dX9_spelt_53 : decode cX9_spelt 53 = .ok (.iload 4, 2) := by decide +kernel
theorem dX9_spelt_55 : decode cX9_spelt 55 = .ok (.ifCond .le 19, 3) := by decide +kernel
theorem dX9_spelt_58 : decode cX9_spelt 58 = .ok (.ldc2_w 145, 3) := by decide +kernel
theorem dX9_spelt_61 : decode cX9_spelt 61 = .ok (.lload 5, 2) := by decide +kernel
theorem dX9_spelt_63 : decode cX9_spelt 63 = .ok (.lmul, 1) := by decide +kernel
theorem dX9_spelt_64 : decode cX9_spelt 64 = .ok (.iload 4, 2) := by decide +kernel
theorem dX9_spelt_66 : decode cX9_spelt 66 = .ok (.i2l, 1) := by decide +kernel
theorem dX9_spelt_67 : decode cX9_spelt 67 = .ok (.ladd, 1) := by decide +kernel
theorem dX9_spelt_68 : decode cX9_spelt 68 = .ok (.ldc2_w 147, 3) := by decide +kernel
theorem dX9_spelt_71 : decode cX9_spelt 71 = .ok (.lsub, 1) := by decide +kernel
theorem dX9_spelt_72 : decode cX9_spelt 72 = .ok (.lstore 5, 2) := by decide +kernel
theorem dX9_spelt_74 : decode cX9_spelt 74 = .ok (.lload 5, 2) := by decide +kernel
theorem dX9_spelt_76 : decode cX9_spelt 76 = .ok (.lreturn, 1) := by decide +kernel
theorem dX9_ruleAtHand_0 : decode cX9_ruleAtHand 0 = .ok (.aload_n 0, 1) := by decide +kernel
theorem dX9_ruleAtHand_1 : decode cX9_ruleAtHand 1 = .ok (.getfield 124, 3) := by decide +kernel
theorem dX9_ruleAtHand_4 : decode cX9_ruleAtHand 4 = .ok (.iconst 2, 1) := by decide +kernel
theorem dX9_ruleAtHand_5 : decode cX9_ruleAtHand 5 = .ok (.if_icmp .eq 5, 3) := by decide +kernel
theorem dX9_ruleAtHand_8 : decode cX9_ruleAtHand 8 = .ok (.iconst (-1), 1) := by decide +kernel
theorem dX9_ruleAtHand_9 : decode cX9_ruleAtHand 9 = .ok (.ireturn, 1) := by decide +kernel
theorem dX9_ruleAtHand_10 : decode cX9_ruleAtHand 10 = .ok (.aload_n 0, 1) := by decide +kernel
theorem dX9_ruleAtHand_11 : decode cX9_ruleAtHand 11 = .ok (.getfield 134, 3) := by decide +kernel
theorem dX9_ruleAtHand_14 : decode cX9_ruleAtHand 14 = .ok (.bipush 109, 2) := by decide +kernel
theorem dX9_ruleAtHand_16 : decode cX9_ruleAtHand 16 = .ok (.bipush 111, 2) := by decide +kernel
theorem dX9_ruleAtHand_18 : decode cX9_ruleAtHand 18 = .ok (.bipush 115, 2) := by decide +kernel
theorem dX9_ruleAtHand_20 : decode cX9_ruleAtHand 20 = .ok (.bipush 116, 2) := by decide +kernel
theorem dX9_ruleAtHand_22 : decode cX9_ruleAtHand 22 = .ok (.iconst 0, 1) := by decide +kernel
theorem dX9_ruleAtHand_23 : decode cX9_ruleAtHand 23 = .ok (.invokestatic 151, 3) := by decide +kernel
theorem dX9_ruleAtHand_26 : decode cX9_ruleAtHand 26 = .ok (.lcmp, 1) := by decide +kernel
theorem dX9_ruleAtHand_27 : decode cX9_ruleAtHand 27 = .ok (.ifCond .ne 5, 3) := by decide +kernel
theorem dX9_ruleAtHand_30 : decode cX9_ruleAtHand 30 = .ok (.iconst 0, 1) := by decide +kernel
theorem dX9_ruleAtHand_31 : decode cX9_ruleAtHand 31 = .ok (.ireturn, 1) := by decide +kernel
theorem dX9_ruleAtHand_32 : decode cX9_ruleAtHand 32 = .ok (.aload_n 0, 1) := by decide +kernel
theorem dX9_ruleAtHand_33 : decode cX9_ruleAtHand 33 = .ok (.getfield 134, 3) := by decide +kernel
theorem dX9_ruleAtHand_36 : decode cX9_ruleAtHand 36 = .ok (.bipush 119, 2) := by decide +kernel
theorem dX9_ruleAtHand_38 : decode cX9_ruleAtHand 38 = .ok (.bipush 101, 2) := by decide +kernel
theorem dX9_ruleAtHand_40 : decode cX9_ruleAtHand 40 = .ok (.bipush 101, 2) := by decide +kernel
theorem dX9_ruleAtHand_42 : decode cX9_ruleAtHand 42 = .ok (.bipush 107, 2) := by decide +kernel
theorem dX9_ruleAtHand_44 : decode cX9_ruleAtHand 44 = .ok (.bipush 115, 2) := by decide +kernel
theorem dX9_ruleAtHand_46 : decode cX9_ruleAtHand 46 = .ok (.invokestatic 151, 3) := by decide +kernel
theorem dX9_ruleAtHand_49 : decode cX9_ruleAtHand 49 = .ok (.lcmp, 1) := by decide +kernel
theorem dX9_ruleAtHand_50 : decode cX9_ruleAtHand 50 = .ok (.ifCond .ne 5, 3) := by decide +kernel
theorem dX9_ruleAtHand_53 : decode cX9_ruleAtHand 53 = .ok (.iconst 1, 1) := by decide +kernel
theorem dX9_ruleAtHand_54 : decode cX9_ruleAtHand 54 = .ok (.ireturn, 1) := by decide +kernel
theorem dX9_ruleAtHand_55 : decode cX9_ruleAtHand 55 = .ok (.aload_n 0, 1) := by decide +kernel
theorem dX9_ruleAtHand_56 : decode cX9_ruleAtHand 56 = .ok (.getfield 134, 3) := by decide +kernel
theorem dX9_ruleAtHand_59 : decode cX9_ruleAtHand 59 = .ok (.ldc2_w 145, 3) := by decide +kernel
theorem dX9_ruleAtHand_62 : decode cX9_ruleAtHand 62 = .ok (.ldc2_w 145, 3) := by decide +kernel
theorem dX9_ruleAtHand_65 : decode cX9_ruleAtHand 65 = .ok (.ldc2_w 145, 3) := by decide +kernel
theorem dX9_ruleAtHand_68 : decode cX9_ruleAtHand 68 = .ok (.bipush 115, 2) := by decide +kernel
theorem dX9_ruleAtHand_70 : decode cX9_ruleAtHand 70 = .ok (.bipush 117, 2) := by decide +kernel
theorem dX9_ruleAtHand_72 : decode cX9_ruleAtHand 72 = .ok (.bipush 114, 2) := by decide +kernel
theorem dX9_ruleAtHand_74 : decode cX9_ruleAtHand 74 = .ok (.bipush 101, 2) := by decide +kernel
theorem dX9_ruleAtHand_76 : decode cX9_ruleAtHand 76 = .ok (.bipush 116, 2) := by decide +kernel
theorem dX9_ruleAtHand_78 : decode cX9_ruleAtHand 78 = .ok (.invokestatic 151, 3) := by decide +kernel
theorem dX9_ruleAtHand_81 : decode cX9_ruleAtHand 81 = .ok (.lmul, 1) := by decide +kernel
theorem dX9_ruleAtHand_82 : decode cX9_ruleAtHand 82 = .ok (.ldc2_w 155, 3) := by decide +kernel
theorem dX9_ruleAtHand_85 : decode cX9_ruleAtHand 85 = .ok (.ladd, 1) := by decide +kernel
theorem dX9_ruleAtHand_86 : decode cX9_ruleAtHand 86 = .ok (.lmul, 1) := by decide +kernel
theorem dX9_ruleAtHand_87 : decode cX9_ruleAtHand 87 = .ok (.ldc2_w 157, 3) := by decide +kernel
theorem dX9_ruleAtHand_90 : decode cX9_ruleAtHand 90 = .ok (.ladd, 1) := by decide +kernel
theorem dX9_ruleAtHand_91 : decode cX9_ruleAtHand 91 = .ok (.lmul, 1) := by decide +kernel
theorem dX9_ruleAtHand_92 : decode cX9_ruleAtHand 92 = .ok (.ldc2_w 159, 3) := by decide +kernel
theorem dX9_ruleAtHand_95 : decode cX9_ruleAtHand 95 = .ok (.ladd, 1) := by decide +kernel
theorem dX9_ruleAtHand_96 : decode cX9_ruleAtHand 96 = .ok (.lcmp, 1) := by decide +kernel
theorem dX9_ruleAtHand_97 : decode cX9_ruleAtHand 97 = .ok (.ifCond .ne 5, 3) := by decide +kernel
theorem dX9_ruleAtHand_100 : decode cX9_ruleAtHand 100 = .ok (.iconst 2, 1) := by decide +kernel
theorem dX9_ruleAtHand_101 : decode cX9_ruleAtHand 101 = .ok (.ireturn, 1) := by decide +kernel
theorem dX9_ruleAtHand_102 : decode cX9_ruleAtHand 102 = .ok (.aload_n 0, 1) := by decide +kernel
theorem dX9_ruleAtHand_103 : decode cX9_ruleAtHand 103 = .ok (.getfield 134, 3) := by decide +kernel
theorem dX9_ruleAtHand_106 : decode cX9_ruleAtHand 106 = .ok (.ldc2_w 145, 3) := by decide +kernel
theorem dX9_ruleAtHand_109 : decode cX9_ruleAtHand 109 = .ok (.bipush 115, 2) := by decide +kernel
theorem dX9_ruleAtHand_111 : decode cX9_ruleAtHand 111 = .ok (.bipush 116, 2) := by decide +kernel
theorem dX9_ruleAtHand_113 : decode cX9_ruleAtHand 113 = .ok (.bipush 97, 2) := by decide +kernel
theorem dX9_ruleAtHand_115 : decode cX9_ruleAtHand 115 = .ok (.bipush 110, 2) := by decide +kernel
theorem dX9_ruleAtHand_117 : decode cX9_ruleAtHand 117 = .ok (.bipush 100, 2) := by decide +kernel
theorem dX9_ruleAtHand_119 : decode cX9_ruleAtHand 119 = .ok (.invokestatic 151, 3) := by decide +kernel
theorem dX9_ruleAtHand_122 : decode cX9_ruleAtHand 122 = .ok (.lmul, 1) := by decide +kernel
theorem dX9_ruleAtHand_123 : decode cX9_ruleAtHand 123 = .ok (.ldc2_w 159, 3) := by decide +kernel
theorem dX9_ruleAtHand_126 : decode cX9_ruleAtHand 126 = .ok (.ladd, 1) := by decide +kernel
theorem dX9_ruleAtHand_127 : decode cX9_ruleAtHand 127 = .ok (.lcmp, 1) := by decide +kernel
theorem dX9_ruleAtHand_128 : decode cX9_ruleAtHand 128 = .ok (.ifCond .ne 5, 3) := by decide +kernel
theorem dX9_ruleAtHand_131 : decode cX9_ruleAtHand 131 = .ok (.iconst 3, 1) := by decide +kernel
theorem dX9_ruleAtHand_132 : decode cX9_ruleAtHand 132 = .ok (.ireturn, 1) := by decide +kernel
theorem dX9_ruleAtHand_133 : decode cX9_ruleAtHand 133 = .ok (.aload_n 0, 1) := by decide +kernel
theorem dX9_ruleAtHand_134 : decode cX9_ruleAtHand 134 = .ok (.getfield 134, 3) := by decide +kernel
theorem dX9_ruleAtHand_137 : decode cX9_ruleAtHand 137 = .ok (.bipush 108, 2) := by decide +kernel
theorem dX9_ruleAtHand_139 : decode cX9_ruleAtHand 139 = .ok (.bipush 97, 2) := by decide +kernel
theorem dX9_ruleAtHand_141 : decode cX9_ruleAtHand 141 = .ok (.bipush 116, 2) := by decide +kernel
theorem dX9_ruleAtHand_143 : decode cX9_ruleAtHand 143 = .ok (.bipush 101, 2) := by decide +kernel
theorem dX9_ruleAtHand_145 : decode cX9_ruleAtHand 145 = .ok (.iconst 0, 1) := by decide +kernel
theorem dX9_ruleAtHand_146 : decode cX9_ruleAtHand 146 = .ok (.invokestatic 151, 3) := by decide +kernel
theorem dX9_ruleAtHand_149 : decode cX9_ruleAtHand 149 = .ok (.lcmp, 1) := by decide +kernel
theorem dX9_ruleAtHand_150 : decode cX9_ruleAtHand 150 = .ok (.ifCond .ne 5, 3) := by decide +kernel
theorem dX9_ruleAtHand_153 : decode cX9_ruleAtHand 153 = .ok (.iconst 4, 1) := by decide +kernel
theorem dX9_ruleAtHand_154 : decode cX9_ruleAtHand 154 = .ok (.ireturn, 1) := by decide +kernel
theorem dX9_ruleAtHand_155 : decode cX9_ruleAtHand 155 = .ok (.aload_n 0, 1) := by decide +kernel
theorem dX9_ruleAtHand_156 : decode cX9_ruleAtHand 156 = .ok (.getfield 134, 3) := by decide +kernel
theorem dX9_ruleAtHand_159 : decode cX9_ruleAtHand 159 = .ok (.bipush 99, 2) := by decide +kernel
theorem dX9_ruleAtHand_161 : decode cX9_ruleAtHand 161 = .ok (.bipush 97, 2) := by decide +kernel
theorem dX9_ruleAtHand_163 : decode cX9_ruleAtHand 163 = .ok (.bipush 108, 2) := by decide +kernel
theorem dX9_ruleAtHand_165 : decode cX9_ruleAtHand 165 = .ok (.bipush 108, 2) := by decide +kernel
theorem dX9_ruleAtHand_167 : decode cX9_ruleAtHand 167 = .ok (.iconst 0, 1) := by decide +kernel
theorem dX9_ruleAtHand_168 : decode cX9_ruleAtHand 168 = .ok (.invokestatic 151, 3) := by decide +kernel
theorem dX9_ruleAtHand_171 : decode cX9_ruleAtHand 171 = .ok (.lcmp, 1) := by decide +kernel
theorem dX9_ruleAtHand_172 : decode cX9_ruleAtHand 172 = .ok (.ifCond .ne 5, 3) := by decide +kernel
theorem dX9_ruleAtHand_175 : decode cX9_ruleAtHand 175 = .ok (.iconst 5, 1) := by decide +kernel
theorem dX9_ruleAtHand_176 : decode cX9_ruleAtHand 176 = .ok (.ireturn, 1) := by decide +kernel
theorem dX9_ruleAtHand_177 : decode cX9_ruleAtHand 177 = .ok (.aload_n 0, 1) := by decide +kernel
theorem dX9_ruleAtHand_178 : decode cX9_ruleAtHand 178 = .ok (.getfield 134, 3) := by decide +kernel
theorem dX9_ruleAtHand_181 : decode cX9_ruleAtHand 181 = .ok (.bipush 107, 2) := by decide +kernel
theorem dX9_ruleAtHand_183 : decode cX9_ruleAtHand 183 = .ok (.bipush 101, 2) := by decide +kernel
theorem dX9_ruleAtHand_185 : decode cX9_ruleAtHand 185 = .ok (.bipush 101, 2) := by decide +kernel
theorem dX9_ruleAtHand_187 : decode cX9_ruleAtHand 187 = .ok (.bipush 112, 2) := by decide +kernel
theorem dX9_ruleAtHand_189 : decode cX9_ruleAtHand 189 = .ok (.iconst 0, 1) := by decide +kernel
theorem dX9_ruleAtHand_190 : decode cX9_ruleAtHand 190 = .ok (.invokestatic 151, 3) := by decide +kernel
theorem dX9_ruleAtHand_193 : decode cX9_ruleAtHand 193 = .ok (.lcmp, 1) := by decide +kernel
theorem dX9_ruleAtHand_194 : decode cX9_ruleAtHand 194 = .ok (.ifCond .ne 6, 3) := by decide +kernel
theorem dX9_ruleAtHand_197 : decode cX9_ruleAtHand 197 = .ok (.bipush 6, 2) := by decide +kernel
theorem dX9_ruleAtHand_199 : decode cX9_ruleAtHand 199 = .ok (.ireturn, 1) := by decide +kernel
theorem dX9_ruleAtHand_200 : decode cX9_ruleAtHand 200 = .ok (.aload_n 0, 1) := by decide +kernel
theorem dX9_ruleAtHand_201 : decode cX9_ruleAtHand 201 = .ok (.getfield 134, 3) := by decide +kernel
theorem dX9_ruleAtHand_204 : decode cX9_ruleAtHand 204 = .ok (.bipush 114, 2) := by decide +kernel
theorem dX9_ruleAtHand_206 : decode cX9_ruleAtHand 206 = .ok (.bipush 105, 2) := by decide +kernel
theorem dX9_ruleAtHand_208 : decode cX9_ruleAtHand 208 = .ok (.bipush 110, 2) := by decide +kernel
theorem dX9_ruleAtHand_210 : decode cX9_ruleAtHand 210 = .ok (.bipush 103, 2) := by decide +kernel
theorem dX9_ruleAtHand_212 : decode cX9_ruleAtHand 212 = .ok (.iconst 0, 1) := by decide +kernel
theorem dX9_ruleAtHand_213 : decode cX9_ruleAtHand 213 = .ok (.invokestatic 151, 3) := by decide +kernel
theorem dX9_ruleAtHand_216 : decode cX9_ruleAtHand 216 = .ok (.lcmp, 1) := by decide +kernel
theorem dX9_ruleAtHand_217 : decode cX9_ruleAtHand 217 = .ok (.ifCond .ne 6, 3) := by decide +kernel
theorem dX9_ruleAtHand_220 : decode cX9_ruleAtHand 220 = .ok (.bipush 7, 2) := by decide +kernel
theorem dX9_ruleAtHand_222 : decode cX9_ruleAtHand 222 = .ok (.ireturn, 1) := by decide +kernel
theorem dX9_ruleAtHand_223 : decode cX9_ruleAtHand 223 = .ok (.aload_n 0, 1) := by decide +kernel
theorem dX9_ruleAtHand_224 : decode cX9_ruleAtHand 224 = .ok (.getfield 134, 3) := by decide +kernel
theorem dX9_ruleAtHand_227 : decode cX9_ruleAtHand 227 = .ok (.bipush 98, 2) := by decide +kernel
theorem dX9_ruleAtHand_229 : decode cX9_ruleAtHand 229 = .ok (.bipush 97, 2) := by decide +kernel
theorem dX9_ruleAtHand_231 : decode cX9_ruleAtHand 231 = .ok (.bipush 114, 2) := by decide +kernel
theorem dX9_ruleAtHand_233 : decode cX9_ruleAtHand 233 = .ok (.iconst 0, 1) := by decide +kernel
theorem dX9_ruleAtHand_234 : decode cX9_ruleAtHand 234 = .ok (.iconst 0, 1) := by decide +kernel
theorem dX9_ruleAtHand_235 : decode cX9_ruleAtHand 235 = .ok (.invokestatic 151, 3) := by decide +kernel
theorem dX9_ruleAtHand_238 : decode cX9_ruleAtHand 238 = .ok (.lcmp, 1) := by decide +kernel
theorem dX9_ruleAtHand_239 : decode cX9_ruleAtHand 239 = .ok (.ifCond .ne 8, 3) := by decide +kernel
theorem dX9_ruleAtHand_242 : decode cX9_ruleAtHand 242 = .ok (.bipush 8, 2) := by decide +kernel
theorem dX9_ruleAtHand_244 : decode cX9_ruleAtHand 244 = .ok (.goto 4, 3) := by decide +kernel
theorem dX9_ruleAtHand_247 : decode cX9_ruleAtHand 247 = .ok (.iconst (-1), 1) := by decide +kernel
theorem dX9_ruleAtHand_248 : decode cX9_ruleAtHand 248 = .ok (.ireturn, 1) := by decide +kernel
theorem dX9_bad_0 : decode cX9_bad 0 = .ok (.aload_n 0, 1) := by decide +kernel
theorem dX9_bad_1 : decode cX9_bad 1 = .ok (.aload_n 0, 1) := by decide +kernel
theorem dX9_bad_2 : decode cX9_bad 2 = .ok (.getfield 124, 3) := by decide +kernel
theorem dX9_bad_5 : decode cX9_bad 5 = .ok (.iconst 1, 1) := by decide +kernel
theorem dX9_bad_6 : decode cX9_bad 6 = .ok (.if_icmp .ne 7, 3) := by decide +kernel
theorem dX9_bad_9 : decode cX9_bad 9 = .ok (.iconst 1, 1) := by decide +kernel
theorem dX9_bad_10 : decode cX9_bad 10 = .ok (.goto 4, 3) := by decide +kernel
theorem dX9_bad_13 : decode cX9_bad 13 = .ok (.iload_n 1, 1) := by decide +kernel
theorem dX9_bad_14 : decode cX9_bad 14 = .ok (.putfield 161, 3) := by decide +kernel
theorem dX9_bad_17 : decode cX9_bad 17 = .ok (.aload_n 0, 1) := by decide +kernel
theorem dX9_bad_18 : decode cX9_bad 18 = .ok (.aload_n 0, 1) := by decide +kernel
theorem dX9_bad_19 : decode cX9_bad 19 = .ok (.getfield 121, 3) := by decide +kernel
theorem dX9_bad_22 : decode cX9_bad 22 = .ok (.putfield 164, 3) := by decide +kernel
theorem dX9_bad_25 : decode cX9_bad 25 = .ok (.iconst 0, 1) := by decide +kernel
theorem dX9_bad_26 : decode cX9_bad 26 = .ok (.ireturn, 1) := by decide +kernel
theorem dX9_readRules_0 : decode cX9_readRules 0 = .ok (.iconst 0, 1) := by decide +kernel
theorem dX9_readRules_1 : decode cX9_readRules 1 = .ok (.istore_n 1, 1) := by decide +kernel
theorem dX9_readRules_2 : decode cX9_readRules 2 = .ok (.aload_n 0, 1) := by decide +kernel
theorem dX9_readRules_3 : decode cX9_readRules 3 = .ok (.iconst 0, 1) := by decide +kernel
theorem dX9_readRules_4 : decode cX9_readRules 4 = .ok (.putfield 167, 3) := by decide +kernel
theorem dX9_readRules_7 : decode cX9_readRules 7 = .ok (.iconst 0, 1) := by decide +kernel
theorem dX9_readRules_8 : decode cX9_readRules 8 = .ok (.istore_n 2, 1) := by decide +kernel
theorem dX9_readRules_9 : decode cX9_readRules 9 = .ok (.iload_n 2, 1) := by decide +kernel
theorem dX9_readRules_10 : decode cX9_readRules 10 = .ok (.bipush 9, 2) := by decide +kernel
theorem dX9_readRules_12 : decode cX9_readRules 12 = .ok (.if_icmp .ge 21, 3) := by decide +kernel
theorem dX9_readRules_15 : decode cX9_readRules 15 = .ok (.aload_n 0, 1) := by decide +kernel
theorem dX9_readRules_16 : decode cX9_readRules 16 = .ok (.getfield 26, 3) := by decide +kernel
theorem dX9_readRules_19 : decode cX9_readRules 19 = .ok (.iload_n 2, 1) := by decide +kernel
theorem dX9_readRules_20 : decode cX9_readRules 20 = .ok (.aload_n 0, 1) := by decide +kernel
theorem dX9_readRules_21 : decode cX9_readRules 21 = .ok (.getfield 16, 3) := by decide +kernel
theorem dX9_readRules_24 : decode cX9_readRules 24 = .ok (.iload_n 2, 1) := by decide +kernel
theorem dX9_readRules_25 : decode cX9_readRules 25 = .ok (.iaload, 1) := by decide +kernel
theorem dX9_readRules_26 : decode cX9_readRules 26 = .ok (.iastore, 1) := by decide +kernel
theorem dX9_readRules_27 : decode cX9_readRules 27 = .ok (.iinc 2 1, 3) := by decide +kernel
theorem dX9_readRules_30 : decode cX9_readRules 30 = .ok (.goto (-21), 3) := by decide +kernel
theorem dX9_readRules_33 : decode cX9_readRules 33 = .ok (.aload_n 0, 1) := by decide +kernel
theorem dX9_readRules_34 : decode cX9_readRules 34 = .ok (.iconst 0, 1) := by decide +kernel
theorem dX9_readRules_35 : decode cX9_readRules 35 = .ok (.putfield 118, 3) := by decide +kernel
theorem dX9_readRules_38 : decode cX9_readRules 38 = .ok (.aload_n 0, 1) := by decide +kernel
theorem dX9_readRules_39 : decode cX9_readRules 39 = .ok (.invokevirtual 170, 3) := by decide +kernel
theorem dX9_readRules_42 : decode cX9_readRules 42 = .ok (.aload_n 0, 1) := by decide +kernel
theorem dX9_readRules_43 : decode cX9_readRules 43 = .ok (.getfield 124, 3) := by decide +kernel
theorem dX9_readRules_46 : decode cX9_readRules 46 = .ok (.ifCond .eq 135, 3) := by decide +kernel
theorem dX9_readRules_49 : decode cX9_readRules 49 = .ok (.aload_n 0, 1) := by decide +kernel
theorem dX9_readRules_50 : decode cX9_readRules 50 = .ok (.invokevirtual 173, 3) := by decide +kernel
theorem dX9_readRules_53 : decode cX9_readRules 53 = .ok (.istore_n 2, 1) := by decide +kernel
theorem dX9_readRules_54 : decode cX9_readRules 54 = .ok (.iload_n 2, 1) := by decide +kernel
theorem dX9_readRules_55 : decode cX9_readRules 55 = .ok (.iconst (-1), 1) := by decide +kernel
theorem dX9_readRules_56 : decode cX9_readRules 56 = .ok (.if_icmp .ne 9, 3) := by decide +kernel
theorem dX9_readRules_59 : decode cX9_readRules 59 = .ok (.aload_n 0, 1) := by decide +kernel
theorem dX9_readRules_60 : decode cX9_readRules 60 = .ok (.iconst 1, 1) := by decide +kernel
theorem dX9_readRules_61 : decode cX9_readRules 61 = .ok (.invokevirtual 177, 3) := by decide +kernel
theorem dX9_readRules_64 : decode cX9_readRules 64 = .ok (.ireturn, 1) := by decide +kernel
theorem dX9_readRules_65 : decode cX9_readRules 65 = .ok (.iload_n 1, 1) := by decide +kernel
theorem dX9_readRules_66 : decode cX9_readRules 66 = .ok (.iload_n 2, 1) := by decide +kernel
theorem dX9_readRules_67 : decode cX9_readRules 67 = .ok (.ishr, 1) := by decide +kernel
theorem dX9_readRules_68 : decode cX9_readRules 68 = .ok (.iconst 1, 1) := by decide +kernel
theorem dX9_readRules_69 : decode cX9_readRules 69 = .ok (.iand, 1) := by decide +kernel
theorem dX9_readRules_70 : decode cX9_readRules 70 = .ok (.iconst 1, 1) := by decide +kernel
theorem dX9_readRules_71 : decode cX9_readRules 71 = .ok (.if_icmp .ne 9, 3) := by decide +kernel
theorem dX9_readRules_74 : decode cX9_readRules 74 = .ok (.aload_n 0, 1) := by decide +kernel
theorem dX9_readRules_75 : decode cX9_readRules 75 = .ok (.iconst 3, 1) := by decide +kernel
theorem dX9_readRules_76 : decode cX9_readRules 76 = .ok (.invokevirtual 177, 3) := by decide +kernel
theorem dX9_readRules_79 : decode cX9_readRules 79 = .ok (.ireturn, 1) := by decide +kernel
theorem dX9_readRules_80 : decode cX9_readRules 80 = .ok (.aload_n 0, 1) := by decide +kernel
theorem dX9_readRules_81 : decode cX9_readRules 81 = .ok (.invokevirtual 170, 3) := by decide +kernel
theorem dX9_readRules_84 : decode cX9_readRules 84 = .ok (.aload_n 0, 1) := by decide +kernel
theorem dX9_readRules_85 : decode cX9_readRules 85 = .ok (.getfield 124, 3) := by decide +kernel
theorem dX9_readRules_88 : decode cX9_readRules 88 = .ok (.iconst 3, 1) := by decide +kernel
theorem dX9_readRules_89 : decode cX9_readRules 89 = .ok (.if_icmp .eq 9, 3) := by decide +kernel
theorem dX9_readRules_92 : decode cX9_readRules 92 = .ok (.aload_n 0, 1) := by decide +kernel
theorem dX9_readRules_93 : decode cX9_readRules 93 = .ok (.iconst 1, 1) := by decide +kernel
theorem dX9_readRules_94 : decode cX9_readRules 94 = .ok (.invokevirtual 177, 3) := by decide +kernel
theorem dX9_readRules_97 : decode cX9_readRules 97 = .ok (.ireturn, 1) := by decide +kernel
theorem dX9_readRules_98 : decode cX9_readRules 98 = .ok (.aload_n 0, 1) := by decide +kernel
theorem dX9_readRules_99 : decode cX9_readRules 99 = .ok (.getfield 138, 3) := by decide +kernel
theorem dX9_readRules_102 : decode cX9_readRules 102 = .ok (.aload_n 0, 1) := by decide +kernel
theorem dX9_readRules_103 : decode cX9_readRules 103 = .ok (.getfield 19, 3) := by decide +kernel
theorem dX9_readRules_106 : decode cX9_readRules 106 = .ok (.iload_n 2, 1) := by decide +kernel
theorem dX9_readRules_107 : decode cX9_readRules 107 = .ok (.iaload, 1) := by decide +kernel
theorem dX9_readRules_108 : decode cX9_readRules 108 = .ok (.if_icmp .lt 16, 3) := by decide +kernel
theorem dX9_readRules_111 : decode cX9_readRules 111 = .ok (.aload_n 0, 1) := by decide +kernel
theorem dX9_readRules_112 : decode cX9_readRules 112 = .ok (.getfield 138, 3) := by decide +kernel
theorem dX9_readRules_115 : decode cX9_readRules 115 = .ok (.aload_n 0, 1) := by decide +kernel
theorem dX9_readRules_116 : decode cX9_readRules 116 = .ok (.getfield 23, 3) := by decide +kernel
theorem dX9_readRules_119 : decode cX9_readRules 119 = .ok (.iload_n 2, 1) := by decide +kernel
theorem dX9_readRules_120 : decode cX9_readRules 120 = .ok (.iaload, 1) := by decide +kernel
theorem dX9_readRules_121 : decode cX9_readRules 121 = .ok (.if_icmp .le 9, 3) := by decide +kernel
theorem dX9_readRules_124 : decode cX9_readRules 124 = .ok (.aload_n 0, 1) := by decide +kernel
theorem dX9_readRules_125 : decode cX9_readRules 125 = .ok (.iconst 2, 1) := by decide +kernel
theorem dX9_readRules_126 : decode cX9_readRules 126 = .ok (.invokevirtual 177, 3) := by decide +kernel
theorem dX9_readRules_129 : decode cX9_readRules 129 = .ok (.ireturn, 1) := by decide +kernel
theorem dX9_readRules_130 : decode cX9_readRules 130 = .ok (.aload_n 0, 1) := by decide +kernel
theorem dX9_readRules_131 : decode cX9_readRules 131 = .ok (.getfield 26, 3) := by decide +kernel
theorem dX9_readRules_134 : decode cX9_readRules 134 = .ok (.iload_n 2, 1) := by decide +kernel
theorem dX9_readRules_135 : decode cX9_readRules 135 = .ok (.aload_n 0, 1) := by decide +kernel
theorem dX9_readRules_136 : decode cX9_readRules 136 = .ok (.getfield 138, 3) := by decide +kernel
theorem dX9_readRules_139 : decode cX9_readRules 139 = .ok (.iastore, 1) := by decide +kernel
theorem dX9_readRules_140 : decode cX9_readRules 140 = .ok (.aload_n 0, 1) := by decide +kernel
theorem dX9_readRules_141 : decode cX9_readRules 141 = .ok (.invokevirtual 170, 3) := by decide +kernel
theorem dX9_readRules_144 : decode cX9_readRules 144 = .ok (.aload_n 0, 1) := by decide +kernel
theorem dX9_readRules_145 : decode cX9_readRules 145 = .ok (.getfield 124, 3) := by decide +kernel
theorem dX9_readRules_148 : decode cX9_readRules 148 = .ok (.iconst 4, 1) := by decide +kernel
theorem dX9_readRules_149 : decode cX9_readRules 149 = .ok (.if_icmp .eq 9, 3) := by decide +kernel
theorem dX9_readRules_152 : decode cX9_readRules 152 = .ok (.aload_n 0, 1) := by decide +kernel
theorem dX9_readRules_153 : decode cX9_readRules 153 = .ok (.iconst 1, 1) := by decide +kernel
theorem dX9_readRules_154 : decode cX9_readRules 154 = .ok (.invokevirtual 177, 3) := by decide +kernel
theorem dX9_readRules_157 : decode cX9_readRules 157 = .ok (.ireturn, 1) := by decide +kernel
theorem dX9_readRules_158 : decode cX9_readRules 158 = .ok (.iload_n 1, 1) := by decide +kernel
theorem dX9_readRules_159 : decode cX9_readRules 159 = .ok (.iconst 1, 1) := by decide +kernel
theorem dX9_readRules_160 : decode cX9_readRules 160 = .ok (.iload_n 2, 1) := by decide +kernel
theorem dX9_readRules_161 : decode cX9_readRules 161 = .ok (.ishl, 1) := by decide +kernel
theorem dX9_readRules_162 : decode cX9_readRules 162 = .ok (.ior, 1) := by decide +kernel
theorem dX9_readRules_163 : decode cX9_readRules 163 = .ok (.istore_n 1, 1) := by decide +kernel
theorem dX9_readRules_164 : decode cX9_readRules 164 = .ok (.aload_n 0, 1) := by decide +kernel
theorem dX9_readRules_165 : decode cX9_readRules 165 = .ok (.dup, 1) := by decide +kernel
theorem dX9_readRules_166 : decode cX9_readRules 166 = .ok (.getfield 167, 3) := by decide +kernel
theorem dX9_readRules_169 : decode cX9_readRules 169 = .ok (.iconst 1, 1) := by decide +kernel
theorem dX9_readRules_170 : decode cX9_readRules 170 = .ok (.iadd, 1) := by decide +kernel
theorem dX9_readRules_171 : decode cX9_readRules 171 = .ok (.putfield 167, 3) := by decide +kernel
theorem dX9_readRules_174 : decode cX9_readRules 174 = .ok (.aload_n 0, 1) := by decide +kernel
theorem dX9_readRules_175 : decode cX9_readRules 175 = .ok (.invokevirtual 170, 3) := by decide +kernel
theorem dX9_readRules_178 : decode cX9_readRules 178 = .ok (.goto (-136), 3) := by decide +kernel
theorem dX9_readRules_181 : decode cX9_readRules 181 = .ok (.iconst 1, 1) := by decide +kernel
theorem dX9_readRules_182 : decode cX9_readRules 182 = .ok (.ireturn, 1) := by decide +kernel
theorem dX9_rules_0 : decode cX9_rules 0 = .ok (.aload_n 0, 1) := by decide +kernel
theorem dX9_rules_1 : decode cX9_rules 1 = .ok (.iconst 0, 1) := by decide +kernel
theorem dX9_rules_2 : decode cX9_rules 2 = .ok (.putfield 105, 3) := by decide +kernel
theorem dX9_rules_5 : decode cX9_rules 5 = .ok (.aload_n 0, 1) := by decide +kernel
theorem dX9_rules_6 : decode cX9_rules 6 = .ok (.aload_n 0, 1) := by decide +kernel
theorem dX9_rules_7 : decode cX9_rules 7 = .ok (.getfield 108, 3) := by decide +kernel
theorem dX9_rules_10 : decode cX9_rules 10 = .ok (.putfield 115, 3) := by decide +kernel
theorem dX9_rules_13 : decode cX9_rules 13 = .ok (.aload_n 0, 1) := by decide +kernel
theorem dX9_rules_14 : decode cX9_rules 14 = .ok (.iconst 0, 1) := by decide +kernel
theorem dX9_rules_15 : decode cX9_rules 15 = .ok (.putfield 108, 3) := by decide +kernel
theorem dX9_rules_18 : decode cX9_rules 18 = .ok (.aload_n 0, 1) := by decide +kernel
theorem dX9_rules_19 : decode cX9_rules 19 = .ok (.iconst 0, 1) := by decide +kernel
theorem dX9_rules_20 : decode cX9_rules 20 = .ok (.putfield 161, 3) := by decide +kernel
theorem dX9_rules_23 : decode cX9_rules 23 = .ok (.aload_n 0, 1) := by decide +kernel
theorem dX9_rules_24 : decode cX9_rules 24 = .ok (.invokevirtual 180, 3) := by decide +kernel
theorem dX9_rules_27 : decode cX9_rules 27 = .ok (.ifCond .ne 10, 3) := by decide +kernel
theorem dX9_rules_30 : decode cX9_rules 30 = .ok (.iconst (-1), 1) := by decide +kernel
theorem dX9_rules_31 : decode cX9_rules 31 = .ok (.aload_n 0, 1) := by decide +kernel
theorem dX9_rules_32 : decode cX9_rules 32 = .ok (.getfield 164, 3) := by decide +kernel
theorem dX9_rules_35 : decode cX9_rules 35 = .ok (.isub, 1) := by decide +kernel
theorem dX9_rules_36 : decode cX9_rules 36 = .ok (.ireturn, 1) := by decide +kernel
theorem dX9_rules_37 : decode cX9_rules 37 = .ok (.iconst 0, 1) := by decide +kernel
theorem dX9_rules_38 : decode cX9_rules 38 = .ok (.istore_n 1, 1) := by decide +kernel
theorem dX9_rules_39 : decode cX9_rules 39 = .ok (.iload_n 1, 1) := by decide +kernel
theorem dX9_rules_40 : decode cX9_rules 40 = .ok (.bipush 9, 2) := by decide +kernel
theorem dX9_rules_42 : decode cX9_rules 42 = .ok (.if_icmp .ge 21, 3) := by decide +kernel
theorem dX9_rules_45 : decode cX9_rules 45 = .ok (.aload_n 0, 1) := by decide +kernel
theorem dX9_rules_46 : decode cX9_rules 46 = .ok (.getfield 13, 3) := by decide +kernel
theorem dX9_rules_49 : decode cX9_rules 49 = .ok (.iload_n 1, 1) := by decide +kernel
theorem dX9_rules_50 : decode cX9_rules 50 = .ok (.aload_n 0, 1) := by decide +kernel
theorem dX9_rules_51 : decode cX9_rules 51 = .ok (.getfield 26, 3) := by decide +kernel
theorem dX9_rules_54 : decode cX9_rules 54 = .ok (.iload_n 1, 1) := by decide +kernel
theorem dX9_rules_55 : decode cX9_rules 55 = .ok (.iaload, 1) := by decide +kernel
theorem dX9_rules_56 : decode cX9_rules 56 = .ok (.iastore, 1) := by decide +kernel
theorem dX9_rules_57 : decode cX9_rules 57 = .ok (.iinc 1 1, 3) := by decide +kernel
theorem dX9_rules_60 : decode cX9_rules 60 = .ok (.goto (-21), 3) := by decide +kernel
theorem dX9_rules_63 : decode cX9_rules 63 = .ok (.aload_n 0, 1) := by decide +kernel
theorem dX9_rules_64 : decode cX9_rules 64 = .ok (.getfield 167, 3) := by decide +kernel
theorem dX9_rules_67 : decode cX9_rules 67 = .ok (.ireturn, 1) := by decide +kernel
theorem dX9_fault_0 : decode cX9_fault 0 = .ok (.aload_n 0, 1) := by decide +kernel
theorem dX9_fault_1 : decode cX9_fault 1 = .ok (.iconst 0, 1) := by decide +kernel
theorem dX9_fault_2 : decode cX9_fault 2 = .ok (.putfield 105, 3) := by decide +kernel
theorem dX9_fault_5 : decode cX9_fault 5 = .ok (.aload_n 0, 1) := by decide +kernel
theorem dX9_fault_6 : decode cX9_fault 6 = .ok (.getfield 161, 3) := by decide +kernel
theorem dX9_fault_9 : decode cX9_fault 9 = .ok (.ireturn, 1) := by decide +kernel
theorem dX9_rule_0 : decode cX9_rule 0 = .ok (.aload_n 0, 1) := by decide +kernel
theorem dX9_rule_1 : decode cX9_rule 1 = .ok (.iconst 0, 1) := by decide +kernel
theorem dX9_rule_2 : decode cX9_rule 2 = .ok (.putfield 105, 3) := by decide +kernel
theorem dX9_rule_5 : decode cX9_rule 5 = .ok (.iload_n 1, 1) := by decide +kernel
theorem dX9_rule_6 : decode cX9_rule 6 = .ok (.ifCond .lt 9, 3) := by decide +kernel
theorem dX9_rule_9 : decode cX9_rule 9 = .ok (.iload_n 1, 1) := by decide +kernel
theorem dX9_rule_10 : decode cX9_rule 10 = .ok (.bipush 9, 2) := by decide +kernel
theorem dX9_rule_12 : decode cX9_rule 12 = .ok (.if_icmp .lt 7, 3) := by decide +kernel
theorem dX9_rule_15 : decode cX9_rule 15 = .ok (.iconst (-1), 1) := by decide +kernel
theorem dX9_rule_16 : decode cX9_rule 16 = .ok (.goto 9, 3) := by decide +kernel
theorem dX9_rule_19 : decode cX9_rule 19 = .ok (.aload_n 0, 1) := by decide +kernel
theorem dX9_rule_20 : decode cX9_rule 20 = .ok (.getfield 13, 3) := by decide +kernel
theorem dX9_rule_23 : decode cX9_rule 23 = .ok (.iload_n 1, 1) := by decide +kernel
theorem dX9_rule_24 : decode cX9_rule 24 = .ok (.iaload, 1) := by decide +kernel
theorem dX9_rule_25 : decode cX9_rule 25 = .ok (.ireturn, 1) := by decide +kernel
theorem dX9_isPerson_0 : decode cX9_isPerson 0 = .ok (.iload_n 1, 1) := by decide +kernel
theorem dX9_isPerson_1 : decode cX9_isPerson 1 = .ok (.ifCond .lt 15, 3) := by decide +kernel
theorem dX9_isPerson_4 : decode cX9_isPerson 4 = .ok (.iload_n 1, 1) := by decide +kernel
theorem dX9_isPerson_5 : decode cX9_isPerson 5 = .ok (.aload_n 0, 1) := by decide +kernel
theorem dX9_isPerson_6 : decode cX9_isPerson 6 = .ok (.getfield 184, 3) := by decide +kernel
theorem dX9_isPerson_9 : decode cX9_isPerson 9 = .ok (.if_icmp .ge 7, 3) := by decide +kernel
theorem dX9_isPerson_12 : decode cX9_isPerson 12 = .ok (.iconst 1, 1) := by decide +kernel
theorem dX9_isPerson_13 : decode cX9_isPerson 13 = .ok (.goto 4, 3) := by decide +kernel
theorem dX9_isPerson_16 : decode cX9_isPerson 16 = .ok (.iconst 0, 1) := by decide +kernel
theorem dX9_isPerson_17 : decode cX9_isPerson 17 = .ok (.ireturn, 1) := by decide +kernel
theorem dX9_isFund_0 : decode cX9_isFund 0 = .ok (.iload_n 1, 1) := by decide +kernel
theorem dX9_isFund_1 : decode cX9_isFund 1 = .ok (.ifCond .lt 15, 3) := by decide +kernel
theorem dX9_isFund_4 : decode cX9_isFund 4 = .ok (.iload_n 1, 1) := by decide +kernel
theorem dX9_isFund_5 : decode cX9_isFund 5 = .ok (.aload_n 0, 1) := by decide +kernel
theorem dX9_isFund_6 : decode cX9_isFund 6 = .ok (.getfield 41, 3) := by decide +kernel
theorem dX9_isFund_9 : decode cX9_isFund 9 = .ok (.if_icmp .ge 7, 3) := by decide +kernel
theorem dX9_isFund_12 : decode cX9_isFund 12 = .ok (.iconst 1, 1) := by decide +kernel
theorem dX9_isFund_13 : decode cX9_isFund 13 = .ok (.goto 4, 3) := by decide +kernel
theorem dX9_isFund_16 : decode cX9_isFund 16 = .ok (.iconst 0, 1) := by decide +kernel
theorem dX9_isFund_17 : decode cX9_isFund 17 = .ok (.ireturn, 1) := by decide +kernel
theorem dX9_person_0 : decode cX9_person 0 = .ok (.aload_n 0, 1) := by decide +kernel
theorem dX9_person_1 : decode cX9_person 1 = .ok (.iconst 0, 1) := by decide +kernel
theorem dX9_person_2 : decode cX9_person 2 = .ok (.putfield 105, 3) := by decide +kernel
theorem dX9_person_5 : decode cX9_person 5 = .ok (.aload_n 0, 1) := by decide +kernel
theorem dX9_person_6 : decode cX9_person 6 = .ok (.getfield 184, 3) := by decide +kernel
theorem dX9_person_9 : decode cX9_person 9 = .ok (.bipush 40, 2) := by decide +kernel
theorem dX9_person_11 : decode cX9_person 11 = .ok (.if_icmp .eq 14, 3) := by decide +kernel
theorem dX9_person_14 : decode cX9_person 14 = .ok (.iload_n 1, 1) := by decide +kernel
theorem dX9_person_15 : decode cX9_person 15 = .ok (.ifCond .lt 10, 3) := by decide +kernel
theorem dX9_person_18 : decode cX9_person 18 = .ok (.iload_n 1, 1) := by decide +kernel
theorem dX9_person_19 : decode cX9_person 19 = .ok (.sipush 255, 3) := by decide +kernel
theorem dX9_person_22 : decode cX9_person 22 = .ok (.if_icmp .le 5, 3) := by decide +kernel
theorem dX9_person_25 : decode cX9_person 25 = .ok (.iconst (-1), 1) := by decide +kernel
theorem dX9_person_26 : decode cX9_person 26 = .ok (.ireturn, 1) := by decide +kernel
theorem dX9_person_27 : decode cX9_person 27 = .ok (.aload_n 0, 1) := by decide +kernel
theorem dX9_person_28 : decode cX9_person 28 = .ok (.getfield 29, 3) := by decide +kernel
theorem dX9_person_31 : decode cX9_person 31 = .ok (.aload_n 0, 1) := by decide +kernel
theorem dX9_person_32 : decode cX9_person 32 = .ok (.getfield 184, 3) := by decide +kernel
theorem dX9_person_35 : decode cX9_person 35 = .ok (.iload_n 1, 1) := by decide +kernel
theorem dX9_person_36 : decode cX9_person 36 = .ok (.iastore, 1) := by decide +kernel
theorem dX9_person_37 : decode cX9_person 37 = .ok (.aload_n 0, 1) := by decide +kernel
theorem dX9_person_38 : decode cX9_person 38 = .ok (.dup, 1) := by decide +kernel
theorem dX9_person_39 : decode cX9_person 39 = .ok (.getfield 184, 3) := by decide +kernel
theorem dX9_person_42 : decode cX9_person 42 = .ok (.iconst 1, 1) := by decide +kernel
theorem dX9_person_43 : decode cX9_person 43 = .ok (.iadd, 1) := by decide +kernel
theorem dX9_person_44 : decode cX9_person 44 = .ok (.putfield 184, 3) := by decide +kernel
theorem dX9_person_47 : decode cX9_person 47 = .ok (.aload_n 0, 1) := by decide +kernel
theorem dX9_person_48 : decode cX9_person 48 = .ok (.getfield 184, 3) := by decide +kernel
theorem dX9_person_51 : decode cX9_person 51 = .ok (.iconst 1, 1) := by decide +kernel
theorem dX9_person_52 : decode cX9_person 52 = .ok (.isub, 1) := by decide +kernel
theorem dX9_person_53 : decode cX9_person 53 = .ok (.ireturn, 1) := by decide +kernel
theorem dX9_tag_0 : decode cX9_tag 0 = .ok (.aload_n 0, 1) := by decide +kernel
theorem dX9_tag_1 : decode cX9_tag 1 = .ok (.iconst 0, 1) := by decide +kernel
theorem dX9_tag_2 : decode cX9_tag 2 = .ok (.putfield 105, 3) := by decide +kernel
theorem dX9_tag_5 : decode cX9_tag 5 = .ok (.aload_n 0, 1) := by decide +kernel
theorem dX9_tag_6 : decode cX9_tag 6 = .ok (.iload_n 1, 1) := by decide +kernel
theorem dX9_tag_7 : decode cX9_tag 7 = .ok (.invokevirtual 187, 3) := by decide +kernel
theorem dX9_tag_10 : decode cX9_tag 10 = .ok (.ifCond .eq 35, 3) := by decide +kernel
theorem dX9_tag_13 : decode cX9_tag 13 = .ok (.iload_n 2, 1) := by decide +kernel
theorem dX9_tag_14 : decode cX9_tag 14 = .ok (.ifCond .lt 31, 3) := by decide +kernel
theorem dX9_tag_17 : decode cX9_tag 17 = .ok (.iload_n 2, 1) := by decide +kernel
theorem dX9_tag_18 : decode cX9_tag 18 = .ok (.bipush 7, 2) := by decide +kernel
theorem dX9_tag_20 : decode cX9_tag 20 = .ok (.if_icmp .gt 25, 3) := by decide +kernel
theorem dX9_tag_23 : decode cX9_tag 23 = .ok (.aload_n 0, 1) := by decide +kernel
theorem dX9_tag_24 : decode cX9_tag 24 = .ok (.getfield 29, 3) := by decide +kernel
theorem dX9_tag_27 : decode cX9_tag 27 = .ok (.iload_n 1, 1) := by decide +kernel
theorem dX9_tag_28 : decode cX9_tag 28 = .ok (.iaload, 1) := by decide +kernel
theorem dX9_tag_29 : decode cX9_tag 29 = .ok (.iload_n 2, 1) := by decide +kernel
theorem dX9_tag_30 : decode cX9_tag 30 = .ok (.ishr, 1) := by decide +kernel
theorem dX9_tag_31 : decode cX9_tag 31 = .ok (.iconst 1, 1) := by decide +kernel
theorem dX9_tag_32 : decode cX9_tag 32 = .ok (.iand, 1) := by decide +kernel
theorem dX9_tag_33 : decode cX9_tag 33 = .ok (.iload_n 3, 1) := by decide +kernel
theorem dX9_tag_34 : decode cX9_tag 34 = .ok (.ifCond .eq 7, 3) := by decide +kernel
theorem dX9_tag_37 : decode cX9_tag 37 = .ok (.iconst 1, 1) := by decide +kernel
theorem dX9_tag_38 : decode cX9_tag 38 = .ok (.goto 4, 3) := by decide +kernel
theorem dX9_tag_41 : decode cX9_tag 41 = .ok (.iconst 0, 1) := by decide +kernel
theorem dX9_tag_42 : decode cX9_tag 42 = .ok (.if_icmp .ne 5, 3) := by decide +kernel
theorem dX9_tag_45 : decode cX9_tag 45 = .ok (.iconst 0, 1) := by decide +kernel
theorem dX9_tag_46 : decode cX9_tag 46 = .ok (.ireturn, 1) := by decide +kernel
theorem dX9_tag_47 : decode cX9_tag 47 = .ok (.aload_n 0, 1) := by decide +kernel
theorem dX9_tag_48 : decode cX9_tag 48 = .ok (.getfield 29, 3) := by decide +kernel
theorem dX9_tag_51 : decode cX9_tag 51 = .ok (.iload_n 1, 1) := by decide +kernel
theorem dX9_tag_52 : decode cX9_tag 52 = .ok (.dup2, 1) := by decide +kernel
theorem dX9_tag_53 : decode cX9_tag 53 = .ok (.iaload, 1) := by decide +kernel
theorem dX9_tag_54 : decode cX9_tag 54 = .ok (.iconst 1, 1) := by decide +kernel
theorem dX9_tag_55 : decode cX9_tag 55 = .ok (.iload_n 2, 1) := by decide +kernel
theorem dX9_tag_56 : decode cX9_tag 56 = .ok (.ishl, 1) := by decide +kernel
theorem dX9_tag_57 : decode cX9_tag 57 = .ok (.ixor, 1) := by decide +kernel
theorem dX9_tag_58 : decode cX9_tag 58 = .ok (.iastore, 1) := by decide +kernel
theorem dX9_tag_59 : decode cX9_tag 59 = .ok (.iconst 1, 1) := by decide +kernel
theorem dX9_tag_60 : decode cX9_tag 60 = .ok (.ireturn, 1) := by decide +kernel
theorem dX9_fund_0 : decode cX9_fund 0 = .ok (.aload_n 0, 1) := by decide +kernel
theorem dX9_fund_1 : decode cX9_fund 1 = .ok (.iconst 0, 1) := by decide +kernel
theorem dX9_fund_2 : decode cX9_fund 2 = .ok (.putfield 105, 3) := by decide +kernel
theorem dX9_fund_5 : decode cX9_fund 5 = .ok (.aload_n 0, 1) := by decide +kernel
theorem dX9_fund_6 : decode cX9_fund 6 = .ok (.getfield 41, 3) := by decide +kernel
theorem dX9_fund_9 : decode cX9_fund 9 = .ok (.bipush 6, 2) := by decide +kernel
theorem dX9_fund_11 : decode cX9_fund 11 = .ok (.if_icmp .eq 23, 3) := by decide +kernel
theorem dX9_fund_14 : decode cX9_fund 14 = .ok (.iload_n 1, 1) := by decide +kernel
theorem dX9_fund_15 : decode cX9_fund 15 = .ok (.ifCond .lt 19, 3) := by decide +kernel
theorem dX9_fund_18 : decode cX9_fund 18 = .ok (.iload_n 1, 1) := by decide +kernel
theorem dX9_fund_19 : decode cX9_fund 19 = .ok (.bipush 7, 2) := by decide +kernel
theorem dX9_fund_21 : decode cX9_fund 21 = .ok (.if_icmp .gt 13, 3) := by decide +kernel
theorem dX9_fund_24 : decode cX9_fund 24 = .ok (.iload_n 2, 1) := by decide +kernel
theorem dX9_fund_25 : decode cX9_fund 25 = .ok (.ifCond .lt 9, 3) := by decide +kernel
theorem dX9_fund_28 : decode cX9_fund 28 = .ok (.iload_n 2, 1) := by decide +kernel
theorem dX9_fund_29 : decode cX9_fund 29 = .ok (.ldc 190, 2) := by decide +kernel
theorem dX9_fund_31 : decode cX9_fund 31 = .ok (.if_icmp .le 5, 3) := by decide +kernel
theorem dX9_fund_34 : decode cX9_fund 34 = .ok (.iconst (-1), 1) := by decide +kernel
theorem dX9_fund_35 : decode cX9_fund 35 = .ok (.ireturn, 1) := by decide +kernel
theorem dX9_fund_36 : decode cX9_fund 36 = .ok (.aload_n 0, 1) := by decide +kernel
theorem dX9_fund_37 : decode cX9_fund 37 = .ok (.getfield 32, 3) := by decide +kernel
theorem dX9_fund_40 : decode cX9_fund 40 = .ok (.aload_n 0, 1) := by decide +kernel
theorem dX9_fund_41 : decode cX9_fund 41 = .ok (.getfield 41, 3) := by decide +kernel
theorem dX9_fund_44 : decode cX9_fund 44 = .ok (.iload_n 1, 1) := by decide +kernel
theorem dX9_fund_45 : decode cX9_fund 45 = .ok (.iastore, 1) := by decide +kernel
theorem dX9_fund_46 : decode cX9_fund 46 = .ok (.aload_n 0, 1) := by decide +kernel
theorem dX9_fund_47 : decode cX9_fund 47 = .ok (.getfield 35, 3) := by decide +kernel
theorem dX9_fund_50 : decode cX9_fund 50 = .ok (.aload_n 0, 1) := by decide +kernel
theorem dX9_fund_51 : decode cX9_fund 51 = .ok (.getfield 41, 3) := by decide +kernel
theorem dX9_fund_54 : decode cX9_fund 54 = .ok (.iload_n 2, 1) := by decide +kernel
theorem dX9_fund_55 : decode cX9_fund 55 = .ok (.iastore, 1) := by decide +kernel
theorem dX9_fund_56 : decode cX9_fund 56 = .ok (.aload_n 0, 1) := by decide +kernel
theorem dX9_fund_57 : decode cX9_fund 57 = .ok (.dup, 1) := by decide +kernel
theorem dX9_fund_58 : decode cX9_fund 58 = .ok (.getfield 191, 3) := by decide +kernel
theorem dX9_fund_61 : decode cX9_fund 61 = .ok (.iload_n 2, 1) := by decide +kernel
theorem dX9_fund_62 : decode cX9_fund 62 = .ok (.iadd, 1) := by decide +kernel
theorem dX9_fund_63 : decode cX9_fund 63 = .ok (.putfield 191, 3) := by decide +kernel
theorem dX9_fund_66 : decode cX9_fund 66 = .ok (.aload_n 0, 1) := by decide +kernel
theorem dX9_fund_67 : decode cX9_fund 67 = .ok (.dup, 1) := by decide +kernel
theorem dX9_fund_68 : decode cX9_fund 68 = .ok (.getfield 41, 3) := by decide +kernel
theorem dX9_fund_71 : decode cX9_fund 71 = .ok (.iconst 1, 1) := by decide +kernel
theorem dX9_fund_72 : decode cX9_fund 72 = .ok (.iadd, 1) := by decide +kernel
theorem dX9_fund_73 : decode cX9_fund 73 = .ok (.putfield 41, 3) := by decide +kernel
theorem dX9_fund_76 : decode cX9_fund 76 = .ok (.aload_n 0, 1) := by decide +kernel
theorem dX9_fund_77 : decode cX9_fund 77 = .ok (.getfield 41, 3) := by decide +kernel
theorem dX9_fund_80 : decode cX9_fund 80 = .ok (.iconst 1, 1) := by decide +kernel
theorem dX9_fund_81 : decode cX9_fund 81 = .ok (.isub, 1) := by decide +kernel
theorem dX9_fund_82 : decode cX9_fund 82 = .ok (.ireturn, 1) := by decide +kernel
theorem dX9_gift_0 : decode cX9_gift 0 = .ok (.aload_n 0, 1) := by decide +kernel
theorem dX9_gift_1 : decode cX9_gift 1 = .ok (.iconst 0, 1) := by decide +kernel
theorem dX9_gift_2 : decode cX9_gift 2 = .ok (.putfield 105, 3) := by decide +kernel
theorem dX9_gift_5 : decode cX9_gift 5 = .ok (.aload_n 0, 1) := by decide +kernel
theorem dX9_gift_6 : decode cX9_gift 6 = .ok (.iload_n 1, 1) := by decide +kernel
theorem dX9_gift_7 : decode cX9_gift 7 = .ok (.invokevirtual 194, 3) := by decide +kernel
theorem dX9_gift_10 : decode cX9_gift 10 = .ok (.ifCond .eq 27, 3) := by decide +kernel
theorem dX9_gift_13 : decode cX9_gift 13 = .ok (.iload_n 2, 1) := by decide +kernel
theorem dX9_gift_14 : decode cX9_gift 14 = .ok (.iconst 1, 1) := by decide +kernel
theorem dX9_gift_15 : decode cX9_gift 15 = .ok (.if_icmp .lt 22, 3) := by decide +kernel
theorem dX9_gift_18 : decode cX9_gift 18 = .ok (.iload_n 2, 1) := by decide +kernel
theorem dX9_gift_19 : decode cX9_gift 19 = .ok (.ldc 190, 2) := by decide +kernel
theorem dX9_gift_21 : decode cX9_gift 21 = .ok (.if_icmp .gt 16, 3) := by decide +kernel
theorem dX9_gift_24 : decode cX9_gift 24 = .ok (.aload_n 0, 1) := by decide +kernel
theorem dX9_gift_25 : decode cX9_gift 25 = .ok (.getfield 35, 3) := by decide +kernel
theorem dX9_gift_28 : decode cX9_gift 28 = .ok (.iload_n 1, 1) := by decide +kernel
theorem dX9_gift_29 : decode cX9_gift 29 = .ok (.iaload, 1) := by decide +kernel
theorem dX9_gift_30 : decode cX9_gift 30 = .ok (.iload_n 2, 1) := by decide +kernel
theorem dX9_gift_31 : decode cX9_gift 31 = .ok (.iadd, 1) := by decide +kernel
theorem dX9_gift_32 : decode cX9_gift 32 = .ok (.ldc 197, 2) := by decide +kernel
theorem dX9_gift_34 : decode cX9_gift 34 = .ok (.if_icmp .le 5, 3) := by decide +kernel
theorem dX9_gift_37 : decode cX9_gift 37 = .ok (.iconst (-1), 1) := by decide +kernel
theorem dX9_gift_38 : decode cX9_gift 38 = .ok (.ireturn, 1) := by decide +kernel
theorem dX9_gift_39 : decode cX9_gift 39 = .ok (.aload_n 0, 1) := by decide +kernel
theorem dX9_gift_40 : decode cX9_gift 40 = .ok (.getfield 35, 3) := by decide +kernel
theorem dX9_gift_43 : decode cX9_gift 43 = .ok (.iload_n 1, 1) := by decide +kernel
theorem dX9_gift_44 : decode cX9_gift 44 = .ok (.dup2, 1) := by decide +kernel
theorem dX9_gift_45 : decode cX9_gift 45 = .ok (.iaload, 1) := by decide +kernel
theorem dX9_gift_46 : decode cX9_gift 46 = .ok (.iload_n 2, 1) := by decide +kernel
theorem dX9_gift_47 : decode cX9_gift 47 = .ok (.iadd, 1) := by decide +kernel
theorem dX9_gift_48 : decode cX9_gift 48 = .ok (.iastore, 1) := by decide +kernel
theorem dX9_gift_49 : decode cX9_gift 49 = .ok (.aload_n 0, 1) := by decide +kernel
theorem dX9_gift_50 : decode cX9_gift 50 = .ok (.dup, 1) := by decide +kernel
theorem dX9_gift_51 : decode cX9_gift 51 = .ok (.getfield 191, 3) := by decide +kernel
theorem dX9_gift_54 : decode cX9_gift 54 = .ok (.iload_n 2, 1) := by decide +kernel
theorem dX9_gift_55 : decode cX9_gift 55 = .ok (.iadd, 1) := by decide +kernel
theorem dX9_gift_56 : decode cX9_gift 56 = .ok (.putfield 191, 3) := by decide +kernel
theorem dX9_gift_59 : decode cX9_gift 59 = .ok (.aload_n 0, 1) := by decide +kernel
theorem dX9_gift_60 : decode cX9_gift 60 = .ok (.getfield 35, 3) := by decide +kernel
theorem dX9_gift_63 : decode cX9_gift 63 = .ok (.iload_n 1, 1) := by decide +kernel
theorem dX9_gift_64 : decode cX9_gift 64 = .ok (.iaload, 1) := by decide +kernel
theorem dX9_gift_65 : decode cX9_gift 65 = .ok (.ireturn, 1) := by decide +kernel
theorem dX9_openOf_0 : decode cX9_openOf 0 = .ok (.iconst 0, 1) := by decide +kernel
theorem dX9_openOf_1 : decode cX9_openOf 1 = .ok (.istore_n 2, 1) := by decide +kernel
theorem dX9_openOf_2 : decode cX9_openOf 2 = .ok (.iload_n 2, 1) := by decide +kernel
theorem dX9_openOf_3 : decode cX9_openOf 3 = .ok (.aload_n 0, 1) := by decide +kernel
theorem dX9_openOf_4 : decode cX9_openOf 4 = .ok (.getfield 198, 3) := by decide +kernel
theorem dX9_openOf_7 : decode cX9_openOf 7 = .ok (.if_icmp .ge 30, 3) := by decide +kernel
theorem dX9_openOf_10 : decode cX9_openOf 10 = .ok (.aload_n 0, 1) := by decide +kernel
theorem dX9_openOf_11 : decode cX9_openOf 11 = .ok (.getfield 45, 3) := by decide +kernel
theorem dX9_openOf_14 : decode cX9_openOf 14 = .ok (.iload_n 2, 1) := by decide +kernel
theorem dX9_openOf_15 : decode cX9_openOf 15 = .ok (.iaload, 1) := by decide +kernel
theorem dX9_openOf_16 : decode cX9_openOf 16 = .ok (.iload_n 1, 1) := by decide +kernel
theorem dX9_openOf_17 : decode cX9_openOf 17 = .ok (.if_icmp .ne 14, 3) := by decide +kernel
theorem dX9_openOf_20 : decode cX9_openOf 20 = .ok (.aload_n 0, 1) := by decide +kernel
theorem dX9_openOf_21 : decode cX9_openOf 21 = .ok (.getfield 78, 3) := by decide +kernel
theorem dX9_openOf_24 : decode cX9_openOf 24 = .ok (.iload_n 2, 1) := by decide +kernel
theorem dX9_openOf_25 : decode cX9_openOf 25 = .ok (.iaload, 1) := by decide +kernel
theorem dX9_openOf_26 : decode cX9_openOf 26 = .ok (.ifCond .ne 5, 3) := by decide +kernel
theorem dX9_openOf_29 : decode cX9_openOf 29 = .ok (.iload_n 2, 1) := by decide +kernel
theorem dX9_openOf_30 : decode cX9_openOf 30 = .ok (.ireturn, 1) := by decide +kernel
theorem dX9_openOf_31 : decode cX9_openOf 31 = .ok (.iinc 2 1, 3) := by decide +kernel
theorem dX9_openOf_34 : decode cX9_openOf 34 = .ok (.goto (-32), 3) := by decide +kernel
theorem dX9_openOf_37 : decode cX9_openOf 37 = .ok (.iconst (-1), 1) := by decide +kernel
theorem dX9_openOf_38 : decode cX9_openOf 38 = .ok (.ireturn, 1) := by decide +kernel
theorem dX9_isBarred_0 : decode cX9_isBarred 0 = .ok (.iconst 0, 1) := by decide +kernel
theorem dX9_isBarred_1 : decode cX9_isBarred 1 = .ok (.istore_n 2, 1) := by decide +kernel
theorem dX9_isBarred_2 : decode cX9_isBarred 2 = .ok (.iload_n 2, 1) := by decide +kernel
theorem dX9_isBarred_3 : decode cX9_isBarred 3 = .ok (.aload_n 0, 1) := by decide +kernel
theorem dX9_isBarred_4 : decode cX9_isBarred 4 = .ok (.getfield 201, 3) := by decide +kernel
theorem dX9_isBarred_7 : decode cX9_isBarred 7 = .ok (.if_icmp .ge 30, 3) := by decide +kernel
theorem dX9_isBarred_10 : decode cX9_isBarred 10 = .ok (.aload_n 0, 1) := by decide +kernel
theorem dX9_isBarred_11 : decode cX9_isBarred 11 = .ok (.getfield 93, 3) := by decide +kernel
theorem dX9_isBarred_14 : decode cX9_isBarred 14 = .ok (.iload_n 2, 1) := by decide +kernel
theorem dX9_isBarred_15 : decode cX9_isBarred 15 = .ok (.iaload, 1) := by decide +kernel
theorem dX9_isBarred_16 : decode cX9_isBarred 16 = .ok (.iload_n 1, 1) := by decide +kernel
theorem dX9_isBarred_17 : decode cX9_isBarred 17 = .ok (.if_icmp .ne 14, 3) := by decide +kernel
theorem dX9_isBarred_20 : decode cX9_isBarred 20 = .ok (.aload_n 0, 1) := by decide +kernel
theorem dX9_isBarred_21 : decode cX9_isBarred 21 = .ok (.getfield 99, 3) := by decide +kernel
theorem dX9_isBarred_24 : decode cX9_isBarred 24 = .ok (.iload_n 2, 1) := by decide +kernel
theorem dX9_isBarred_25 : decode cX9_isBarred 25 = .ok (.iaload, 1) := by decide +kernel
theorem dX9_isBarred_26 : decode cX9_isBarred 26 = .ok (.ifCond .le 5, 3) := by decide +kernel
theorem dX9_isBarred_29 : decode cX9_isBarred 29 = .ok (.iconst 1, 1) := by decide +kernel
theorem dX9_isBarred_30 : decode cX9_isBarred 30 = .ok (.ireturn, 1) := by decide +kernel
theorem dX9_isBarred_31 : decode cX9_isBarred 31 = .ok (.iinc 2 1, 3) := by decide +kernel
theorem dX9_isBarred_34 : decode cX9_isBarred 34 = .ok (.goto (-32), 3) := by decide +kernel
theorem dX9_isBarred_37 : decode cX9_isBarred 37 = .ok (.iconst 0, 1) := by decide +kernel
theorem dX9_isBarred_38 : decode cX9_isBarred 38 = .ok (.istore_n 2, 1) := by decide +kernel
theorem dX9_isBarred_39 : decode cX9_isBarred 39 = .ok (.iconst 0, 1) := by decide +kernel
theorem dX9_isBarred_40 : decode cX9_isBarred 40 = .ok (.istore_n 3, 1) := by decide +kernel
theorem dX9_isBarred_41 : decode cX9_isBarred 41 = .ok (.iload_n 3, 1) := by decide +kernel
theorem dX9_isBarred_42 : decode cX9_isBarred 42 = .ok (.aload_n 0, 1) := by decide +kernel
theorem dX9_isBarred_43 : decode cX9_isBarred 43 = .ok (.getfield 198, 3) := by decide +kernel
theorem dX9_isBarred_46 : decode cX9_isBarred 46 = .ok (.if_icmp .ge 32, 3) := by decide +kernel
theorem dX9_isBarred_49 : decode cX9_isBarred 49 = .ok (.aload_n 0, 1) := by decide +kernel
theorem dX9_isBarred_50 : decode cX9_isBarred 50 = .ok (.getfield 45, 3) := by decide +kernel
theorem dX9_isBarred_53 : decode cX9_isBarred 53 = .ok (.iload_n 3, 1) := by decide +kernel
theorem dX9_isBarred_54 : decode cX9_isBarred 54 = .ok (.iaload, 1) := by decide +kernel
theorem dX9_isBarred_55 : decode cX9_isBarred 55 = .ok (.iload_n 1, 1) := by decide +kernel
theorem dX9_isBarred_56 : decode cX9_isBarred 56 = .ok (.if_icmp .ne 16, 3) := by decide +kernel
theorem dX9_isBarred_59 : decode cX9_isBarred 59 = .ok (.aload_n 0, 1) := by decide +kernel
theorem dX9_isBarred_60 : decode cX9_isBarred 60 = .ok (.getfield 78, 3) := by decide +kernel
theorem dX9_isBarred_63 : decode cX9_isBarred 63 = .ok (.iload_n 3, 1) := by decide +kernel
theorem dX9_isBarred_64 : decode cX9_isBarred 64 = .ok (.iaload, 1) := by decide +kernel
theorem dX9_isBarred_65 : decode cX9_isBarred 65 = .ok (.iconst 2, 1) := by decide +kernel
theorem dX9_isBarred_66 : decode cX9_isBarred 66 = .ok (.if_icmp .ne 6, 3) := by decide +kernel
theorem dX9_isBarred_69 : decode cX9_isBarred 69 = .ok (.iinc 2 1, 3) := by decide +kernel
theorem dX9_isBarred_72 : decode cX9_isBarred 72 = .ok (.iinc 3 1, 3) := by decide +kernel
theorem dX9_isBarred_75 : decode cX9_isBarred 75 = .ok (.goto (-34), 3) := by decide +kernel
theorem dX9_isBarred_78 : decode cX9_isBarred 78 = .ok (.iload_n 2, 1) := by decide +kernel
theorem dX9_isBarred_79 : decode cX9_isBarred 79 = .ok (.aload_n 0, 1) := by decide +kernel
theorem dX9_isBarred_80 : decode cX9_isBarred 80 = .ok (.getfield 13, 3) := by decide +kernel
theorem dX9_isBarred_83 : decode cX9_isBarred 83 = .ok (.bipush 8, 2) := by decide +kernel
theorem dX9_isBarred_85 : decode cX9_isBarred 85 = .ok (.iaload, 1) := by decide +kernel
theorem dX9_isBarred_86 : decode cX9_isBarred 86 = .ok (.if_icmp .lt 7, 3) := by decide +kernel
theorem dX9_isBarred_89 : decode cX9_isBarred 89 = .ok (.iconst 1, 1) := by decide +kernel
theorem dX9_isBarred_90 : decode cX9_isBarred 90 = .ok (.goto 4, 3) := by decide +kernel
theorem dX9_isBarred_93 : decode cX9_isBarred 93 = .ok (.iconst 0, 1) := by decide +kernel
theorem dX9_isBarred_94 : decode cX9_isBarred 94 = .ok (.ireturn, 1) := by decide +kernel
theorem dX9_standsFor_0 : decode cX9_standsFor 0 = .ok (.iconst 0, 1) := by decide +kernel
theorem dX9_standsFor_1 : decode cX9_standsFor 1 = .ok (.istore_n 2, 1) := by decide +kernel
theorem dX9_standsFor_2 : decode cX9_standsFor 2 = .ok (.iconst 0, 1) := by decide +kernel
theorem dX9_standsFor_3 : decode cX9_standsFor 3 = .ok (.istore_n 3, 1) := by decide +kernel
theorem dX9_standsFor_4 : decode cX9_standsFor 4 = .ok (.iload_n 3, 1) := by decide +kernel
theorem dX9_standsFor_5 : decode cX9_standsFor 5 = .ok (.aload_n 0, 1) := by decide +kernel
theorem dX9_standsFor_6 : decode cX9_standsFor 6 = .ok (.getfield 198, 3) := by decide +kernel
theorem dX9_standsFor_9 : decode cX9_standsFor 9 = .ok (.if_icmp .ge 59, 3) := by decide +kernel
theorem dX9_standsFor_12 : decode cX9_standsFor 12 = .ok (.aload_n 0, 1) := by decide +kernel
theorem dX9_standsFor_13 : decode cX9_standsFor 13 = .ok (.getfield 78, 3) := by decide +kernel
theorem dX9_standsFor_16 : decode cX9_standsFor 16 = .ok (.iload_n 3, 1) := by decide +kernel
theorem dX9_standsFor_17 : decode cX9_standsFor 17 = .ok (.iaload, 1) := by decide +kernel
theorem dX9_standsFor_18 : decode cX9_standsFor 18 = .ok (.ifCond .eq 6, 3) := by decide +kernel
theorem dX9_standsFor_21 : decode cX9_standsFor 21 = .ok (.goto 41, 3) := by decide +kernel
theorem dX9_standsFor_24 : decode cX9_standsFor 24 = .ok (.iconst 0, 1) := by decide +kernel
theorem dX9_standsFor_25 : decode cX9_standsFor 25 = .ok (.istore 4, 2) := by decide +kernel
theorem dX9_standsFor_27 : decode cX9_standsFor 27 = .ok (.iload 4, 2) := by decide +kernel
theorem dX9_standsFor_29 : decode cX9_standsFor 29 = .ok (.aload_n 0, 1) := by decide +kernel
theorem dX9_standsFor_30 : decode cX9_standsFor 30 = .ok (.getfield 84, 3) := by decide +kernel
theorem dX9_standsFor_33 : decode cX9_standsFor 33 = .ok (.iload_n 3, 1) := by decide +kernel
theorem dX9_standsFor_34 : decode cX9_standsFor 34 = .ok (.iaload, 1) := by decide +kernel
theorem dX9_standsFor_35 : decode cX9_standsFor 35 = .ok (.if_icmp .ge 27, 3) := by decide +kernel
theorem dX9_standsFor_38 : decode cX9_standsFor 38 = .ok (.aload_n 0, 1) := by decide +kernel
theorem dX9_standsFor_39 : decode cX9_standsFor 39 = .ok (.getfield 87, 3) := by decide +kernel
theorem dX9_standsFor_42 : decode cX9_standsFor 42 = .ok (.iconst 3, 1) := by decide +kernel
theorem dX9_standsFor_43 : decode cX9_standsFor 43 = .ok (.iload_n 3, 1) := by decide +kernel
theorem dX9_standsFor_44 : decode cX9_standsFor 44 = .ok (.imul, 1) := by decide +kernel
theorem dX9_standsFor_45 : decode cX9_standsFor 45 = .ok (.iload 4, 2) := by decide +kernel
theorem dX9_standsFor_47 : decode cX9_standsFor 47 = .ok (.iadd, 1) := by decide +kernel
theorem dX9_standsFor_48 : decode cX9_standsFor 48 = .ok (.iaload, 1) := by decide +kernel
theorem dX9_standsFor_49 : decode cX9_standsFor 49 = .ok (.iload_n 1, 1) := by decide +kernel
theorem dX9_standsFor_50 : decode cX9_standsFor 50 = .ok (.if_icmp .ne 6, 3) := by decide +kernel
theorem dX9_standsFor_53 : decode cX9_standsFor 53 = .ok (.iinc 2 1, 3) := by decide +kernel
theorem dX9_standsFor_56 : decode cX9_standsFor 56 = .ok (.iinc 4 1, 3) := by decide +kernel
theorem dX9_standsFor_59 : decode cX9_standsFor 59 = .ok (.goto (-32), 3) := by decide +kernel
theorem dX9_standsFor_62 : decode cX9_standsFor 62 = .ok (.iinc 3 1, 3) := by decide +kernel
theorem dX9_standsFor_65 : decode cX9_standsFor 65 = .ok (.goto (-61), 3) := by decide +kernel
theorem dX9_standsFor_68 : decode cX9_standsFor 68 = .ok (.iload_n 2, 1) := by decide +kernel
theorem dX9_standsFor_69 : decode cX9_standsFor 69 = .ok (.ireturn, 1) := by decide +kernel
theorem dX9_steps_0 : decode cX9_steps 0 = .ok (.iconst 0, 1) := by decide +kernel
theorem dX9_steps_1 : decode cX9_steps 1 = .ok (.istore_n 2, 1) := by decide +kernel
theorem dX9_steps_2 : decode cX9_steps 2 = .ok (.iconst 0, 1) := by decide +kernel
theorem dX9_steps_3 : decode cX9_steps 3 = .ok (.istore_n 3, 1) := by decide +kernel
theorem dX9_steps_4 : decode cX9_steps 4 = .ok (.iload_n 3, 1) := by decide +kernel
theorem dX9_steps_5 : decode cX9_steps 5 = .ok (.aload_n 0, 1) := by decide +kernel
theorem dX9_steps_6 : decode cX9_steps 6 = .ok (.getfield 198, 3) := by decide +kernel
theorem dX9_steps_9 : decode cX9_steps 9 = .ok (.if_icmp .ge 95, 3) := by decide +kernel
theorem dX9_steps_12 : decode cX9_steps 12 = .ok (.aload_n 0, 1) := by decide +kernel
theorem dX9_steps_13 : decode cX9_steps 13 = .ok (.getfield 78, 3) := by decide +kernel
theorem dX9_steps_16 : decode cX9_steps 16 = .ok (.iload_n 3, 1) := by decide +kernel
theorem dX9_steps_17 : decode cX9_steps 17 = .ok (.iaload, 1) := by decide +kernel
theorem dX9_steps_18 : decode cX9_steps 18 = .ok (.ifCond .ne 80, 3) := by decide +kernel
theorem dX9_steps_21 : decode cX9_steps 21 = .ok (.aload_n 0, 1) := by decide +kernel
theorem dX9_steps_22 : decode cX9_steps 22 = .ok (.getfield 102, 3) := by decide +kernel
theorem dX9_steps_25 : decode cX9_steps 25 = .ok (.aload_n 0, 1) := by decide +kernel
theorem dX9_steps_26 : decode cX9_steps 26 = .ok (.getfield 45, 3) := by decide +kernel
theorem dX9_steps_29 : decode cX9_steps 29 = .ok (.iload_n 3, 1) := by decide +kernel
theorem dX9_steps_30 : decode cX9_steps 30 = .ok (.iaload, 1) := by decide +kernel
theorem dX9_steps_31 : decode cX9_steps 31 = .ok (.iaload, 1) := by decide +kernel
theorem dX9_steps_32 : decode cX9_steps 32 = .ok (.iload_n 1, 1) := by decide +kernel
theorem dX9_steps_33 : decode cX9_steps 33 = .ok (.if_icmp .eq 6, 3) := by decide +kernel
theorem dX9_steps_36 : decode cX9_steps 36 = .ok (.goto 62, 3) := by decide +kernel
theorem dX9_steps_39 : decode cX9_steps 39 = .ok (.iconst 0, 1) := by decide +kernel
theorem dX9_steps_40 : decode cX9_steps 40 = .ok (.istore 4, 2) := by decide +kernel
theorem dX9_steps_42 : decode cX9_steps 42 = .ok (.iload 4, 2) := by decide +kernel
theorem dX9_steps_44 : decode cX9_steps 44 = .ok (.aload_n 0, 1) := by decide +kernel
theorem dX9_steps_45 : decode cX9_steps 45 = .ok (.getfield 84, 3) := by decide +kernel
theorem dX9_steps_48 : decode cX9_steps 48 = .ok (.iload_n 3, 1) := by decide +kernel
theorem dX9_steps_49 : decode cX9_steps 49 = .ok (.iaload, 1) := by decide +kernel
theorem dX9_steps_50 : decode cX9_steps 50 = .ok (.if_icmp .ge 48, 3) := by decide +kernel
theorem dX9_steps_53 : decode cX9_steps 53 = .ok (.aload_n 0, 1) := by decide +kernel
theorem dX9_steps_54 : decode cX9_steps 54 = .ok (.getfield 87, 3) := by decide +kernel
theorem dX9_steps_57 : decode cX9_steps 57 = .ok (.iconst 3, 1) := by decide +kernel
theorem dX9_steps_58 : decode cX9_steps 58 = .ok (.iload_n 3, 1) := by decide +kernel
theorem dX9_steps_59 : decode cX9_steps 59 = .ok (.imul, 1) := by decide +kernel
theorem dX9_steps_60 : decode cX9_steps 60 = .ok (.iload 4, 2) := by decide +kernel
theorem dX9_steps_62 : decode cX9_steps 62 = .ok (.iadd, 1) := by decide +kernel
theorem dX9_steps_63 : decode cX9_steps 63 = .ok (.iaload, 1) := by decide +kernel
theorem dX9_steps_64 : decode cX9_steps 64 = .ok (.istore 5, 2) := by decide +kernel
theorem dX9_steps_66 : decode cX9_steps 66 = .ok (.aload_n 0, 1) := by decide +kernel
theorem dX9_steps_67 : decode cX9_steps 67 = .ok (.getfield 102, 3) := by decide +kernel
theorem dX9_steps_70 : decode cX9_steps 70 = .ok (.iload 5, 2) := by decide +kernel
theorem dX9_steps_72 : decode cX9_steps 72 = .ok (.iaload, 1) := by decide +kernel
theorem dX9_steps_73 : decode cX9_steps 73 = .ok (.iconst (-1), 1) := by decide +kernel
theorem dX9_steps_74 : decode cX9_steps 74 = .ok (.if_icmp .eq 6, 3) := by decide +kernel
theorem dX9_steps_77 : decode cX9_steps 77 = .ok (.goto 15, 3) := by decide +kernel
theorem dX9_steps_80 : decode cX9_steps 80 = .ok (.aload_n 0, 1) := by decide +kernel
theorem dX9_steps_81 : decode cX9_steps 81 = .ok (.getfield 102, 3) := by decide +kernel
theorem dX9_steps_84 : decode cX9_steps 84 = .ok (.iload 5, 2) := by decide +kernel
theorem dX9_steps_86 : decode cX9_steps 86 = .ok (.iload_n 1, 1) := by decide +kernel
theorem dX9_steps_87 : decode cX9_steps 87 = .ok (.iconst 1, 1) := by decide +kernel
theorem dX9_steps_88 : decode cX9_steps 88 = .ok (.iadd, 1) := by decide +kernel
theorem dX9_steps_89 : decode cX9_steps 89 = .ok (.iastore, 1) := by decide +kernel
theorem dX9_steps_90 : decode cX9_steps 90 = .ok (.iconst 1, 1) := by decide +kernel
theorem dX9_steps_91 : decode cX9_steps 91 = .ok (.istore_n 2, 1) := by decide +kernel
theorem dX9_steps_92 : decode cX9_steps 92 = .ok (.iinc 4 1, 3) := by decide +kernel
theorem dX9_steps_95 : decode cX9_steps 95 = .ok (.goto (-53), 3) := by decide +kernel
theorem dX9_steps_98 : decode cX9_steps 98 = .ok (.iinc 3 1, 3) := by decide +kernel
theorem dX9_steps_101 : decode cX9_steps 101 = .ok (.goto (-97), 3) := by decide +kernel
theorem dX9_steps_104 : decode cX9_steps 104 = .ok (.iload_n 2, 1) := by decide +kernel
theorem dX9_steps_105 : decode cX9_steps 105 = .ok (.ireturn, 1) := by decide +kernel
theorem dX9_spread_0 : decode cX9_spread 0 = .ok (.iconst 1, 1) := by decide +kernel
theorem dX9_spread_1 : decode cX9_spread 1 = .ok (.istore_n 1, 1) := by decide +kernel
theorem dX9_spread_2 : decode cX9_spread 2 = .ok (.aload_n 0, 1) := by decide +kernel
theorem dX9_spread_3 : decode cX9_spread 3 = .ok (.iload_n 1, 1) := by decide +kernel
theorem dX9_spread_4 : decode cX9_spread 4 = .ok (.invokevirtual 204, 3) := by decide +kernel
theorem dX9_spread_7 : decode cX9_spread 7 = .ok (.ifCond .eq 9, 3) := by decide +kernel
theorem dX9_spread_10 : decode cX9_spread 10 = .ok (.iinc 1 1, 3) := by decide +kernel
theorem dX9_spread_13 : decode cX9_spread 13 = .ok (.goto (-11), 3) := by decide +kernel
theorem dX9_spread_16 : decode cX9_spread 16 = .ok (.return_, 1) := by decide +kernel
theorem dX9_clear_0 : decode cX9_clear 0 = .ok (.iconst 0, 1) := by decide +kernel
theorem dX9_clear_1 : decode cX9_clear 1 = .ok (.istore_n 1, 1) := by decide +kernel
theorem dX9_clear_2 : decode cX9_clear 2 = .ok (.iload_n 1, 1) := by decide +kernel
theorem dX9_clear_3 : decode cX9_clear 3 = .ok (.bipush 40, 2) := by decide +kernel
theorem dX9_clear_5 : decode cX9_clear 5 = .ok (.if_icmp .ge 16, 3) := by decide +kernel
theorem dX9_clear_8 : decode cX9_clear 8 = .ok (.aload_n 0, 1) := by decide +kernel
theorem dX9_clear_9 : decode cX9_clear 9 = .ok (.getfield 102, 3) := by decide +kernel
theorem dX9_clear_12 : decode cX9_clear 12 = .ok (.iload_n 1, 1) := by decide +kernel
theorem dX9_clear_13 : decode cX9_clear 13 = .ok (.iconst (-1), 1) := by decide +kernel
theorem dX9_clear_14 : decode cX9_clear 14 = .ok (.iastore, 1) := by decide +kernel
theorem dX9_clear_15 : decode cX9_clear 15 = .ok (.iinc 1 1, 3) := by decide +kernel
theorem dX9_clear_18 : decode cX9_clear 18 = .ok (.goto (-16), 3) := by decide +kernel
theorem dX9_clear_21 : decode cX9_clear 21 = .ok (.return_, 1) := by decide +kernel
theorem dX9_isTwice_0 : decode cX9_isTwice 0 = .ok (.iconst 0, 1) := by decide +kernel
theorem dX9_isTwice_1 : decode cX9_isTwice 1 = .ok (.istore_n 3, 1) := by decide +kernel
theorem dX9_isTwice_2 : decode cX9_isTwice 2 = .ok (.iload_n 3, 1) := by decide +kernel
theorem dX9_isTwice_3 : decode cX9_isTwice 3 = .ok (.iload_n 2, 1) := by decide +kernel
theorem dX9_isTwice_4 : decode cX9_isTwice 4 = .ok (.if_icmp .ge 26, 3) := by decide +kernel
theorem dX9_isTwice_7 : decode cX9_isTwice 7 = .ok (.aload_n 0, 1) := by decide +kernel
theorem dX9_isTwice_8 : decode cX9_isTwice 8 = .ok (.getfield 7, 3) := by decide +kernel
theorem dX9_isTwice_11 : decode cX9_isTwice 11 = .ok (.iload_n 3, 1) := by decide +kernel
theorem dX9_isTwice_12 : decode cX9_isTwice 12 = .ok (.iaload, 1) := by decide +kernel
theorem dX9_isTwice_13 : decode cX9_isTwice 13 = .ok (.aload_n 0, 1) := by decide +kernel
theorem dX9_isTwice_14 : decode cX9_isTwice 14 = .ok (.getfield 7, 3) := by decide +kernel
theorem dX9_isTwice_17 : decode cX9_isTwice 17 = .ok (.iload_n 2, 1) := by decide +kernel
theorem dX9_isTwice_18 : decode cX9_isTwice 18 = .ok (.iaload, 1) := by decide +kernel
theorem dX9_isTwice_19 : decode cX9_isTwice 19 = .ok (.if_icmp .ne 5, 3) := by decide +kernel
theorem dX9_isTwice_22 : decode cX9_isTwice 22 = .ok (.iconst 1, 1) := by decide +kernel
theorem dX9_isTwice_23 : decode cX9_isTwice 23 = .ok (.ireturn, 1) := by decide +kernel
theorem dX9_isTwice_24 : decode cX9_isTwice 24 = .ok (.iinc 3 1, 3) := by decide +kernel
theorem dX9_isTwice_27 : decode cX9_isTwice 27 = .ok (.goto (-25), 3) := by decide +kernel
theorem dX9_isTwice_30 : decode cX9_isTwice 30 = .ok (.iconst 0, 1) := by decide +kernel
theorem dX9_isTwice_31 : decode cX9_isTwice 31 = .ok (.ireturn, 1) := by decide +kernel
theorem dX9_why_0 : decode cX9_why 0 = .ok (.aload_n 0, 1) := by decide +kernel
theorem dX9_why_1 : decode cX9_why 1 = .ok (.iload_n 1, 1) := by decide +kernel
theorem dX9_why_2 : decode cX9_why 2 = .ok (.invokevirtual 187, 3) := by decide +kernel
theorem dX9_why_5 : decode cX9_why 5 = .ok (.ifCond .ne 5, 3) := by decide +kernel
theorem dX9_why_8 : decode cX9_why 8 = .ok (.iconst 1, 1) := by decide +kernel
theorem dX9_why_9 : decode cX9_why 9 = .ok (.ireturn, 1) := by decide +kernel
theorem dX9_why_10 : decode cX9_why 10 = .ok (.iload_n 2, 1) := by decide +kernel
theorem dX9_why_11 : decode cX9_why 11 = .ok (.iconst 1, 1) := by decide +kernel
theorem dX9_why_12 : decode cX9_why 12 = .ok (.if_icmp .lt 22, 3) := by decide +kernel
theorem dX9_why_15 : decode cX9_why 15 = .ok (.iload_n 2, 1) := by decide +kernel
theorem dX9_why_16 : decode cX9_why 16 = .ok (.aload_n 0, 1) := by decide +kernel
theorem dX9_why_17 : decode cX9_why 17 = .ok (.getfield 13, 3) := by decide +kernel
theorem dX9_why_20 : decode cX9_why 20 = .ok (.iconst 0, 1) := by decide +kernel
theorem dX9_why_21 : decode cX9_why 21 = .ok (.iaload, 1) := by decide +kernel
theorem dX9_why_22 : decode cX9_why 22 = .ok (.if_icmp .gt 12, 3) := by decide +kernel
theorem dX9_why_25 : decode cX9_why 25 = .ok (.aload_n 0, 1) := by decide +kernel
theorem dX9_why_26 : decode cX9_why 26 = .ok (.getfield 198, 3) := by decide +kernel
theorem dX9_why_29 : decode cX9_why 29 = .ok (.bipush 100, 2) := by decide +kernel
theorem dX9_why_31 : decode cX9_why 31 = .ok (.if_icmp .ne 5, 3) := by decide +kernel
theorem dX9_why_34 : decode cX9_why 34 = .ok (.iconst 2, 1) := by decide +kernel
theorem dX9_why_35 : decode cX9_why 35 = .ok (.ireturn, 1) := by decide +kernel
theorem dX9_why_36 : decode cX9_why 36 = .ok (.aload_n 0, 1) := by decide +kernel
theorem dX9_why_37 : decode cX9_why 37 = .ok (.iload_n 1, 1) := by decide +kernel
theorem dX9_why_38 : decode cX9_why 38 = .ok (.invokevirtual 207, 3) := by decide +kernel
theorem dX9_why_41 : decode cX9_why 41 = .ok (.iconst (-1), 1) := by decide +kernel
theorem dX9_why_42 : decode cX9_why 42 = .ok (.if_icmp .eq 5, 3) := by decide +kernel
theorem dX9_why_45 : decode cX9_why 45 = .ok (.iconst 3, 1) := by decide +kernel
theorem dX9_why_46 : decode cX9_why 46 = .ok (.ireturn, 1) := by decide +kernel
theorem dX9_why_47 : decode cX9_why 47 = .ok (.aload_n 0, 1) := by decide +kernel
theorem dX9_why_48 : decode cX9_why 48 = .ok (.iload_n 1, 1) := by decide +kernel
theorem dX9_why_49 : decode cX9_why 49 = .ok (.invokevirtual 210, 3) := by decide +kernel
theorem dX9_why_52 : decode cX9_why 52 = .ok (.ifCond .eq 5, 3) := by decide +kernel
theorem dX9_why_55 : decode cX9_why 55 = .ok (.iconst 4, 1) := by decide +kernel
theorem dX9_why_56 : decode cX9_why 56 = .ok (.ireturn, 1) := by decide +kernel
theorem dX9_why_57 : decode cX9_why 57 = .ok (.iload_n 3, 1) := by decide +kernel
theorem dX9_why_58 : decode cX9_why 58 = .ok (.aload_n 0, 1) := by decide +kernel
theorem dX9_why_59 : decode cX9_why 59 = .ok (.getfield 13, 3) := by decide +kernel
theorem dX9_why_62 : decode cX9_why 62 = .ok (.iconst 2, 1) := by decide +kernel
theorem dX9_why_63 : decode cX9_why 63 = .ok (.iaload, 1) := by decide +kernel
theorem dX9_why_64 : decode cX9_why 64 = .ok (.if_icmp .eq 5, 3) := by decide +kernel
theorem dX9_why_67 : decode cX9_why 67 = .ok (.iconst 5, 1) := by decide +kernel
theorem dX9_why_68 : decode cX9_why 68 = .ok (.ireturn, 1) := by decide +kernel
theorem dX9_why_69 : decode cX9_why 69 = .ok (.iconst 0, 1) := by decide +kernel
theorem dX9_why_70 : decode cX9_why 70 = .ok (.istore 4, 2) := by decide +kernel
theorem dX9_why_72 : decode cX9_why 72 = .ok (.iload 4, 2) := by decide +kernel
theorem dX9_why_74 : decode cX9_why 74 = .ok (.iload_n 3, 1) := by decide +kernel
theorem dX9_why_75 : decode cX9_why 75 = .ok (.if_icmp .ge 47, 3) := by decide +kernel
theorem dX9_why_78 : decode cX9_why 78 = .ok (.aload_n 0, 1) := by decide +kernel
theorem dX9_why_79 : decode cX9_why 79 = .ok (.aload_n 0, 1) := by decide +kernel
theorem dX9_why_80 : decode cX9_why 80 = .ok (.getfield 7, 3) := by decide +kernel
theorem dX9_why_83 : decode cX9_why 83 = .ok (.iload 4, 2) := by decide +kernel
theorem dX9_why_85 : decode cX9_why 85 = .ok (.iaload, 1) := by decide +kernel
theorem dX9_why_86 : decode cX9_why 86 = .ok (.invokevirtual 187, 3) := by decide +kernel
theorem dX9_why_89 : decode cX9_why 89 = .ok (.ifCond .eq 24, 3) := by decide +kernel
theorem dX9_why_92 : decode cX9_why 92 = .ok (.aload_n 0, 1) := by decide +kernel
theorem dX9_why_93 : decode cX9_why 93 = .ok (.getfield 7, 3) := by decide +kernel
theorem dX9_why_96 : decode cX9_why 96 = .ok (.iload 4, 2) := by decide +kernel
theorem dX9_why_98 : decode cX9_why 98 = .ok (.iaload, 1) := by decide +kernel
theorem dX9_why_99 : decode cX9_why 99 = .ok (.iload_n 1, 1) := by decide +kernel
theorem dX9_why_100 : decode cX9_why 100 = .ok (.if_icmp .eq 13, 3) := by decide +kernel
theorem dX9_why_103 : decode cX9_why 103 = .ok (.aload_n 0, 1) := by decide +kernel
theorem dX9_why_104 : decode cX9_why 104 = .ok (.iload_n 3, 1) := by decide +kernel
theorem dX9_why_105 : decode cX9_why 105 = .ok (.iload 4, 2) := by decide +kernel
theorem dX9_why_107 : decode cX9_why 107 = .ok (.invokevirtual 213, 3) := by decide +kernel
theorem dX9_why_110 : decode cX9_why 110 = .ok (.ifCond .eq 6, 3) := by decide +kernel
theorem dX9_why_113 : decode cX9_why 113 = .ok (.bipush 6, 2) := by decide +kernel
theorem dX9_why_115 : decode cX9_why 115 = .ok (.ireturn, 1) := by decide +kernel
theorem dX9_why_116 : decode cX9_why 116 = .ok (.iinc 4 1, 3) := by decide +kernel
theorem dX9_why_119 : decode cX9_why 119 = .ok (.goto (-47), 3) := by decide +kernel
theorem dX9_why_122 : decode cX9_why 122 = .ok (.iconst 0, 1) := by decide +kernel
theorem dX9_why_123 : decode cX9_why 123 = .ok (.istore 4, 2) := by decide +kernel
theorem dX9_why_125 : decode cX9_why 125 = .ok (.iload 4, 2) := by decide +kernel
theorem dX9_why_127 : decode cX9_why 127 = .ok (.iload_n 3, 1) := by decide +kernel
theorem dX9_why_128 : decode cX9_why 128 = .ok (.if_icmp .ge 26, 3) := by decide +kernel
theorem dX9_why_131 : decode cX9_why 131 = .ok (.aload_n 0, 1) := by decide +kernel
theorem dX9_why_132 : decode cX9_why 132 = .ok (.aload_n 0, 1) := by decide +kernel
theorem dX9_why_133 : decode cX9_why 133 = .ok (.getfield 7, 3) := by decide +kernel
theorem dX9_why_136 : decode cX9_why 136 = .ok (.iload 4, 2) := by decide +kernel
theorem dX9_why_138 : decode cX9_why 138 = .ok (.iaload, 1) := by decide +kernel
theorem dX9_why_139 : decode cX9_why 139 = .ok (.invokevirtual 210, 3) := by decide +kernel
theorem dX9_why_142 : decode cX9_why 142 = .ok (.ifCond .eq 6, 3) := by decide +kernel
theorem dX9_why_145 : decode cX9_why 145 = .ok (.bipush 7, 2) := by decide +kernel
theorem dX9_why_147 : decode cX9_why 147 = .ok (.ireturn, 1) := by decide +kernel
theorem dX9_why_148 : decode cX9_why 148 = .ok (.iinc 4 1, 3) := by decide +kernel
theorem dX9_why_151 : decode cX9_why 151 = .ok (.goto (-26), 3) := by decide +kernel
theorem dX9_why_154 : decode cX9_why 154 = .ok (.iconst 0, 1) := by decide +kernel
theorem dX9_why_155 : decode cX9_why 155 = .ok (.istore 4, 2) := by decide +kernel
theorem dX9_why_157 : decode cX9_why 157 = .ok (.iload 4, 2) := by decide +kernel
theorem dX9_why_159 : decode cX9_why 159 = .ok (.iload_n 3, 1) := by decide +kernel
theorem dX9_why_160 : decode cX9_why 160 = .ok (.if_icmp .ge 32, 3) := by decide +kernel
theorem dX9_why_163 : decode cX9_why 163 = .ok (.aload_n 0, 1) := by decide +kernel
theorem dX9_why_164 : decode cX9_why 164 = .ok (.aload_n 0, 1) := by decide +kernel
theorem dX9_why_165 : decode cX9_why 165 = .ok (.getfield 7, 3) := by decide +kernel
theorem dX9_why_168 : decode cX9_why 168 = .ok (.iload 4, 2) := by decide +kernel
theorem dX9_why_170 : decode cX9_why 170 = .ok (.iaload, 1) := by decide +kernel
theorem dX9_why_171 : decode cX9_why 171 = .ok (.invokevirtual 217, 3) := by decide +kernel
theorem dX9_why_174 : decode cX9_why 174 = .ok (.aload_n 0, 1) := by decide +kernel
theorem dX9_why_175 : decode cX9_why 175 = .ok (.getfield 13, 3) := by decide +kernel
theorem dX9_why_178 : decode cX9_why 178 = .ok (.iconst 3, 1) := by decide +kernel
theorem dX9_why_179 : decode cX9_why 179 = .ok (.iaload, 1) := by decide +kernel
theorem dX9_why_180 : decode cX9_why 180 = .ok (.if_icmp .lt 6, 3) := by decide +kernel
theorem dX9_why_183 : decode cX9_why 183 = .ok (.bipush 8, 2) := by decide +kernel
theorem dX9_why_185 : decode cX9_why 185 = .ok (.ireturn, 1) := by decide +kernel
theorem dX9_why_186 : decode cX9_why 186 = .ok (.iinc 4 1, 3) := by decide +kernel
theorem dX9_why_189 : decode cX9_why 189 = .ok (.goto (-32), 3) := by decide +kernel
theorem dX9_why_192 : decode cX9_why 192 = .ok (.aload_n 0, 1) := by decide +kernel
theorem dX9_why_193 : decode cX9_why 193 = .ok (.invokevirtual 220, 3) := by decide +kernel
theorem dX9_why_196 : decode cX9_why 196 = .ok (.iconst 0, 1) := by decide +kernel
theorem dX9_why_197 : decode cX9_why 197 = .ok (.istore 4, 2) := by decide +kernel
theorem dX9_why_199 : decode cX9_why 199 = .ok (.iload 4, 2) := by decide +kernel
theorem dX9_why_201 : decode cX9_why 201 = .ok (.iload_n 3, 1) := by decide +kernel
theorem dX9_why_202 : decode cX9_why 202 = .ok (.if_icmp .ge 22, 3) := by decide +kernel
theorem dX9_why_205 : decode cX9_why 205 = .ok (.aload_n 0, 1) := by decide +kernel
theorem dX9_why_206 : decode cX9_why 206 = .ok (.getfield 102, 3) := by decide +kernel
theorem dX9_why_209 : decode cX9_why 209 = .ok (.aload_n 0, 1) := by decide +kernel
theorem dX9_why_210 : decode cX9_why 210 = .ok (.getfield 7, 3) := by decide +kernel
theorem dX9_why_213 : decode cX9_why 213 = .ok (.iload 4, 2) := by decide +kernel
theorem dX9_why_215 : decode cX9_why 215 = .ok (.iaload, 1) := by decide +kernel
theorem dX9_why_216 : decode cX9_why 216 = .ok (.iconst 1, 1) := by decide +kernel
theorem dX9_why_217 : decode cX9_why 217 = .ok (.iastore, 1) := by decide +kernel
theorem dX9_why_218 : decode cX9_why 218 = .ok (.iinc 4 1, 3) := by decide +kernel
theorem dX9_why_221 : decode cX9_why 221 = .ok (.goto (-22), 3) := by decide +kernel
theorem dX9_why_224 : decode cX9_why 224 = .ok (.aload_n 0, 1) := by decide +kernel
theorem dX9_why_225 : decode cX9_why 225 = .ok (.invokevirtual 223, 3) := by decide +kernel
theorem dX9_why_228 : decode cX9_why 228 = .ok (.aload_n 0, 1) := by decide +kernel
theorem dX9_why_229 : decode cX9_why 229 = .ok (.getfield 102, 3) := by decide +kernel
theorem dX9_why_232 : decode cX9_why 232 = .ok (.iload_n 1, 1) := by decide +kernel
theorem dX9_why_233 : decode cX9_why 233 = .ok (.iaload, 1) := by decide +kernel
theorem dX9_why_234 : decode cX9_why 234 = .ok (.iconst (-1), 1) := by decide +kernel
theorem dX9_why_235 : decode cX9_why 235 = .ok (.if_icmp .eq 22, 3) := by decide +kernel
theorem dX9_why_238 : decode cX9_why 238 = .ok (.aload_n 0, 1) := by decide +kernel
theorem dX9_why_239 : decode cX9_why 239 = .ok (.getfield 102, 3) := by decide +kernel
theorem dX9_why_242 : decode cX9_why 242 = .ok (.iload_n 1, 1) := by decide +kernel
theorem dX9_why_243 : decode cX9_why 243 = .ok (.iaload, 1) := by decide +kernel
theorem dX9_why_244 : decode cX9_why 244 = .ok (.aload_n 0, 1) := by decide +kernel
theorem dX9_why_245 : decode cX9_why 245 = .ok (.getfield 13, 3) := by decide +kernel
theorem dX9_why_248 : decode cX9_why 248 = .ok (.bipush 7, 2) := by decide +kernel
theorem dX9_why_250 : decode cX9_why 250 = .ok (.iaload, 1) := by decide +kernel
theorem dX9_why_251 : decode cX9_why 251 = .ok (.if_icmp .gt 6, 3) := by decide +kernel
theorem dX9_why_254 : decode cX9_why 254 = .ok (.bipush 9, 2) := by decide +kernel
theorem dX9_why_256 : decode cX9_why 256 = .ok (.ireturn, 1) := by decide +kernel
theorem dX9_why_257 : decode cX9_why 257 = .ok (.aload_n 0, 1) := by decide +kernel
theorem dX9_why_258 : decode cX9_why 258 = .ok (.getfield 35, 3) := by decide +kernel
theorem dX9_why_261 : decode cX9_why 261 = .ok (.iconst 0, 1) := by decide +kernel
theorem dX9_why_262 : decode cX9_why 262 = .ok (.iaload, 1) := by decide +kernel
theorem dX9_why_263 : decode cX9_why 263 = .ok (.aload_n 0, 1) := by decide +kernel
theorem dX9_why_264 : decode cX9_why 264 = .ok (.getfield 13, 3) := by decide +kernel
theorem dX9_why_267 : decode cX9_why 267 = .ok (.bipush 6, 2) := by decide +kernel
theorem dX9_why_269 : decode cX9_why 269 = .ok (.iaload, 1) := by decide +kernel
theorem dX9_why_270 : decode cX9_why 270 = .ok (.if_icmp .le 20, 3) := by decide +kernel
theorem dX9_why_273 : decode cX9_why 273 = .ok (.aload_n 0, 1) := by decide +kernel
theorem dX9_why_274 : decode cX9_why 274 = .ok (.getfield 35, 3) := by decide +kernel
theorem dX9_why_277 : decode cX9_why 277 = .ok (.iconst 0, 1) := by decide +kernel
theorem dX9_why_278 : decode cX9_why 278 = .ok (.iaload, 1) := by decide +kernel
theorem dX9_why_279 : decode cX9_why 279 = .ok (.aload_n 0, 1) := by decide +kernel
theorem dX9_why_280 : decode cX9_why 280 = .ok (.getfield 13, 3) := by decide +kernel
theorem dX9_why_283 : decode cX9_why 283 = .ok (.bipush 6, 2) := by decide +kernel
theorem dX9_why_285 : decode cX9_why 285 = .ok (.iaload, 1) := by decide +kernel
theorem dX9_why_286 : decode cX9_why 286 = .ok (.isub, 1) := by decide +kernel
theorem dX9_why_287 : decode cX9_why 287 = .ok (.goto 4, 3) := by decide +kernel
theorem dX9_why_290 : decode cX9_why 290 = .ok (.iconst 0, 1) := by decide +kernel
theorem dX9_why_291 : decode cX9_why 291 = .ok (.istore 4, 2) := by decide +kernel
theorem dX9_why_293 : decode cX9_why 293 = .ok (.iconst 1, 1) := by decide +kernel
theorem dX9_why_294 : decode cX9_why 294 = .ok (.istore 5, 2) := by decide +kernel
theorem dX9_why_296 : decode cX9_why 296 = .ok (.iload 5, 2) := by decide +kernel
theorem dX9_why_298 : decode cX9_why 298 = .ok (.aload_n 0, 1) := by decide +kernel
theorem dX9_why_299 : decode cX9_why 299 = .ok (.getfield 41, 3) := by decide +kernel
theorem dX9_why_302 : decode cX9_why 302 = .ok (.if_icmp .ge 41, 3) := by decide +kernel
theorem dX9_why_305 : decode cX9_why 305 = .ok (.aload_n 0, 1) := by decide +kernel
theorem dX9_why_306 : decode cX9_why 306 = .ok (.getfield 29, 3) := by decide +kernel
theorem dX9_why_309 : decode cX9_why 309 = .ok (.iload_n 1, 1) := by decide +kernel
theorem dX9_why_310 : decode cX9_why 310 = .ok (.iaload, 1) := by decide +kernel
theorem dX9_why_311 : decode cX9_why 311 = .ok (.aload_n 0, 1) := by decide +kernel
theorem dX9_why_312 : decode cX9_why 312 = .ok (.getfield 32, 3) := by decide +kernel
theorem dX9_why_315 : decode cX9_why 315 = .ok (.iload 5, 2) := by decide +kernel
theorem dX9_why_317 : decode cX9_why 317 = .ok (.iaload, 1) := by decide +kernel
theorem dX9_why_318 : decode cX9_why 318 = .ok (.ishr, 1) := by decide +kernel
theorem dX9_why_319 : decode cX9_why 319 = .ok (.iconst 1, 1) := by decide +kernel
theorem dX9_why_320 : decode cX9_why 320 = .ok (.iand, 1) := by decide +kernel
theorem dX9_why_321 : decode cX9_why 321 = .ok (.iconst 1, 1) := by decide +kernel
theorem dX9_why_322 : decode cX9_why 322 = .ok (.if_icmp .ne 15, 3) := by decide +kernel
theorem dX9_why_325 : decode cX9_why 325 = .ok (.iload 4, 2) := by decide +kernel
theorem dX9_why_327 : decode cX9_why 327 = .ok (.aload_n 0, 1) := by decide +kernel
theorem dX9_why_328 : decode cX9_why 328 = .ok (.getfield 35, 3) := by decide +kernel
theorem dX9_why_331 : decode cX9_why 331 = .ok (.iload 5, 2) := by decide +kernel
theorem dX9_why_333 : decode cX9_why 333 = .ok (.iaload, 1) := by decide +kernel
theorem dX9_why_334 : decode cX9_why 334 = .ok (.iadd, 1) := by decide +kernel
theorem dX9_why_335 : decode cX9_why 335 = .ok (.istore 4, 2) := by decide +kernel
theorem dX9_why_337 : decode cX9_why 337 = .ok (.iinc 5 1, 3) := by decide +kernel
theorem dX9_why_340 : decode cX9_why 340 = .ok (.goto (-44), 3) := by decide +kernel
theorem dX9_why_343 : decode cX9_why 343 = .ok (.iload 4, 2) := by decide +kernel
theorem dX9_why_345 : decode cX9_why 345 = .ok (.iload_n 2, 1) := by decide +kernel
theorem dX9_why_346 : decode cX9_why 346 = .ok (.if_icmp .ge 8, 3) := by decide +kernel
theorem dX9_why_349 : decode cX9_why 349 = .ok (.bipush 10, 2) := by decide +kernel
theorem dX9_why_351 : decode cX9_why 351 = .ok (.goto 4, 3) := by decide +kernel
theorem dX9_why_354 : decode cX9_why 354 = .ok (.iconst 0, 1) := by decide +kernel
theorem dX9_why_355 : decode cX9_why 355 = .ok (.ireturn, 1) := by decide +kernel
theorem dX9_ask_0 : decode cX9_ask 0 = .ok (.aload_n 0, 1) := by decide +kernel
theorem dX9_ask_1 : decode cX9_ask 1 = .ok (.iconst 0, 1) := by decide +kernel
theorem dX9_ask_2 : decode cX9_ask 2 = .ok (.putfield 105, 3) := by decide +kernel
theorem dX9_ask_5 : decode cX9_ask 5 = .ok (.aload_n 0, 1) := by decide +kernel
theorem dX9_ask_6 : decode cX9_ask 6 = .ok (.getfield 108, 3) := by decide +kernel
theorem dX9_ask_9 : decode cX9_ask 9 = .ok (.istore_n 3, 1) := by decide +kernel
theorem dX9_ask_10 : decode cX9_ask 10 = .ok (.aload_n 0, 1) := by decide +kernel
theorem dX9_ask_11 : decode cX9_ask 11 = .ok (.iconst 0, 1) := by decide +kernel
theorem dX9_ask_12 : decode cX9_ask 12 = .ok (.putfield 108, 3) := by decide +kernel
theorem dX9_ask_15 : decode cX9_ask 15 = .ok (.aload_n 0, 1) := by decide +kernel
theorem dX9_ask_16 : decode cX9_ask 16 = .ok (.iload_n 1, 1) := by decide +kernel
theorem dX9_ask_17 : decode cX9_ask 17 = .ok (.iload_n 2, 1) := by decide +kernel
theorem dX9_ask_18 : decode cX9_ask 18 = .ok (.iload_n 3, 1) := by decide +kernel
theorem dX9_ask_19 : decode cX9_ask 19 = .ok (.invokevirtual 226, 3) := by decide +kernel
theorem dX9_ask_22 : decode cX9_ask 22 = .ok (.istore 4, 2) := by decide +kernel
theorem dX9_ask_24 : decode cX9_ask 24 = .ok (.iload 4, 2) := by decide +kernel
theorem dX9_ask_26 : decode cX9_ask 26 = .ok (.ifCond .le 8, 3) := by decide +kernel
theorem dX9_ask_29 : decode cX9_ask 29 = .ok (.iconst (-1), 1) := by decide +kernel
theorem dX9_ask_30 : decode cX9_ask 30 = .ok (.iload 4, 2) := by decide +kernel
theorem dX9_ask_32 : decode cX9_ask 32 = .ok (.isub, 1) := by decide +kernel
theorem dX9_ask_33 : decode cX9_ask 33 = .ok (.ireturn, 1) := by decide +kernel
theorem dX9_ask_34 : decode cX9_ask 34 = .ok (.aload_n 0, 1) := by decide +kernel
theorem dX9_ask_35 : decode cX9_ask 35 = .ok (.getfield 198, 3) := by decide +kernel
theorem dX9_ask_38 : decode cX9_ask 38 = .ok (.istore 5, 2) := by decide +kernel
theorem dX9_ask_40 : decode cX9_ask 40 = .ok (.aload_n 0, 1) := by decide +kernel
theorem dX9_ask_41 : decode cX9_ask 41 = .ok (.getfield 45, 3) := by decide +kernel
theorem dX9_ask_44 : decode cX9_ask 44 = .ok (.iload 5, 2) := by decide +kernel
theorem dX9_ask_46 : decode cX9_ask 46 = .ok (.iload_n 1, 1) := by decide +kernel
theorem dX9_ask_47 : decode cX9_ask 47 = .ok (.iastore, 1) := by decide +kernel
theorem dX9_ask_48 : decode cX9_ask 48 = .ok (.aload_n 0, 1) := by decide +kernel
theorem dX9_ask_49 : decode cX9_ask 49 = .ok (.getfield 48, 3) := by decide +kernel
theorem dX9_ask_52 : decode cX9_ask 52 = .ok (.iload 5, 2) := by decide +kernel
theorem dX9_ask_54 : decode cX9_ask 54 = .ok (.iload_n 2, 1) := by decide +kernel
theorem dX9_ask_55 : decode cX9_ask 55 = .ok (.iastore, 1) := by decide +kernel
theorem dX9_ask_56 : decode cX9_ask 56 = .ok (.aload_n 0, 1) := by decide +kernel
theorem dX9_ask_57 : decode cX9_ask 57 = .ok (.getfield 51, 3) := by decide +kernel
theorem dX9_ask_60 : decode cX9_ask 60 = .ok (.iload 5, 2) := by decide +kernel
theorem dX9_ask_62 : decode cX9_ask 62 = .ok (.aload_n 0, 1) := by decide +kernel
theorem dX9_ask_63 : decode cX9_ask 63 = .ok (.getfield 230, 3) := by decide +kernel
theorem dX9_ask_66 : decode cX9_ask 66 = .ok (.iastore, 1) := by decide +kernel
theorem dX9_ask_67 : decode cX9_ask 67 = .ok (.aload_n 0, 1) := by decide +kernel
theorem dX9_ask_68 : decode cX9_ask 68 = .ok (.getfield 54, 3) := by decide +kernel
theorem dX9_ask_71 : decode cX9_ask 71 = .ok (.iload 5, 2) := by decide +kernel
theorem dX9_ask_73 : decode cX9_ask 73 = .ok (.aload_n 0, 1) := by decide +kernel
theorem dX9_ask_74 : decode cX9_ask 74 = .ok (.getfield 13, 3) := by decide +kernel
theorem dX9_ask_77 : decode cX9_ask 77 = .ok (.iconst 1, 1) := by decide +kernel
theorem dX9_ask_78 : decode cX9_ask 78 = .ok (.iaload, 1) := by decide +kernel
theorem dX9_ask_79 : decode cX9_ask 79 = .ok (.iastore, 1) := by decide +kernel
theorem dX9_ask_80 : decode cX9_ask 80 = .ok (.aload_n 0, 1) := by decide +kernel
theorem dX9_ask_81 : decode cX9_ask 81 = .ok (.getfield 57, 3) := by decide +kernel
theorem dX9_ask_84 : decode cX9_ask 84 = .ok (.iload 5, 2) := by decide +kernel
theorem dX9_ask_86 : decode cX9_ask 86 = .ok (.aload_n 0, 1) := by decide +kernel
theorem dX9_ask_87 : decode cX9_ask 87 = .ok (.getfield 13, 3) := by decide +kernel
theorem dX9_ask_90 : decode cX9_ask 90 = .ok (.iconst 4, 1) := by decide +kernel
theorem dX9_ask_91 : decode cX9_ask 91 = .ok (.iaload, 1) := by decide +kernel
theorem dX9_ask_92 : decode cX9_ask 92 = .ok (.iastore, 1) := by decide +kernel
theorem dX9_ask_93 : decode cX9_ask 93 = .ok (.aload_n 0, 1) := by decide +kernel
theorem dX9_ask_94 : decode cX9_ask 94 = .ok (.getfield 60, 3) := by decide +kernel
theorem dX9_ask_97 : decode cX9_ask 97 = .ok (.iload 5, 2) := by decide +kernel
theorem dX9_ask_99 : decode cX9_ask 99 = .ok (.aload_n 0, 1) := by decide +kernel
theorem dX9_ask_100 : decode cX9_ask 100 = .ok (.getfield 13, 3) := by decide +kernel
theorem dX9_ask_103 : decode cX9_ask 103 = .ok (.iconst 5, 1) := by decide +kernel
theorem dX9_ask_104 : decode cX9_ask 104 = .ok (.iaload, 1) := by decide +kernel
theorem dX9_ask_105 : decode cX9_ask 105 = .ok (.iastore, 1) := by decide +kernel
theorem dX9_ask_106 : decode cX9_ask 106 = .ok (.aload_n 0, 1) := by decide +kernel
theorem dX9_ask_107 : decode cX9_ask 107 = .ok (.getfield 84, 3) := by decide +kernel
theorem dX9_ask_110 : decode cX9_ask 110 = .ok (.iload 5, 2) := by decide +kernel
theorem dX9_ask_112 : decode cX9_ask 112 = .ok (.iload_n 3, 1) := by decide +kernel
theorem dX9_ask_113 : decode cX9_ask 113 = .ok (.iastore, 1) := by decide +kernel
theorem dX9_ask_114 : decode cX9_ask 114 = .ok (.iconst 0, 1) := by decide +kernel
theorem dX9_ask_115 : decode cX9_ask 115 = .ok (.istore 6, 2) := by decide +kernel
theorem dX9_ask_117 : decode cX9_ask 117 = .ok (.iload 6, 2) := by decide +kernel
theorem dX9_ask_119 : decode cX9_ask 119 = .ok (.iload_n 3, 1) := by decide +kernel
theorem dX9_ask_120 : decode cX9_ask 120 = .ok (.if_icmp .ge 28, 3) := by decide +kernel
theorem dX9_ask_123 : decode cX9_ask 123 = .ok (.aload_n 0, 1) := by decide +kernel
theorem dX9_ask_124 : decode cX9_ask 124 = .ok (.getfield 87, 3) := by decide +kernel
theorem dX9_ask_127 : decode cX9_ask 127 = .ok (.iconst 3, 1) := by decide +kernel
theorem dX9_ask_128 : decode cX9_ask 128 = .ok (.iload 5, 2) := by decide +kernel
theorem dX9_ask_130 : decode cX9_ask 130 = .ok (.imul, 1) := by decide +kernel
theorem dX9_ask_131 : decode cX9_ask 131 = .ok (.iload 6, 2) := by decide +kernel
theorem dX9_ask_133 : decode cX9_ask 133 = .ok (.iadd, 1) := by decide +kernel
theorem dX9_ask_134 : decode cX9_ask 134 = .ok (.aload_n 0, 1) := by decide +kernel
theorem dX9_ask_135 : decode cX9_ask 135 = .ok (.getfield 7, 3) := by decide +kernel
theorem dX9_ask_138 : decode cX9_ask 138 = .ok (.iload 6, 2) := by decide +kernel
theorem dX9_ask_140 : decode cX9_ask 140 = .ok (.iaload, 1) := by decide +kernel
theorem dX9_ask_141 : decode cX9_ask 141 = .ok (.iastore, 1) := by decide +kernel
theorem dX9_ask_142 : decode cX9_ask 142 = .ok (.iinc 6 1, 3) := by decide +kernel
theorem dX9_ask_145 : decode cX9_ask 145 = .ok (.goto (-28), 3) := by decide +kernel
theorem dX9_ask_148 : decode cX9_ask 148 = .ok (.iload_n 2, 1) := by decide +kernel
theorem dX9_ask_149 : decode cX9_ask 149 = .ok (.istore 6, 2) := by decide +kernel
theorem dX9_ask_151 : decode cX9_ask 151 = .ok (.iconst 1, 1) := by decide +kernel
theorem dX9_ask_152 : decode cX9_ask 152 = .ok (.istore 7, 2) := by decide +kernel
theorem dX9_ask_154 : decode cX9_ask 154 = .ok (.iload 7, 2) := by decide +kernel
theorem dX9_ask_156 : decode cX9_ask 156 = .ok (.aload_n 0, 1) := by decide +kernel
theorem dX9_ask_157 : decode cX9_ask 157 = .ok (.getfield 41, 3) := by decide +kernel
theorem dX9_ask_160 : decode cX9_ask 160 = .ok (.if_icmp .ge 91, 3) := by decide +kernel
theorem dX9_ask_163 : decode cX9_ask 163 = .ok (.aload_n 0, 1) := by decide +kernel
theorem dX9_ask_164 : decode cX9_ask 164 = .ok (.getfield 29, 3) := by decide +kernel
theorem dX9_ask_167 : decode cX9_ask 167 = .ok (.iload_n 1, 1) := by decide +kernel
theorem dX9_ask_168 : decode cX9_ask 168 = .ok (.iaload, 1) := by decide +kernel
theorem dX9_ask_169 : decode cX9_ask 169 = .ok (.aload_n 0, 1) := by decide +kernel
theorem dX9_ask_170 : decode cX9_ask 170 = .ok (.getfield 32, 3) := by decide +kernel
theorem dX9_ask_173 : decode cX9_ask 173 = .ok (.iload 7, 2) := by decide +kernel
theorem dX9_ask_175 : decode cX9_ask 175 = .ok (.iaload, 1) := by decide +kernel
theorem dX9_ask_176 : decode cX9_ask 176 = .ok (.ishr, 1) := by decide +kernel
theorem dX9_ask_177 : decode cX9_ask 177 = .ok (.iconst 1, 1) := by decide +kernel
theorem dX9_ask_178 : decode cX9_ask 178 = .ok (.iand, 1) := by decide +kernel
theorem dX9_ask_179 : decode cX9_ask 179 = .ok (.ifCond .ne 6, 3) := by decide +kernel
theorem dX9_ask_182 : decode cX9_ask 182 = .ok (.goto 63, 3) := by decide +kernel
theorem dX9_ask_185 : decode cX9_ask 185 = .ok (.iload 6, 2) := by decide +kernel
theorem dX9_ask_187 : decode cX9_ask 187 = .ok (.aload_n 0, 1) := by decide +kernel
theorem dX9_ask_188 : decode cX9_ask 188 = .ok (.getfield 35, 3) := by decide +kernel
theorem dX9_ask_191 : decode cX9_ask 191 = .ok (.iload 7, 2) := by decide +kernel
theorem dX9_ask_193 : decode cX9_ask 193 = .ok (.iaload, 1) := by decide +kernel
theorem dX9_ask_194 : decode cX9_ask 194 = .ok (.if_icmp .ge 8, 3) := by decide +kernel
theorem dX9_ask_197 : decode cX9_ask 197 = .ok (.iload 6, 2) := by decide +kernel
theorem dX9_ask_199 : decode cX9_ask 199 = .ok (.goto 10, 3) := by decide +kernel
theorem dX9_ask_202 : decode cX9_ask 202 = .ok (.aload_n 0, 1) := by decide +kernel
theorem dX9_ask_203 : decode cX9_ask 203 = .ok (.getfield 35, 3) := by decide +kernel
theorem dX9_ask_206 : decode cX9_ask 206 = .ok (.iload 7, 2) := by decide +kernel
theorem dX9_ask_208 : decode cX9_ask 208 = .ok (.iaload, 1) := by decide +kernel
theorem dX9_ask_209 : decode cX9_ask 209 = .ok (.istore 8, 2) := by decide +kernel
theorem dX9_ask_211 : decode cX9_ask 211 = .ok (.aload_n 0, 1) := by decide +kernel
theorem dX9_ask_212 : decode cX9_ask 212 = .ok (.getfield 90, 3) := by decide +kernel
theorem dX9_ask_215 : decode cX9_ask 215 = .ok (.bipush 6, 2) := by decide +kernel
theorem dX9_ask_217 : decode cX9_ask 217 = .ok (.iload 5, 2) := by decide +kernel
theorem dX9_ask_219 : decode cX9_ask 219 = .ok (.imul, 1) := by decide +kernel
theorem dX9_ask_220 : decode cX9_ask 220 = .ok (.iload 7, 2) := by decide +kernel
theorem dX9_ask_222 : decode cX9_ask 222 = .ok (.iadd, 1) := by decide +kernel
theorem dX9_ask_223 : decode cX9_ask 223 = .ok (.iload 8, 2) := by decide +kernel
theorem dX9_ask_225 : decode cX9_ask 225 = .ok (.iastore, 1) := by decide +kernel
theorem dX9_ask_226 : decode cX9_ask 226 = .ok (.aload_n 0, 1) := by decide +kernel
theorem dX9_ask_227 : decode cX9_ask 227 = .ok (.getfield 35, 3) := by decide +kernel
theorem dX9_ask_230 : decode cX9_ask 230 = .ok (.iload 7, 2) := by decide +kernel
theorem dX9_ask_232 : decode cX9_ask 232 = .ok (.dup2, 1) := by decide +kernel
theorem dX9_ask_233 : decode cX9_ask 233 = .ok (.iaload, 1) := by decide +kernel
theorem dX9_ask_234 : decode cX9_ask 234 = .ok (.iload 8, 2) := by decide +kernel
theorem dX9_ask_236 : decode cX9_ask 236 = .ok (.isub, 1) := by decide +kernel
theorem dX9_ask_237 : decode cX9_ask 237 = .ok (.iastore, 1) := by decide +kernel
theorem dX9_ask_238 : decode cX9_ask 238 = .ok (.iload 6, 2) := by decide +kernel
theorem dX9_ask_240 : decode cX9_ask 240 = .ok (.iload 8, 2) := by decide +kernel
theorem dX9_ask_242 : decode cX9_ask 242 = .ok (.isub, 1) := by decide +kernel
theorem dX9_ask_243 : decode cX9_ask 243 = .ok (.istore 6, 2) := by decide +kernel
theorem dX9_ask_245 : decode cX9_ask 245 = .ok (.iinc 7 1, 3) := by decide +kernel
theorem dX9_ask_248 : decode cX9_ask 248 = .ok (.goto (-94), 3) := by decide +kernel
theorem dX9_ask_251 : decode cX9_ask 251 = .ok (.aload_n 0, 1) := by decide +kernel
theorem dX9_ask_252 : decode cX9_ask 252 = .ok (.getfield 90, 3) := by decide +kernel
theorem dX9_ask_255 : decode cX9_ask 255 = .ok (.bipush 6, 2) := by decide +kernel
theorem dX9_ask_257 : decode cX9_ask 257 = .ok (.iload 5, 2) := by decide +kernel
theorem dX9_ask_259 : decode cX9_ask 259 = .ok (.imul, 1) := by decide +kernel
theorem dX9_ask_260 : decode cX9_ask 260 = .ok (.iload 6, 2) := by decide +kernel
theorem dX9_ask_262 : decode cX9_ask 262 = .ok (.iastore, 1) := by decide +kernel
theorem dX9_ask_263 : decode cX9_ask 263 = .ok (.aload_n 0, 1) := by decide +kernel
theorem dX9_ask_264 : decode cX9_ask 264 = .ok (.getfield 35, 3) := by decide +kernel
theorem dX9_ask_267 : decode cX9_ask 267 = .ok (.iconst 0, 1) := by decide +kernel
theorem dX9_ask_268 : decode cX9_ask 268 = .ok (.dup2, 1) := by decide +kernel
theorem dX9_ask_269 : decode cX9_ask 269 = .ok (.iaload, 1) := by decide +kernel
theorem dX9_ask_270 : decode cX9_ask 270 = .ok (.iload 6, 2) := by decide +kernel
theorem dX9_ask_272 : decode cX9_ask 272 = .ok (.isub, 1) := by decide +kernel
theorem dX9_ask_273 : decode cX9_ask 273 = .ok (.iastore, 1) := by decide +kernel
theorem dX9_ask_274 : decode cX9_ask 274 = .ok (.aload_n 0, 1) := by decide +kernel
theorem dX9_ask_275 : decode cX9_ask 275 = .ok (.dup, 1) := by decide +kernel
theorem dX9_ask_276 : decode cX9_ask 276 = .ok (.getfield 198, 3) := by decide +kernel
theorem dX9_ask_279 : decode cX9_ask 279 = .ok (.iconst 1, 1) := by decide +kernel
theorem dX9_ask_280 : decode cX9_ask 280 = .ok (.iadd, 1) := by decide +kernel
theorem dX9_ask_281 : decode cX9_ask 281 = .ok (.putfield 198, 3) := by decide +kernel
theorem dX9_ask_284 : decode cX9_ask 284 = .ok (.iload 5, 2) := by decide +kernel
theorem dX9_ask_286 : decode cX9_ask 286 = .ok (.ireturn, 1) := by decide +kernel
theorem dX9_comesBack_0 : decode cX9_comesBack 0 = .ok (.aload_n 0, 1) := by decide +kernel
theorem dX9_comesBack_1 : decode cX9_comesBack 1 = .ok (.getfield 81, 3) := by decide +kernel
theorem dX9_comesBack_4 : decode cX9_comesBack 4 = .ok (.iload_n 1, 1) := by decide +kernel
theorem dX9_comesBack_5 : decode cX9_comesBack 5 = .ok (.iaload, 1) := by decide +kernel
theorem dX9_comesBack_6 : decode cX9_comesBack 6 = .ok (.istore_n 3, 1) := by decide +kernel
theorem dX9_comesBack_7 : decode cX9_comesBack 7 = .ok (.iload_n 3, 1) := by decide +kernel
theorem dX9_comesBack_8 : decode cX9_comesBack 8 = .ok (.iload_n 2, 1) := by decide +kernel
theorem dX9_comesBack_9 : decode cX9_comesBack 9 = .ok (.iadd, 1) := by decide +kernel
theorem dX9_comesBack_10 : decode cX9_comesBack 10 = .ok (.istore 4, 2) := by decide +kernel
theorem dX9_comesBack_12 : decode cX9_comesBack 12 = .ok (.aload_n 0, 1) := by decide +kernel
theorem dX9_comesBack_13 : decode cX9_comesBack 13 = .ok (.getfield 81, 3) := by decide +kernel
theorem dX9_comesBack_16 : decode cX9_comesBack 16 = .ok (.iload_n 1, 1) := by decide +kernel
theorem dX9_comesBack_17 : decode cX9_comesBack 17 = .ok (.iload 4, 2) := by decide +kernel
theorem dX9_comesBack_19 : decode cX9_comesBack 19 = .ok (.iastore, 1) := by decide +kernel
theorem dX9_comesBack_20 : decode cX9_comesBack 20 = .ok (.iconst 0, 1) := by decide +kernel
theorem dX9_comesBack_21 : decode cX9_comesBack 21 = .ok (.istore 5, 2) := by decide +kernel
theorem dX9_comesBack_23 : decode cX9_comesBack 23 = .ok (.iconst 0, 1) := by decide +kernel
theorem dX9_comesBack_24 : decode cX9_comesBack 24 = .ok (.istore 6, 2) := by decide +kernel
theorem dX9_comesBack_26 : decode cX9_comesBack 26 = .ok (.iload 6, 2) := by decide +kernel
theorem dX9_comesBack_28 : decode cX9_comesBack 28 = .ok (.bipush 6, 2) := by decide +kernel
theorem dX9_comesBack_30 : decode cX9_comesBack 30 = .ok (.if_icmp .ge 104, 3) := by decide +kernel
theorem dX9_comesBack_33 : decode cX9_comesBack 33 = .ok (.iload 6, 2) := by decide +kernel
theorem dX9_comesBack_35 : decode cX9_comesBack 35 = .ok (.ifCond .ne 7, 3) := by decide +kernel
theorem dX9_comesBack_38 : decode cX9_comesBack 38 = .ok (.iconst 0, 1) := by decide +kernel
theorem dX9_comesBack_39 : decode cX9_comesBack 39 = .ok (.goto 8, 3) := by decide +kernel
theorem dX9_comesBack_42 : decode cX9_comesBack 42 = .ok (.bipush 6, 2) := by decide +kernel
theorem dX9_comesBack_44 : decode cX9_comesBack 44 = .ok (.iload 6, 2) := by decide +kernel
theorem dX9_comesBack_46 : decode cX9_comesBack 46 = .ok (.isub, 1) := by decide +kernel
theorem dX9_comesBack_47 : decode cX9_comesBack 47 = .ok (.istore 7, 2) := by decide +kernel
theorem dX9_comesBack_49 : decode cX9_comesBack 49 = .ok (.aload_n 0, 1) := by decide +kernel
theorem dX9_comesBack_50 : decode cX9_comesBack 50 = .ok (.getfield 90, 3) := by decide +kernel
theorem dX9_comesBack_53 : decode cX9_comesBack 53 = .ok (.bipush 6, 2) := by decide +kernel
theorem dX9_comesBack_55 : decode cX9_comesBack 55 = .ok (.iload_n 1, 1) := by decide +kernel
theorem dX9_comesBack_56 : decode cX9_comesBack 56 = .ok (.imul, 1) := by decide +kernel
theorem dX9_comesBack_57 : decode cX9_comesBack 57 = .ok (.iload 7, 2) := by decide +kernel
theorem dX9_comesBack_59 : decode cX9_comesBack 59 = .ok (.iadd, 1) := by decide +kernel
theorem dX9_comesBack_60 : decode cX9_comesBack 60 = .ok (.iaload, 1) := by decide +kernel
theorem dX9_comesBack_61 : decode cX9_comesBack 61 = .ok (.istore 8, 2) := by decide +kernel
theorem dX9_comesBack_63 : decode cX9_comesBack 63 = .ok (.iload_n 3, 1) := by decide +kernel
theorem dX9_comesBack_64 : decode cX9_comesBack 64 = .ok (.iload 5, 2) := by decide +kernel
theorem dX9_comesBack_66 : decode cX9_comesBack 66 = .ok (.if_icmp .le 7, 3) := by decide +kernel
theorem dX9_comesBack_69 : decode cX9_comesBack 69 = .ok (.iload_n 3, 1) := by decide +kernel
theorem dX9_comesBack_70 : decode cX9_comesBack 70 = .ok (.goto 5, 3) := by decide +kernel
theorem dX9_comesBack_73 : decode cX9_comesBack 73 = .ok (.iload 5, 2) := by decide +kernel
theorem dX9_comesBack_75 : decode cX9_comesBack 75 = .ok (.istore 9, 2) := by decide +kernel
theorem dX9_comesBack_77 : decode cX9_comesBack 77 = .ok (.iload 4, 2) := by decide +kernel
theorem dX9_comesBack_79 : decode cX9_comesBack 79 = .ok (.iload 5, 2) := by decide +kernel
theorem dX9_comesBack_81 : decode cX9_comesBack 81 = .ok (.iload 8, 2) := by decide +kernel
theorem dX9_comesBack_83 : decode cX9_comesBack 83 = .ok (.iadd, 1) := by decide +kernel
theorem dX9_comesBack_84 : decode cX9_comesBack 84 = .ok (.if_icmp .ge 8, 3) := by decide +kernel
theorem dX9_comesBack_87 : decode cX9_comesBack 87 = .ok (.iload 4, 2) := by decide +kernel
theorem dX9_comesBack_89 : decode cX9_comesBack 89 = .ok (.goto 8, 3) := by decide +kernel
theorem dX9_comesBack_92 : decode cX9_comesBack 92 = .ok (.iload 5, 2) := by decide +kernel
theorem dX9_comesBack_94 : decode cX9_comesBack 94 = .ok (.iload 8, 2) := by decide +kernel
theorem dX9_comesBack_96 : decode cX9_comesBack 96 = .ok (.iadd, 1) := by decide +kernel
theorem dX9_comesBack_97 : decode cX9_comesBack 97 = .ok (.istore 10, 2) := by decide +kernel
theorem dX9_comesBack_99 : decode cX9_comesBack 99 = .ok (.iload 10, 2) := by decide +kernel
theorem dX9_comesBack_101 : decode cX9_comesBack 101 = .ok (.iload 9, 2) := by decide +kernel
theorem dX9_comesBack_103 : decode cX9_comesBack 103 = .ok (.if_icmp .le 18, 3) := by decide +kernel
theorem dX9_comesBack_106 : decode cX9_comesBack 106 = .ok (.aload_n 0, 1) := by decide +kernel
theorem dX9_comesBack_107 : decode cX9_comesBack 107 = .ok (.getfield 35, 3) := by decide +kernel
theorem dX9_comesBack_110 : decode cX9_comesBack 110 = .ok (.iload 7, 2) := by decide +kernel
theorem dX9_comesBack_112 : decode cX9_comesBack 112 = .ok (.dup2, 1) := by decide +kernel
theorem dX9_comesBack_113 : decode cX9_comesBack 113 = .ok (.iaload, 1) := by decide +kernel
theorem dX9_comesBack_114 : decode cX9_comesBack 114 = .ok (.iload 10, 2) := by decide +kernel
theorem dX9_comesBack_116 : decode cX9_comesBack 116 = .ok (.iload 9, 2) := by decide +kernel
theorem dX9_comesBack_118 : decode cX9_comesBack 118 = .ok (.isub, 1) := by decide +kernel
theorem dX9_comesBack_119 : decode cX9_comesBack 119 = .ok (.iadd, 1) := by decide +kernel
theorem dX9_comesBack_120 : decode cX9_comesBack 120 = .ok (.iastore, 1) := by decide +kernel
theorem dX9_comesBack_121 : decode cX9_comesBack 121 = .ok (.iload 5, 2) := by decide +kernel
theorem dX9_comesBack_123 : decode cX9_comesBack 123 = .ok (.iload 8, 2) := by decide +kernel
theorem dX9_comesBack_125 : decode cX9_comesBack 125 = .ok (.iadd, 1) := by decide +kernel
theorem dX9_comesBack_126 : decode cX9_comesBack 126 = .ok (.istore 5, 2) := by decide +kernel
theorem dX9_comesBack_128 : decode cX9_comesBack 128 = .ok (.iinc 6 1, 3) := by decide +kernel
theorem dX9_comesBack_131 : decode cX9_comesBack 131 = .ok (.goto (-105), 3) := by decide +kernel
theorem dX9_comesBack_134 : decode cX9_comesBack 134 = .ok (.return_, 1) := by decide +kernel
theorem dX9_callsOf_0 : decode cX9_callsOf 0 = .ok (.iconst 0, 1) := by decide +kernel
theorem dX9_callsOf_1 : decode cX9_callsOf 1 = .ok (.istore_n 2, 1) := by decide +kernel
theorem dX9_callsOf_2 : decode cX9_callsOf 2 = .ok (.iconst 0, 1) := by decide +kernel
theorem dX9_callsOf_3 : decode cX9_callsOf 3 = .ok (.istore_n 3, 1) := by decide +kernel
theorem dX9_callsOf_4 : decode cX9_callsOf 4 = .ok (.iload_n 3, 1) := by decide +kernel
theorem dX9_callsOf_5 : decode cX9_callsOf 5 = .ok (.aload_n 0, 1) := by decide +kernel
theorem dX9_callsOf_6 : decode cX9_callsOf 6 = .ok (.getfield 201, 3) := by decide +kernel
theorem dX9_callsOf_9 : decode cX9_callsOf 9 = .ok (.if_icmp .ge 28, 3) := by decide +kernel
theorem dX9_callsOf_12 : decode cX9_callsOf 12 = .ok (.aload_n 0, 1) := by decide +kernel
theorem dX9_callsOf_13 : decode cX9_callsOf 13 = .ok (.getfield 93, 3) := by decide +kernel
theorem dX9_callsOf_16 : decode cX9_callsOf 16 = .ok (.iload_n 3, 1) := by decide +kernel
theorem dX9_callsOf_17 : decode cX9_callsOf 17 = .ok (.iaload, 1) := by decide +kernel
theorem dX9_callsOf_18 : decode cX9_callsOf 18 = .ok (.iload_n 1, 1) := by decide +kernel
theorem dX9_callsOf_19 : decode cX9_callsOf 19 = .ok (.if_icmp .ne 12, 3) := by decide +kernel
theorem dX9_callsOf_22 : decode cX9_callsOf 22 = .ok (.iload_n 2, 1) := by decide +kernel
theorem dX9_callsOf_23 : decode cX9_callsOf 23 = .ok (.aload_n 0, 1) := by decide +kernel
theorem dX9_callsOf_24 : decode cX9_callsOf 24 = .ok (.getfield 99, 3) := by decide +kernel
theorem dX9_callsOf_27 : decode cX9_callsOf 27 = .ok (.iload_n 3, 1) := by decide +kernel
theorem dX9_callsOf_28 : decode cX9_callsOf 28 = .ok (.iaload, 1) := by decide +kernel
theorem dX9_callsOf_29 : decode cX9_callsOf 29 = .ok (.iadd, 1) := by decide +kernel
theorem dX9_callsOf_30 : decode cX9_callsOf 30 = .ok (.istore_n 2, 1) := by decide +kernel
theorem dX9_callsOf_31 : decode cX9_callsOf 31 = .ok (.iinc 3 1, 3) := by decide +kernel
theorem dX9_callsOf_34 : decode cX9_callsOf 34 = .ok (.goto (-30), 3) := by decide +kernel
theorem dX9_callsOf_37 : decode cX9_callsOf 37 = .ok (.iload_n 2, 1) := by decide +kernel
theorem dX9_callsOf_38 : decode cX9_callsOf 38 = .ok (.ireturn, 1) := by decide +kernel
theorem dX9_owed_0 : decode cX9_owed 0 = .ok (.aload_n 0, 1) := by decide +kernel
theorem dX9_owed_1 : decode cX9_owed 1 = .ok (.iload_n 1, 1) := by decide +kernel
theorem dX9_owed_2 : decode cX9_owed 2 = .ok (.invokevirtual 207, 3) := by decide +kernel
theorem dX9_owed_5 : decode cX9_owed 5 = .ok (.istore_n 2, 1) := by decide +kernel
theorem dX9_owed_6 : decode cX9_owed 6 = .ok (.aload_n 0, 1) := by decide +kernel
theorem dX9_owed_7 : decode cX9_owed 7 = .ok (.iload_n 1, 1) := by decide +kernel
theorem dX9_owed_8 : decode cX9_owed 8 = .ok (.invokevirtual 233, 3) := by decide +kernel
theorem dX9_owed_11 : decode cX9_owed 11 = .ok (.iload_n 2, 1) := by decide +kernel
theorem dX9_owed_12 : decode cX9_owed 12 = .ok (.iconst (-1), 1) := by decide +kernel
theorem dX9_owed_13 : decode cX9_owed 13 = .ok (.if_icmp .ne 7, 3) := by decide +kernel
theorem dX9_owed_16 : decode cX9_owed 16 = .ok (.iconst 0, 1) := by decide +kernel
theorem dX9_owed_17 : decode cX9_owed 17 = .ok (.goto 30, 3) := by decide +kernel
theorem dX9_owed_20 : decode cX9_owed 20 = .ok (.aload_n 0, 1) := by decide +kernel
theorem dX9_owed_21 : decode cX9_owed 21 = .ok (.getfield 66, 3) := by decide +kernel
theorem dX9_owed_24 : decode cX9_owed 24 = .ok (.iload_n 2, 1) := by decide +kernel
theorem dX9_owed_25 : decode cX9_owed 25 = .ok (.iaload, 1) := by decide +kernel
theorem dX9_owed_26 : decode cX9_owed 26 = .ok (.aload_n 0, 1) := by decide +kernel
theorem dX9_owed_27 : decode cX9_owed 27 = .ok (.getfield 69, 3) := by decide +kernel
theorem dX9_owed_30 : decode cX9_owed 30 = .ok (.iload_n 2, 1) := by decide +kernel
theorem dX9_owed_31 : decode cX9_owed 31 = .ok (.iaload, 1) := by decide +kernel
theorem dX9_owed_32 : decode cX9_owed 32 = .ok (.isub, 1) := by decide +kernel
theorem dX9_owed_33 : decode cX9_owed 33 = .ok (.aload_n 0, 1) := by decide +kernel
theorem dX9_owed_34 : decode cX9_owed 34 = .ok (.getfield 48, 3) := by decide +kernel
theorem dX9_owed_37 : decode cX9_owed 37 = .ok (.iload_n 2, 1) := by decide +kernel
theorem dX9_owed_38 : decode cX9_owed 38 = .ok (.iaload, 1) := by decide +kernel
theorem dX9_owed_39 : decode cX9_owed 39 = .ok (.iadd, 1) := by decide +kernel
theorem dX9_owed_40 : decode cX9_owed 40 = .ok (.aload_n 0, 1) := by decide +kernel
theorem dX9_owed_41 : decode cX9_owed 41 = .ok (.getfield 63, 3) := by decide +kernel
theorem dX9_owed_44 : decode cX9_owed 44 = .ok (.iload_n 2, 1) := by decide +kernel
theorem dX9_owed_45 : decode cX9_owed 45 = .ok (.iaload, 1) := by decide +kernel
theorem dX9_owed_46 : decode cX9_owed 46 = .ok (.isub, 1) := by decide +kernel
theorem dX9_owed_47 : decode cX9_owed 47 = .ok (.iadd, 1) := by decide +kernel
theorem dX9_owed_48 : decode cX9_owed 48 = .ok (.ireturn, 1) := by decide +kernel
theorem dX9_owes_0 : decode cX9_owes 0 = .ok (.aload_n 0, 1) := by decide +kernel
theorem dX9_owes_1 : decode cX9_owes 1 = .ok (.iconst 0, 1) := by decide +kernel
theorem dX9_owes_2 : decode cX9_owes 2 = .ok (.putfield 105, 3) := by decide +kernel
theorem dX9_owes_5 : decode cX9_owes 5 = .ok (.aload_n 0, 1) := by decide +kernel
theorem dX9_owes_6 : decode cX9_owes 6 = .ok (.iload_n 1, 1) := by decide +kernel
theorem dX9_owes_7 : decode cX9_owes 7 = .ok (.invokevirtual 187, 3) := by decide +kernel
theorem dX9_owes_10 : decode cX9_owes 10 = .ok (.ifCond .eq 11, 3) := by decide +kernel
theorem dX9_owes_13 : decode cX9_owes 13 = .ok (.aload_n 0, 1) := by decide +kernel
theorem dX9_owes_14 : decode cX9_owes 14 = .ok (.iload_n 1, 1) := by decide +kernel
theorem dX9_owes_15 : decode cX9_owes 15 = .ok (.invokevirtual 236, 3) := by decide +kernel
theorem dX9_owes_18 : decode cX9_owes 18 = .ok (.goto 4, 3) := by decide +kernel
theorem dX9_owes_21 : decode cX9_owes 21 = .ok (.iconst (-1), 1) := by decide +kernel
theorem dX9_owes_22 : decode cX9_owes 22 = .ok (.ireturn, 1) := by decide +kernel
theorem dX9_pay_0 : decode cX9_pay 0 = .ok (.aload_n 0, 1) := by decide +kernel
theorem dX9_pay_1 : decode cX9_pay 1 = .ok (.iconst 0, 1) := by decide +kernel
theorem dX9_pay_2 : decode cX9_pay 2 = .ok (.putfield 105, 3) := by decide +kernel
theorem dX9_pay_5 : decode cX9_pay 5 = .ok (.aload_n 0, 1) := by decide +kernel
theorem dX9_pay_6 : decode cX9_pay 6 = .ok (.iload_n 1, 1) := by decide +kernel
theorem dX9_pay_7 : decode cX9_pay 7 = .ok (.invokevirtual 187, 3) := by decide +kernel
theorem dX9_pay_10 : decode cX9_pay 10 = .ok (.ifCond .eq 17, 3) := by decide +kernel
theorem dX9_pay_13 : decode cX9_pay 13 = .ok (.iload_n 2, 1) := by decide +kernel
theorem dX9_pay_14 : decode cX9_pay 14 = .ok (.iconst 1, 1) := by decide +kernel
theorem dX9_pay_15 : decode cX9_pay 15 = .ok (.if_icmp .lt 12, 3) := by decide +kernel
theorem dX9_pay_18 : decode cX9_pay 18 = .ok (.iload_n 2, 1) := by decide +kernel
theorem dX9_pay_19 : decode cX9_pay 19 = .ok (.aload_n 0, 1) := by decide +kernel
theorem dX9_pay_20 : decode cX9_pay 20 = .ok (.iload_n 1, 1) := by decide +kernel
theorem dX9_pay_21 : decode cX9_pay 21 = .ok (.invokevirtual 236, 3) := by decide +kernel
theorem dX9_pay_24 : decode cX9_pay 24 = .ok (.if_icmp .le 5, 3) := by decide +kernel
theorem dX9_pay_27 : decode cX9_pay 27 = .ok (.iconst 0, 1) := by decide +kernel
theorem dX9_pay_28 : decode cX9_pay 28 = .ok (.ireturn, 1) := by decide +kernel
theorem dX9_pay_29 : decode cX9_pay 29 = .ok (.iload_n 2, 1) := by decide +kernel
theorem dX9_pay_30 : decode cX9_pay 30 = .ok (.istore_n 3, 1) := by decide +kernel
theorem dX9_pay_31 : decode cX9_pay 31 = .ok (.iconst 0, 1) := by decide +kernel
theorem dX9_pay_32 : decode cX9_pay 32 = .ok (.istore 4, 2) := by decide +kernel
theorem dX9_pay_34 : decode cX9_pay 34 = .ok (.iload 4, 2) := by decide +kernel
theorem dX9_pay_36 : decode cX9_pay 36 = .ok (.aload_n 0, 1) := by decide +kernel
theorem dX9_pay_37 : decode cX9_pay 37 = .ok (.getfield 201, 3) := by decide +kernel
theorem dX9_pay_40 : decode cX9_pay 40 = .ok (.if_icmp .ge 141, 3) := by decide +kernel
theorem dX9_pay_43 : decode cX9_pay 43 = .ok (.iload_n 3, 1) := by decide +kernel
theorem dX9_pay_44 : decode cX9_pay 44 = .ok (.ifCond .le 137, 3) := by decide +kernel
theorem dX9_pay_47 : decode cX9_pay 47 = .ok (.aload_n 0, 1) := by decide +kernel
theorem dX9_pay_48 : decode cX9_pay 48 = .ok (.getfield 93, 3) := by decide +kernel
theorem dX9_pay_51 : decode cX9_pay 51 = .ok (.iload 4, 2) := by decide +kernel
theorem dX9_pay_53 : decode cX9_pay 53 = .ok (.iaload, 1) := by decide +kernel
theorem dX9_pay_54 : decode cX9_pay 54 = .ok (.iload_n 1, 1) := by decide +kernel
theorem dX9_pay_55 : decode cX9_pay 55 = .ok (.if_icmp .eq 6, 3) := by decide +kernel
theorem dX9_pay_58 : decode cX9_pay 58 = .ok (.goto 117, 3) := by decide +kernel
theorem dX9_pay_61 : decode cX9_pay 61 = .ok (.iload_n 3, 1) := by decide +kernel
theorem dX9_pay_62 : decode cX9_pay 62 = .ok (.aload_n 0, 1) := by decide +kernel
theorem dX9_pay_63 : decode cX9_pay 63 = .ok (.getfield 99, 3) := by decide +kernel
theorem dX9_pay_66 : decode cX9_pay 66 = .ok (.iload 4, 2) := by decide +kernel
theorem dX9_pay_68 : decode cX9_pay 68 = .ok (.iaload, 1) := by decide +kernel
theorem dX9_pay_69 : decode cX9_pay 69 = .ok (.if_icmp .ge 7, 3) := by decide +kernel
theorem dX9_pay_72 : decode cX9_pay 72 = .ok (.iload_n 3, 1) := by decide +kernel
theorem dX9_pay_73 : decode cX9_pay 73 = .ok (.goto 10, 3) := by decide +kernel
theorem dX9_pay_76 : decode cX9_pay 76 = .ok (.aload_n 0, 1) := by decide +kernel
theorem dX9_pay_77 : decode cX9_pay 77 = .ok (.getfield 99, 3) := by decide +kernel
theorem dX9_pay_80 : decode cX9_pay 80 = .ok (.iload 4, 2) := by decide +kernel
theorem dX9_pay_82 : decode cX9_pay 82 = .ok (.iaload, 1) := by decide +kernel
theorem dX9_pay_83 : decode cX9_pay 83 = .ok (.istore 5, 2) := by decide +kernel
theorem dX9_pay_85 : decode cX9_pay 85 = .ok (.aload_n 0, 1) := by decide +kernel
theorem dX9_pay_86 : decode cX9_pay 86 = .ok (.getfield 99, 3) := by decide +kernel
theorem dX9_pay_89 : decode cX9_pay 89 = .ok (.iload 4, 2) := by decide +kernel
theorem dX9_pay_91 : decode cX9_pay 91 = .ok (.dup2, 1) := by decide +kernel
theorem dX9_pay_92 : decode cX9_pay 92 = .ok (.iaload, 1) := by decide +kernel
theorem dX9_pay_93 : decode cX9_pay 93 = .ok (.iload 5, 2) := by decide +kernel
theorem dX9_pay_95 : decode cX9_pay 95 = .ok (.isub, 1) := by decide +kernel
theorem dX9_pay_96 : decode cX9_pay 96 = .ok (.iastore, 1) := by decide +kernel
theorem dX9_pay_97 : decode cX9_pay 97 = .ok (.iload_n 3, 1) := by decide +kernel
theorem dX9_pay_98 : decode cX9_pay 98 = .ok (.iload 5, 2) := by decide +kernel
theorem dX9_pay_100 : decode cX9_pay 100 = .ok (.isub, 1) := by decide +kernel
theorem dX9_pay_101 : decode cX9_pay 101 = .ok (.istore_n 3, 1) := by decide +kernel
theorem dX9_pay_102 : decode cX9_pay 102 = .ok (.aload_n 0, 1) := by decide +kernel
theorem dX9_pay_103 : decode cX9_pay 103 = .ok (.getfield 96, 3) := by decide +kernel
theorem dX9_pay_106 : decode cX9_pay 106 = .ok (.iload 4, 2) := by decide +kernel
theorem dX9_pay_108 : decode cX9_pay 108 = .ok (.iaload, 1) := by decide +kernel
theorem dX9_pay_109 : decode cX9_pay 109 = .ok (.istore 6, 2) := by decide +kernel
theorem dX9_pay_111 : decode cX9_pay 111 = .ok (.aload_n 0, 1) := by decide +kernel
theorem dX9_pay_112 : decode cX9_pay 112 = .ok (.getfield 48, 3) := by decide +kernel
theorem dX9_pay_115 : decode cX9_pay 115 = .ok (.iload 6, 2) := by decide +kernel
theorem dX9_pay_117 : decode cX9_pay 117 = .ok (.iaload, 1) := by decide +kernel
theorem dX9_pay_118 : decode cX9_pay 118 = .ok (.aload_n 0, 1) := by decide +kernel
theorem dX9_pay_119 : decode cX9_pay 119 = .ok (.getfield 81, 3) := by decide +kernel
theorem dX9_pay_122 : decode cX9_pay 122 = .ok (.iload 6, 2) := by decide +kernel
theorem dX9_pay_124 : decode cX9_pay 124 = .ok (.iaload, 1) := by decide +kernel
theorem dX9_pay_125 : decode cX9_pay 125 = .ok (.isub, 1) := by decide +kernel
theorem dX9_pay_126 : decode cX9_pay 126 = .ok (.iload 5, 2) := by decide +kernel
theorem dX9_pay_128 : decode cX9_pay 128 = .ok (.if_icmp .ge 21, 3) := by decide +kernel
theorem dX9_pay_131 : decode cX9_pay 131 = .ok (.aload_n 0, 1) := by decide +kernel
theorem dX9_pay_132 : decode cX9_pay 132 = .ok (.getfield 48, 3) := by decide +kernel
theorem dX9_pay_135 : decode cX9_pay 135 = .ok (.iload 6, 2) := by decide +kernel
theorem dX9_pay_137 : decode cX9_pay 137 = .ok (.iaload, 1) := by decide +kernel
theorem dX9_pay_138 : decode cX9_pay 138 = .ok (.aload_n 0, 1) := by decide +kernel
theorem dX9_pay_139 : decode cX9_pay 139 = .ok (.getfield 81, 3) := by decide +kernel
theorem dX9_pay_142 : decode cX9_pay 142 = .ok (.iload 6, 2) := by decide +kernel
theorem dX9_pay_144 : decode cX9_pay 144 = .ok (.iaload, 1) := by decide +kernel
theorem dX9_pay_145 : decode cX9_pay 145 = .ok (.isub, 1) := by decide +kernel
theorem dX9_pay_146 : decode cX9_pay 146 = .ok (.goto 5, 3) := by decide +kernel
theorem dX9_pay_149 : decode cX9_pay 149 = .ok (.iload 5, 2) := by decide +kernel
theorem dX9_pay_151 : decode cX9_pay 151 = .ok (.istore 7, 2) := by decide +kernel
theorem dX9_pay_153 : decode cX9_pay 153 = .ok (.aload_n 0, 1) := by decide +kernel
theorem dX9_pay_154 : decode cX9_pay 154 = .ok (.iload 6, 2) := by decide +kernel
theorem dX9_pay_156 : decode cX9_pay 156 = .ok (.iload 7, 2) := by decide +kernel
theorem dX9_pay_158 : decode cX9_pay 158 = .ok (.invokevirtual 239, 3) := by decide +kernel
theorem dX9_pay_161 : decode cX9_pay 161 = .ok (.aload_n 0, 1) := by decide +kernel
theorem dX9_pay_162 : decode cX9_pay 162 = .ok (.getfield 35, 3) := by decide +kernel
theorem dX9_pay_165 : decode cX9_pay 165 = .ok (.iconst 0, 1) := by decide +kernel
theorem dX9_pay_166 : decode cX9_pay 166 = .ok (.dup2, 1) := by decide +kernel
theorem dX9_pay_167 : decode cX9_pay 167 = .ok (.iaload, 1) := by decide +kernel
theorem dX9_pay_168 : decode cX9_pay 168 = .ok (.iload 5, 2) := by decide +kernel
theorem dX9_pay_170 : decode cX9_pay 170 = .ok (.iload 7, 2) := by decide +kernel
theorem dX9_pay_172 : decode cX9_pay 172 = .ok (.isub, 1) := by decide +kernel
theorem dX9_pay_173 : decode cX9_pay 173 = .ok (.iadd, 1) := by decide +kernel
theorem dX9_pay_174 : decode cX9_pay 174 = .ok (.iastore, 1) := by decide +kernel
theorem dX9_pay_175 : decode cX9_pay 175 = .ok (.iinc 4 1, 3) := by decide +kernel
theorem dX9_pay_178 : decode cX9_pay 178 = .ok (.goto (-144), 3) := by decide +kernel
theorem dX9_pay_181 : decode cX9_pay 181 = .ok (.aload_n 0, 1) := by decide +kernel
theorem dX9_pay_182 : decode cX9_pay 182 = .ok (.iload_n 1, 1) := by decide +kernel
theorem dX9_pay_183 : decode cX9_pay 183 = .ok (.invokevirtual 207, 3) := by decide +kernel
theorem dX9_pay_186 : decode cX9_pay 186 = .ok (.istore 4, 2) := by decide +kernel
theorem dX9_pay_188 : decode cX9_pay 188 = .ok (.iload 4, 2) := by decide +kernel
theorem dX9_pay_190 : decode cX9_pay 190 = .ok (.iconst (-1), 1) := by decide +kernel
theorem dX9_pay_191 : decode cX9_pay 191 = .ok (.if_icmp .ne 5, 3) := by decide +kernel
theorem dX9_pay_194 : decode cX9_pay 194 = .ok (.iconst 1, 1) := by decide +kernel
theorem dX9_pay_195 : decode cX9_pay 195 = .ok (.ireturn, 1) := by decide +kernel
theorem dX9_pay_196 : decode cX9_pay 196 = .ok (.iload_n 3, 1) := by decide +kernel
theorem dX9_pay_197 : decode cX9_pay 197 = .ok (.aload_n 0, 1) := by decide +kernel
theorem dX9_pay_198 : decode cX9_pay 198 = .ok (.getfield 66, 3) := by decide +kernel
theorem dX9_pay_201 : decode cX9_pay 201 = .ok (.iload 4, 2) := by decide +kernel
theorem dX9_pay_203 : decode cX9_pay 203 = .ok (.iaload, 1) := by decide +kernel
theorem dX9_pay_204 : decode cX9_pay 204 = .ok (.aload_n 0, 1) := by decide +kernel
theorem dX9_pay_205 : decode cX9_pay 205 = .ok (.getfield 69, 3) := by decide +kernel
theorem dX9_pay_208 : decode cX9_pay 208 = .ok (.iload 4, 2) := by decide +kernel
theorem dX9_pay_210 : decode cX9_pay 210 = .ok (.iaload, 1) := by decide +kernel
theorem dX9_pay_211 : decode cX9_pay 211 = .ok (.isub, 1) := by decide +kernel
theorem dX9_pay_212 : decode cX9_pay 212 = .ok (.if_icmp .ge 7, 3) := by decide +kernel
theorem dX9_pay_215 : decode cX9_pay 215 = .ok (.iload_n 3, 1) := by decide +kernel
theorem dX9_pay_216 : decode cX9_pay 216 = .ok (.goto 18, 3) := by decide +kernel
theorem dX9_pay_219 : decode cX9_pay 219 = .ok (.aload_n 0, 1) := by decide +kernel
theorem dX9_pay_220 : decode cX9_pay 220 = .ok (.getfield 66, 3) := by decide +kernel
theorem dX9_pay_223 : decode cX9_pay 223 = .ok (.iload 4, 2) := by decide +kernel
theorem dX9_pay_225 : decode cX9_pay 225 = .ok (.iaload, 1) := by decide +kernel
theorem dX9_pay_226 : decode cX9_pay 226 = .ok (.aload_n 0, 1) := by decide +kernel
theorem dX9_pay_227 : decode cX9_pay 227 = .ok (.getfield 69, 3) := by decide +kernel
theorem dX9_pay_230 : decode cX9_pay 230 = .ok (.iload 4, 2) := by decide +kernel
theorem dX9_pay_232 : decode cX9_pay 232 = .ok (.iaload, 1) := by decide +kernel
theorem dX9_pay_233 : decode cX9_pay 233 = .ok (.isub, 1) := by decide +kernel
theorem dX9_pay_234 : decode cX9_pay 234 = .ok (.istore 5, 2) := by decide +kernel
theorem dX9_pay_236 : decode cX9_pay 236 = .ok (.aload_n 0, 1) := by decide +kernel
theorem dX9_pay_237 : decode cX9_pay 237 = .ok (.getfield 69, 3) := by decide +kernel
theorem dX9_pay_240 : decode cX9_pay 240 = .ok (.iload 4, 2) := by decide +kernel
theorem dX9_pay_242 : decode cX9_pay 242 = .ok (.dup2, 1) := by decide +kernel
theorem dX9_pay_243 : decode cX9_pay 243 = .ok (.iaload, 1) := by decide +kernel
theorem dX9_pay_244 : decode cX9_pay 244 = .ok (.iload 5, 2) := by decide +kernel
theorem dX9_pay_246 : decode cX9_pay 246 = .ok (.iadd, 1) := by decide +kernel
theorem dX9_pay_247 : decode cX9_pay 247 = .ok (.iastore, 1) := by decide +kernel
theorem dX9_pay_248 : decode cX9_pay 248 = .ok (.aload_n 0, 1) := by decide +kernel
theorem dX9_pay_249 : decode cX9_pay 249 = .ok (.getfield 35, 3) := by decide +kernel
theorem dX9_pay_252 : decode cX9_pay 252 = .ok (.iconst 0, 1) := by decide +kernel
theorem dX9_pay_253 : decode cX9_pay 253 = .ok (.dup2, 1) := by decide +kernel
theorem dX9_pay_254 : decode cX9_pay 254 = .ok (.iaload, 1) := by decide +kernel
theorem dX9_pay_255 : decode cX9_pay 255 = .ok (.iload 5, 2) := by decide +kernel
theorem dX9_pay_257 : decode cX9_pay 257 = .ok (.iadd, 1) := by decide +kernel
theorem dX9_pay_258 : decode cX9_pay 258 = .ok (.iastore, 1) := by decide +kernel
theorem dX9_pay_259 : decode cX9_pay 259 = .ok (.iload_n 3, 1) := by decide +kernel
theorem dX9_pay_260 : decode cX9_pay 260 = .ok (.iload 5, 2) := by decide +kernel
theorem dX9_pay_262 : decode cX9_pay 262 = .ok (.isub, 1) := by decide +kernel
theorem dX9_pay_263 : decode cX9_pay 263 = .ok (.istore_n 3, 1) := by decide +kernel
theorem dX9_pay_264 : decode cX9_pay 264 = .ok (.aload_n 0, 1) := by decide +kernel
theorem dX9_pay_265 : decode cX9_pay 265 = .ok (.getfield 63, 3) := by decide +kernel
theorem dX9_pay_268 : decode cX9_pay 268 = .ok (.iload 4, 2) := by decide +kernel
theorem dX9_pay_270 : decode cX9_pay 270 = .ok (.dup2, 1) := by decide +kernel
theorem dX9_pay_271 : decode cX9_pay 271 = .ok (.iaload, 1) := by decide +kernel
theorem dX9_pay_272 : decode cX9_pay 272 = .ok (.iload_n 3, 1) := by decide +kernel
theorem dX9_pay_273 : decode cX9_pay 273 = .ok (.iadd, 1) := by decide +kernel
theorem dX9_pay_274 : decode cX9_pay 274 = .ok (.iastore, 1) := by decide +kernel
theorem dX9_pay_275 : decode cX9_pay 275 = .ok (.aload_n 0, 1) := by decide +kernel
theorem dX9_pay_276 : decode cX9_pay 276 = .ok (.iload 4, 2) := by decide +kernel
theorem dX9_pay_278 : decode cX9_pay 278 = .ok (.iload_n 3, 1) := by decide +kernel
theorem dX9_pay_279 : decode cX9_pay 279 = .ok (.invokevirtual 239, 3) := by decide +kernel
theorem dX9_pay_282 : decode cX9_pay 282 = .ok (.aload_n 0, 1) := by decide +kernel
theorem dX9_pay_283 : decode cX9_pay 283 = .ok (.getfield 63, 3) := by decide +kernel
theorem dX9_pay_286 : decode cX9_pay 286 = .ok (.iload 4, 2) := by decide +kernel
theorem dX9_pay_288 : decode cX9_pay 288 = .ok (.iaload, 1) := by decide +kernel
theorem dX9_pay_289 : decode cX9_pay 289 = .ok (.aload_n 0, 1) := by decide +kernel
theorem dX9_pay_290 : decode cX9_pay 290 = .ok (.getfield 48, 3) := by decide +kernel
theorem dX9_pay_293 : decode cX9_pay 293 = .ok (.iload 4, 2) := by decide +kernel
theorem dX9_pay_295 : decode cX9_pay 295 = .ok (.iaload, 1) := by decide +kernel
theorem dX9_pay_296 : decode cX9_pay 296 = .ok (.if_icmp .ne 28, 3) := by decide +kernel
theorem dX9_pay_299 : decode cX9_pay 299 = .ok (.aload_n 0, 1) := by decide +kernel
theorem dX9_pay_300 : decode cX9_pay 300 = .ok (.getfield 69, 3) := by decide +kernel
theorem dX9_pay_303 : decode cX9_pay 303 = .ok (.iload 4, 2) := by decide +kernel
theorem dX9_pay_305 : decode cX9_pay 305 = .ok (.iaload, 1) := by decide +kernel
theorem dX9_pay_306 : decode cX9_pay 306 = .ok (.aload_n 0, 1) := by decide +kernel
theorem dX9_pay_307 : decode cX9_pay 307 = .ok (.getfield 66, 3) := by decide +kernel
theorem dX9_pay_310 : decode cX9_pay 310 = .ok (.iload 4, 2) := by decide +kernel
theorem dX9_pay_312 : decode cX9_pay 312 = .ok (.iaload, 1) := by decide +kernel
theorem dX9_pay_313 : decode cX9_pay 313 = .ok (.if_icmp .ne 11, 3) := by decide +kernel
theorem dX9_pay_316 : decode cX9_pay 316 = .ok (.aload_n 0, 1) := by decide +kernel
theorem dX9_pay_317 : decode cX9_pay 317 = .ok (.getfield 78, 3) := by decide +kernel
theorem dX9_pay_320 : decode cX9_pay 320 = .ok (.iload 4, 2) := by decide +kernel
theorem dX9_pay_322 : decode cX9_pay 322 = .ok (.iconst 1, 1) := by decide +kernel
theorem dX9_pay_323 : decode cX9_pay 323 = .ok (.iastore, 1) := by decide +kernel
theorem dX9_pay_324 : decode cX9_pay 324 = .ok (.iconst 1, 1) := by decide +kernel
theorem dX9_pay_325 : decode cX9_pay 325 = .ok (.ireturn, 1) := by decide +kernel
theorem dX9_isLate_0 : decode cX9_isLate 0 = .ok (.aload_n 0, 1) := by decide +kernel
theorem dX9_isLate_1 : decode cX9_isLate 1 = .ok (.getfield 72, 3) := by decide +kernel
theorem dX9_isLate_4 : decode cX9_isLate 4 = .ok (.iload_n 1, 1) := by decide +kernel
theorem dX9_isLate_5 : decode cX9_isLate 5 = .ok (.dup2, 1) := by decide +kernel
theorem dX9_isLate_6 : decode cX9_isLate 6 = .ok (.iaload, 1) := by decide +kernel
theorem dX9_isLate_7 : decode cX9_isLate 7 = .ok (.iconst 1, 1) := by decide +kernel
theorem dX9_isLate_8 : decode cX9_isLate 8 = .ok (.iadd, 1) := by decide +kernel
theorem dX9_isLate_9 : decode cX9_isLate 9 = .ok (.iastore, 1) := by decide +kernel
theorem dX9_isLate_10 : decode cX9_isLate 10 = .ok (.aload_n 0, 1) := by decide +kernel
theorem dX9_isLate_11 : decode cX9_isLate 11 = .ok (.getfield 75, 3) := by decide +kernel
theorem dX9_isLate_14 : decode cX9_isLate 14 = .ok (.iload_n 1, 1) := by decide +kernel
theorem dX9_isLate_15 : decode cX9_isLate 15 = .ok (.dup2, 1) := by decide +kernel
theorem dX9_isLate_16 : decode cX9_isLate 16 = .ok (.iaload, 1) := by decide +kernel
theorem dX9_isLate_17 : decode cX9_isLate 17 = .ok (.iconst 1, 1) := by decide +kernel
theorem dX9_isLate_18 : decode cX9_isLate 18 = .ok (.iadd, 1) := by decide +kernel
theorem dX9_isLate_19 : decode cX9_isLate 19 = .ok (.iastore, 1) := by decide +kernel
theorem dX9_isLate_20 : decode cX9_isLate 20 = .ok (.aload_n 0, 1) := by decide +kernel
theorem dX9_isLate_21 : decode cX9_isLate 21 = .ok (.getfield 66, 3) := by decide +kernel
theorem dX9_isLate_24 : decode cX9_isLate 24 = .ok (.iload_n 1, 1) := by decide +kernel
theorem dX9_isLate_25 : decode cX9_isLate 25 = .ok (.dup2, 1) := by decide +kernel
theorem dX9_isLate_26 : decode cX9_isLate 26 = .ok (.iaload, 1) := by decide +kernel
theorem dX9_isLate_27 : decode cX9_isLate 27 = .ok (.aload_n 0, 1) := by decide +kernel
theorem dX9_isLate_28 : decode cX9_isLate 28 = .ok (.getfield 57, 3) := by decide +kernel
theorem dX9_isLate_31 : decode cX9_isLate 31 = .ok (.iload_n 1, 1) := by decide +kernel
theorem dX9_isLate_32 : decode cX9_isLate 32 = .ok (.iaload, 1) := by decide +kernel
theorem dX9_isLate_33 : decode cX9_isLate 33 = .ok (.iadd, 1) := by decide +kernel
theorem dX9_isLate_34 : decode cX9_isLate 34 = .ok (.iastore, 1) := by decide +kernel
theorem dX9_isLate_35 : decode cX9_isLate 35 = .ok (.aload_n 0, 1) := by decide +kernel
theorem dX9_isLate_36 : decode cX9_isLate 36 = .ok (.getfield 75, 3) := by decide +kernel
theorem dX9_isLate_39 : decode cX9_isLate 39 = .ok (.iload_n 1, 1) := by decide +kernel
theorem dX9_isLate_40 : decode cX9_isLate 40 = .ok (.iaload, 1) := by decide +kernel
theorem dX9_isLate_41 : decode cX9_isLate 41 = .ok (.aload_n 0, 1) := by decide +kernel
theorem dX9_isLate_42 : decode cX9_isLate 42 = .ok (.getfield 60, 3) := by decide +kernel
theorem dX9_isLate_45 : decode cX9_isLate 45 = .ok (.iload_n 1, 1) := by decide +kernel
theorem dX9_isLate_46 : decode cX9_isLate 46 = .ok (.iaload, 1) := by decide +kernel
theorem dX9_isLate_47 : decode cX9_isLate 47 = .ok (.if_icmp .ge 4, 3) := by decide +kernel
theorem dX9_isLate_50 : decode cX9_isLate 50 = .ok (.return_, 1) := by decide +kernel
theorem dX9_isLate_51 : decode cX9_isLate 51 = .ok (.aload_n 0, 1) := by decide +kernel
theorem dX9_isLate_52 : decode cX9_isLate 52 = .ok (.getfield 78, 3) := by decide +kernel
theorem dX9_isLate_55 : decode cX9_isLate 55 = .ok (.iload_n 1, 1) := by decide +kernel
theorem dX9_isLate_56 : decode cX9_isLate 56 = .ok (.iconst 2, 1) := by decide +kernel
theorem dX9_isLate_57 : decode cX9_isLate 57 = .ok (.iastore, 1) := by decide +kernel
theorem dX9_isLate_58 : decode cX9_isLate 58 = .ok (.aload_n 0, 1) := by decide +kernel
theorem dX9_isLate_59 : decode cX9_isLate 59 = .ok (.getfield 48, 3) := by decide +kernel
theorem dX9_isLate_62 : decode cX9_isLate 62 = .ok (.iload_n 1, 1) := by decide +kernel
theorem dX9_isLate_63 : decode cX9_isLate 63 = .ok (.iaload, 1) := by decide +kernel
theorem dX9_isLate_64 : decode cX9_isLate 64 = .ok (.aload_n 0, 1) := by decide +kernel
theorem dX9_isLate_65 : decode cX9_isLate 65 = .ok (.getfield 63, 3) := by decide +kernel
theorem dX9_isLate_68 : decode cX9_isLate 68 = .ok (.iload_n 1, 1) := by decide +kernel
theorem dX9_isLate_69 : decode cX9_isLate 69 = .ok (.iaload, 1) := by decide +kernel
theorem dX9_isLate_70 : decode cX9_isLate 70 = .ok (.isub, 1) := by decide +kernel
theorem dX9_isLate_71 : decode cX9_isLate 71 = .ok (.aload_n 0, 1) := by decide +kernel
theorem dX9_isLate_72 : decode cX9_isLate 72 = .ok (.getfield 66, 3) := by decide +kernel
theorem dX9_isLate_75 : decode cX9_isLate 75 = .ok (.iload_n 1, 1) := by decide +kernel
theorem dX9_isLate_76 : decode cX9_isLate 76 = .ok (.iaload, 1) := by decide +kernel
theorem dX9_isLate_77 : decode cX9_isLate 77 = .ok (.iadd, 1) := by decide +kernel
theorem dX9_isLate_78 : decode cX9_isLate 78 = .ok (.aload_n 0, 1) := by decide +kernel
theorem dX9_isLate_79 : decode cX9_isLate 79 = .ok (.getfield 69, 3) := by decide +kernel
theorem dX9_isLate_82 : decode cX9_isLate 82 = .ok (.iload_n 1, 1) := by decide +kernel
theorem dX9_isLate_83 : decode cX9_isLate 83 = .ok (.iaload, 1) := by decide +kernel
theorem dX9_isLate_84 : decode cX9_isLate 84 = .ok (.isub, 1) := by decide +kernel
theorem dX9_isLate_85 : decode cX9_isLate 85 = .ok (.istore_n 2, 1) := by decide +kernel
theorem dX9_isLate_86 : decode cX9_isLate 86 = .ok (.aload_n 0, 1) := by decide +kernel
theorem dX9_isLate_87 : decode cX9_isLate 87 = .ok (.getfield 84, 3) := by decide +kernel
theorem dX9_isLate_90 : decode cX9_isLate 90 = .ok (.iload_n 1, 1) := by decide +kernel
theorem dX9_isLate_91 : decode cX9_isLate 91 = .ok (.iaload, 1) := by decide +kernel
theorem dX9_isLate_92 : decode cX9_isLate 92 = .ok (.ifCond .ne 13, 3) := by decide +kernel
theorem dX9_isLate_95 : decode cX9_isLate 95 = .ok (.aload_n 0, 1) := by decide +kernel
theorem dX9_isLate_96 : decode cX9_isLate 96 = .ok (.dup, 1) := by decide +kernel
theorem dX9_isLate_97 : decode cX9_isLate 97 = .ok (.getfield 243, 3) := by decide +kernel
theorem dX9_isLate_100 : decode cX9_isLate 100 = .ok (.iload_n 2, 1) := by decide +kernel
theorem dX9_isLate_101 : decode cX9_isLate 101 = .ok (.iadd, 1) := by decide +kernel
theorem dX9_isLate_102 : decode cX9_isLate 102 = .ok (.putfield 243, 3) := by decide +kernel
theorem dX9_isLate_105 : decode cX9_isLate 105 = .ok (.iconst 0, 1) := by decide +kernel
theorem dX9_isLate_106 : decode cX9_isLate 106 = .ok (.istore_n 3, 1) := by decide +kernel
theorem dX9_isLate_107 : decode cX9_isLate 107 = .ok (.iload_n 3, 1) := by decide +kernel
theorem dX9_isLate_108 : decode cX9_isLate 108 = .ok (.aload_n 0, 1) := by decide +kernel
theorem dX9_isLate_109 : decode cX9_isLate 109 = .ok (.getfield 84, 3) := by decide +kernel
theorem dX9_isLate_112 : decode cX9_isLate 112 = .ok (.iload_n 1, 1) := by decide +kernel
theorem dX9_isLate_113 : decode cX9_isLate 113 = .ok (.iaload, 1) := by decide +kernel
theorem dX9_isLate_114 : decode cX9_isLate 114 = .ok (.if_icmp .ge 95, 3) := by decide +kernel
theorem dX9_isLate_117 : decode cX9_isLate 117 = .ok (.iload_n 2, 1) := by decide +kernel
theorem dX9_isLate_118 : decode cX9_isLate 118 = .ok (.aload_n 0, 1) := by decide +kernel
theorem dX9_isLate_119 : decode cX9_isLate 119 = .ok (.getfield 84, 3) := by decide +kernel
theorem dX9_isLate_122 : decode cX9_isLate 122 = .ok (.iload_n 1, 1) := by decide +kernel
theorem dX9_isLate_123 : decode cX9_isLate 123 = .ok (.iaload, 1) := by decide +kernel
theorem dX9_isLate_124 : decode cX9_isLate 124 = .ok (.idiv, 1) := by decide +kernel
theorem dX9_isLate_125 : decode cX9_isLate 125 = .ok (.iload_n 3, 1) := by decide +kernel
theorem dX9_isLate_126 : decode cX9_isLate 126 = .ok (.iload_n 2, 1) := by decide +kernel
theorem dX9_isLate_127 : decode cX9_isLate 127 = .ok (.aload_n 0, 1) := by decide +kernel
theorem dX9_isLate_128 : decode cX9_isLate 128 = .ok (.getfield 84, 3) := by decide +kernel
theorem dX9_isLate_131 : decode cX9_isLate 131 = .ok (.iload_n 1, 1) := by decide +kernel
theorem dX9_isLate_132 : decode cX9_isLate 132 = .ok (.iaload, 1) := by decide +kernel
theorem dX9_isLate_133 : decode cX9_isLate 133 = .ok (.irem, 1) := by decide +kernel
theorem dX9_isLate_134 : decode cX9_isLate 134 = .ok (.if_icmp .ge 7, 3) := by decide +kernel
theorem dX9_isLate_137 : decode cX9_isLate 137 = .ok (.iconst 1, 1) := by decide +kernel
theorem dX9_isLate_138 : decode cX9_isLate 138 = .ok (.goto 4, 3) := by decide +kernel
theorem dX9_isLate_141 : decode cX9_isLate 141 = .ok (.iconst 0, 1) := by decide +kernel
theorem dX9_isLate_142 : decode cX9_isLate 142 = .ok (.iadd, 1) := by decide +kernel
theorem dX9_isLate_143 : decode cX9_isLate 143 = .ok (.istore 4, 2) := by decide +kernel
theorem dX9_isLate_145 : decode cX9_isLate 145 = .ok (.iload 4, 2) := by decide +kernel
theorem dX9_isLate_147 : decode cX9_isLate 147 = .ok (.ifCond .ne 6, 3) := by decide +kernel
theorem dX9_isLate_150 : decode cX9_isLate 150 = .ok (.goto 53, 3) := by decide +kernel
theorem dX9_isLate_153 : decode cX9_isLate 153 = .ok (.aload_n 0, 1) := by decide +kernel
theorem dX9_isLate_154 : decode cX9_isLate 154 = .ok (.getfield 93, 3) := by decide +kernel
theorem dX9_isLate_157 : decode cX9_isLate 157 = .ok (.aload_n 0, 1) := by decide +kernel
theorem dX9_isLate_158 : decode cX9_isLate 158 = .ok (.getfield 201, 3) := by decide +kernel
theorem dX9_isLate_161 : decode cX9_isLate 161 = .ok (.aload_n 0, 1) := by decide +kernel
theorem dX9_isLate_162 : decode cX9_isLate 162 = .ok (.getfield 87, 3) := by decide +kernel
theorem dX9_isLate_165 : decode cX9_isLate 165 = .ok (.iconst 3, 1) := by decide +kernel
theorem dX9_isLate_166 : decode cX9_isLate 166 = .ok (.iload_n 1, 1) := by decide +kernel
theorem dX9_isLate_167 : decode cX9_isLate 167 = .ok (.imul, 1) := by decide +kernel
theorem dX9_isLate_168 : decode cX9_isLate 168 = .ok (.iload_n 3, 1) := by decide +kernel
theorem dX9_isLate_169 : decode cX9_isLate 169 = .ok (.iadd, 1) := by decide +kernel
theorem dX9_isLate_170 : decode cX9_isLate 170 = .ok (.iaload, 1) := by decide +kernel
theorem dX9_isLate_171 : decode cX9_isLate 171 = .ok (.iastore, 1) := by decide +kernel
theorem dX9_isLate_172 : decode cX9_isLate 172 = .ok (.aload_n 0, 1) := by decide +kernel
theorem dX9_isLate_173 : decode cX9_isLate 173 = .ok (.getfield 96, 3) := by decide +kernel
theorem dX9_isLate_176 : decode cX9_isLate 176 = .ok (.aload_n 0, 1) := by decide +kernel
theorem dX9_isLate_177 : decode cX9_isLate 177 = .ok (.getfield 201, 3) := by decide +kernel
theorem dX9_isLate_180 : decode cX9_isLate 180 = .ok (.iload_n 1, 1) := by decide +kernel
theorem dX9_isLate_181 : decode cX9_isLate 181 = .ok (.iastore, 1) := by decide +kernel
theorem dX9_isLate_182 : decode cX9_isLate 182 = .ok (.aload_n 0, 1) := by decide +kernel
theorem dX9_isLate_183 : decode cX9_isLate 183 = .ok (.getfield 99, 3) := by decide +kernel
theorem dX9_isLate_186 : decode cX9_isLate 186 = .ok (.aload_n 0, 1) := by decide +kernel
theorem dX9_isLate_187 : decode cX9_isLate 187 = .ok (.getfield 201, 3) := by decide +kernel
theorem dX9_isLate_190 : decode cX9_isLate 190 = .ok (.iload 4, 2) := by decide +kernel
theorem dX9_isLate_192 : decode cX9_isLate 192 = .ok (.iastore, 1) := by decide +kernel
theorem dX9_isLate_193 : decode cX9_isLate 193 = .ok (.aload_n 0, 1) := by decide +kernel
theorem dX9_isLate_194 : decode cX9_isLate 194 = .ok (.dup, 1) := by decide +kernel
theorem dX9_isLate_195 : decode cX9_isLate 195 = .ok (.getfield 201, 3) := by decide +kernel
theorem dX9_isLate_198 : decode cX9_isLate 198 = .ok (.iconst 1, 1) := by decide +kernel
theorem dX9_isLate_199 : decode cX9_isLate 199 = .ok (.iadd, 1) := by decide +kernel
theorem dX9_isLate_200 : decode cX9_isLate 200 = .ok (.putfield 201, 3) := by decide +kernel
theorem dX9_isLate_203 : decode cX9_isLate 203 = .ok (.iinc 3 1, 3) := by decide +kernel
theorem dX9_isLate_206 : decode cX9_isLate 206 = .ok (.goto (-99), 3) := by decide +kernel
theorem dX9_isLate_209 : decode cX9_isLate 209 = .ok (.return_, 1) := by decide +kernel
theorem dX9_next_0 : decode cX9_next 0 = .ok (.aload_n 0, 1) := by decide +kernel
theorem dX9_next_1 : decode cX9_next 1 = .ok (.iconst 0, 1) := by decide +kernel
theorem dX9_next_2 : decode cX9_next 2 = .ok (.putfield 105, 3) := by decide +kernel
theorem dX9_next_5 : decode cX9_next 5 = .ok (.aload_n 0, 1) := by decide +kernel
theorem dX9_next_6 : decode cX9_next 6 = .ok (.getfield 230, 3) := by decide +kernel
theorem dX9_next_9 : decode cX9_next 9 = .ok (.sipush 400, 3) := by decide +kernel
theorem dX9_next_12 : decode cX9_next 12 = .ok (.if_icmp .ne 5, 3) := by decide +kernel
theorem dX9_next_15 : decode cX9_next 15 = .ok (.iconst (-1), 1) := by decide +kernel
theorem dX9_next_16 : decode cX9_next 16 = .ok (.ireturn, 1) := by decide +kernel
theorem dX9_next_17 : decode cX9_next 17 = .ok (.iconst 0, 1) := by decide +kernel
theorem dX9_next_18 : decode cX9_next 18 = .ok (.istore_n 1, 1) := by decide +kernel
theorem dX9_next_19 : decode cX9_next 19 = .ok (.iload_n 1, 1) := by decide +kernel
theorem dX9_next_20 : decode cX9_next 20 = .ok (.aload_n 0, 1) := by decide +kernel
theorem dX9_next_21 : decode cX9_next 21 = .ok (.getfield 198, 3) := by decide +kernel
theorem dX9_next_24 : decode cX9_next 24 = .ok (.if_icmp .ge 125, 3) := by decide +kernel
theorem dX9_next_27 : decode cX9_next 27 = .ok (.aload_n 0, 1) := by decide +kernel
theorem dX9_next_28 : decode cX9_next 28 = .ok (.getfield 78, 3) := by decide +kernel
theorem dX9_next_31 : decode cX9_next 31 = .ok (.iload_n 1, 1) := by decide +kernel
theorem dX9_next_32 : decode cX9_next 32 = .ok (.iaload, 1) := by decide +kernel
theorem dX9_next_33 : decode cX9_next 33 = .ok (.ifCond .ne 110, 3) := by decide +kernel
theorem dX9_next_36 : decode cX9_next 36 = .ok (.aload_n 0, 1) := by decide +kernel
theorem dX9_next_37 : decode cX9_next 37 = .ok (.getfield 51, 3) := by decide +kernel
theorem dX9_next_40 : decode cX9_next 40 = .ok (.iload_n 1, 1) := by decide +kernel
theorem dX9_next_41 : decode cX9_next 41 = .ok (.iaload, 1) := by decide +kernel
theorem dX9_next_42 : decode cX9_next 42 = .ok (.aload_n 0, 1) := by decide +kernel
theorem dX9_next_43 : decode cX9_next 43 = .ok (.getfield 230, 3) := by decide +kernel
theorem dX9_next_46 : decode cX9_next 46 = .ok (.if_icmp .lt 6, 3) := by decide +kernel
theorem dX9_next_49 : decode cX9_next 49 = .ok (.goto 94, 3) := by decide +kernel
theorem dX9_next_52 : decode cX9_next 52 = .ok (.aload_n 0, 1) := by decide +kernel
theorem dX9_next_53 : decode cX9_next 53 = .ok (.getfield 230, 3) := by decide +kernel
theorem dX9_next_56 : decode cX9_next 56 = .ok (.aload_n 0, 1) := by decide +kernel
theorem dX9_next_57 : decode cX9_next 57 = .ok (.getfield 51, 3) := by decide +kernel
theorem dX9_next_60 : decode cX9_next 60 = .ok (.iload_n 1, 1) := by decide +kernel
theorem dX9_next_61 : decode cX9_next 61 = .ok (.iaload, 1) := by decide +kernel
theorem dX9_next_62 : decode cX9_next 62 = .ok (.isub, 1) := by decide +kernel
theorem dX9_next_63 : decode cX9_next 63 = .ok (.aload_n 0, 1) := by decide +kernel
theorem dX9_next_64 : decode cX9_next 64 = .ok (.getfield 54, 3) := by decide +kernel
theorem dX9_next_67 : decode cX9_next 67 = .ok (.iload_n 1, 1) := by decide +kernel
theorem dX9_next_68 : decode cX9_next 68 = .ok (.iaload, 1) := by decide +kernel
theorem dX9_next_69 : decode cX9_next 69 = .ok (.if_icmp .ge 17, 3) := by decide +kernel
theorem dX9_next_72 : decode cX9_next 72 = .ok (.aload_n 0, 1) := by decide +kernel
theorem dX9_next_73 : decode cX9_next 73 = .ok (.getfield 230, 3) := by decide +kernel
theorem dX9_next_76 : decode cX9_next 76 = .ok (.aload_n 0, 1) := by decide +kernel
theorem dX9_next_77 : decode cX9_next 77 = .ok (.getfield 51, 3) := by decide +kernel
theorem dX9_next_80 : decode cX9_next 80 = .ok (.iload_n 1, 1) := by decide +kernel
theorem dX9_next_81 : decode cX9_next 81 = .ok (.iaload, 1) := by decide +kernel
theorem dX9_next_82 : decode cX9_next 82 = .ok (.isub, 1) := by decide +kernel
theorem dX9_next_83 : decode cX9_next 83 = .ok (.goto 9, 3) := by decide +kernel
theorem dX9_next_86 : decode cX9_next 86 = .ok (.aload_n 0, 1) := by decide +kernel
theorem dX9_next_87 : decode cX9_next 87 = .ok (.getfield 54, 3) := by decide +kernel
theorem dX9_next_90 : decode cX9_next 90 = .ok (.iload_n 1, 1) := by decide +kernel
theorem dX9_next_91 : decode cX9_next 91 = .ok (.iaload, 1) := by decide +kernel
theorem dX9_next_92 : decode cX9_next 92 = .ok (.istore_n 2, 1) := by decide +kernel
theorem dX9_next_93 : decode cX9_next 93 = .ok (.aload_n 0, 1) := by decide +kernel
theorem dX9_next_94 : decode cX9_next 94 = .ok (.getfield 48, 3) := by decide +kernel
theorem dX9_next_97 : decode cX9_next 97 = .ok (.iload_n 1, 1) := by decide +kernel
theorem dX9_next_98 : decode cX9_next 98 = .ok (.iaload, 1) := by decide +kernel
theorem dX9_next_99 : decode cX9_next 99 = .ok (.iload_n 2, 1) := by decide +kernel
theorem dX9_next_100 : decode cX9_next 100 = .ok (.imul, 1) := by decide +kernel
theorem dX9_next_101 : decode cX9_next 101 = .ok (.aload_n 0, 1) := by decide +kernel
theorem dX9_next_102 : decode cX9_next 102 = .ok (.getfield 54, 3) := by decide +kernel
theorem dX9_next_105 : decode cX9_next 105 = .ok (.iload_n 1, 1) := by decide +kernel
theorem dX9_next_106 : decode cX9_next 106 = .ok (.iaload, 1) := by decide +kernel
theorem dX9_next_107 : decode cX9_next 107 = .ok (.iadd, 1) := by decide +kernel
theorem dX9_next_108 : decode cX9_next 108 = .ok (.iconst 1, 1) := by decide +kernel
theorem dX9_next_109 : decode cX9_next 109 = .ok (.isub, 1) := by decide +kernel
theorem dX9_next_110 : decode cX9_next 110 = .ok (.aload_n 0, 1) := by decide +kernel
theorem dX9_next_111 : decode cX9_next 111 = .ok (.getfield 54, 3) := by decide +kernel
theorem dX9_next_114 : decode cX9_next 114 = .ok (.iload_n 1, 1) := by decide +kernel
theorem dX9_next_115 : decode cX9_next 115 = .ok (.iaload, 1) := by decide +kernel
theorem dX9_next_116 : decode cX9_next 116 = .ok (.idiv, 1) := by decide +kernel
theorem dX9_next_117 : decode cX9_next 117 = .ok (.istore_n 3, 1) := by decide +kernel
theorem dX9_next_118 : decode cX9_next 118 = .ok (.aload_n 0, 1) := by decide +kernel
theorem dX9_next_119 : decode cX9_next 119 = .ok (.getfield 63, 3) := by decide +kernel
theorem dX9_next_122 : decode cX9_next 122 = .ok (.iload_n 1, 1) := by decide +kernel
theorem dX9_next_123 : decode cX9_next 123 = .ok (.iaload, 1) := by decide +kernel
theorem dX9_next_124 : decode cX9_next 124 = .ok (.iload_n 3, 1) := by decide +kernel
theorem dX9_next_125 : decode cX9_next 125 = .ok (.if_icmp .ge 11, 3) := by decide +kernel
theorem dX9_next_128 : decode cX9_next 128 = .ok (.aload_n 0, 1) := by decide +kernel
theorem dX9_next_129 : decode cX9_next 129 = .ok (.iload_n 1, 1) := by decide +kernel
theorem dX9_next_130 : decode cX9_next 130 = .ok (.invokevirtual 246, 3) := by decide +kernel
theorem dX9_next_133 : decode cX9_next 133 = .ok (.goto 10, 3) := by decide +kernel
theorem dX9_next_136 : decode cX9_next 136 = .ok (.aload_n 0, 1) := by decide +kernel
theorem dX9_next_137 : decode cX9_next 137 = .ok (.getfield 75, 3) := by decide +kernel
theorem dX9_next_140 : decode cX9_next 140 = .ok (.iload_n 1, 1) := by decide +kernel
theorem dX9_next_141 : decode cX9_next 141 = .ok (.iconst 0, 1) := by decide +kernel
theorem dX9_next_142 : decode cX9_next 142 = .ok (.iastore, 1) := by decide +kernel
theorem dX9_next_143 : decode cX9_next 143 = .ok (.iinc 1 1, 3) := by decide +kernel
theorem dX9_next_146 : decode cX9_next 146 = .ok (.goto (-127), 3) := by decide +kernel
theorem dX9_next_149 : decode cX9_next 149 = .ok (.iconst 0, 1) := by decide +kernel
theorem dX9_next_150 : decode cX9_next 150 = .ok (.istore_n 1, 1) := by decide +kernel
theorem dX9_next_151 : decode cX9_next 151 = .ok (.iload_n 1, 1) := by decide +kernel
theorem dX9_next_152 : decode cX9_next 152 = .ok (.bipush 6, 2) := by decide +kernel
theorem dX9_next_154 : decode cX9_next 154 = .ok (.if_icmp .ge 41, 3) := by decide +kernel
theorem dX9_next_157 : decode cX9_next 157 = .ok (.aload_n 0, 1) := by decide +kernel
theorem dX9_next_158 : decode cX9_next 158 = .ok (.getfield 38, 3) := by decide +kernel
theorem dX9_next_161 : decode cX9_next 161 = .ok (.bipush 6, 2) := by decide +kernel
theorem dX9_next_163 : decode cX9_next 163 = .ok (.aload_n 0, 1) := by decide +kernel
theorem dX9_next_164 : decode cX9_next 164 = .ok (.getfield 230, 3) := by decide +kernel
theorem dX9_next_167 : decode cX9_next 167 = .ok (.imul, 1) := by decide +kernel
theorem dX9_next_168 : decode cX9_next 168 = .ok (.iload_n 1, 1) := by decide +kernel
theorem dX9_next_169 : decode cX9_next 169 = .ok (.iadd, 1) := by decide +kernel
theorem dX9_next_170 : decode cX9_next 170 = .ok (.iload_n 1, 1) := by decide +kernel
theorem dX9_next_171 : decode cX9_next 171 = .ok (.aload_n 0, 1) := by decide +kernel
theorem dX9_next_172 : decode cX9_next 172 = .ok (.getfield 41, 3) := by decide +kernel
theorem dX9_next_175 : decode cX9_next 175 = .ok (.if_icmp .ge 12, 3) := by decide +kernel
theorem dX9_next_178 : decode cX9_next 178 = .ok (.aload_n 0, 1) := by decide +kernel
theorem dX9_next_179 : decode cX9_next 179 = .ok (.getfield 35, 3) := by decide +kernel
theorem dX9_next_182 : decode cX9_next 182 = .ok (.iload_n 1, 1) := by decide +kernel
theorem dX9_next_183 : decode cX9_next 183 = .ok (.iaload, 1) := by decide +kernel
theorem dX9_next_184 : decode cX9_next 184 = .ok (.goto 4, 3) := by decide +kernel
theorem dX9_next_187 : decode cX9_next 187 = .ok (.iconst (-1), 1) := by decide +kernel
theorem dX9_next_188 : decode cX9_next 188 = .ok (.iastore, 1) := by decide +kernel
theorem dX9_next_189 : decode cX9_next 189 = .ok (.iinc 1 1, 3) := by decide +kernel
theorem dX9_next_192 : decode cX9_next 192 = .ok (.goto (-41), 3) := by decide +kernel
theorem dX9_next_195 : decode cX9_next 195 = .ok (.aload_n 0, 1) := by decide +kernel
theorem dX9_next_196 : decode cX9_next 196 = .ok (.dup, 1) := by decide +kernel
theorem dX9_next_197 : decode cX9_next 197 = .ok (.getfield 230, 3) := by decide +kernel
theorem dX9_next_200 : decode cX9_next 200 = .ok (.iconst 1, 1) := by decide +kernel
theorem dX9_next_201 : decode cX9_next 201 = .ok (.iadd, 1) := by decide +kernel
theorem dX9_next_202 : decode cX9_next 202 = .ok (.putfield 230, 3) := by decide +kernel
theorem dX9_next_205 : decode cX9_next 205 = .ok (.aload_n 0, 1) := by decide +kernel
theorem dX9_next_206 : decode cX9_next 206 = .ok (.getfield 230, 3) := by decide +kernel
theorem dX9_next_209 : decode cX9_next 209 = .ok (.ireturn, 1) := by decide +kernel
theorem dX9_chest_0 : decode cX9_chest 0 = .ok (.aload_n 0, 1) := by decide +kernel
theorem dX9_chest_1 : decode cX9_chest 1 = .ok (.iconst 0, 1) := by decide +kernel
theorem dX9_chest_2 : decode cX9_chest 2 = .ok (.putfield 105, 3) := by decide +kernel
theorem dX9_chest_5 : decode cX9_chest 5 = .ok (.aload_n 0, 1) := by decide +kernel
theorem dX9_chest_6 : decode cX9_chest 6 = .ok (.iload_n 1, 1) := by decide +kernel
theorem dX9_chest_7 : decode cX9_chest 7 = .ok (.invokevirtual 194, 3) := by decide +kernel
theorem dX9_chest_10 : decode cX9_chest 10 = .ok (.ifCond .eq 15, 3) := by decide +kernel
theorem dX9_chest_13 : decode cX9_chest 13 = .ok (.iload_n 2, 1) := by decide +kernel
theorem dX9_chest_14 : decode cX9_chest 14 = .ok (.ifCond .lt 11, 3) := by decide +kernel
theorem dX9_chest_17 : decode cX9_chest 17 = .ok (.iload_n 2, 1) := by decide +kernel
theorem dX9_chest_18 : decode cX9_chest 18 = .ok (.aload_n 0, 1) := by decide +kernel
theorem dX9_chest_19 : decode cX9_chest 19 = .ok (.getfield 230, 3) := by decide +kernel
theorem dX9_chest_22 : decode cX9_chest 22 = .ok (.if_icmp .le 5, 3) := by decide +kernel
theorem dX9_chest_25 : decode cX9_chest 25 = .ok (.iconst (-1), 1) := by decide +kernel
theorem dX9_chest_26 : decode cX9_chest 26 = .ok (.ireturn, 1) := by decide +kernel
theorem dX9_chest_27 : decode cX9_chest 27 = .ok (.iload_n 2, 1) := by decide +kernel
theorem dX9_chest_28 : decode cX9_chest 28 = .ok (.aload_n 0, 1) := by decide +kernel
theorem dX9_chest_29 : decode cX9_chest 29 = .ok (.getfield 230, 3) := by decide +kernel
theorem dX9_chest_32 : decode cX9_chest 32 = .ok (.if_icmp .ne 12, 3) := by decide +kernel
theorem dX9_chest_35 : decode cX9_chest 35 = .ok (.aload_n 0, 1) := by decide +kernel
theorem dX9_chest_36 : decode cX9_chest 36 = .ok (.getfield 35, 3) := by decide +kernel
theorem dX9_chest_39 : decode cX9_chest 39 = .ok (.iload_n 1, 1) := by decide +kernel
theorem dX9_chest_40 : decode cX9_chest 40 = .ok (.iaload, 1) := by decide +kernel
theorem dX9_chest_41 : decode cX9_chest 41 = .ok (.goto 14, 3) := by decide +kernel
theorem dX9_chest_44 : decode cX9_chest 44 = .ok (.aload_n 0, 1) := by decide +kernel
theorem dX9_chest_45 : decode cX9_chest 45 = .ok (.getfield 38, 3) := by decide +kernel
theorem dX9_chest_48 : decode cX9_chest 48 = .ok (.bipush 6, 2) := by decide +kernel
theorem dX9_chest_50 : decode cX9_chest 50 = .ok (.iload_n 2, 1) := by decide +kernel
theorem dX9_chest_51 : decode cX9_chest 51 = .ok (.imul, 1) := by decide +kernel
theorem dX9_chest_52 : decode cX9_chest 52 = .ok (.iload_n 1, 1) := by decide +kernel
theorem dX9_chest_53 : decode cX9_chest 53 = .ok (.iadd, 1) := by decide +kernel
theorem dX9_chest_54 : decode cX9_chest 54 = .ok (.iaload, 1) := by decide +kernel
theorem dX9_chest_55 : decode cX9_chest 55 = .ok (.ireturn, 1) := by decide +kernel
theorem dX9_isLoan_0 : decode cX9_isLoan 0 = .ok (.iload_n 1, 1) := by decide +kernel
theorem dX9_isLoan_1 : decode cX9_isLoan 1 = .ok (.ifCond .lt 15, 3) := by decide +kernel
theorem dX9_isLoan_4 : decode cX9_isLoan 4 = .ok (.iload_n 1, 1) := by decide +kernel
theorem dX9_isLoan_5 : decode cX9_isLoan 5 = .ok (.aload_n 0, 1) := by decide +kernel
theorem dX9_isLoan_6 : decode cX9_isLoan 6 = .ok (.getfield 198, 3) := by decide +kernel
theorem dX9_isLoan_9 : decode cX9_isLoan 9 = .ok (.if_icmp .ge 7, 3) := by decide +kernel
theorem dX9_isLoan_12 : decode cX9_isLoan 12 = .ok (.iconst 1, 1) := by decide +kernel
theorem dX9_isLoan_13 : decode cX9_isLoan 13 = .ok (.goto 4, 3) := by decide +kernel
theorem dX9_isLoan_16 : decode cX9_isLoan 16 = .ok (.iconst 0, 1) := by decide +kernel
theorem dX9_isLoan_17 : decode cX9_isLoan 17 = .ok (.ireturn, 1) := by decide +kernel
theorem dX9_loan_0 : decode cX9_loan 0 = .ok (.aload_n 0, 1) := by decide +kernel
theorem dX9_loan_1 : decode cX9_loan 1 = .ok (.iload_n 1, 1) := by decide +kernel
theorem dX9_loan_2 : decode cX9_loan 2 = .ok (.invokevirtual 249, 3) := by decide +kernel
theorem dX9_loan_5 : decode cX9_loan 5 = .ok (.ifCond .eq 13, 3) := by decide +kernel
theorem dX9_loan_8 : decode cX9_loan 8 = .ok (.iload_n 2, 1) := by decide +kernel
theorem dX9_loan_9 : decode cX9_loan 9 = .ok (.ifCond .lt 9, 3) := by decide +kernel
theorem dX9_loan_12 : decode cX9_loan 12 = .ok (.iload_n 2, 1) := by decide +kernel
theorem dX9_loan_13 : decode cX9_loan 13 = .ok (.bipush 9, 2) := by decide +kernel
theorem dX9_loan_15 : decode cX9_loan 15 = .ok (.if_icmp .le 8, 3) := by decide +kernel
theorem dX9_loan_18 : decode cX9_loan 18 = .ok (.aload_n 0, 1) := by decide +kernel
theorem dX9_loan_19 : decode cX9_loan 19 = .ok (.invokevirtual 252, 3) := by decide +kernel
theorem dX9_loan_22 : decode cX9_loan 22 = .ok (.ireturn, 1) := by decide +kernel
theorem dX9_loan_23 : decode cX9_loan 23 = .ok (.aload_n 0, 1) := by decide +kernel
theorem dX9_loan_24 : decode cX9_loan 24 = .ok (.iconst 0, 1) := by decide +kernel
theorem dX9_loan_25 : decode cX9_loan 25 = .ok (.putfield 105, 3) := by decide +kernel
theorem dX9_loan_28 : decode cX9_loan 28 = .ok (.iload_n 2, 1) := by decide +kernel
theorem dX9_loan_29 : decode cX9_loan 29 = .ok (.tableswitch 114 0 8 #[51, 58, 65, 72, 79, 86, 93, 100, 107], 51) := by decide +kernel
theorem dX9_loan_80 : decode cX9_loan 80 = .ok (.aload_n 0, 1) := by decide +kernel
theorem dX9_loan_81 : decode cX9_loan 81 = .ok (.getfield 45, 3) := by decide +kernel
theorem dX9_loan_84 : decode cX9_loan 84 = .ok (.iload_n 1, 1) := by decide +kernel
theorem dX9_loan_85 : decode cX9_loan 85 = .ok (.iaload, 1) := by decide +kernel
theorem dX9_loan_86 : decode cX9_loan 86 = .ok (.ireturn, 1) := by decide +kernel
theorem dX9_loan_87 : decode cX9_loan 87 = .ok (.aload_n 0, 1) := by decide +kernel
theorem dX9_loan_88 : decode cX9_loan 88 = .ok (.getfield 48, 3) := by decide +kernel
theorem dX9_loan_91 : decode cX9_loan 91 = .ok (.iload_n 1, 1) := by decide +kernel
theorem dX9_loan_92 : decode cX9_loan 92 = .ok (.iaload, 1) := by decide +kernel
theorem dX9_loan_93 : decode cX9_loan 93 = .ok (.ireturn, 1) := by decide +kernel
theorem dX9_loan_94 : decode cX9_loan 94 = .ok (.aload_n 0, 1) := by decide +kernel
theorem dX9_loan_95 : decode cX9_loan 95 = .ok (.getfield 51, 3) := by decide +kernel
theorem dX9_loan_98 : decode cX9_loan 98 = .ok (.iload_n 1, 1) := by decide +kernel
theorem dX9_loan_99 : decode cX9_loan 99 = .ok (.iaload, 1) := by decide +kernel
theorem dX9_loan_100 : decode cX9_loan 100 = .ok (.ireturn, 1) := by decide +kernel
theorem dX9_loan_101 : decode cX9_loan 101 = .ok (.aload_n 0, 1) := by decide +kernel
theorem dX9_loan_102 : decode cX9_loan 102 = .ok (.getfield 63, 3) := by decide +kernel
theorem dX9_loan_105 : decode cX9_loan 105 = .ok (.iload_n 1, 1) := by decide +kernel
theorem dX9_loan_106 : decode cX9_loan 106 = .ok (.iaload, 1) := by decide +kernel
theorem dX9_loan_107 : decode cX9_loan 107 = .ok (.ireturn, 1) := by decide +kernel
theorem dX9_loan_108 : decode cX9_loan 108 = .ok (.aload_n 0, 1) := by decide +kernel
theorem dX9_loan_109 : decode cX9_loan 109 = .ok (.getfield 66, 3) := by decide +kernel
theorem dX9_loan_112 : decode cX9_loan 112 = .ok (.iload_n 1, 1) := by decide +kernel
theorem dX9_loan_113 : decode cX9_loan 113 = .ok (.iaload, 1) := by decide +kernel
theorem dX9_loan_114 : decode cX9_loan 114 = .ok (.ireturn, 1) := by decide +kernel
theorem dX9_loan_115 : decode cX9_loan 115 = .ok (.aload_n 0, 1) := by decide +kernel
theorem dX9_loan_116 : decode cX9_loan 116 = .ok (.getfield 69, 3) := by decide +kernel
theorem dX9_loan_119 : decode cX9_loan 119 = .ok (.iload_n 1, 1) := by decide +kernel
theorem dX9_loan_120 : decode cX9_loan 120 = .ok (.iaload, 1) := by decide +kernel
theorem dX9_loan_121 : decode cX9_loan 121 = .ok (.ireturn, 1) := by decide +kernel
theorem dX9_loan_122 : decode cX9_loan 122 = .ok (.aload_n 0, 1) := by decide +kernel
theorem dX9_loan_123 : decode cX9_loan 123 = .ok (.getfield 72, 3) := by decide +kernel
theorem dX9_loan_126 : decode cX9_loan 126 = .ok (.iload_n 1, 1) := by decide +kernel
theorem dX9_loan_127 : decode cX9_loan 127 = .ok (.iaload, 1) := by decide +kernel
theorem dX9_loan_128 : decode cX9_loan 128 = .ok (.ireturn, 1) := by decide +kernel
theorem dX9_loan_129 : decode cX9_loan 129 = .ok (.aload_n 0, 1) := by decide +kernel
theorem dX9_loan_130 : decode cX9_loan 130 = .ok (.getfield 78, 3) := by decide +kernel
theorem dX9_loan_133 : decode cX9_loan 133 = .ok (.iload_n 1, 1) := by decide +kernel
theorem dX9_loan_134 : decode cX9_loan 134 = .ok (.iaload, 1) := by decide +kernel
theorem dX9_loan_135 : decode cX9_loan 135 = .ok (.ireturn, 1) := by decide +kernel
theorem dX9_loan_136 : decode cX9_loan 136 = .ok (.aload_n 0, 1) := by decide +kernel
theorem dX9_loan_137 : decode cX9_loan 137 = .ok (.getfield 84, 3) := by decide +kernel
theorem dX9_loan_140 : decode cX9_loan 140 = .ok (.iload_n 1, 1) := by decide +kernel
theorem dX9_loan_141 : decode cX9_loan 141 = .ok (.iaload, 1) := by decide +kernel
theorem dX9_loan_142 : decode cX9_loan 142 = .ok (.ireturn, 1) := by decide +kernel
theorem dX9_loan_143 : decode cX9_loan 143 = .ok (.aload_n 0, 1) := by decide +kernel
theorem dX9_loan_144 : decode cX9_loan 144 = .ok (.getfield 81, 3) := by decide +kernel
theorem dX9_loan_147 : decode cX9_loan 147 = .ok (.iload_n 1, 1) := by decide +kernel
theorem dX9_loan_148 : decode cX9_loan 148 = .ok (.iaload, 1) := by decide +kernel
theorem dX9_loan_149 : decode cX9_loan 149 = .ok (.ireturn, 1) := by decide +kernel
theorem dX9_surety_0 : decode cX9_surety 0 = .ok (.aload_n 0, 1) := by decide +kernel
theorem dX9_surety_1 : decode cX9_surety 1 = .ok (.iload_n 1, 1) := by decide +kernel
theorem dX9_surety_2 : decode cX9_surety 2 = .ok (.invokevirtual 249, 3) := by decide +kernel
theorem dX9_surety_5 : decode cX9_surety 5 = .ok (.ifCond .eq 17, 3) := by decide +kernel
theorem dX9_surety_8 : decode cX9_surety 8 = .ok (.iload_n 2, 1) := by decide +kernel
theorem dX9_surety_9 : decode cX9_surety 9 = .ok (.ifCond .lt 13, 3) := by decide +kernel
theorem dX9_surety_12 : decode cX9_surety 12 = .ok (.iload_n 2, 1) := by decide +kernel
theorem dX9_surety_13 : decode cX9_surety 13 = .ok (.aload_n 0, 1) := by decide +kernel
theorem dX9_surety_14 : decode cX9_surety 14 = .ok (.getfield 84, 3) := by decide +kernel
theorem dX9_surety_17 : decode cX9_surety 17 = .ok (.iload_n 1, 1) := by decide +kernel
theorem dX9_surety_18 : decode cX9_surety 18 = .ok (.iaload, 1) := by decide +kernel
theorem dX9_surety_19 : decode cX9_surety 19 = .ok (.if_icmp .lt 8, 3) := by decide +kernel
theorem dX9_surety_22 : decode cX9_surety 22 = .ok (.aload_n 0, 1) := by decide +kernel
theorem dX9_surety_23 : decode cX9_surety 23 = .ok (.invokevirtual 252, 3) := by decide +kernel
theorem dX9_surety_26 : decode cX9_surety 26 = .ok (.ireturn, 1) := by decide +kernel
theorem dX9_surety_27 : decode cX9_surety 27 = .ok (.aload_n 0, 1) := by decide +kernel
theorem dX9_surety_28 : decode cX9_surety 28 = .ok (.iconst 0, 1) := by decide +kernel
theorem dX9_surety_29 : decode cX9_surety 29 = .ok (.putfield 105, 3) := by decide +kernel
theorem dX9_surety_32 : decode cX9_surety 32 = .ok (.aload_n 0, 1) := by decide +kernel
theorem dX9_surety_33 : decode cX9_surety 33 = .ok (.getfield 87, 3) := by decide +kernel
theorem dX9_surety_36 : decode cX9_surety 36 = .ok (.iconst 3, 1) := by decide +kernel
theorem dX9_surety_37 : decode cX9_surety 37 = .ok (.iload_n 1, 1) := by decide +kernel
theorem dX9_surety_38 : decode cX9_surety 38 = .ok (.imul, 1) := by decide +kernel
theorem dX9_surety_39 : decode cX9_surety 39 = .ok (.iload_n 2, 1) := by decide +kernel
theorem dX9_surety_40 : decode cX9_surety 40 = .ok (.iadd, 1) := by decide +kernel
theorem dX9_surety_41 : decode cX9_surety 41 = .ok (.iaload, 1) := by decide +kernel
theorem dX9_surety_42 : decode cX9_surety 42 = .ok (.ireturn, 1) := by decide +kernel
theorem dX9_taken_0 : decode cX9_taken 0 = .ok (.aload_n 0, 1) := by decide +kernel
theorem dX9_taken_1 : decode cX9_taken 1 = .ok (.iload_n 1, 1) := by decide +kernel
theorem dX9_taken_2 : decode cX9_taken 2 = .ok (.invokevirtual 249, 3) := by decide +kernel
theorem dX9_taken_5 : decode cX9_taken 5 = .ok (.ifCond .eq 11, 3) := by decide +kernel
theorem dX9_taken_8 : decode cX9_taken 8 = .ok (.aload_n 0, 1) := by decide +kernel
theorem dX9_taken_9 : decode cX9_taken 9 = .ok (.iload_n 2, 1) := by decide +kernel
theorem dX9_taken_10 : decode cX9_taken 10 = .ok (.invokevirtual 194, 3) := by decide +kernel
theorem dX9_taken_13 : decode cX9_taken 13 = .ok (.ifCond .ne 8, 3) := by decide +kernel
theorem dX9_taken_16 : decode cX9_taken 16 = .ok (.aload_n 0, 1) := by decide +kernel
theorem dX9_taken_17 : decode cX9_taken 17 = .ok (.invokevirtual 252, 3) := by decide +kernel
theorem dX9_taken_20 : decode cX9_taken 20 = .ok (.ireturn, 1) := by decide +kernel
theorem dX9_taken_21 : decode cX9_taken 21 = .ok (.aload_n 0, 1) := by decide +kernel
theorem dX9_taken_22 : decode cX9_taken 22 = .ok (.iconst 0, 1) := by decide +kernel
theorem dX9_taken_23 : decode cX9_taken 23 = .ok (.putfield 105, 3) := by decide +kernel
theorem dX9_taken_26 : decode cX9_taken 26 = .ok (.aload_n 0, 1) := by decide +kernel
theorem dX9_taken_27 : decode cX9_taken 27 = .ok (.getfield 90, 3) := by decide +kernel
theorem dX9_taken_30 : decode cX9_taken 30 = .ok (.bipush 6, 2) := by decide +kernel
theorem dX9_taken_32 : decode cX9_taken 32 = .ok (.iload_n 1, 1) := by decide +kernel
theorem dX9_taken_33 : decode cX9_taken 33 = .ok (.imul, 1) := by decide +kernel
theorem dX9_taken_34 : decode cX9_taken 34 = .ok (.iload_n 2, 1) := by decide +kernel
theorem dX9_taken_35 : decode cX9_taken 35 = .ok (.iadd, 1) := by decide +kernel
theorem dX9_taken_36 : decode cX9_taken 36 = .ok (.iaload, 1) := by decide +kernel
theorem dX9_taken_37 : decode cX9_taken 37 = .ok (.ireturn, 1) := by decide +kernel
theorem dX9_character_0 : decode cX9_character 0 = .ok (.bipush 100, 2) := by decide +kernel
theorem dX9_character_2 : decode cX9_character 2 = .ok (.istore_n 2, 1) := by decide +kernel
theorem dX9_character_3 : decode cX9_character 3 = .ok (.iconst 0, 1) := by decide +kernel
theorem dX9_character_4 : decode cX9_character 4 = .ok (.istore_n 3, 1) := by decide +kernel
theorem dX9_character_5 : decode cX9_character 5 = .ok (.iload_n 3, 1) := by decide +kernel
theorem dX9_character_6 : decode cX9_character 6 = .ok (.aload_n 0, 1) := by decide +kernel
theorem dX9_character_7 : decode cX9_character 7 = .ok (.getfield 198, 3) := by decide +kernel
theorem dX9_character_10 : decode cX9_character 10 = .ok (.if_icmp .ge 74, 3) := by decide +kernel
theorem dX9_character_13 : decode cX9_character 13 = .ok (.aload_n 0, 1) := by decide +kernel
theorem dX9_character_14 : decode cX9_character 14 = .ok (.getfield 45, 3) := by decide +kernel
theorem dX9_character_17 : decode cX9_character 17 = .ok (.iload_n 3, 1) := by decide +kernel
theorem dX9_character_18 : decode cX9_character 18 = .ok (.iaload, 1) := by decide +kernel
theorem dX9_character_19 : decode cX9_character 19 = .ok (.iload_n 1, 1) := by decide +kernel
theorem dX9_character_20 : decode cX9_character 20 = .ok (.if_icmp .eq 6, 3) := by decide +kernel
theorem dX9_character_23 : decode cX9_character 23 = .ok (.goto 55, 3) := by decide +kernel
theorem dX9_character_26 : decode cX9_character 26 = .ok (.aload_n 0, 1) := by decide +kernel
theorem dX9_character_27 : decode cX9_character 27 = .ok (.getfield 78, 3) := by decide +kernel
theorem dX9_character_30 : decode cX9_character 30 = .ok (.iload_n 3, 1) := by decide +kernel
theorem dX9_character_31 : decode cX9_character 31 = .ok (.iaload, 1) := by decide +kernel
theorem dX9_character_32 : decode cX9_character 32 = .ok (.iconst 1, 1) := by decide +kernel
theorem dX9_character_33 : decode cX9_character 33 = .ok (.if_icmp .ne 21, 3) := by decide +kernel
theorem dX9_character_36 : decode cX9_character 36 = .ok (.iload_n 2, 1) := by decide +kernel
theorem dX9_character_37 : decode cX9_character 37 = .ok (.aload_n 0, 1) := by decide +kernel
theorem dX9_character_38 : decode cX9_character 38 = .ok (.getfield 72, 3) := by decide +kernel
theorem dX9_character_41 : decode cX9_character 41 = .ok (.iload_n 3, 1) := by decide +kernel
theorem dX9_character_42 : decode cX9_character 42 = .ok (.iaload, 1) := by decide +kernel
theorem dX9_character_43 : decode cX9_character 43 = .ok (.ifCond .ne 8, 3) := by decide +kernel
theorem dX9_character_46 : decode cX9_character 46 = .ok (.bipush 10, 2) := by decide +kernel
theorem dX9_character_48 : decode cX9_character 48 = .ok (.goto 4, 3) := by decide +kernel
theorem dX9_character_51 : decode cX9_character 51 = .ok (.iconst 5, 1) := by decide +kernel
theorem dX9_character_52 : decode cX9_character 52 = .ok (.iadd, 1) := by decide +kernel
theorem dX9_character_53 : decode cX9_character 53 = .ok (.istore_n 2, 1) := by decide +kernel
theorem dX9_character_54 : decode cX9_character 54 = .ok (.aload_n 0, 1) := by decide +kernel
theorem dX9_character_55 : decode cX9_character 55 = .ok (.getfield 78, 3) := by decide +kernel
theorem dX9_character_58 : decode cX9_character 58 = .ok (.iload_n 3, 1) := by decide +kernel
theorem dX9_character_59 : decode cX9_character 59 = .ok (.iaload, 1) := by decide +kernel
theorem dX9_character_60 : decode cX9_character 60 = .ok (.iconst 2, 1) := by decide +kernel
theorem dX9_character_61 : decode cX9_character 61 = .ok (.if_icmp .ne 6, 3) := by decide +kernel
theorem dX9_character_64 : decode cX9_character 64 = .ok (.iinc 2 (-30), 3) := by decide +kernel
theorem dX9_character_67 : decode cX9_character 67 = .ok (.iload_n 2, 1) := by decide +kernel
theorem dX9_character_68 : decode cX9_character 68 = .ok (.iconst 2, 1) := by decide +kernel
theorem dX9_character_69 : decode cX9_character 69 = .ok (.aload_n 0, 1) := by decide +kernel
theorem dX9_character_70 : decode cX9_character 70 = .ok (.getfield 72, 3) := by decide +kernel
theorem dX9_character_73 : decode cX9_character 73 = .ok (.iload_n 3, 1) := by decide +kernel
theorem dX9_character_74 : decode cX9_character 74 = .ok (.iaload, 1) := by decide +kernel
theorem dX9_character_75 : decode cX9_character 75 = .ok (.imul, 1) := by decide +kernel
theorem dX9_character_76 : decode cX9_character 76 = .ok (.isub, 1) := by decide +kernel
theorem dX9_character_77 : decode cX9_character 77 = .ok (.istore_n 2, 1) := by decide +kernel
theorem dX9_character_78 : decode cX9_character 78 = .ok (.iinc 3 1, 3) := by decide +kernel
theorem dX9_character_81 : decode cX9_character 81 = .ok (.goto (-76), 3) := by decide +kernel
theorem dX9_character_84 : decode cX9_character 84 = .ok (.iload_n 2, 1) := by decide +kernel
theorem dX9_character_85 : decode cX9_character 85 = .ok (.ifCond .ge 7, 3) := by decide +kernel
theorem dX9_character_88 : decode cX9_character 88 = .ok (.iconst 0, 1) := by decide +kernel
theorem dX9_character_89 : decode cX9_character 89 = .ok (.goto 17, 3) := by decide +kernel
theorem dX9_character_92 : decode cX9_character 92 = .ok (.iload_n 2, 1) := by decide +kernel
theorem dX9_character_93 : decode cX9_character 93 = .ok (.sipush 200, 3) := by decide +kernel
theorem dX9_character_96 : decode cX9_character 96 = .ok (.if_icmp .le 9, 3) := by decide +kernel
theorem dX9_character_99 : decode cX9_character 99 = .ok (.sipush 200, 3) := by decide +kernel
theorem dX9_character_102 : decode cX9_character 102 = .ok (.goto 4, 3) := by decide +kernel
theorem dX9_character_105 : decode cX9_character 105 = .ok (.iload_n 2, 1) := by decide +kernel
theorem dX9_character_106 : decode cX9_character 106 = .ok (.ireturn, 1) := by decide +kernel
theorem dX9_about_0 : decode cX9_about 0 = .ok (.aload_n 0, 1) := by decide +kernel
theorem dX9_about_1 : decode cX9_about 1 = .ok (.iload_n 1, 1) := by decide +kernel
theorem dX9_about_2 : decode cX9_about 2 = .ok (.invokevirtual 187, 3) := by decide +kernel
theorem dX9_about_5 : decode cX9_about 5 = .ok (.ifCond .eq 13, 3) := by decide +kernel
theorem dX9_about_8 : decode cX9_about 8 = .ok (.iload_n 2, 1) := by decide +kernel
theorem dX9_about_9 : decode cX9_about 9 = .ok (.ifCond .lt 9, 3) := by decide +kernel
theorem dX9_about_12 : decode cX9_about 12 = .ok (.iload_n 2, 1) := by decide +kernel
theorem dX9_about_13 : decode cX9_about 13 = .ok (.bipush 6, 2) := by decide +kernel
theorem dX9_about_15 : decode cX9_about 15 = .ok (.if_icmp .le 8, 3) := by decide +kernel
theorem dX9_about_18 : decode cX9_about 18 = .ok (.aload_n 0, 1) := by decide +kernel
theorem dX9_about_19 : decode cX9_about 19 = .ok (.invokevirtual 252, 3) := by decide +kernel
theorem dX9_about_22 : decode cX9_about 22 = .ok (.ireturn, 1) := by decide +kernel
theorem dX9_about_23 : decode cX9_about 23 = .ok (.aload_n 0, 1) := by decide +kernel
theorem dX9_about_24 : decode cX9_about 24 = .ok (.iconst 0, 1) := by decide +kernel
theorem dX9_about_25 : decode cX9_about 25 = .ok (.putfield 105, 3) := by decide +kernel
theorem dX9_about_28 : decode cX9_about 28 = .ok (.iload_n 2, 1) := by decide +kernel
theorem dX9_about_29 : decode cX9_about 29 = .ok (.tableswitch 88 0 6 #[43, 50, 56, 70, 76, 88, 82], 43) := by decide +kernel
theorem dX9_about_72 : decode cX9_about 72 = .ok (.aload_n 0, 1) := by decide +kernel
theorem dX9_about_73 : decode cX9_about 73 = .ok (.getfield 29, 3) := by decide +kernel
theorem dX9_about_76 : decode cX9_about 76 = .ok (.iload_n 1, 1) := by decide +kernel
theorem dX9_about_77 : decode cX9_about 77 = .ok (.iaload, 1) := by decide +kernel
theorem dX9_about_78 : decode cX9_about 78 = .ok (.ireturn, 1) := by decide +kernel
theorem dX9_about_79 : decode cX9_about 79 = .ok (.aload_n 0, 1) := by decide +kernel
theorem dX9_about_80 : decode cX9_about 80 = .ok (.iload_n 1, 1) := by decide +kernel
theorem dX9_about_81 : decode cX9_about 81 = .ok (.invokevirtual 255, 3) := by decide +kernel
theorem dX9_about_84 : decode cX9_about 84 = .ok (.ireturn, 1) := by decide +kernel
theorem dX9_about_85 : decode cX9_about 85 = .ok (.aload_n 0, 1) := by decide +kernel
theorem dX9_about_86 : decode cX9_about 86 = .ok (.iload_n 1, 1) := by decide +kernel
theorem dX9_about_87 : decode cX9_about 87 = .ok (.invokevirtual 210, 3) := by decide +kernel
theorem dX9_about_90 : decode cX9_about 90 = .ok (.ifCond .eq 7, 3) := by decide +kernel
theorem dX9_about_93 : decode cX9_about 93 = .ok (.iconst 1, 1) := by decide +kernel
theorem dX9_about_94 : decode cX9_about 94 = .ok (.goto 4, 3) := by decide +kernel
theorem dX9_about_97 : decode cX9_about 97 = .ok (.iconst 0, 1) := by decide +kernel
theorem dX9_about_98 : decode cX9_about 98 = .ok (.ireturn, 1) := by decide +kernel
theorem dX9_about_99 : decode cX9_about 99 = .ok (.aload_n 0, 1) := by decide +kernel
theorem dX9_about_100 : decode cX9_about 100 = .ok (.iload_n 1, 1) := by decide +kernel
theorem dX9_about_101 : decode cX9_about 101 = .ok (.invokevirtual 207, 3) := by decide +kernel
theorem dX9_about_104 : decode cX9_about 104 = .ok (.ireturn, 1) := by decide +kernel
theorem dX9_about_105 : decode cX9_about 105 = .ok (.aload_n 0, 1) := by decide +kernel
theorem dX9_about_106 : decode cX9_about 106 = .ok (.iload_n 1, 1) := by decide +kernel
theorem dX9_about_107 : decode cX9_about 107 = .ok (.invokevirtual 217, 3) := by decide +kernel
theorem dX9_about_110 : decode cX9_about 110 = .ok (.ireturn, 1) := by decide +kernel
theorem dX9_about_111 : decode cX9_about 111 = .ok (.aload_n 0, 1) := by decide +kernel
theorem dX9_about_112 : decode cX9_about 112 = .ok (.iload_n 1, 1) := by decide +kernel
theorem dX9_about_113 : decode cX9_about 113 = .ok (.invokevirtual 233, 3) := by decide +kernel
theorem dX9_about_116 : decode cX9_about 116 = .ok (.ireturn, 1) := by decide +kernel
theorem dX9_about_117 : decode cX9_about 117 = .ok (.iconst 0, 1) := by decide +kernel
theorem dX9_about_118 : decode cX9_about 118 = .ok (.istore_n 3, 1) := by decide +kernel
theorem dX9_about_119 : decode cX9_about 119 = .ok (.iconst 0, 1) := by decide +kernel
theorem dX9_about_120 : decode cX9_about 120 = .ok (.istore 4, 2) := by decide +kernel
theorem dX9_about_122 : decode cX9_about 122 = .ok (.iload 4, 2) := by decide +kernel
theorem dX9_about_124 : decode cX9_about 124 = .ok (.aload_n 0, 1) := by decide +kernel
theorem dX9_about_125 : decode cX9_about 125 = .ok (.getfield 201, 3) := by decide +kernel
theorem dX9_about_128 : decode cX9_about 128 = .ok (.if_icmp .ge 33, 3) := by decide +kernel
theorem dX9_about_131 : decode cX9_about 131 = .ok (.aload_n 0, 1) := by decide +kernel
theorem dX9_about_132 : decode cX9_about 132 = .ok (.getfield 93, 3) := by decide +kernel
theorem dX9_about_135 : decode cX9_about 135 = .ok (.iload 4, 2) := by decide +kernel
theorem dX9_about_137 : decode cX9_about 137 = .ok (.iaload, 1) := by decide +kernel
theorem dX9_about_138 : decode cX9_about 138 = .ok (.iload_n 1, 1) := by decide +kernel
theorem dX9_about_139 : decode cX9_about 139 = .ok (.if_icmp .ne 16, 3) := by decide +kernel
theorem dX9_about_142 : decode cX9_about 142 = .ok (.aload_n 0, 1) := by decide +kernel
theorem dX9_about_143 : decode cX9_about 143 = .ok (.getfield 99, 3) := by decide +kernel
theorem dX9_about_146 : decode cX9_about 146 = .ok (.iload 4, 2) := by decide +kernel
theorem dX9_about_148 : decode cX9_about 148 = .ok (.iaload, 1) := by decide +kernel
theorem dX9_about_149 : decode cX9_about 149 = .ok (.ifCond .le 6, 3) := by decide +kernel
theorem dX9_about_152 : decode cX9_about 152 = .ok (.iinc 3 1, 3) := by decide +kernel
theorem dX9_about_155 : decode cX9_about 155 = .ok (.iinc 4 1, 3) := by decide +kernel
theorem dX9_about_158 : decode cX9_about 158 = .ok (.goto (-36), 3) := by decide +kernel
theorem dX9_about_161 : decode cX9_about 161 = .ok (.iload_n 3, 1) := by decide +kernel
theorem dX9_about_162 : decode cX9_about 162 = .ok (.ireturn, 1) := by decide +kernel
theorem dX9_ring_0 : decode cX9_ring 0 = .ok (.aload_n 0, 1) := by decide +kernel
theorem dX9_ring_1 : decode cX9_ring 1 = .ok (.iconst 0, 1) := by decide +kernel
theorem dX9_ring_2 : decode cX9_ring 2 = .ok (.putfield 105, 3) := by decide +kernel
theorem dX9_ring_5 : decode cX9_ring 5 = .ok (.aload_n 0, 1) := by decide +kernel
theorem dX9_ring_6 : decode cX9_ring 6 = .ok (.iload_n 1, 1) := by decide +kernel
theorem dX9_ring_7 : decode cX9_ring 7 = .ok (.invokevirtual 187, 3) := by decide +kernel
theorem dX9_ring_10 : decode cX9_ring 10 = .ok (.ifCond .eq 11, 3) := by decide +kernel
theorem dX9_ring_13 : decode cX9_ring 13 = .ok (.aload_n 0, 1) := by decide +kernel
theorem dX9_ring_14 : decode cX9_ring 14 = .ok (.iload_n 1, 1) := by decide +kernel
theorem dX9_ring_15 : decode cX9_ring 15 = .ok (.invokevirtual 207, 3) := by decide +kernel
theorem dX9_ring_18 : decode cX9_ring 18 = .ok (.goto 4, 3) := by decide +kernel
theorem dX9_ring_21 : decode cX9_ring 21 = .ok (.iconst (-1), 1) := by decide +kernel
theorem dX9_ring_22 : decode cX9_ring 22 = .ok (.istore_n 2, 1) := by decide +kernel
theorem dX9_ring_23 : decode cX9_ring 23 = .ok (.iload_n 2, 1) := by decide +kernel
theorem dX9_ring_24 : decode cX9_ring 24 = .ok (.iconst (-1), 1) := by decide +kernel
theorem dX9_ring_25 : decode cX9_ring 25 = .ok (.if_icmp .ne 5, 3) := by decide +kernel
theorem dX9_ring_28 : decode cX9_ring 28 = .ok (.iconst (-1), 1) := by decide +kernel
theorem dX9_ring_29 : decode cX9_ring 29 = .ok (.ireturn, 1) := by decide +kernel
theorem dX9_ring_30 : decode cX9_ring 30 = .ok (.aload_n 0, 1) := by decide +kernel
theorem dX9_ring_31 : decode cX9_ring 31 = .ok (.invokevirtual 220, 3) := by decide +kernel
theorem dX9_ring_34 : decode cX9_ring 34 = .ok (.iconst 0, 1) := by decide +kernel
theorem dX9_ring_35 : decode cX9_ring 35 = .ok (.istore_n 3, 1) := by decide +kernel
theorem dX9_ring_36 : decode cX9_ring 36 = .ok (.iload_n 3, 1) := by decide +kernel
theorem dX9_ring_37 : decode cX9_ring 37 = .ok (.aload_n 0, 1) := by decide +kernel
theorem dX9_ring_38 : decode cX9_ring 38 = .ok (.getfield 84, 3) := by decide +kernel
theorem dX9_ring_41 : decode cX9_ring 41 = .ok (.iload_n 2, 1) := by decide +kernel
theorem dX9_ring_42 : decode cX9_ring 42 = .ok (.iaload, 1) := by decide +kernel
theorem dX9_ring_43 : decode cX9_ring 43 = .ok (.if_icmp .ge 25, 3) := by decide +kernel
theorem dX9_ring_46 : decode cX9_ring 46 = .ok (.aload_n 0, 1) := by decide +kernel
theorem dX9_ring_47 : decode cX9_ring 47 = .ok (.getfield 102, 3) := by decide +kernel
theorem dX9_ring_50 : decode cX9_ring 50 = .ok (.aload_n 0, 1) := by decide +kernel
theorem dX9_ring_51 : decode cX9_ring 51 = .ok (.getfield 87, 3) := by decide +kernel
theorem dX9_ring_54 : decode cX9_ring 54 = .ok (.iconst 3, 1) := by decide +kernel
theorem dX9_ring_55 : decode cX9_ring 55 = .ok (.iload_n 2, 1) := by decide +kernel
theorem dX9_ring_56 : decode cX9_ring 56 = .ok (.imul, 1) := by decide +kernel
theorem dX9_ring_57 : decode cX9_ring 57 = .ok (.iload_n 3, 1) := by decide +kernel
theorem dX9_ring_58 : decode cX9_ring 58 = .ok (.iadd, 1) := by decide +kernel
theorem dX9_ring_59 : decode cX9_ring 59 = .ok (.iaload, 1) := by decide +kernel
theorem dX9_ring_60 : decode cX9_ring 60 = .ok (.iconst 1, 1) := by decide +kernel
theorem dX9_ring_61 : decode cX9_ring 61 = .ok (.iastore, 1) := by decide +kernel
theorem dX9_ring_62 : decode cX9_ring 62 = .ok (.iinc 3 1, 3) := by decide +kernel
theorem dX9_ring_65 : decode cX9_ring 65 = .ok (.goto (-29), 3) := by decide +kernel
theorem dX9_ring_68 : decode cX9_ring 68 = .ok (.aload_n 0, 1) := by decide +kernel
theorem dX9_ring_69 : decode cX9_ring 69 = .ok (.invokevirtual 223, 3) := by decide +kernel
theorem dX9_ring_72 : decode cX9_ring 72 = .ok (.aload_n 0, 1) := by decide +kernel
theorem dX9_ring_73 : decode cX9_ring 73 = .ok (.getfield 102, 3) := by decide +kernel
theorem dX9_ring_76 : decode cX9_ring 76 = .ok (.iload_n 1, 1) := by decide +kernel
theorem dX9_ring_77 : decode cX9_ring 77 = .ok (.iaload, 1) := by decide +kernel
theorem dX9_ring_78 : decode cX9_ring 78 = .ok (.ireturn, 1) := by decide +kernel
theorem dX9_count_0 : decode cX9_count 0 = .ok (.aload_n 0, 1) := by decide +kernel
theorem dX9_count_1 : decode cX9_count 1 = .ok (.iconst 0, 1) := by decide +kernel
theorem dX9_count_2 : decode cX9_count 2 = .ok (.putfield 105, 3) := by decide +kernel
theorem dX9_count_5 : decode cX9_count 5 = .ok (.iload_n 1, 1) := by decide +kernel
theorem dX9_count_6 : decode cX9_count 6 = .ok (.tableswitch 81 0 7 #[46, 51, 56, 61, 81, 66, 71, 76], 46) := by decide +kernel
theorem dX9_count_52 : decode cX9_count 52 = .ok (.aload_n 0, 1) := by decide +kernel
theorem dX9_count_53 : decode cX9_count 53 = .ok (.getfield 230, 3) := by decide +kernel
theorem dX9_count_56 : decode cX9_count 56 = .ok (.ireturn, 1) := by decide +kernel
theorem dX9_count_57 : decode cX9_count 57 = .ok (.aload_n 0, 1) := by decide +kernel
theorem dX9_count_58 : decode cX9_count 58 = .ok (.getfield 184, 3) := by decide +kernel
theorem dX9_count_61 : decode cX9_count 61 = .ok (.ireturn, 1) := by decide +kernel
theorem dX9_count_62 : decode cX9_count 62 = .ok (.aload_n 0, 1) := by decide +kernel
theorem dX9_count_63 : decode cX9_count 63 = .ok (.getfield 41, 3) := by decide +kernel
theorem dX9_count_66 : decode cX9_count 66 = .ok (.ireturn, 1) := by decide +kernel
theorem dX9_count_67 : decode cX9_count 67 = .ok (.aload_n 0, 1) := by decide +kernel
theorem dX9_count_68 : decode cX9_count 68 = .ok (.getfield 198, 3) := by decide +kernel
theorem dX9_count_71 : decode cX9_count 71 = .ok (.ireturn, 1) := by decide +kernel
theorem dX9_count_72 : decode cX9_count 72 = .ok (.aload_n 0, 1) := by decide +kernel
theorem dX9_count_73 : decode cX9_count 73 = .ok (.getfield 243, 3) := by decide +kernel
theorem dX9_count_76 : decode cX9_count 76 = .ok (.ireturn, 1) := by decide +kernel
theorem dX9_count_77 : decode cX9_count 77 = .ok (.aload_n 0, 1) := by decide +kernel
theorem dX9_count_78 : decode cX9_count 78 = .ok (.getfield 191, 3) := by decide +kernel
theorem dX9_count_81 : decode cX9_count 81 = .ok (.ireturn, 1) := by decide +kernel
theorem dX9_count_82 : decode cX9_count 82 = .ok (.aload_n 0, 1) := by decide +kernel
theorem dX9_count_83 : decode cX9_count 83 = .ok (.getfield 108, 3) := by decide +kernel
theorem dX9_count_86 : decode cX9_count 86 = .ok (.ireturn, 1) := by decide +kernel
theorem dX9_count_87 : decode cX9_count 87 = .ok (.iload_n 1, 1) := by decide +kernel
theorem dX9_count_88 : decode cX9_count 88 = .ok (.iconst 4, 1) := by decide +kernel
theorem dX9_count_89 : decode cX9_count 89 = .ok (.if_icmp .eq 5, 3) := by decide +kernel
theorem dX9_count_92 : decode cX9_count 92 = .ok (.iconst (-1), 1) := by decide +kernel
theorem dX9_count_93 : decode cX9_count 93 = .ok (.ireturn, 1) := by decide +kernel
theorem dX9_count_94 : decode cX9_count 94 = .ok (.iconst 0, 1) := by decide +kernel
theorem dX9_count_95 : decode cX9_count 95 = .ok (.istore_n 2, 1) := by decide +kernel
theorem dX9_count_96 : decode cX9_count 96 = .ok (.iconst 0, 1) := by decide +kernel
theorem dX9_count_97 : decode cX9_count 97 = .ok (.istore_n 3, 1) := by decide +kernel
theorem dX9_count_98 : decode cX9_count 98 = .ok (.iload_n 3, 1) := by decide +kernel
theorem dX9_count_99 : decode cX9_count 99 = .ok (.aload_n 0, 1) := by decide +kernel
theorem dX9_count_100 : decode cX9_count 100 = .ok (.getfield 198, 3) := by decide +kernel
theorem dX9_count_103 : decode cX9_count 103 = .ok (.if_icmp .ge 21, 3) := by decide +kernel
theorem dX9_count_106 : decode cX9_count 106 = .ok (.aload_n 0, 1) := by decide +kernel
theorem dX9_count_107 : decode cX9_count 107 = .ok (.getfield 78, 3) := by decide +kernel
theorem dX9_count_110 : decode cX9_count 110 = .ok (.iload_n 3, 1) := by decide +kernel
theorem dX9_count_111 : decode cX9_count 111 = .ok (.iaload, 1) := by decide +kernel
theorem dX9_count_112 : decode cX9_count 112 = .ok (.ifCond .ne 6, 3) := by decide +kernel
theorem dX9_count_115 : decode cX9_count 115 = .ok (.iinc 2 1, 3) := by decide +kernel
theorem dX9_count_118 : decode cX9_count 118 = .ok (.iinc 3 1, 3) := by decide +kernel
theorem dX9_count_121 : decode cX9_count 121 = .ok (.goto (-23), 3) := by decide +kernel
theorem dX9_count_124 : decode cX9_count 124 = .ok (.iload_n 2, 1) := by decide +kernel
theorem dX9_count_125 : decode cX9_count 125 = .ok (.ireturn, 1) := by decide +kernel
end
section
/-! ===== contracts of two forms, over one list of words: Ro (reads alone), Fs (whole world in, whole world out) ===== -/
abbrev cw (y : MethodName) (cc : ByteArray) (n : Nat) (ret : Option FieldType) : List Cond := Cond.code y cc n ret :: BW
abbrev rmd (d mc ms : Nat) : Room := { frames := d, cells := mc, slots := ms, locals := 30 * d }
abbrev Gr : Type := (Nat → Prop) → State → Heap → Prop
/-- ground facts: they outlive a warmer machine, writes inside A, and hold of less than A -/
def Gd (G : Gr) : Prop := (∀ (A : Nat → Prop) (u U : State) (H : Heap), u.vm.Alike U.vm → G A u H → G A U H) ∧ (∀ (A : Nat → Prop) (U : State) (H H1 : Heap), (∀ a : Nat, a < H.size → ¬ A a → H1[a]? = H[a]?) → G A U H → G A U H1) ∧ (∀ (A B : Nat → Prop) (U : State) (H : Heap), (∀ q, B q → A q) → G A U H → G B U H)
abbrev TyL : Type := List (ClassId × FieldType)
abbrev G0 : Gr := fun _ _ _ => True
theorem Gd0 : Gd G0 := ⟨fun _ _ _ _ _ _ => trivial, fun _ _ _ _ _ _ => trivial, fun _ _ _ _ _ _ => trivial⟩
def RPc (D : va_G) (tys : TyL) (G : Gr) (av : List Value) (ws : va_W) : Array Value → State → Prop := va_Pc av (fun U => va_P D vwCl ws U.heap ∧ va_K D vwCl tys U ∧ G (fun _ => False) U U.heap)
def RQc (rv : Option Value) : Array Value → State → Outcome → State → Prop := fun _ st o t => o = .returned rv ∧ t.heap = st.heap
def Ro (l : Launch) (y : MethodName) (cc : ByteArray) (n : Nat) (ret : Option FieldType) (d : Nat) (D : va_G) (tys : TyL) (G : Gr) (av : List Value) (ws : va_W) (rv : Option Value) : Prop :=
  Met l y (cw y cc n ret) (rmd d 0 0) (RPc D tys G av ws) (RQc rv) 0 0 (fun _ => False)
def FPc (D : va_G) (tys : TyL) (G : Gr) (av : List Value) (ws : va_W) (sz : Nat) : Array Value → State → Prop := va_Pc av (fun U => U.heap.size = sz ∧ va_P D vwCl ws U.heap ∧ va_K D vwCl tys U ∧ va_D (fun _ => True) ws ∧ G (va_A ws sz) U U.heap)
def FQc {S : Type} (D : va_G) (ws : va_W) (sz : Nat) (val : S → Option Value) (post : S → Prop) (B : S → va_W) : Array Value → State → Outcome → State → Prop := fun _ st o t => (∃ u : S, o = .returned (val u) ∧ post u ∧ va_P D vwCl (B u) t.heap ∧ va_D (va_A ws sz) (B u)) ∧ va_F (va_A ws sz) st t
def Fs {S : Type} (l : Launch) (y : MethodName) (cc : ByteArray) (n : Nat) (ret : Option FieldType) (d mc ms : Nat) (D : va_G) (tys : TyL) (G : Gr) (av : List Value) (ws : va_W) (val : S → Option Value) (post : S → Prop) (B : S → va_W) : Prop :=
  ∀ sz : Nat, Met l y (cw y cc n ret) (rmd d mc ms) (FPc D tys G av ws sz) (FQc D ws sz val post B) mc ms (va_A ws sz)
abbrev Fn (l : Launch) (y : MethodName) (cc : ByteArray) (n : Nat) (ret : Option FieldType) (d mc ms : Nat) (D : va_G) (tys : TyL) (G : Gr) (av : List Value) (ws : va_W) (rv : Option Value) (ws' : va_W) : Prop :=
  Fs (S := Unit) l y cc n ret d mc ms D tys G av ws (fun _ => rv) (fun _ => True) (fun _ => ws')
/-- a method's own words, and its head's count of parameters -/
def MI (C : String) (y : MethodName) (cc : ByteArray) (maxL : Nat) (ret : Option FieldType) (n : Nat) : Prop := (Cond.initialized C ∈ BW ∧ Cond.code y cc maxL ret ∈ BW) ∧ y.cls = C ∧ y.cls ≠ "java/lang/invoke/MethodHandle" ∧ y.cls ≠ "java/lang/invoke/VarHandle" ∧ (parseMethodDescriptor y.desc).map (fun d => d.parameters.length) = some n
theorem bw_pay {args : Array Value} {s : State} {y : MethodName} {cc : ByteArray} {n : Nat} {ret : Option FieldType} (ht : ∀ w ∈ BW, w.before args s = true) (hc : Cond.code y cc n ret ∈ BW) : ∀ w ∈ cw y cc n ret, ∀ (a' : Array Value) (U : State), s.WarmedH U.vm → w.before a' U = true := by
  refine pay_in ht (fun w hw => ?_)
  rcases List.mem_cons.mp hw with h | h
  · subst h; exact ⟨hc, bw_good _ hc⟩
  · exact ⟨h, bw_good _ h⟩
section BASE
variable {p : Program} {l : Launch} {e : Env} {R : Room} {s : State} {m : MethodId} {args : Array Value} {below : List Frame} {meth : Method} {c : Code} {H H0 : Heap} {locs : List Loc} {cells slots : Nat} {Q : State → Prop}
  {cc bytes : ByteArray} {nL maxL index n mc ms d pc : Nat} {own C : String} {y : MethodName} {ret : Option FieldType} {b : Addr} {As rest st0 st1 : List Value} {ls : Array Slot} {D : va_G} {tys : TyL} {G : Gr} {A : Nat → Prop} {ws wc w1 w2 : va_W} {rv : Option Value}
theorem mi_B (mi : MI C y bytes maxL ret n) (ht : ∀ w ∈ BW, w.before args s = true) (hl : Cond.methodLink own index y ∈ BW) (hR : d + 1 ≤ R.frames ∧ 8 + (maxL + 11) + 30 * d ≤ R.locals) : CallB R s args own index y bytes maxL ret (cw y bytes maxL ret) (rmd d mc ms) mc ms n := by
  obtain ⟨⟨h1, h2⟩, hC, h3, h4, h5⟩ := mi
  subst hC
  refine ⟨rfl, rfl, hR.1, hR.2, bw_pay ht h2, List.mem_cons_self, ht _ h2, ht _ h1, ⟨h3, h4⟩, fun sig h => ?_, ht _ hl⟩
  rw [h] at h5
  exact (Option.some.inj h5).symm
theorem RPc_blind {av : List Value} (gd : Gd G) : FrameBlind (RPc D tys G av ws) := fun a U g mk q => by
  obtain ⟨q0, qP, qK, qG⟩ := q
  exact ⟨q0, qP, va_K.moved (u := U) (U := U.calling g mk a) (Vm.Alike.refl U.vm) qK, gd.1 _ U (U.calling g mk a) _ (Vm.Alike.refl U.vm) qG⟩
theorem FPc_blind {av : List Value} {sz : Nat} (gd : Gd G) : FrameBlind (FPc D tys G av ws sz) := fun a U g mk q => by
  obtain ⟨q0, q1, qP, qK, qD, qG⟩ := q
  exact ⟨q0, q1, qP, va_K.moved (u := U) (U := U.calling g mk a) (Vm.Alike.refl U.vm) qK, qD, gd.1 _ U (U.calling g mk a) _ (Vm.Alike.refl U.vm) qG⟩
theorem RPc_in {av : List Value} (gd : Gd G) (hG : G A s s.heap) (hS : va_S A s.heap H locs) (hK : va_K D vwCl tys s) (hP : va_P D vwCl wc H) : ∀ U : State, U.heap = H → s.WarmedH U.vm → RPc D tys G av wc av.toArray U := by
  intro U hU hW
  refine ⟨rfl, by rw [hU]; exact hP, va_K.moved hW.alike hK, ?_⟩
  rw [hU]
  exact gd.2.2 A _ U H (fun _ h => h.elim) (gd.2.1 A U s.heap H hS.2.1 (gd.1 A s U s.heap hW.alike hG))
theorem FPc_in {av : List Value} (gd : Gd G) (hG : G A s s.heap) (hS : va_S A s.heap H locs) (hK : va_K D vwCl tys s) (hP : va_P D vwCl wc H) (hD : va_D A wc) (hF : ∀ q, va_A wc H.size q → A q) : ∀ U : State, U.heap = H → s.WarmedH U.vm → FPc D tys G av wc H.size av.toArray U := by
  intro U hU hW
  refine ⟨rfl, by rw [hU], by rw [hU]; exact hP, va_K.moved hW.alike hK, hD.weaken (fun _ _ _ _ => trivial), ?_⟩
  rw [hU]
  exact gd.2.2 A _ U H hF (gd.2.1 A U s.heap H hS.2.1 (gd.1 A s U s.heap hW.alike hG))
theorem ro_go {args0 : Array Value} (hr : CallRun p l e R s m args below meth c H locs cells slots 0 0 (F0 m pc ls st0) rest (RQc rv args0) (fun _ => False)) (h1 : rv.toList ++ rest = st1)
    (kk : W p l e R s m args below meth c H locs cells slots Q (F0 m (pc + 3) ls st1)) : W p l e R s m args below meth c H locs cells slots Q (F0 m pc ls st0) := by
  intro T hT X
  obtain ⟨v, st₀, t, T', L, h0, X', hL, e1, ⟨hv, hh⟩, st⟩ := hr T hT X
  cases hv
  subst h1
  obtain ⟨t2, a1, b1⟩ := kk T' (by rw [e1, hh, h0]) (Stand.forget X' (fun q h => (hL q h).elim))
  exact ⟨t2, st t2 a1, b1⟩
/-- a call that reads alone, by an object -/
theorem ro_V (S : CallFix p m c cc nL s args BW own) (gd : Gd G) (hG : G A s s.heap) (hS : va_S A s.heap H locs) (hK : va_K D vwCl tys s) (hM : Ro l y bytes maxL ret d D tys G (.ref b :: As) wc rv) (mi : MI C y bytes maxL ret n) (hin : Cond.instanceMethod y ∈ BW) (hse : Cond.selects C y y ∈ BW) (hl : Cond.methodLink own index y ∈ BW) (hR : d + 1 ≤ R.frames ∧ 8 + (maxL + 11) + 30 * d ≤ R.locals)
    (hP : va_P D vwCl wc H) (q0 : Nat) {ci : Nat} {fs : List Value} {T : u_T} {N : Nat} (he : wc[q0]? = some (b, .inr (ci, fs))) (hc : vwCl[ci]? = some (C, T, N)) (hn : As.length = n) (hsize : ls.size = nL) (h0 : st0 = As.reverse ++ .ref b :: rest) (hW : (rest.map fun v => v.category).sum ≤ 8) (h1 : rv.toList ++ rest = st1) (hcs : cells ≤ R.cells ∧ slots ≤ R.slots) (hdg : decode cc pc = .ok (.invokevirtual index, 3))
    (kk : W p l e R s m args below meth c H locs cells slots Q (F0 m (pc + 3) ls st1)) : W p l e R s m args below meth c H locs cells slots Q (F0 m pc ls st0) := by
  have hts := S.2.2.2.2
  refine ro_go (W.runV (rest := rest) S hM ⟨mi_B mi hts hl hR, hts _ hin, hts _ hse⟩ ⟨RPc_blind gd, va_recv hK hP hc he, RPc_in gd hG hS hK hP⟩ rfl hn hsize h0 (lv_room hW) hdg hcs) h1 kk
/-- a static call that reads alone -/
theorem ro_S (S : CallFix p m c cc nL s args BW own) (gd : Gd G) (hG : G A s s.heap) (hS : va_S A s.heap H locs) (hK : va_K D vwCl tys s) (hM : Ro l y bytes maxL ret d D tys G As wc rv) (mi : MI C y bytes maxL ret n) (hst : Cond.static y ∈ BW) (hl : Cond.methodLink own index y ∈ BW) (hR : d + 1 ≤ R.frames ∧ 8 + (maxL + 11) + 30 * d ≤ R.locals)
    (hP : va_P D vwCl wc H) (hn : As.length = n) (hsize : ls.size = nL) (h0 : st0 = As.reverse ++ rest) (hW : (rest.map fun v => v.category).sum ≤ 8) (h1 : rv.toList ++ rest = st1) (hcs : cells ≤ R.cells ∧ slots ≤ R.slots) (hdg : decode cc pc = .ok (.invokestatic index, 3))
    (kk : W p l e R s m args below meth c H locs cells slots Q (F0 m (pc + 3) ls st1)) : W p l e R s m args below meth c H locs cells slots Q (F0 m pc ls st0) := by
  have hts := S.2.2.2.2
  refine ro_go (W.runS (rest := rest) S hM ⟨mi_B mi hts hl hR, hts _ hst⟩ ⟨RPc_blind gd, RPc_in gd hG hS hK hP⟩ rfl hn hsize h0 (lv_room hW) hdg hcs) h1 kk
theorem fs_go {args0 : Array Value} {S : Type} {val : S → Option Value} {post : S → Prop} {B : S → va_W} (hr : va_Run p l e R s m args below meth c H locs cells slots mc ms (F0 m pc ls st0) rest (FQc D ws H.size val post B args0) (va_A ws H.size)) (hP : va_P D vwCl (w1 ++ (ws ++ w2)) H) (hD : va_D A (w1 ++ (ws ++ w2))) (hS : va_S A H0 H locs) (hF : ∀ q, va_A ws H.size q → A q)
    (kk : ∀ (u : S) (H1 : Heap) (locs1 : List Loc), post u → va_P D vwCl (w1 ++ (B u ++ w2)) H1 → va_D A (w1 ++ (B u ++ w2)) → va_S A H0 H1 locs1 → W p l e R s m args below meth c H1 locs1 (cells + mc) (slots + ms) Q (F0 m (pc + 3) ls ((val u).toList ++ rest))) : W p l e R s m args below meth c H locs cells slots Q (F0 m pc ls st0) := by
  intro T hT X
  obtain ⟨v, st₀, t, T', L, h0, X', hL, e1, e2, ⟨⟨u, hv, hp, hPu, hDu⟩, hz, hk⟩, st⟩ := hr T hT X
  cases hv
  rw [h0] at hz hk
  rw [← e1] at hPu hk hz
  have hap : ∀ (q : Nat × va_E), q ∈ w1 ∨ q ∈ w2 → q.1 < H.size ∧ ¬ va_A ws H.size q.1 := by
    intro q hq
    have hlt : q.1 < H.size := by
      have hm : q ∈ w1 ++ (ws ++ w2) := by
        rcases hq with h | h
        · exact List.mem_append_left _ h
        · exact List.mem_append_right _ (List.mem_append_right _ h)
      obtain ⟨k, hk9⟩ := List.getElem?_of_mem hm
      exact (hP k q hk9).lt
    refine ⟨hlt, fun hA9 => ?_⟩
    rcases hA9 with ⟨k, e9, hk9⟩ | h9
    · have hkl : k < ws.length := (List.getElem?_eq_some_iff.mp hk9).1
      have hi : (w1 ++ (ws ++ w2))[w1.length + k]? = some (q.1, e9) := by
        rw [List.getElem?_append_right (by omega), Nat.add_sub_cancel_left, List.getElem?_append_left hkl]
        exact hk9
      rcases hq with h | h
      · obtain ⟨j, hj⟩ := List.getElem?_of_mem h
        have hjl : j < w1.length := (List.getElem?_eq_some_iff.mp hj).1
        have hj2 : (w1 ++ (ws ++ w2))[j]? = some q := by rw [List.getElem?_append_left hjl]; exact hj
        have := hD.1 _ _ _ _ hj2 hi rfl
        omega
      · obtain ⟨j, hj⟩ := List.getElem?_of_mem h
        have hj2 : (w1 ++ (ws ++ w2))[w1.length + (ws.length + j)]? = some q := by
          rw [List.getElem?_append_right (by omega), Nat.add_sub_cancel_left, List.getElem?_append_right (by omega), Nat.add_sub_cancel_left]
          exact hj
        have := hD.1 _ _ _ _ hj2 hi rfl
        omega
    · omega
  have hP1 : va_P D vwCl w1 T'.heap := fun k q hk9 => by
    have hq := hap q (Or.inl (List.mem_of_getElem? hk9))
    have hkl : k < w1.length := (List.getElem?_eq_some_iff.mp hk9).1
    exact (hP k q (by rw [List.getElem?_append_left hkl]; exact hk9)).kept (hk q.1 hq.1 hq.2)
  have hP2 : va_P D vwCl w2 T'.heap := fun k q hk9 => by
    have hq := hap q (Or.inr (List.mem_of_getElem? hk9))
    exact (hP (w1.length + (ws.length + k)) q (by rw [List.getElem?_append_right (by omega), Nat.add_sub_cancel_left, List.getElem?_append_right (by omega), Nat.add_sub_cancel_left]; exact hk9)).kept (hk q.1 hq.1 hq.2)
  have hD1 : va_D A w1 := ⟨fun i j p q h1 h2 h3 => hD.1 i j p q (by rw [List.getElem?_append_left (List.getElem?_eq_some_iff.mp h1).1]; exact h1) (by rw [List.getElem?_append_left (List.getElem?_eq_some_iff.mp h2).1]; exact h2) h3, fun k q h1 => hD.2 k q (by rw [List.getElem?_append_left (List.getElem?_eq_some_iff.mp h1).1]; exact h1)⟩
  have hs2 : ∀ (k : Nat) (q : Nat × va_E), w2[k]? = some q → (w1 ++ (ws ++ w2))[w1.length + (ws.length + k)]? = some q := fun k q h => by
    rw [List.getElem?_append_right (by omega), Nat.add_sub_cancel_left, List.getElem?_append_right (by omega), Nat.add_sub_cancel_left]; exact h
  have hD2 : va_D A w2 := ⟨fun i j p q h1 h2 h3 => by have := hD.1 _ _ p q (hs2 i p h1) (hs2 j q h2) h3; omega, fun k q h1 => hD.2 _ q (hs2 k q h1)⟩
  have hDu' : va_D A (B u) := hDu.weaken (fun _ q _ h => hF q.1 h)
  have hDn : va_D A (w1 ++ (B u ++ w2)) := by
    refine hD1.app (hDu'.app hD2 (fun i j p q h1 h2 h3 => ?_)) (fun i j p q h1 h2 h3 => ?_)
    · exact (hap q (Or.inr (List.mem_of_getElem? h2))).2 (by rw [← h3]; exact hDu.2 i p h1)
    · rcases List.mem_append.mp (List.mem_of_getElem? h2) with h4 | h4
      · obtain ⟨k, hk9⟩ := List.getElem?_of_mem h4
        exact (hap p (Or.inl (List.mem_of_getElem? h1))).2 (by rw [h3]; exact hDu.2 k q hk9)
      · obtain ⟨k, hk9⟩ := List.getElem?_of_mem h4
        have hil : i < w1.length := (List.getElem?_eq_some_iff.mp h1).1
        have := hD.1 _ _ p q (by rw [List.getElem?_append_left hil]; exact h1) (hs2 k q hk9) h3
        omega
  obtain ⟨t2, a1, b1⟩ := kk u T'.heap (locs ++ L) hp (hP1.app (hPu.app hP2)) hDn
    ⟨Nat.le_trans hS.1 hz, fun q h1 h2 => by rw [hk q (Nat.lt_of_lt_of_le h1 hS.1) (fun z => h2 (hF q z))]; exact hS.2.1 q h1 h2, fun q hq => by
      rcases List.mem_append.mp hq with h | h
      · exact hS.2.2 q h
      · exact hF _ (hL q h)⟩ T' rfl X'
  exact ⟨t2, st t2 a1, b1⟩
theorem va_A_mid (hD : va_D A (w1 ++ (ws ++ w2))) (hS : va_S A s.heap H locs) (hA : ∀ q, s.heap.size ≤ q → A q) : ∀ q, va_A ws H.size q → A q := by
  intro q hq
  rcases hq with ⟨k, e9, hk⟩ | h
  · exact hD.2 (w1.length + k) (q, e9) (by rw [List.getElem?_append_right (by omega), Nat.add_sub_cancel_left, List.getElem?_append_left (List.getElem?_eq_some_iff.mp hk).1]; exact hk)
  · exact hA q (Nat.le_trans hS.1 h)
theorem va_P_mid (hP : va_P D vwCl (w1 ++ (ws ++ w2)) H) : va_P D vwCl ws H := fun k q hk => hP (w1.length + k) q (by rw [List.getElem?_append_right (by omega), Nat.add_sub_cancel_left, List.getElem?_append_left (List.getElem?_eq_some_iff.mp hk).1]; exact hk)
theorem va_D_mid (hD : va_D A (w1 ++ (ws ++ w2))) : va_D A ws := by
  have hs : ∀ (k : Nat) (q : Nat × va_E), ws[k]? = some q → (w1 ++ (ws ++ w2))[w1.length + k]? = some q := fun k q hk => by
    rw [List.getElem?_append_right (by omega), Nat.add_sub_cancel_left, List.getElem?_append_left (List.getElem?_eq_some_iff.mp hk).1]; exact hk
  exact ⟨fun i j p q h1 h2 h3 => by have := hD.1 _ _ p q (hs i p h1) (hs j q h2) h3; omega, fun k q h => hD.2 _ q (hs k q h)⟩
/-- a call that changes the part ws of the world w1 ++ (ws ++ w2), by an object -/
theorem fs_Vf {S0 : Type} {val : S0 → Option Value} {post : S0 → Prop} {B : S0 → va_W} (w1 w2 : va_W) (S : CallFix p m c cc nL s args BW own) (gd : Gd G) (hG : G A s s.heap) (hS : va_S A s.heap H locs) (hA : ∀ q, s.heap.size ≤ q → A q) (hK : va_K D vwCl tys s) (hP : va_P D vwCl (w1 ++ (ws ++ w2)) H) (hD : va_D A (w1 ++ (ws ++ w2))) (hM : Fs l y bytes maxL ret d mc ms D tys G (.ref b :: As) ws val post B) (mi : MI C y bytes maxL ret n) (hin : Cond.instanceMethod y ∈ BW) (hse : Cond.selects C y y ∈ BW) (hl : Cond.methodLink own index y ∈ BW) (hR : d + 1 ≤ R.frames ∧ 8 + (maxL + 11) + 30 * d ≤ R.locals)
    (q0 : Nat) {ci : Nat} {fs : List Value} {T : u_T} {N : Nat} (he : ws[q0]? = some (b, .inr (ci, fs))) (hc : vwCl[ci]? = some (C, T, N)) (hn : As.length = n) (hsize : ls.size = nL) (h0 : st0 = As.reverse ++ .ref b :: rest) (hW : (rest.map fun v => v.category).sum ≤ 8) (hcs : cells + mc ≤ R.cells ∧ slots + ms ≤ R.slots) (hdg : decode cc pc = .ok (.invokevirtual index, 3))
    (kk : ∀ (u : S0) (H1 : Heap) (locs1 : List Loc), post u → va_P D vwCl (w1 ++ (B u ++ w2)) H1 → va_D A (w1 ++ (B u ++ w2)) → va_S A s.heap H1 locs1 → W p l e R s m args below meth c H1 locs1 (cells + mc) (slots + ms) Q (F0 m (pc + 3) ls ((val u).toList ++ rest))) : W p l e R s m args below meth c H locs cells slots Q (F0 m pc ls st0) := by
  have hts := S.2.2.2.2
  have hPc : va_P D vwCl ws H := va_P_mid hP
  have hF := va_A_mid hD hS hA
  exact fs_go (va_runV (rest := rest) S (hM H.size) ⟨mi_B mi hts hl hR, hts _ hin, hts _ hse⟩ ⟨FPc_blind gd, va_recv hK hPc hc he, FPc_in gd hG hS hK hPc (va_D_mid hD) hF⟩ rfl hn hsize h0 (lv_room hW) hdg hcs) hP hD hS hF kk
theorem fs_Sf {S0 : Type} {val : S0 → Option Value} {post : S0 → Prop} {B : S0 → va_W} (w1 w2 : va_W) (S : CallFix p m c cc nL s args BW own) (gd : Gd G) (hG : G A s s.heap) (hS : va_S A s.heap H locs) (hA : ∀ q, s.heap.size ≤ q → A q) (hK : va_K D vwCl tys s) (hP : va_P D vwCl (w1 ++ (ws ++ w2)) H) (hD : va_D A (w1 ++ (ws ++ w2))) (hM : Fs l y bytes maxL ret d mc ms D tys G As ws val post B) (mi : MI C y bytes maxL ret n) (hst : Cond.static y ∈ BW) (hl : Cond.methodLink own index y ∈ BW) (hR : d + 1 ≤ R.frames ∧ 8 + (maxL + 11) + 30 * d ≤ R.locals)
    (hn : As.length = n) (hsize : ls.size = nL) (h0 : st0 = As.reverse ++ rest) (hW : (rest.map fun v => v.category).sum ≤ 8) (hcs : cells + mc ≤ R.cells ∧ slots + ms ≤ R.slots) (hdg : decode cc pc = .ok (.invokestatic index, 3))
    (kk : ∀ (u : S0) (H1 : Heap) (locs1 : List Loc), post u → va_P D vwCl (w1 ++ (B u ++ w2)) H1 → va_D A (w1 ++ (B u ++ w2)) → va_S A s.heap H1 locs1 → W p l e R s m args below meth c H1 locs1 (cells + mc) (slots + ms) Q (F0 m (pc + 3) ls ((val u).toList ++ rest))) : W p l e R s m args below meth c H locs cells slots Q (F0 m pc ls st0) := by
  have hts := S.2.2.2.2
  have hPc : va_P D vwCl ws H := va_P_mid hP
  have hF := va_A_mid hD hS hA
  exact fs_go (va_runS (rest := rest) S (hM H.size) ⟨mi_B mi hts hl hR, hts _ hst⟩ ⟨FPc_blind gd, FPc_in gd hG hS hK hPc (va_D_mid hD) hF⟩ rfl hn hsize h0 (lv_room hW) hdg hcs) hP hD hS hF kk
theorem fs_If {S0 : Type} {val : S0 → Option Value} {post : S0 → Prop} {B : S0 → va_W} (w1 w2 : va_W) (S : CallFix p m c cc nL s args BW own) (gd : Gd G) (hG : G A s s.heap) (hS : va_S A s.heap H locs) (hA : ∀ q, s.heap.size ≤ q → A q) (hK : va_K D vwCl tys s) (hP : va_P D vwCl (w1 ++ (ws ++ w2)) H) (hD : va_D A (w1 ++ (ws ++ w2))) (hM : Fs l y bytes maxL none d mc ms D tys G (.ref b :: As) ws val post B) (mi : MI C y bytes maxL none n) (hin : Cond.instanceMethod y ∈ BW) (hl : Cond.methodLink own index y ∈ BW) (hy1 : y.name = "<init>") (hR : d + 1 ≤ R.frames ∧ 8 + (maxL + 11) + 30 * d ≤ R.locals)
    (hn : As.length = n) (hsize : ls.size = nL) (h0 : st0 = As.reverse ++ .ref b :: rest) (hW : (rest.map fun v => v.category).sum ≤ 8) (hcs : cells + mc ≤ R.cells ∧ slots + ms ≤ R.slots) (hdg : decode cc pc = .ok (.invokespecial index, 3))
    (kk : ∀ (u : S0) (H1 : Heap) (locs1 : List Loc), post u → va_P D vwCl (w1 ++ (B u ++ w2)) H1 → va_D A (w1 ++ (B u ++ w2)) → va_S A s.heap H1 locs1 → W p l e R s m args below meth c H1 locs1 (cells + mc) (slots + ms) Q (F0 m (pc + 3) ls ((val u).toList ++ rest))) : W p l e R s m args below meth c H locs cells slots Q (F0 m pc ls st0) := by
  have hts := S.2.2.2.2
  have hPc : va_P D vwCl ws H := va_P_mid hP
  have hF := va_A_mid hD hS hA
  exact fs_go (va_runI (rest := rest) S (hM H.size) ⟨mi_B mi hts hl hR, hy1, hts _ hin⟩ ⟨FPc_blind gd, FPc_in gd hG hS hK hPc (va_D_mid hD) hF⟩ rfl hn hsize h0 (lv_room hW) hdg hcs) hP hD hS hF kk
/-- the world is the callee's own, whole; one answer, one world -/
theorem fn_V {ws' : va_W} (S : CallFix p m c cc nL s args BW own) (gd : Gd G) (hG : G A s s.heap) (hS : va_S A s.heap H locs) (hA : ∀ q, s.heap.size ≤ q → A q) (hK : va_K D vwCl tys s) (hP : va_P D vwCl ws H) (hD : va_D A ws) (hM : Fn l y bytes maxL ret d mc ms D tys G (.ref b :: As) ws rv ws') (mi : MI C y bytes maxL ret n) (hin : Cond.instanceMethod y ∈ BW) (hse : Cond.selects C y y ∈ BW) (hl : Cond.methodLink own index y ∈ BW) (hR : d + 1 ≤ R.frames ∧ 8 + (maxL + 11) + 30 * d ≤ R.locals)
    (q0 : Nat) {ci : Nat} {fs : List Value} {T : u_T} {N : Nat} (he : ws[q0]? = some (b, .inr (ci, fs))) (hc : vwCl[ci]? = some (C, T, N)) (hn : As.length = n) (hsize : ls.size = nL) (h0 : st0 = As.reverse ++ .ref b :: rest) (hW : (rest.map fun v => v.category).sum ≤ 8) (h1 : rv.toList ++ rest = st1) (hcs : cells + mc ≤ R.cells ∧ slots + ms ≤ R.slots) (hdg : decode cc pc = .ok (.invokevirtual index, 3))
    (kk : ∀ (H1 : Heap) (locs1 : List Loc), va_P D vwCl ws' H1 → va_D A ws' → va_S A s.heap H1 locs1 → W p l e R s m args below meth c H1 locs1 (cells + mc) (slots + ms) Q (F0 m (pc + 3) ls st1)) : W p l e R s m args below meth c H locs cells slots Q (F0 m pc ls st0) := by
  have ea : ∀ w : va_W, ([] : va_W) ++ (w ++ []) = w := fun w => by simp
  refine fs_Vf [] [] S gd hG hS hA hK (by rw [ea]; exact hP) (by rw [ea]; exact hD) hM mi hin hse hl hR q0 he hc hn hsize h0 hW hcs hdg (fun u H1 locs1 _ hP1 hD1 hS1 => ?_)
  rw [ea] at hP1 hD1
  rw [h1]
  exact kk H1 locs1 hP1 hD1 hS1
theorem fn_S {ws' : va_W} (S : CallFix p m c cc nL s args BW own) (gd : Gd G) (hG : G A s s.heap) (hS : va_S A s.heap H locs) (hA : ∀ q, s.heap.size ≤ q → A q) (hK : va_K D vwCl tys s) (hP : va_P D vwCl ws H) (hD : va_D A ws) (hM : Fn l y bytes maxL ret d mc ms D tys G As ws rv ws') (mi : MI C y bytes maxL ret n) (hst : Cond.static y ∈ BW) (hl : Cond.methodLink own index y ∈ BW) (hR : d + 1 ≤ R.frames ∧ 8 + (maxL + 11) + 30 * d ≤ R.locals)
    (hn : As.length = n) (hsize : ls.size = nL) (h0 : st0 = As.reverse ++ rest) (hW : (rest.map fun v => v.category).sum ≤ 8) (h1 : rv.toList ++ rest = st1) (hcs : cells + mc ≤ R.cells ∧ slots + ms ≤ R.slots) (hdg : decode cc pc = .ok (.invokestatic index, 3))
    (kk : ∀ (H1 : Heap) (locs1 : List Loc), va_P D vwCl ws' H1 → va_D A ws' → va_S A s.heap H1 locs1 → W p l e R s m args below meth c H1 locs1 (cells + mc) (slots + ms) Q (F0 m (pc + 3) ls st1)) : W p l e R s m args below meth c H locs cells slots Q (F0 m pc ls st0) := by
  have ea : ∀ w : va_W, ([] : va_W) ++ (w ++ []) = w := fun w => by simp
  refine fs_Sf [] [] S gd hG hS hA hK (by rw [ea]; exact hP) (by rw [ea]; exact hD) hM mi hst hl hR hn hsize h0 hW hcs hdg (fun u H1 locs1 _ hP1 hD1 hS1 => ?_)
  rw [ea] at hP1 hD1
  rw [h1]
  exact kk H1 locs1 hP1 hD1 hS1
end BASE
section BODY
variable {l : Launch} {cc : ByteArray} {n d mc ms : Nat} {y : MethodName} {ret : Option FieldType} {D : va_G} {tys : TyL} {G : Gr} {av : List Value} {ws : va_W} {rv : Option Value}
/-- the body of a method that reads alone -/
theorem ro_body (hy : plainName y.cls = true) (hn : (lg_sl av).length ≤ n)
    (body : ∀ (p : Program) (e : Env) (s : State) (m : MethodId) (args : Array Value) (below : List Frame) (meth : Method) (c : Code) (Q : State → Prop), p.tables.exec = Jvm.exec → c.code = cc → c.maxLocals = n → s.vm.findClass y.cls = some m.cls → (∀ w ∈ BW, w.before args s = true) → va_K D vwCl tys s → va_P D vwCl ws s.heap → va_S (fun _ => False) s.heap s.heap [] → G (fun _ => False) s s.heap →
      meth.sig.returnType = ret → (∀ (g : JFrame), W p l e (rmd d 0 0) s m args below meth c s.heap [] 0 0 (MQ below (RQc rv) args s 0 0 (fun _ => False)) g → W p l e (rmd d 0 0) s m args below meth c s.heap [] 0 0 Q g) → meth.locks = false → ∀ ls : Array Slot, lv_has ls n (lv_args 0 av) → W p l e (rmd d 0 0) s m args below meth c s.heap [] 0 0 Q (F0 m 0 ls [])) : Ro l y cc n ret d D tys G av ws rv := by
  refine Met.ofW (cc := cc) (maxL := n) (ret := ret) hy rfl ?_
  intro p e s m args below meth c s₁ B hml hv
  obtain ⟨rfl, hP, hK, hG⟩ := hv
  have hl := lv_entry av (n := n) hn
  rw [lg_entry_eq]
  exact body p e s m av.toArray below meth c _ B.exec B.bytes hml (findClass_of_methodNamed B.named) (fun w hw => atoms_spec (ws := cw y cc n ret) B.pre w (List.mem_cons_of_mem _ hw)) hK hP va_S.rf hG B.returns (fun g h => h) B.notSynchronized _ hl
/-- the body of a method that changes its world -/
theorem fs_body {S : Type} {val : S → Option Value} {post : S → Prop} {B : S → va_W} (hy : plainName y.cls = true) (hn : (lg_sl av).length ≤ n)
    (body : ∀ (p : Program) (e : Env) (s : State) (m : MethodId) (args : Array Value) (below : List Frame) (meth : Method) (c : Code) (Q : State → Prop) (A : Nat → Prop), p.tables.exec = Jvm.exec → c.code = cc → c.maxLocals = n → s.vm.findClass y.cls = some m.cls → (∀ w ∈ BW, w.before args s = true) → va_K D vwCl tys s → va_P D vwCl ws s.heap → va_D A ws → va_S A s.heap s.heap [] → (∀ q, s.heap.size ≤ q → A q) → G A s s.heap → (y.name = "<init>" → meth.name = "<init>") →
      meth.sig.returnType = ret → (∀ (H : Heap) (locs : List Loc) (g : JFrame), va_S A s.heap H locs → W p l e (rmd d mc ms) s m args below meth c H locs mc ms (MQ below (fun _ st o t => (∃ u : S, o = .returned (val u) ∧ post u ∧ va_P D vwCl (B u) t.heap ∧ va_D A (B u)) ∧ t.heap = H) args s mc ms A) g → W p l e (rmd d mc ms) s m args below meth c H locs mc ms Q g) → meth.locks = false → ∀ ls : Array Slot, lv_has ls n (lv_args 0 av) → W p l e (rmd d mc ms) s m args below meth c s.heap [] 0 0 Q (F0 m 0 ls [])) : Fs l y cc n ret d mc ms D tys G av ws val post B := by
  intro sz
  refine Met.ofW (cc := cc) (maxL := n) (ret := ret) hy rfl ?_
  intro p e s m args below meth c s₁ Bd hml hv
  obtain ⟨rfl, hsz, hP, hK, hD, hG⟩ := hv
  subst hsz
  have hl := lv_entry av (n := n) hn
  rw [lg_entry_eq]
  refine body p e s m av.toArray below meth c _ (va_A ws s.heap.size) Bd.exec Bd.bytes hml (findClass_of_methodNamed Bd.named) (fun w hw => atoms_spec (ws := cw y cc n ret) Bd.pre w (List.mem_cons_of_mem _ hw)) hK hP hD.self va_S.rf (fun q h => Or.inr h) hG (fun hi => ((name_of_methodNamed Bd.named Bd.method).1).trans hi) Bd.returns (fun H locs g hS h => ?_) Bd.notSynchronized _ hl
  intro T hT X
  obtain ⟨t, a1, o, b1, b2, ⟨⟨u, hu⟩, b4⟩, b5⟩ := h T hT X
  exact ⟨t, a1, o, b1, b2, ⟨⟨u, hu⟩, hS.F b4⟩, b5⟩
end BODY
section RET
variable {p : Program} {l : Launch} {e : Env} {R : Room} {s : State} {m : MethodId} {args : Array Value} {below : List Frame} {meth : Method} {c : Code} {H : Heap} {locs : List Loc} {cells slots : Nat} {Q : State → Prop} {cc : ByteArray} {pc : Nat} {ls : Array Slot} {D : va_G} {A : Nat → Prop} {rv : Option Value}
theorem ro_i (hx : p.tables.exec = Jvm.exec) (hb : c.code = cc) (hr : meth.sig.returnType = some .int) (hlocks : meth.locks = false) (hq : ∀ (g : JFrame), W p l e R s m args below meth c s.heap [] 0 0 (MQ below (RQc rv) args s 0 0 (fun _ => False)) g → W p l e R s m args below meth c s.heap [] 0 0 Q g) {v : Int32} (hdg : decode cc pc = .ok (.ireturn, 1)) (hv : some (.int v) = rv) : W p l e R s m args below meth c s.heap [] 0 0 Q (F0 m pc ls [.int v]) :=
  hq _ (W.iret hx hb hr (fun t ht _ => ⟨by rw [hv], ht⟩) (fun q h => by cases h) hdg hlocks)
theorem ro_z (hx : p.tables.exec = Jvm.exec) (hb : c.code = cc) (hr : meth.sig.returnType = some .boolean) (hlocks : meth.locks = false) (hq : ∀ (g : JFrame), W p l e R s m args below meth c s.heap [] 0 0 (MQ below (RQc rv) args s 0 0 (fun _ => False)) g → W p l e R s m args below meth c s.heap [] 0 0 Q g) {v : Int32} (hn : narrow .boolean (.int v) = .int v) (hdg : decode cc pc = .ok (.ireturn, 1)) (hv : some (.int v) = rv) : W p l e R s m args below meth c s.heap [] 0 0 Q (F0 m pc ls [.int v]) :=
  hq _ (W.zret hx hb hr hn (fun t ht _ => ⟨by rw [hv], ht⟩) (fun q h => by cases h) hdg hlocks)
theorem ro_l (hx : p.tables.exec = Jvm.exec) (hb : c.code = cc) (hr : meth.sig.returnType = some .long) (hlocks : meth.locks = false) (hq : ∀ (g : JFrame), W p l e R s m args below meth c s.heap [] 0 0 (MQ below (RQc rv) args s 0 0 (fun _ => False)) g → W p l e R s m args below meth c s.heap [] 0 0 Q g) {v : Int64} (hdg : decode cc pc = .ok (.lreturn, 1)) (hv : some (.long v) = rv) : W p l e R s m args below meth c s.heap [] 0 0 Q (F0 m pc ls [.long v]) :=
  hq _ (W.lret hx hb hr (fun t ht _ => ⟨by rw [hv], ht⟩) (fun q h => by cases h) hdg hlocks)
theorem ro_a (hx : p.tables.exec = Jvm.exec) (hb : c.code = cc) {rt : FieldType} (hr : meth.sig.returnType = some rt) (hrt : (∃ n, rt = .object n) ∨ ∃ t, rt = .array t) (hlocks : meth.locks = false) (hq : ∀ (g : JFrame), W p l e R s m args below meth c s.heap [] 0 0 (MQ below (RQc rv) args s 0 0 (fun _ => False)) g → W p l e R s m args below meth c s.heap [] 0 0 Q g) {v : Value} (hvr : v = .null ∨ ∃ a, v = .ref a) (hdg : decode cc pc = .ok (.areturn, 1)) (hv : some v = rv) : W p l e R s m args below meth c s.heap [] 0 0 Q (F0 m pc ls [v]) :=
  hq _ (W.aret hx hb hr hrt hvr (fun t ht _ => ⟨by rw [hv], ht⟩) (fun q h => by cases h) hdg hlocks)
theorem ro_v (hx : p.tables.exec = Jvm.exec) (hb : c.code = cc) (hr : meth.sig.returnType = none) (hlocks : meth.locks = false) (hq : ∀ (g : JFrame), W p l e R s m args below meth c s.heap [] 0 0 (MQ below (RQc rv) args s 0 0 (fun _ => False)) g → W p l e R s m args below meth c s.heap [] 0 0 Q g) (hdg : decode cc pc = .ok (.return_, 1)) (hv : none = rv) : W p l e R s m args below meth c s.heap [] 0 0 Q (F0 m pc ls []) :=
  hq _ (W.vret hx hb hr (fun t ht _ => ⟨by rw [hv], ht⟩) (fun q h => by cases h) hdg hlocks)
variable {S : Type} {val : S → Option Value} {post : S → Prop} {B : S → va_W}
abbrev fs_hq (p : Program) (l : Launch) (e : Env) (R : Room) (s : State) (m : MethodId) (args : Array Value) (below : List Frame) (meth : Method) (c : Code) (cells slots : Nat) (Q : State → Prop) (D : va_G) (A : Nat → Prop) {S : Type} (val : S → Option Value) (post : S → Prop) (B : S → va_W) : Prop := ∀ (H : Heap) (locs : List Loc) (g : JFrame), va_S A s.heap H locs → W p l e R s m args below meth c H locs cells slots (MQ below (fun _ st o t => (∃ u : S, o = .returned (val u) ∧ post u ∧ va_P D vwCl (B u) t.heap ∧ va_D A (B u)) ∧ t.heap = H) args s cells slots A) g → W p l e R s m args below meth c H locs cells slots Q g
theorem fs_i (hx : p.tables.exec = Jvm.exec) (hb : c.code = cc) (hr : meth.sig.returnType = some .int) (hlocks : meth.locks = false) (hq : fs_hq p l e R s m args below meth c cells slots Q D A val post B) (u : S) (hu : post u) (hP : va_P D vwCl (B u) H) (hD : va_D A (B u)) (hS : va_S A s.heap H locs) {v : Int32} (hdg : decode cc pc = .ok (.ireturn, 1)) (hv : some (.int v) = val u) : W p l e R s m args below meth c H locs cells slots Q (F0 m pc ls [.int v]) :=
  hq _ _ _ hS (W.iret hx hb hr (fun t ht _ => ⟨⟨u, by rw [hv], hu, by rw [ht]; exact hP, hD⟩, ht⟩) hS.2.2 hdg hlocks)
theorem fs_z (hx : p.tables.exec = Jvm.exec) (hb : c.code = cc) (hr : meth.sig.returnType = some .boolean) (hlocks : meth.locks = false) (hq : fs_hq p l e R s m args below meth c cells slots Q D A val post B) (u : S) (hu : post u) (hP : va_P D vwCl (B u) H) (hD : va_D A (B u)) (hS : va_S A s.heap H locs) {v : Int32} (hn : narrow .boolean (.int v) = .int v) (hdg : decode cc pc = .ok (.ireturn, 1)) (hv : some (.int v) = val u) : W p l e R s m args below meth c H locs cells slots Q (F0 m pc ls [.int v]) :=
  hq _ _ _ hS (W.zret hx hb hr hn (fun t ht _ => ⟨⟨u, by rw [hv], hu, by rw [ht]; exact hP, hD⟩, ht⟩) hS.2.2 hdg hlocks)
theorem fs_l (hx : p.tables.exec = Jvm.exec) (hb : c.code = cc) (hr : meth.sig.returnType = some .long) (hlocks : meth.locks = false) (hq : fs_hq p l e R s m args below meth c cells slots Q D A val post B) (u : S) (hu : post u) (hP : va_P D vwCl (B u) H) (hD : va_D A (B u)) (hS : va_S A s.heap H locs) {v : Int64} (hdg : decode cc pc = .ok (.lreturn, 1)) (hv : some (.long v) = val u) : W p l e R s m args below meth c H locs cells slots Q (F0 m pc ls [.long v]) :=
  hq _ _ _ hS (W.lret hx hb hr (fun t ht _ => ⟨⟨u, by rw [hv], hu, by rw [ht]; exact hP, hD⟩, ht⟩) hS.2.2 hdg hlocks)
theorem fs_v (hx : p.tables.exec = Jvm.exec) (hb : c.code = cc) (hr : meth.sig.returnType = none) (hlocks : meth.locks = false) (hq : fs_hq p l e R s m args below meth c cells slots Q D A val post B) (u : S) (hu : post u) (hP : va_P D vwCl (B u) H) (hD : va_D A (B u)) (hS : va_S A s.heap H locs) (hdg : decode cc pc = .ok (.return_, 1)) (hv : none = val u) : W p l e R s m args below meth c H locs cells slots Q (F0 m pc ls []) :=
  hq _ _ _ hS (W.vret hx hb hr (fun t ht _ => ⟨⟨u, by rw [hv], hu, by rw [ht]; exact hP, hD⟩, ht⟩) hS.2.2 hdg hlocks)
theorem fs_a (hx : p.tables.exec = Jvm.exec) (hb : c.code = cc) {rt : FieldType} (hr : meth.sig.returnType = some rt) (hrt : (∃ n, rt = .object n) ∨ ∃ t, rt = .array t) (hlocks : meth.locks = false) (hq : fs_hq p l e R s m args below meth c cells slots Q D A val post B) (u : S) (hu : post u) (hP : va_P D vwCl (B u) H) (hD : va_D A (B u)) (hS : va_S A s.heap H locs) {v : Value} (hvr : v = .null ∨ ∃ a, v = .ref a) (hdg : decode cc pc = .ok (.areturn, 1)) (hv : some v = val u) : W p l e R s m args below meth c H locs cells slots Q (F0 m pc ls [v]) :=
  hq _ _ _ hS (W.aret hx hb hr hrt hvr (fun t ht _ => ⟨⟨u, by rw [hv], hu, by rw [ht]; exact hP, hD⟩, ht⟩) hS.2.2 hdg hlocks)
end RET
end
section
/-! ===== rows of our own beside the kit's: indices as naturals, tops rewritten ===== -/
def up {α : Type} (f : Nat → α) (k : Nat) (x : α) : Nat → α := fun j => cond (Nat.beq j k) x (f j)
theorem up_eq {α : Type} (f : Nat → α) (k : Nat) (x : α) : up f k x k = x := by simp [up]
theorem up_ne {α : Type} (f : Nat → α) {k j : Nat} (x : α) (h : j ≠ k) : up f k x j = f j := by
  unfold up
  cases hb : Nat.beq j k
  · rfl
  · exact absurd (Nat.eq_of_beq_eq_true hb) h
theorem up_same {α : Type} (f : Nat → α) (k : Nat) : up f k (f k) = f := by
  funext j
  by_cases h : j = k
  · subst h; exact up_eq _ _ _
  · exact up_ne _ _ h
theorem up_up {α : Type} (f : Nat → α) (k : Nat) (x y : α) : up (up f k x) k y = up f k y := by
  funext j
  by_cases h : j = k
  · subst h; rw [up_eq, up_eq]
  · rw [up_ne _ _ h, up_ne _ _ h, up_ne _ _ h]
theorem up_if {α : Type} (f : Nat → α) (k : Nat) (x : α) (j : Nat) : up f k x j = if j = k then x else f j := by
  by_cases h : j = k
  · subst h; rw [up_eq, if_pos rfl]
  · rw [up_ne _ _ h, if_neg h]
theorem upd_eq (f : Nat → Int32) (k : Nat) (x : Int32) : upd f k x k = x := by simp [upd]
theorem upd_ne (f : Nat → Int32) {k j : Nat} (x : Int32) (h : j ≠ k) : upd f k x j = f j := by simp [upd, h]
section ROWS
variable {p : Program} {l : Launch} {e : Env} {R : Room} {s : State} {m : MethodId} {args : Array Value} {below : List Frame} {meth : Method} {c : Code} {H H0 : Heap} {locs : List Loc} {cells slots : Nat} {Q : State → Prop} {cc : ByteArray} {pc : Nat} {ls : Array Slot} {rest : List Value} {D : va_G} {cl : List vw_C} {tys : TyL} {A : Nat → Prop} {ws : va_W} {a : Nat}
theorem rw_topi {x y : Int32} (h : x = y) (k : W p l e R s m args below meth c H locs cells slots Q (F0 m pc ls (.int y :: rest))) : W p l e R s m args below meth c H locs cells slots Q (F0 m pc ls (.int x :: rest)) := by rw [h]; exact k
theorem rw_topl {x y : Int64} (h : x = y) (k : W p l e R s m args below meth c H locs cells slots Q (F0 m pc ls (.long y :: rest))) : W p l e R s m args below meth c H locs cells slots Q (F0 m pc ls (.long x :: rest)) := by rw [h]; exact k
theorem rw_topv {x y : Value} (h : x = y) (k : W p l e R s m args below meth c H locs cells slots Q (F0 m pc ls (y :: rest))) : W p l e R s m args below meth c H locs cells slots Q (F0 m pc ls (x :: rest)) := by rw [h]; exact k
theorem ra_iald (hexec : p.tables.exec = Jvm.exec) (hb : c.code = cc) (hK : va_K D cl tys s) (hP : va_P D cl ws H) (q0 t0 : Nat) {cA : ClassId} {n : Nat} {f : Nat → Int32} (ha : ws[q0]? = some (a, .inl (cA, n, .inl f))) (ht : tys[t0]? = some (cA, .int)) {i : Int32} (j : Nat) (hi : i = nI j) (hj : j < n) (hn : n < 2 ^ 31) (hdg : decode cc pc = .ok (.iaload, 1))
    (kk : W p l e R s m args below meth c H locs cells slots Q (F0 m (pc + 1) ls (.int (f j) :: rest))) : W p l e R s m args below meth c H locs cells slots Q (F0 m pc ls (.int i :: .ref a :: rest)) := by
  subst hi
  refine va_iald hexec hb hK hP q0 t0 ha ht (vp_in_nI hj hn) hdg ?_
  rw [nI_clamp (Nat.lt_trans hj hn)]
  exact kk
theorem ra_zald (hexec : p.tables.exec = Jvm.exec) (hb : c.code = cc) (hK : va_K D cl tys s) (hP : va_P D cl ws H) (q0 t0 : Nat) {cA : ClassId} {n : Nat} {f : Nat → Int32} (ha : ws[q0]? = some (a, .inl (cA, n, .inl f))) (ht : tys[t0]? = some (cA, .boolean)) {i : Int32} (j : Nat) (hi : i = nI j) (hj : j < n) (hn : n < 2 ^ 31) (hdg : decode cc pc = .ok (.baload, 1))
    (kk : W p l e R s m args below meth c H locs cells slots Q (F0 m (pc + 1) ls (.int (f j) :: rest))) : W p l e R s m args below meth c H locs cells slots Q (F0 m pc ls (.int i :: .ref a :: rest)) := by
  subst hi
  refine va_zald hexec hb hK hP q0 t0 ha ht (vp_in_nI hj hn) hdg ?_
  rw [nI_clamp (Nat.lt_trans hj hn)]
  exact kk
theorem ra_iast (hexec : p.tables.exec = Jvm.exec) (hb : c.code = cc) (hK : va_K D cl tys s) (hP : va_P D cl ws H) (hD : va_D A ws) (hS : va_S A H0 H locs) (q0 t0 : Nat) {cA : ClassId} {n : Nat} {f : Nat → Int32} (ha : ws[q0]? = some (a, .inl (cA, n, .inl f))) (ht : tys[t0]? = some (cA, .int)) {i : Int32} {x : Int32} (j : Nat) (hi : i = nI j) (hj : j < n) (hn : n < 2 ^ 31) (hdg : decode cc pc = .ok (.iastore, 1))
    (kk : ∀ (H1 : Heap) (locs1 : List Loc), va_P D cl (ws.set q0 (a, .inl (cA, n, .inl (upd f j x)))) H1 → va_D A (ws.set q0 (a, .inl (cA, n, .inl (upd f j x)))) → va_S A H0 H1 locs1 → W p l e R s m args below meth c H1 locs1 cells slots Q (F0 m (pc + 1) ls rest)) : W p l e R s m args below meth c H locs cells slots Q (F0 m pc ls (.int x :: .int i :: .ref a :: rest)) := by
  subst hi
  refine va_iast hexec hb hK hP hD hS q0 t0 ha ht (vp_in_nI hj hn) hdg ?_
  rw [nI_clamp (Nat.lt_trans hj hn)]
  exact kk
theorem ra_zast (hexec : p.tables.exec = Jvm.exec) (hb : c.code = cc) (hK : va_K D cl tys s) (hP : va_P D cl ws H) (hD : va_D A ws) (hS : va_S A H0 H locs) (q0 t0 : Nat) {cA : ClassId} {n : Nat} {f : Nat → Int32} (ha : ws[q0]? = some (a, .inl (cA, n, .inl f))) (ht : tys[t0]? = some (cA, .boolean)) {i : Int32} {x : Int32} (j : Nat) (hi : i = nI j) (hj : j < n) (hn : n < 2 ^ 31) (hx1 : vp_nar .boolean x = x) (hdg : decode cc pc = .ok (.bastore, 1))
    (kk : ∀ (H1 : Heap) (locs1 : List Loc), va_P D cl (ws.set q0 (a, .inl (cA, n, .inl (upd f j x)))) H1 → va_D A (ws.set q0 (a, .inl (cA, n, .inl (upd f j x)))) → va_S A H0 H1 locs1 → W p l e R s m args below meth c H1 locs1 cells slots Q (F0 m (pc + 1) ls rest)) : W p l e R s m args below meth c H locs cells slots Q (F0 m pc ls (.int x :: .int i :: .ref a :: rest)) := by
  subst hi
  refine va_zast hexec hb hK hP hD hS q0 t0 ha ht (vp_in_nI hj hn) hdg ?_
  rw [nI_clamp (Nat.lt_trans hj hn), hx1]
  exact kk
end ROWS
/-- which arm of a switch 0 .. n takes x; n + 1: none -/
def swN (x : Int32) (n : Nat) : Nat := if 0 ≤ x.toInt ∧ x.toInt ≤ n then x.toInt.toNat else n + 1
theorem sw_cases (x : Int32) (n : Nat) : (x.toInt < 0 ∨ (n : Int) < x.toInt) ∨ ∃ j : Nat, j ≤ n ∧ x = nI j := by
  by_cases h : x < 0
  · left; left; exact Int32.lt_iff_toInt_lt.mp h
  · obtain ⟨j, hj, rfl⟩ := nI_of h
    by_cases h2 : j ≤ n
    · right; exact ⟨j, h2, rfl⟩
    · left; right; rw [nI_toInt hj]; omega
theorem swN_out {x : Int32} {n : Nat} (h : x.toInt < 0 ∨ (n : Int) < x.toInt) : swN x n = n + 1 := by
  unfold swN; rw [if_neg (by omega)]
theorem swN_in {j n : Nat} (h : j ≤ n) (hn : n < 2 ^ 31) : swN (nI j) n = j := by
  unfold swN; rw [nI_toInt (by omega), if_pos (by omega)]; omega
section ROWS2
variable {p : Program} {l : Launch} {e : Env} {R : Room} {s : State} {m : MethodId} {args : Array Value} {below : List Frame} {meth : Method} {c : Code} {H H0 : Heap} {locs : List Loc} {cells slots : Nat} {Q : State → Prop}
  {cc bytes : ByteArray} {nL maxL index n mc ms d pc : Nat} {own C : String} {y : MethodName} {ret : Option FieldType} {b : Addr} {As rest st0 st1 : List Value} {ls : Array Slot} {D : va_G} {tys : TyL} {G : Gr} {A : Nat → Prop} {ws : va_W}
theorem fs_Vw {S0 : Type} {val : S0 → Option Value} {post : S0 → Prop} {B : S0 → va_W} (S : CallFix p m c cc nL s args BW own) (gd : Gd G) (hG : G A s s.heap) (hS : va_S A s.heap H locs) (hA : ∀ q, s.heap.size ≤ q → A q) (hK : va_K D vwCl tys s) (hP : va_P D vwCl ws H) (hD : va_D A ws) (hM : Fs l y bytes maxL ret d mc ms D tys G (.ref b :: As) ws val post B) (mi : MI C y bytes maxL ret n) (hin : Cond.instanceMethod y ∈ BW) (hse : Cond.selects C y y ∈ BW) (hl : Cond.methodLink own index y ∈ BW) (hR : d + 1 ≤ R.frames ∧ 8 + (maxL + 11) + 30 * d ≤ R.locals)
    (q0 : Nat) {ci : Nat} {fs : List Value} {T : u_T} {N : Nat} (he : ws[q0]? = some (b, .inr (ci, fs))) (hc : vwCl[ci]? = some (C, T, N)) (hn : As.length = n) (hsize : ls.size = nL) (h0 : st0 = As.reverse ++ .ref b :: rest) (hW : (rest.map fun v => v.category).sum ≤ 8) (hcs : cells + mc ≤ R.cells ∧ slots + ms ≤ R.slots) (hdg : decode cc pc = .ok (.invokevirtual index, 3))
    (kk : ∀ (u : S0) (H1 : Heap) (locs1 : List Loc), post u → va_P D vwCl (B u) H1 → va_D A (B u) → va_S A s.heap H1 locs1 → W p l e R s m args below meth c H1 locs1 (cells + mc) (slots + ms) Q (F0 m (pc + 3) ls ((val u).toList ++ rest))) : W p l e R s m args below meth c H locs cells slots Q (F0 m pc ls st0) := by
  have ea : ∀ w : va_W, ([] : va_W) ++ (w ++ []) = w := fun w => by simp
  refine fs_Vf [] [] S gd hG hS hA hK (by rw [ea]; exact hP) (by rw [ea]; exact hD) hM mi hin hse hl hR q0 he hc hn hsize h0 hW hcs hdg (fun u H1 locs1 hu hP1 hD1 hS1 => ?_)
  rw [ea] at hP1 hD1
  exact kk u H1 locs1 hu hP1 hD1 hS1
theorem fs_Sw {S0 : Type} {val : S0 → Option Value} {post : S0 → Prop} {B : S0 → va_W} (S : CallFix p m c cc nL s args BW own) (gd : Gd G) (hG : G A s s.heap) (hS : va_S A s.heap H locs) (hA : ∀ q, s.heap.size ≤ q → A q) (hK : va_K D vwCl tys s) (hP : va_P D vwCl ws H) (hD : va_D A ws) (hM : Fs l y bytes maxL ret d mc ms D tys G As ws val post B) (mi : MI C y bytes maxL ret n) (hst : Cond.static y ∈ BW) (hl : Cond.methodLink own index y ∈ BW) (hR : d + 1 ≤ R.frames ∧ 8 + (maxL + 11) + 30 * d ≤ R.locals)
    (hn : As.length = n) (hsize : ls.size = nL) (h0 : st0 = As.reverse ++ rest) (hW : (rest.map fun v => v.category).sum ≤ 8) (hcs : cells + mc ≤ R.cells ∧ slots + ms ≤ R.slots) (hdg : decode cc pc = .ok (.invokestatic index, 3))
    (kk : ∀ (u : S0) (H1 : Heap) (locs1 : List Loc), post u → va_P D vwCl (B u) H1 → va_D A (B u) → va_S A s.heap H1 locs1 → W p l e R s m args below meth c H1 locs1 (cells + mc) (slots + ms) Q (F0 m (pc + 3) ls ((val u).toList ++ rest))) : W p l e R s m args below meth c H locs cells slots Q (F0 m pc ls st0) := by
  have ea : ∀ w : va_W, ([] : va_W) ++ (w ++ []) = w := fun w => by simp
  refine fs_Sf [] [] S gd hG hS hA hK (by rw [ea]; exact hP) (by rw [ea]; exact hD) hM mi hst hl hR hn hsize h0 hW hcs hdg (fun u H1 locs1 hu hP1 hD1 hS1 => ?_)
  rw [ea] at hP1 hD1
  exact kk u H1 locs1 hu hP1 hD1 hS1
end ROWS2
def bI (b : Bool) : Int32 := cond b 1 0
theorem bI_0 {b : Bool} : bI b = 0 ↔ b = false := by cases b <;> simp [bI]
theorem bI_n {b : Bool} : ¬ bI b = 0 ↔ b = true := by cases b <;> simp [bI]
theorem bI_nar (b : Bool) : narrow .boolean (.int (bI b)) = .int (bI b) := by cases b <;> rfl
/-- x is one of 0 .. n - 1 -/
def isIn (x : Int32) (n : Nat) : Bool := !decide (x < 0) && !decide (nI n ≤ x)
theorem nI_self {x : Int32} (h : ¬ x < 0) : x = nI x.toNatClampNeg := by
  obtain ⟨j, hj, rfl⟩ := nI_of h
  rw [nI_clamp hj]
theorem isIn_spec {x : Int32} {n : Nat} (h : isIn x n = true) (hn : n < 2 ^ 31) : x = nI x.toNatClampNeg ∧ x.toNatClampNeg < n := by
  simp only [isIn, Bool.and_eq_true, Bool.not_eq_true', decide_eq_false_iff_not] at h
  obtain ⟨j, hj, rfl⟩ := nI_of h.1
  rw [nI_clamp hj]
  refine ⟨rfl, ?_⟩
  rcases Nat.lt_or_ge j n with q | q
  · exact q
  · exact absurd (nI_le q hj) h.2
theorem isIn_nI {j n : Nat} (h : j < n) (hn : n < 2 ^ 31) : isIn (nI j) n = true := by
  simp only [isIn, Bool.and_eq_true, Bool.not_eq_true', decide_eq_false_iff_not]
  exact ⟨nI_pos (by omega), nI_ge h hn⟩
/-- 'none' as -1 -/
def oI (o : Option Nat) : Int32 := match o with | none => -1 | some i => nI i
/-- a counted loop: r rounds from i on -/
def lp {σ : Type} (f : Nat → σ → σ) : Nat → Nat → σ → σ
  | 0, _, s => s
  | r + 1, i, s => lp f r (i + 1) (f i s)
/-- a search: the first of r from i on -/
def fnd (P : Nat → Bool) : Nat → Nat → Option Nat
  | 0, _ => none
  | r + 1, i => if P i = true then some i else fnd P r (i + 1)
theorem fnd_lt {P : Nat → Bool} : ∀ {r i j : Nat}, fnd P r i = some j → i ≤ j ∧ j < i + r ∧ P j = true
  | 0, i, j, h => by cases h
  | r + 1, i, j, h => by
    unfold fnd at h
    by_cases hp : P i = true
    · rw [if_pos hp] at h
      cases h
      exact ⟨Nat.le_refl _, by omega, hp⟩
    · rw [if_neg hp] at h
      have := fnd_lt h
      exact ⟨by omega, by omega, this.2.2⟩
theorem oI_none {o : Option Nat} (h : oI o = -1) (hb : ∀ j, o = some j → j < 2 ^ 31) : o = none := by
  cases o with
  | none => rfl
  | some j =>
    have h1 : (nI j).toInt = (-1 : Int32).toInt := congrArg Int32.toInt h
    rw [nI_toInt (hb j rfl)] at h1
    have h2 : (-1 : Int32).toInt = -1 := by decide
    omega
theorem oI_some {o : Option Nat} (h : ¬ oI o = -1) : ∃ j, o = some j ∧ oI o = nI j := by
  cases o with
  | none => exact absurd rfl h
  | some j => exact ⟨j, rfl, rfl⟩
theorem clamp_lt {y : Int32} {n : Nat} (h0 : ¬ y < 0) (h : y < nI n) (hn : n < 2 ^ 31) : y.toNatClampNeg < n := by
  obtain ⟨j, hj, rfl⟩ := nI_of h0
  rw [nI_clamp hj]
  exact (nI_ltI hj hn).mp h
theorem clamp_le {y : Int32} {n : Nat} (h0 : ¬ y < 0) (h : y ≤ nI n) (hn : n < 2 ^ 31) : y.toNatClampNeg ≤ n := by
  obtain ⟨j, hj, rfl⟩ := nI_of h0
  rw [nI_clamp hj]
  exact (nI_leI hj hn).mp h
theorem toInt_lt0 {y : Int32} (h : ¬ y < 0) : 0 ≤ y.toInt := by
  obtain ⟨j, hj, rfl⟩ := nI_of h
  rw [nI_toInt hj]; omega
theorem toInt_le_nI {y : Int32} {n : Nat} (h : y ≤ nI n) (hn : n < 2 ^ 31) : y.toInt ≤ n := by
  have := Int32.le_iff_toInt_le.mp h
  rwa [nI_toInt hn] at this
end
section
/-! ===== plain facts of loops ===== -/
theorem lp_inv {σ : Type} {f : Nat → σ → σ} {I : σ → Prop} : ∀ (r i : Nat) (s : σ), (∀ j t, i ≤ j → j < i + r → I t → I (f j t)) → I s → I (lp f r i s)
  | 0, _, _, _, h => h
  | r + 1, i, s, hf, h => lp_inv r (i + 1) (f i s) (fun j t h1 h2 h3 => hf j t (by omega) (by omega) h3) (hf i s (Nat.le_refl _) (by omega) h)
/-- how many of n are -1 -/
def cnt (f : Nat → Int32) : Nat → Nat
  | 0 => 0
  | n + 1 => cnt f n + if f n = -1 then 1 else 0
theorem cnt_le (f : Nat → Int32) : ∀ n, cnt f n ≤ n
  | 0 => Nat.le_refl _
  | n + 1 => by
    have := cnt_le f n
    unfold cnt
    split <;> omega
theorem cnt_same {f : Nat → Int32} {j : Nat} {x : Int32} : ∀ {n : Nat}, n ≤ j → cnt (upd f j x) n = cnt f n
  | 0, _ => rfl
  | n + 1, h => by
    unfold cnt
    rw [cnt_same (n := n) (by omega), upd_ne f x (by omega)]
theorem cnt_upd {f : Nat → Int32} {j : Nat} {x : Int32} (hj : f j = -1) (hx : x ≠ -1) : ∀ {n : Nat}, j < n → cnt (upd f j x) n + 1 = cnt f n
  | 0, h => absurd h (Nat.not_lt_zero _)
  | n + 1, h => by
    unfold cnt
    by_cases e : j = n
    · subst e
      rw [cnt_same (Nat.le_refl _), upd_eq, if_neg hx, if_pos hj]
    · rw [upd_ne f x (fun z => e z.symm), ← cnt_upd hj hx (n := n) (by omega)]
      omega
/-- the sureties one step further than d -/
def fStepI (sur : Nat → Int32) (d : Int32) (k : Nat) (i : Nat) (p : (Nat → Int32) × Bool) : (Nat → Int32) × Bool := if p.1 (sur (3 * k + i)).toNatClampNeg = -1 then (upd p.1 (sur (3 * k + i)).toNatClampNeg (d + 1), true) else p
def fStepO (who st sur : Nat → Int32) (sn : Nat → Nat) (d : Int32) (k : Nat) (p : (Nat → Int32) × Bool) : (Nat → Int32) × Bool := if st k = 0 then (if p.1 (who k).toNatClampNeg = d then lp (fStepI sur d k) (sn k) 0 p else p) else p
def fSteps (who st sur : Nat → Int32) (sn : Nat → Nat) (n : Nat) (d : Int32) (f : Nat → Int32) : (Nat → Int32) × Bool := lp (fStepO who st sur sn d) n 0 (f, false)
def fSpread (who st sur : Nat → Int32) (sn : Nat → Nat) (n : Nat) : Nat → Nat → (Nat → Int32) → (Nat → Int32)
  | 0, _, f => f
  | r + 1, d, f => if (fSteps who st sur sn n (nI d) f).2 = false then (fSteps who st sur sn n (nI d) f).1 else fSpread who st sur sn n r (d + 1) (fSteps who st sur sn n (nI d) f).1
theorem fSteps_cnt {N : Nat} (hN : N < 2 ^ 31) {who st sur : Nat → Int32} {sn : Nat → Nat} {n : Nat} {d : Int32} {f : Nat → Int32} (hd : d + 1 ≠ -1) (hs : ∀ k i, k < n → i < sn k → isIn (sur (3 * k + i)) N = true) : cnt (fSteps who st sur sn n d f).1 N ≤ cnt f N ∧ ((fSteps who st sur sn n d f).2 = true → cnt (fSteps who st sur sn n d f).1 N < cnt f N) := by
  unfold fSteps
  refine lp_inv (I := fun p => cnt p.1 N ≤ cnt f N ∧ (p.2 = true → cnt p.1 N < cnt f N)) n 0 (f, false) ?_ ⟨Nat.le_refl _, fun h => by cases h⟩
  intro k p _ hk hp
  unfold fStepO
  split
  · split
    · refine lp_inv (I := fun p => cnt p.1 N ≤ cnt f N ∧ (p.2 = true → cnt p.1 N < cnt f N)) (sn k) 0 p ?_ hp
      intro i t _ hi ht
      unfold fStepI
      split
      · rename_i h1
        have h2 := cnt_upd (f := t.1) (x := d + 1) h1 hd (isIn_spec (hs k i (by omega) (by omega)) hN).2
        have h3 := ht.1
        exact ⟨by show cnt (upd t.1 _ _) N ≤ _; omega, fun _ => by show cnt (upd t.1 _ _) N < _; omega⟩
      · exact ht
    · exact hp
  · exact hp
theorem nI_nem1 {d : Nat} (h : d + 1 < 2 ^ 31) : nI d + 1 ≠ -1 := by
  rw [nI_1]
  intro e
  have h1 : (nI (d + 1)).toInt = (-1 : Int32).toInt := congrArg Int32.toInt e
  rw [nI_toInt h] at h1
  have h2 : (-1 : Int32).toInt = -1 := by decide
  omega
def fSeed (sur : Nat → Int32) (j n : Nat) (f : Nat → Int32) : Nat → Int32 := lp (fun i f => upd f (sur (3 * j + i)).toNatClampNeg 1) n 0 f
/-- the fund that has it back as number i -/
def fI (i : Nat) : Nat := if i = 0 then 0 else 6 - i
theorem fI_lt {i : Nat} : fI i < 6 := by unfold fI; split <;> omega
def cbStep (tk : Nat → Int32) (z : Nat) (fr to : Int32) (i : Nat) (p : (Nat → Int32) × Int32) : (Nat → Int32) × Int32 :=
  (if (if p.2 + tk (6 * z + fI i) ≤ to then p.2 + tk (6 * z + fI i) else to) ≤ (if fr ≤ p.2 then p.2 else fr) then p.1 else upd p.1 (fI i) (p.1 (fI i) + ((if p.2 + tk (6 * z + fI i) ≤ to then p.2 + tk (6 * z + fI i) else to) - (if fr ≤ p.2 then p.2 else fr))), p.2 + tk (6 * z + fI i))
def fBack (tk : Nat → Int32) (z : Nat) (fr to : Int32) (f : Nat → Int32) : Nat → Int32 := (lp (cbStep tk z fr to) 6 0 (f, 0)).1
/-- part i of a REST y among n -/
def lateV (n : Nat) (y : Int32) (i : Nat) : Int32 := y / nI n + (if y - y / nI n * nI n ≤ nI i then 0 else 1)
def lateStep (sur : Nat → Int32) (z n : Nat) (y : Int32) (i : Nat) (p : Nat × (Nat → Int32) × (Nat → Int32) × (Nat → Int32)) : Nat × (Nat → Int32) × (Nat → Int32) × (Nat → Int32) :=
  if lateV n y i = 0 then p else (p.1 + 1, upd p.2.1 p.1 (sur (3 * z + i)), upd p.2.2.1 p.1 (nI z), upd p.2.2.2 p.1 (lateV n y i))
theorem lateStep_le {sur : Nat → Int32} {z n : Nat} {y : Int32} : ∀ (r i : Nat) (p : Nat × (Nat → Int32) × (Nat → Int32) × (Nat → Int32)), (lp (lateStep sur z n y) r i p).1 ≤ p.1 + r
  | 0, _, _ => Nat.le_refl _
  | r + 1, i, p => by
    have h := lateStep_le r (i + 1) (lateStep sur z n y i p) (sur := sur) (z := z) (n := n) (y := y)
    have h2 : (lateStep sur z n y i p).1 ≤ p.1 + 1 := by
      unfold lateStep
      split
      · omega
      · exact Nat.le_refl _
    show (lp (lateStep sur z n y) r (i + 1) (lateStep sur z n y i p)).1 ≤ _
    omega
/-- how many of n are 2 -/
def ncl (f : Nat → Int32) : Nat → Nat
  | 0 => 0
  | n + 1 => ncl f n + if f n = 2 then 1 else 0
theorem ncl_le (f : Nat → Int32) : ∀ n, ncl f n ≤ n
  | 0 => Nat.le_refl _
  | n + 1 => by
    have := ncl_le f n
    unfold ncl
    split <;> omega
theorem ncl_lt {f : Nat → Int32} {i : Nat} (h : ¬ f i = 2) : ∀ {n : Nat}, i < n → ncl f n + 1 ≤ n
  | 0, hi => absurd hi (Nat.not_lt_zero _)
  | n + 1, hi => by
    unfold ncl
    by_cases e : i = n
    · subst e
      rw [if_neg h]
      have := ncl_le f i
      omega
    · have := ncl_lt h (n := n) (by omega)
      split <;> omega
theorem ncl_same {f : Nat → Int32} {j : Nat} {x : Int32} : ∀ {n : Nat}, n ≤ j → ncl (upd f j x) n = ncl f n
  | 0, _ => rfl
  | n + 1, h => by
    unfold ncl
    rw [ncl_same (n := n) (by omega), upd_ne f x (by omega)]
theorem ncl_upd {f : Nat → Int32} {j : Nat} (hj : ¬ f j = 2) : ∀ {n : Nat}, j < n → ncl (upd f j 2) n = ncl f n + 1
  | 0, h => absurd h (Nat.not_lt_zero _)
  | n + 1, h => by
    unfold ncl
    by_cases e : j = n
    · subst e
      rw [ncl_same (Nat.le_refl _), upd_eq, if_neg hj, if_pos rfl]
    · rw [upd_ne f 2 (fun z => e z.symm), ncl_upd hj (n := n) (by omega)]
      omega
theorem ncl_other {f : Nat → Int32} {j : Nat} {x : Int32} (hj : ¬ f j = 2) (hx : ¬ x = 2) : ∀ {n : Nat}, ncl (upd f j x) n = ncl f n
  | 0 => rfl
  | n + 1 => by
    unfold ncl
    rw [ncl_other hj hx (n := n)]
    by_cases e : j = n
    · subst e
      rw [upd_eq, if_neg hj, if_neg hx]
    · rw [upd_ne f x (fun z => e z.symm)]
def fBook (w nf : Nat) (pence book : Nat → Int32) : Nat → Int32 := lp (fun f b => upd b (6 * w + f) (if nf ≤ f then -1 else pence f)) 6 0 book
end
section
abbrev TY (k : Nat → ClassId) : TyL := [(k 0, .int), (k 1, .boolean), (k 2, .object "java/lang/Object"), (k 3, .long)]
/-- the reference's state: counters, ints, name, arrays -/
abbrev MSt : Type := (Nat → Nat) × (Nat → Int32) × Int64 × (Nat → Nat → Int32)
/-- the reference: its object at h, its arrays at q; c: its counters, v: its other ints, nm: name, a: its arrays, all by the number of the field -/
def Mw (h : Nat) (q : Nat → Nat) (k : Nat → ClassId) (c : Nat → Nat) (v : Nat → Int32) (nm : Int64) (a : Nat → Nat → Int32) : va_W :=
  [(h, .inr (9, [.int (v 0), .ref (q 1), .int (nI (c 2)), .ref (q 3), .ref (q 4), .ref (q 5), .ref (q 6), .ref (q 7), .int (v 8), .int (nI (c 9)), .int (nI (c 10)), .int (nI (c 11)), .int (nI (c 12)), .int (v 13), .int (v 14), .long nm, .int (nI (c 16)), .ref (q 17), .ref (q 18), .ref (q 19), .ref (q 20), .int (nI (c 21)), .int (nI (c 22)), .int (nI (c 23)), .int (v 24), .int (v 25), .ref (q 26), .ref (q 27), .ref (q 28), .ref (q 29), .ref (q 30), .ref (q 31), .ref (q 32), .ref (q 33), .ref (q 34), .ref (q 35), .ref (q 36), .ref (q 37), .ref (q 38), .ref (q 39), .ref (q 40), .ref (q 41), .int (nI (c 42)), .ref (q 43), .ref (q 44), .ref (q 45), .int (nI (c 46)), .ref (q 47)])),
    (q 1, .inl (k 0, 320, .inl (a 1))), (q 3, .inl (k 0, 9, .inl (a 3))), (q 4, .inl (k 0, 9, .inl (a 4))), (q 5, .inl (k 0, 9, .inl (a 5))), (q 6, .inl (k 0, 9, .inl (a 6))), (q 7, .inl (k 0, 9, .inl (a 7))), (q 17, .inl (k 0, 40, .inl (a 17))), (q 18, .inl (k 0, 6, .inl (a 18))), (q 19, .inl (k 0, 6, .inl (a 19))), (q 20, .inl (k 0, 2406, .inl (a 20))), (q 26, .inl (k 0, 100, .inl (a 26))), (q 27, .inl (k 0, 100, .inl (a 27))), (q 28, .inl (k 0, 100, .inl (a 28))), (q 29, .inl (k 0, 100, .inl (a 29))), (q 30, .inl (k 0, 100, .inl (a 30))), (q 31, .inl (k 0, 100, .inl (a 31))), (q 32, .inl (k 0, 100, .inl (a 32))), (q 33, .inl (k 0, 100, .inl (a 33))), (q 34, .inl (k 0, 100, .inl (a 34))), (q 35, .inl (k 0, 100, .inl (a 35))), (q 36, .inl (k 0, 100, .inl (a 36))), (q 37, .inl (k 0, 100, .inl (a 37))), (q 38, .inl (k 0, 100, .inl (a 38))), (q 39, .inl (k 0, 100, .inl (a 39))), (q 40, .inl (k 0, 300, .inl (a 40))), (q 41, .inl (k 0, 600, .inl (a 41))), (q 43, .inl (k 0, 300, .inl (a 43))), (q 44, .inl (k 0, 300, .inl (a 44))), (q 45, .inl (k 0, 300, .inl (a 45))), (q 47, .inl (k 0, 40, .inl (a 47)))]
abbrev MwU (h : Nat) (q : Nat → Nat) (k : Nat → ClassId) (u : MSt) : va_W := Mw h q k u.1 u.2.1 u.2.2.1 u.2.2.2
theorem mi_X9_init : MI RX9 yX9_init cX9_init 1 none 0 := ⟨⟨wd_1_10, wd_4_190⟩, rfl, by decide +kernel, by decide +kernel, by decide +kernel⟩
theorem mi_X9_thrown : MI RX9 yX9_thrown cX9_thrown 1 (some .int) 0 := ⟨⟨wd_1_10, wd_5_101⟩, rfl, by decide +kernel, by decide +kernel, by decide +kernel⟩
theorem mi_X9_refuse : MI RX9 yX9_refuse cX9_refuse 1 (some .int) 0 := ⟨⟨wd_1_10, wd_6_26⟩, rfl, by decide +kernel, by decide +kernel, by decide +kernel⟩
theorem mi_X9_come : MI RX9 yX9_come cX9_come 3 none 1 := ⟨⟨wd_1_10, wd_5_109⟩, rfl, by decide +kernel, by decide +kernel, by decide +kernel⟩
theorem mi_X9_feed : MI RX9 yX9_feed cX9_feed 6 (some .int) 5 := ⟨⟨wd_1_10, wd_5_105⟩, rfl, by decide +kernel, by decide +kernel, by decide +kernel⟩
theorem mi_X9_end : MI RX9 yX9_end cX9_end 2 (some .boolean) 1 := ⟨⟨wd_1_10, wd_5_113⟩, rfl, by decide +kernel, by decide +kernel, by decide +kernel⟩
theorem mi_X9_at : MI RX9 yX9_at cX9_at 2 (some .int) 1 := ⟨⟨wd_1_10, wd_5_135⟩, rfl, by decide +kernel, by decide +kernel, by decide +kernel⟩
theorem mi_X9_isDigit : MI RX9 yX9_isDigit cX9_isDigit 1 (some .boolean) 1 := ⟨⟨wd_1_10, wd_5_131⟩, rfl, by decide +kernel, by decide +kernel, by decide +kernel⟩
theorem mi_X9_isLetter : MI RX9 yX9_isLetter cX9_isLetter 1 (some .boolean) 1 := ⟨⟨wd_1_10, wd_5_128⟩, rfl, by decide +kernel, by decide +kernel, by decide +kernel⟩
theorem mi_X9_go : MI RX9 yX9_go cX9_go 5 none 0 := ⟨⟨wd_1_10, wd_5_125⟩, rfl, by decide +kernel, by decide +kernel, by decide +kernel⟩
theorem mi_X9_spelt : MI RX9 yX9_spelt cX9_spelt 7 (some .long) 5 := ⟨⟨wd_1_10, wd_5_145⟩, rfl, by decide +kernel, by decide +kernel, by decide +kernel⟩
theorem mi_X9_ruleAtHand : MI RX9 yX9_ruleAtHand cX9_ruleAtHand 1 (some .int) 0 := ⟨⟨wd_1_10, wd_5_142⟩, rfl, by decide +kernel, by decide +kernel, by decide +kernel⟩
theorem mi_X9_bad : MI RX9 yX9_bad cX9_bad 2 (some .boolean) 1 := ⟨⟨wd_1_10, wd_5_152⟩, rfl, by decide +kernel, by decide +kernel, by decide +kernel⟩
theorem mi_X9_readRules : MI RX9 yX9_readRules cX9_readRules 3 (some .boolean) 0 := ⟨⟨wd_1_10, wd_5_121⟩, rfl, by decide +kernel, by decide +kernel, by decide +kernel⟩
theorem mi_X9_rules : MI RX9 yX9_rules cX9_rules 2 (some .int) 0 := ⟨⟨wd_1_10, wd_5_117⟩, rfl, by decide +kernel, by decide +kernel, by decide +kernel⟩
theorem mi_X9_fault : MI RX9 yX9_fault cX9_fault 1 (some .int) 0 := ⟨⟨wd_1_10, wd_5_156⟩, rfl, by decide +kernel, by decide +kernel, by decide +kernel⟩
theorem mi_X9_rule : MI RX9 yX9_rule cX9_rule 2 (some .int) 1 := ⟨⟨wd_1_10, wd_5_160⟩, rfl, by decide +kernel, by decide +kernel, by decide +kernel⟩
theorem mi_X9_isPerson : MI RX9 yX9_isPerson cX9_isPerson 2 (some .boolean) 1 := ⟨⟨wd_1_10, wd_5_172⟩, rfl, by decide +kernel, by decide +kernel, by decide +kernel⟩
theorem mi_X9_isFund : MI RX9 yX9_isFund cX9_isFund 2 (some .boolean) 1 := ⟨⟨wd_1_10, wd_5_185⟩, rfl, by decide +kernel, by decide +kernel, by decide +kernel⟩
theorem mi_X9_person : MI RX9 yX9_person cX9_person 2 (some .int) 1 := ⟨⟨wd_1_10, wd_5_164⟩, rfl, by decide +kernel, by decide +kernel, by decide +kernel⟩
theorem mi_X9_tag : MI RX9 yX9_tag cX9_tag 4 (some .boolean) 3 := ⟨⟨wd_1_10, wd_5_168⟩, rfl, by decide +kernel, by decide +kernel, by decide +kernel⟩
theorem mi_X9_fund : MI RX9 yX9_fund cX9_fund 3 (some .int) 2 := ⟨⟨wd_1_10, wd_5_176⟩, rfl, by decide +kernel, by decide +kernel, by decide +kernel⟩
theorem mi_X9_gift : MI RX9 yX9_gift cX9_gift 3 (some .int) 2 := ⟨⟨wd_1_10, wd_5_181⟩, rfl, by decide +kernel, by decide +kernel, by decide +kernel⟩
theorem mi_X9_openOf : MI RX9 yX9_openOf cX9_openOf 3 (some .int) 1 := ⟨⟨wd_1_10, wd_5_198⟩, rfl, by decide +kernel, by decide +kernel, by decide +kernel⟩
theorem mi_X9_isBarred : MI RX9 yX9_isBarred cX9_isBarred 4 (some .boolean) 1 := ⟨⟨wd_1_10, wd_5_202⟩, rfl, by decide +kernel, by decide +kernel, by decide +kernel⟩
theorem mi_X9_standsFor : MI RX9 yX9_standsFor cX9_standsFor 5 (some .int) 1 := ⟨⟨wd_1_10, wd_5_210⟩, rfl, by decide +kernel, by decide +kernel, by decide +kernel⟩
theorem mi_X9_steps : MI RX9 yX9_steps cX9_steps 6 (some .boolean) 1 := ⟨⟨wd_1_10, wd_5_222⟩, rfl, by decide +kernel, by decide +kernel, by decide +kernel⟩
theorem mi_X9_spread : MI RX9 yX9_spread cX9_spread 2 none 0 := ⟨⟨wd_1_10, wd_5_218⟩, rfl, by decide +kernel, by decide +kernel, by decide +kernel⟩
theorem mi_X9_clear : MI RX9 yX9_clear cX9_clear 2 none 0 := ⟨⟨wd_1_10, wd_5_214⟩, rfl, by decide +kernel, by decide +kernel, by decide +kernel⟩
theorem mi_X9_isTwice : MI RX9 yX9_isTwice cX9_isTwice 4 (some .boolean) 2 := ⟨⟨wd_1_10, wd_5_206⟩, rfl, by decide +kernel, by decide +kernel, by decide +kernel⟩
theorem mi_X9_why : MI RX9 yX9_why cX9_why 6 (some .int) 3 := ⟨⟨wd_1_10, wd_5_194⟩, rfl, by decide +kernel, by decide +kernel, by decide +kernel⟩
theorem mi_X9_ask : MI RX9 yX9_ask cX9_ask 9 (some .int) 2 := ⟨⟨wd_1_10, wd_5_190⟩, rfl, by decide +kernel, by decide +kernel, by decide +kernel⟩
theorem mi_X9_comesBack : MI RX9 yX9_comesBack cX9_comesBack 11 none 2 := ⟨⟨wd_1_10, wd_6_2⟩, rfl, by decide +kernel, by decide +kernel, by decide +kernel⟩
theorem mi_X9_callsOf : MI RX9 yX9_callsOf cX9_callsOf 4 (some .int) 1 := ⟨⟨wd_1_10, wd_5_234⟩, rfl, by decide +kernel, by decide +kernel, by decide +kernel⟩
theorem mi_X9_owed : MI RX9 yX9_owed cX9_owed 3 (some .int) 1 := ⟨⟨wd_1_10, wd_5_230⟩, rfl, by decide +kernel, by decide +kernel, by decide +kernel⟩
theorem mi_X9_owes : MI RX9 yX9_owes cX9_owes 2 (some .int) 1 := ⟨⟨wd_1_10, wd_5_226⟩, rfl, by decide +kernel, by decide +kernel, by decide +kernel⟩
theorem mi_X9_pay : MI RX9 yX9_pay cX9_pay 8 (some .boolean) 2 := ⟨⟨wd_1_10, wd_5_238⟩, rfl, by decide +kernel, by decide +kernel, by decide +kernel⟩
theorem mi_X9_isLate : MI RX9 yX9_isLate cX9_isLate 5 none 1 := ⟨⟨wd_1_10, wd_6_10⟩, rfl, by decide +kernel, by decide +kernel, by decide +kernel⟩
theorem mi_X9_next : MI RX9 yX9_next cX9_next 4 (some .int) 0 := ⟨⟨wd_1_10, wd_6_6⟩, rfl, by decide +kernel, by decide +kernel, by decide +kernel⟩
theorem mi_X9_chest : MI RX9 yX9_chest cX9_chest 3 (some .int) 2 := ⟨⟨wd_1_10, wd_6_14⟩, rfl, by decide +kernel, by decide +kernel, by decide +kernel⟩
theorem mi_X9_isLoan : MI RX9 yX9_isLoan cX9_isLoan 2 (some .boolean) 1 := ⟨⟨wd_1_10, wd_6_22⟩, rfl, by decide +kernel, by decide +kernel, by decide +kernel⟩
theorem mi_X9_loan : MI RX9 yX9_loan cX9_loan 3 (some .int) 2 := ⟨⟨wd_1_10, wd_6_18⟩, rfl, by decide +kernel, by decide +kernel, by decide +kernel⟩
theorem mi_X9_surety : MI RX9 yX9_surety cX9_surety 3 (some .int) 2 := ⟨⟨wd_1_10, wd_6_30⟩, rfl, by decide +kernel, by decide +kernel, by decide +kernel⟩
theorem mi_X9_taken : MI RX9 yX9_taken cX9_taken 3 (some .int) 2 := ⟨⟨wd_1_10, wd_6_34⟩, rfl, by decide +kernel, by decide +kernel, by decide +kernel⟩
theorem mi_X9_character : MI RX9 yX9_character cX9_character 4 (some .int) 1 := ⟨⟨wd_1_10, wd_6_42⟩, rfl, by decide +kernel, by decide +kernel, by decide +kernel⟩
theorem mi_X9_about : MI RX9 yX9_about cX9_about 5 (some .int) 2 := ⟨⟨wd_1_10, wd_6_38⟩, rfl, by decide +kernel, by decide +kernel, by decide +kernel⟩
theorem mi_X9_ring : MI RX9 yX9_ring cX9_ring 4 (some .int) 1 := ⟨⟨wd_1_10, wd_6_46⟩, rfl, by decide +kernel, by decide +kernel, by decide +kernel⟩
theorem mi_X9_count : MI RX9 yX9_count cX9_count 4 (some .int) 1 := ⟨⟨wd_1_10, wd_6_50⟩, rfl, by decide +kernel, by decide +kernel, by decide +kernel⟩
section MROWS
variable {p : Program} {l : Launch} {e : Env} {R : Room} {s : State} {m : MethodId} {args : Array Value} {below : List Frame} {meth : Method} {c_ : Code} {H H0 : Heap} {locs : List Loc} {cells slots : Nat} {Q : State → Prop} {cc : ByteArray} {pc : Nat} {ls : Array Slot} {rest : List Value} {D : va_G} {A : Nat → Prop} {h : Nat} {q : Nat → Nat} {k : Nat → ClassId} {c : Nat → Nat} {v : Nat → Int32} {nm : Int64} {a : Nat → Nat → Int32}

theorem mg_0 (hx : p.tables.exec = Jvm.exec) (hb : c_.code = cc) (hts : ∀ w ∈ BW, w.before args s = true) (hown : s.vm.findClass RX9 = some m.cls) (hK : va_K D vwCl (TY k) s) (hP : va_P D vwCl (Mw h q k c v nm a) H) {x : Int32} (hv : v 0 = x) (hdg : decode cc pc = .ok (.getfield 105, 3)) (kk : W p l e R s m args below meth c_ H locs cells slots Q (F0 m (pc + 3) ls (.int x :: rest))) : W p l e R s m args below meth c_ H locs cells slots Q (F0 m pc ls (.ref h :: rest)) := by
  subst hv
  exact va_get (D := D) (ci := 9) (v := .int (v 0)) (C := RX9) (T := TX9) (N := 48) hx hb hts inX9 hown hK hP 0 rfl rfl 0 (by decide) (hts _ wd_4_193) (fun _ h9 => h9) rfl hdg kk
theorem mp_0 (hx : p.tables.exec = Jvm.exec) (hb : c_.code = cc) (hts : ∀ w ∈ BW, w.before args s = true) (hown : s.vm.findClass RX9 = some m.cls) (hK : va_K D vwCl (TY k) s) (hP : va_P D vwCl (Mw h q k c v nm a) H) (hD : va_D A (Mw h q k c v nm a)) (hS : va_S A H0 H locs) (x : Int32) (hdg : decode cc pc = .ok (.putfield 105, 3)) (kk : ∀ (H1 : Heap) (locs1 : List Loc), va_P D vwCl (Mw h q k c (up v 0 x) nm a) H1 → va_D A (Mw h q k c (up v 0 x) nm a) → va_S A H0 H1 locs1 → W p l e R s m args below meth c_ H1 locs1 cells slots Q (F0 m (pc + 3) ls rest)) : W p l e R s m args below meth c_ H locs cells slots Q (F0 m pc ls (.int x :: .ref h :: rest)) := by
  exact va_put (D := D) (ci := 9) (v := .int x) (C := RX9) (T := TX9) (N := 48) hx hb hts inX9 tyX9 tyX9_ok nmX9 hown hK hP hD hS 0 rfl rfl 0 (by decide) (hts _ wd_4_193) (fun _ h9 => h9) rfl (tyX9_ok 0 (by decide)) rfl rfl (Nat.le_of_ble_eq_true rfl) hdg (fun H1 locs1 hP1 hD1 hS1 => kk H1 locs1 hP1 hD1 hS1)
theorem mg_1 (hx : p.tables.exec = Jvm.exec) (hb : c_.code = cc) (hts : ∀ w ∈ BW, w.before args s = true) (hown : s.vm.findClass RX9 = some m.cls) (hK : va_K D vwCl (TY k) s) (hP : va_P D vwCl (Mw h q k c v nm a) H) (hdg : decode cc pc = .ok (.getfield 7, 3)) (kk : W p l e R s m args below meth c_ H locs cells slots Q (F0 m (pc + 3) ls (.ref (q 1) :: rest))) : W p l e R s m args below meth c_ H locs cells slots Q (F0 m pc ls (.ref h :: rest)) := by
  exact va_get (D := D) (ci := 9) (v := .ref (q 1)) (C := RX9) (T := TX9) (N := 48) hx hb hts inX9 hown hK hP 0 rfl rfl 1 (by decide) (hts _ wd_4_194) (fun _ h9 => h9) rfl hdg kk
theorem ml_1 (hx : p.tables.exec = Jvm.exec) (hb : c_.code = cc) (hK : va_K D vwCl (TY k) s) (hP : va_P D vwCl (Mw h q k c v nm a) H) {i : Int32} (j : Nat) (hi : i = nI j) (hj : j < 320) {x : Int32} (hv : a 1 j = x) (hdg : decode cc pc = .ok (.iaload, 1)) (kk : W p l e R s m args below meth c_ H locs cells slots Q (F0 m (pc + 1) ls (.int x :: rest))) : W p l e R s m args below meth c_ H locs cells slots Q (F0 m pc ls (.int i :: .ref (q 1) :: rest)) := by
  subst hv
  exact ra_iald (n := 320) (f := a 1) hx hb hK hP 1 0 rfl rfl j hi hj (by decide) hdg kk
theorem mt_1 (hx : p.tables.exec = Jvm.exec) (hb : c_.code = cc) (hK : va_K D vwCl (TY k) s) (hP : va_P D vwCl (Mw h q k c v nm a) H) (hD : va_D A (Mw h q k c v nm a)) (hS : va_S A H0 H locs) {i : Int32} (j : Nat) (hi : i = nI j) (hj : j < 320) {f : Nat → Int32} (hf : a 1 = f) {x : Int32} (hdg : decode cc pc = .ok (.iastore, 1)) (kk : ∀ (H1 : Heap) (locs1 : List Loc), va_P D vwCl (Mw h q k c v nm (up a 1 (upd f j x))) H1 → va_D A (Mw h q k c v nm (up a 1 (upd f j x))) → va_S A H0 H1 locs1 → W p l e R s m args below meth c_ H1 locs1 cells slots Q (F0 m (pc + 1) ls rest)) : W p l e R s m args below meth c_ H locs cells slots Q (F0 m pc ls (.int x :: .int i :: .ref (q 1) :: rest)) := by
  subst hf
  exact ra_iast (n := 320) (f := a 1) hx hb hK hP hD hS 1 0 rfl rfl j hi hj (by decide) hdg (fun H1 locs1 hP1 hD1 hS1 => kk H1 locs1 hP1 hD1 hS1)
theorem mg_2 (hx : p.tables.exec = Jvm.exec) (hb : c_.code = cc) (hts : ∀ w ∈ BW, w.before args s = true) (hown : s.vm.findClass RX9 = some m.cls) (hK : va_K D vwCl (TY k) s) (hP : va_P D vwCl (Mw h q k c v nm a) H) {x : Int32} (hv : nI (c 2) = x) (hdg : decode cc pc = .ok (.getfield 108, 3)) (kk : W p l e R s m args below meth c_ H locs cells slots Q (F0 m (pc + 3) ls (.int x :: rest))) : W p l e R s m args below meth c_ H locs cells slots Q (F0 m pc ls (.ref h :: rest)) := by
  subst hv
  exact va_get (D := D) (ci := 9) (v := .int (nI (c 2))) (C := RX9) (T := TX9) (N := 48) hx hb hts inX9 hown hK hP 0 rfl rfl 2 (by decide) (hts _ wd_4_195) (fun _ h9 => h9) rfl hdg kk
theorem mp_2 (hx : p.tables.exec = Jvm.exec) (hb : c_.code = cc) (hts : ∀ w ∈ BW, w.before args s = true) (hown : s.vm.findClass RX9 = some m.cls) (hK : va_K D vwCl (TY k) s) (hP : va_P D vwCl (Mw h q k c v nm a) H) (hD : va_D A (Mw h q k c v nm a)) (hS : va_S A H0 H locs) (x : Nat) {y : Int32} (hy : y = nI x) (hdg : decode cc pc = .ok (.putfield 108, 3)) (kk : ∀ (H1 : Heap) (locs1 : List Loc), va_P D vwCl (Mw h q k (up c 2 x) v nm a) H1 → va_D A (Mw h q k (up c 2 x) v nm a) → va_S A H0 H1 locs1 → W p l e R s m args below meth c_ H1 locs1 cells slots Q (F0 m (pc + 3) ls rest)) : W p l e R s m args below meth c_ H locs cells slots Q (F0 m pc ls (.int y :: .ref h :: rest)) := by
  subst hy
  exact va_put (D := D) (ci := 9) (v := .int (nI x)) (C := RX9) (T := TX9) (N := 48) hx hb hts inX9 tyX9 tyX9_ok nmX9 hown hK hP hD hS 0 rfl rfl 2 (by decide) (hts _ wd_4_195) (fun _ h9 => h9) rfl (tyX9_ok 2 (by decide)) rfl rfl (Nat.le_of_ble_eq_true rfl) hdg (fun H1 locs1 hP1 hD1 hS1 => kk H1 locs1 hP1 hD1 hS1)
theorem mg_3 (hx : p.tables.exec = Jvm.exec) (hb : c_.code = cc) (hts : ∀ w ∈ BW, w.before args s = true) (hown : s.vm.findClass RX9 = some m.cls) (hK : va_K D vwCl (TY k) s) (hP : va_P D vwCl (Mw h q k c v nm a) H) (hdg : decode cc pc = .ok (.getfield 13, 3)) (kk : W p l e R s m args below meth c_ H locs cells slots Q (F0 m (pc + 3) ls (.ref (q 3) :: rest))) : W p l e R s m args below meth c_ H locs cells slots Q (F0 m pc ls (.ref h :: rest)) := by
  exact va_get (D := D) (ci := 9) (v := .ref (q 3)) (C := RX9) (T := TX9) (N := 48) hx hb hts inX9 hown hK hP 0 rfl rfl 3 (by decide) (hts _ wd_4_196) (fun _ h9 => h9) rfl hdg kk
theorem ml_3 (hx : p.tables.exec = Jvm.exec) (hb : c_.code = cc) (hK : va_K D vwCl (TY k) s) (hP : va_P D vwCl (Mw h q k c v nm a) H) {i : Int32} (j : Nat) (hi : i = nI j) (hj : j < 9) {x : Int32} (hv : a 3 j = x) (hdg : decode cc pc = .ok (.iaload, 1)) (kk : W p l e R s m args below meth c_ H locs cells slots Q (F0 m (pc + 1) ls (.int x :: rest))) : W p l e R s m args below meth c_ H locs cells slots Q (F0 m pc ls (.int i :: .ref (q 3) :: rest)) := by
  subst hv
  exact ra_iald (n := 9) (f := a 3) hx hb hK hP 2 0 rfl rfl j hi hj (by decide) hdg kk
theorem mt_3 (hx : p.tables.exec = Jvm.exec) (hb : c_.code = cc) (hK : va_K D vwCl (TY k) s) (hP : va_P D vwCl (Mw h q k c v nm a) H) (hD : va_D A (Mw h q k c v nm a)) (hS : va_S A H0 H locs) {i : Int32} (j : Nat) (hi : i = nI j) (hj : j < 9) {f : Nat → Int32} (hf : a 3 = f) {x : Int32} (hdg : decode cc pc = .ok (.iastore, 1)) (kk : ∀ (H1 : Heap) (locs1 : List Loc), va_P D vwCl (Mw h q k c v nm (up a 3 (upd f j x))) H1 → va_D A (Mw h q k c v nm (up a 3 (upd f j x))) → va_S A H0 H1 locs1 → W p l e R s m args below meth c_ H1 locs1 cells slots Q (F0 m (pc + 1) ls rest)) : W p l e R s m args below meth c_ H locs cells slots Q (F0 m pc ls (.int x :: .int i :: .ref (q 3) :: rest)) := by
  subst hf
  exact ra_iast (n := 9) (f := a 3) hx hb hK hP hD hS 2 0 rfl rfl j hi hj (by decide) hdg (fun H1 locs1 hP1 hD1 hS1 => kk H1 locs1 hP1 hD1 hS1)
theorem mg_4 (hx : p.tables.exec = Jvm.exec) (hb : c_.code = cc) (hts : ∀ w ∈ BW, w.before args s = true) (hown : s.vm.findClass RX9 = some m.cls) (hK : va_K D vwCl (TY k) s) (hP : va_P D vwCl (Mw h q k c v nm a) H) (hdg : decode cc pc = .ok (.getfield 16, 3)) (kk : W p l e R s m args below meth c_ H locs cells slots Q (F0 m (pc + 3) ls (.ref (q 4) :: rest))) : W p l e R s m args below meth c_ H locs cells slots Q (F0 m pc ls (.ref h :: rest)) := by
  exact va_get (D := D) (ci := 9) (v := .ref (q 4)) (C := RX9) (T := TX9) (N := 48) hx hb hts inX9 hown hK hP 0 rfl rfl 4 (by decide) (hts _ wd_4_197) (fun _ h9 => h9) rfl hdg kk
theorem ml_4 (hx : p.tables.exec = Jvm.exec) (hb : c_.code = cc) (hK : va_K D vwCl (TY k) s) (hP : va_P D vwCl (Mw h q k c v nm a) H) {i : Int32} (j : Nat) (hi : i = nI j) (hj : j < 9) {x : Int32} (hv : a 4 j = x) (hdg : decode cc pc = .ok (.iaload, 1)) (kk : W p l e R s m args below meth c_ H locs cells slots Q (F0 m (pc + 1) ls (.int x :: rest))) : W p l e R s m args below meth c_ H locs cells slots Q (F0 m pc ls (.int i :: .ref (q 4) :: rest)) := by
  subst hv
  exact ra_iald (n := 9) (f := a 4) hx hb hK hP 3 0 rfl rfl j hi hj (by decide) hdg kk
theorem mt_4 (hx : p.tables.exec = Jvm.exec) (hb : c_.code = cc) (hK : va_K D vwCl (TY k) s) (hP : va_P D vwCl (Mw h q k c v nm a) H) (hD : va_D A (Mw h q k c v nm a)) (hS : va_S A H0 H locs) {i : Int32} (j : Nat) (hi : i = nI j) (hj : j < 9) {f : Nat → Int32} (hf : a 4 = f) {x : Int32} (hdg : decode cc pc = .ok (.iastore, 1)) (kk : ∀ (H1 : Heap) (locs1 : List Loc), va_P D vwCl (Mw h q k c v nm (up a 4 (upd f j x))) H1 → va_D A (Mw h q k c v nm (up a 4 (upd f j x))) → va_S A H0 H1 locs1 → W p l e R s m args below meth c_ H1 locs1 cells slots Q (F0 m (pc + 1) ls rest)) : W p l e R s m args below meth c_ H locs cells slots Q (F0 m pc ls (.int x :: .int i :: .ref (q 4) :: rest)) := by
  subst hf
  exact ra_iast (n := 9) (f := a 4) hx hb hK hP hD hS 3 0 rfl rfl j hi hj (by decide) hdg (fun H1 locs1 hP1 hD1 hS1 => kk H1 locs1 hP1 hD1 hS1)
theorem mg_5 (hx : p.tables.exec = Jvm.exec) (hb : c_.code = cc) (hts : ∀ w ∈ BW, w.before args s = true) (hown : s.vm.findClass RX9 = some m.cls) (hK : va_K D vwCl (TY k) s) (hP : va_P D vwCl (Mw h q k c v nm a) H) (hdg : decode cc pc = .ok (.getfield 19, 3)) (kk : W p l e R s m args below meth c_ H locs cells slots Q (F0 m (pc + 3) ls (.ref (q 5) :: rest))) : W p l e R s m args below meth c_ H locs cells slots Q (F0 m pc ls (.ref h :: rest)) := by
  exact va_get (D := D) (ci := 9) (v := .ref (q 5)) (C := RX9) (T := TX9) (N := 48) hx hb hts inX9 hown hK hP 0 rfl rfl 5 (by decide) (hts _ wd_4_198) (fun _ h9 => h9) rfl hdg kk
theorem ml_5 (hx : p.tables.exec = Jvm.exec) (hb : c_.code = cc) (hK : va_K D vwCl (TY k) s) (hP : va_P D vwCl (Mw h q k c v nm a) H) {i : Int32} (j : Nat) (hi : i = nI j) (hj : j < 9) {x : Int32} (hv : a 5 j = x) (hdg : decode cc pc = .ok (.iaload, 1)) (kk : W p l e R s m args below meth c_ H locs cells slots Q (F0 m (pc + 1) ls (.int x :: rest))) : W p l e R s m args below meth c_ H locs cells slots Q (F0 m pc ls (.int i :: .ref (q 5) :: rest)) := by
  subst hv
  exact ra_iald (n := 9) (f := a 5) hx hb hK hP 4 0 rfl rfl j hi hj (by decide) hdg kk
theorem mt_5 (hx : p.tables.exec = Jvm.exec) (hb : c_.code = cc) (hK : va_K D vwCl (TY k) s) (hP : va_P D vwCl (Mw h q k c v nm a) H) (hD : va_D A (Mw h q k c v nm a)) (hS : va_S A H0 H locs) {i : Int32} (j : Nat) (hi : i = nI j) (hj : j < 9) {f : Nat → Int32} (hf : a 5 = f) {x : Int32} (hdg : decode cc pc = .ok (.iastore, 1)) (kk : ∀ (H1 : Heap) (locs1 : List Loc), va_P D vwCl (Mw h q k c v nm (up a 5 (upd f j x))) H1 → va_D A (Mw h q k c v nm (up a 5 (upd f j x))) → va_S A H0 H1 locs1 → W p l e R s m args below meth c_ H1 locs1 cells slots Q (F0 m (pc + 1) ls rest)) : W p l e R s m args below meth c_ H locs cells slots Q (F0 m pc ls (.int x :: .int i :: .ref (q 5) :: rest)) := by
  subst hf
  exact ra_iast (n := 9) (f := a 5) hx hb hK hP hD hS 4 0 rfl rfl j hi hj (by decide) hdg (fun H1 locs1 hP1 hD1 hS1 => kk H1 locs1 hP1 hD1 hS1)
theorem mg_6 (hx : p.tables.exec = Jvm.exec) (hb : c_.code = cc) (hts : ∀ w ∈ BW, w.before args s = true) (hown : s.vm.findClass RX9 = some m.cls) (hK : va_K D vwCl (TY k) s) (hP : va_P D vwCl (Mw h q k c v nm a) H) (hdg : decode cc pc = .ok (.getfield 23, 3)) (kk : W p l e R s m args below meth c_ H locs cells slots Q (F0 m (pc + 3) ls (.ref (q 6) :: rest))) : W p l e R s m args below meth c_ H locs cells slots Q (F0 m pc ls (.ref h :: rest)) := by
  exact va_get (D := D) (ci := 9) (v := .ref (q 6)) (C := RX9) (T := TX9) (N := 48) hx hb hts inX9 hown hK hP 0 rfl rfl 6 (by decide) (hts _ wd_4_199) (fun _ h9 => h9) rfl hdg kk
theorem ml_6 (hx : p.tables.exec = Jvm.exec) (hb : c_.code = cc) (hK : va_K D vwCl (TY k) s) (hP : va_P D vwCl (Mw h q k c v nm a) H) {i : Int32} (j : Nat) (hi : i = nI j) (hj : j < 9) {x : Int32} (hv : a 6 j = x) (hdg : decode cc pc = .ok (.iaload, 1)) (kk : W p l e R s m args below meth c_ H locs cells slots Q (F0 m (pc + 1) ls (.int x :: rest))) : W p l e R s m args below meth c_ H locs cells slots Q (F0 m pc ls (.int i :: .ref (q 6) :: rest)) := by
  subst hv
  exact ra_iald (n := 9) (f := a 6) hx hb hK hP 5 0 rfl rfl j hi hj (by decide) hdg kk
theorem mt_6 (hx : p.tables.exec = Jvm.exec) (hb : c_.code = cc) (hK : va_K D vwCl (TY k) s) (hP : va_P D vwCl (Mw h q k c v nm a) H) (hD : va_D A (Mw h q k c v nm a)) (hS : va_S A H0 H locs) {i : Int32} (j : Nat) (hi : i = nI j) (hj : j < 9) {f : Nat → Int32} (hf : a 6 = f) {x : Int32} (hdg : decode cc pc = .ok (.iastore, 1)) (kk : ∀ (H1 : Heap) (locs1 : List Loc), va_P D vwCl (Mw h q k c v nm (up a 6 (upd f j x))) H1 → va_D A (Mw h q k c v nm (up a 6 (upd f j x))) → va_S A H0 H1 locs1 → W p l e R s m args below meth c_ H1 locs1 cells slots Q (F0 m (pc + 1) ls rest)) : W p l e R s m args below meth c_ H locs cells slots Q (F0 m pc ls (.int x :: .int i :: .ref (q 6) :: rest)) := by
  subst hf
  exact ra_iast (n := 9) (f := a 6) hx hb hK hP hD hS 5 0 rfl rfl j hi hj (by decide) hdg (fun H1 locs1 hP1 hD1 hS1 => kk H1 locs1 hP1 hD1 hS1)
theorem mg_7 (hx : p.tables.exec = Jvm.exec) (hb : c_.code = cc) (hts : ∀ w ∈ BW, w.before args s = true) (hown : s.vm.findClass RX9 = some m.cls) (hK : va_K D vwCl (TY k) s) (hP : va_P D vwCl (Mw h q k c v nm a) H) (hdg : decode cc pc = .ok (.getfield 26, 3)) (kk : W p l e R s m args below meth c_ H locs cells slots Q (F0 m (pc + 3) ls (.ref (q 7) :: rest))) : W p l e R s m args below meth c_ H locs cells slots Q (F0 m pc ls (.ref h :: rest)) := by
  exact va_get (D := D) (ci := 9) (v := .ref (q 7)) (C := RX9) (T := TX9) (N := 48) hx hb hts inX9 hown hK hP 0 rfl rfl 7 (by decide) (hts _ wd_4_200) (fun _ h9 => h9) rfl hdg kk
theorem ml_7 (hx : p.tables.exec = Jvm.exec) (hb : c_.code = cc) (hK : va_K D vwCl (TY k) s) (hP : va_P D vwCl (Mw h q k c v nm a) H) {i : Int32} (j : Nat) (hi : i = nI j) (hj : j < 9) {x : Int32} (hv : a 7 j = x) (hdg : decode cc pc = .ok (.iaload, 1)) (kk : W p l e R s m args below meth c_ H locs cells slots Q (F0 m (pc + 1) ls (.int x :: rest))) : W p l e R s m args below meth c_ H locs cells slots Q (F0 m pc ls (.int i :: .ref (q 7) :: rest)) := by
  subst hv
  exact ra_iald (n := 9) (f := a 7) hx hb hK hP 6 0 rfl rfl j hi hj (by decide) hdg kk
theorem mt_7 (hx : p.tables.exec = Jvm.exec) (hb : c_.code = cc) (hK : va_K D vwCl (TY k) s) (hP : va_P D vwCl (Mw h q k c v nm a) H) (hD : va_D A (Mw h q k c v nm a)) (hS : va_S A H0 H locs) {i : Int32} (j : Nat) (hi : i = nI j) (hj : j < 9) {f : Nat → Int32} (hf : a 7 = f) {x : Int32} (hdg : decode cc pc = .ok (.iastore, 1)) (kk : ∀ (H1 : Heap) (locs1 : List Loc), va_P D vwCl (Mw h q k c v nm (up a 7 (upd f j x))) H1 → va_D A (Mw h q k c v nm (up a 7 (upd f j x))) → va_S A H0 H1 locs1 → W p l e R s m args below meth c_ H1 locs1 cells slots Q (F0 m (pc + 1) ls rest)) : W p l e R s m args below meth c_ H locs cells slots Q (F0 m pc ls (.int x :: .int i :: .ref (q 7) :: rest)) := by
  subst hf
  exact ra_iast (n := 9) (f := a 7) hx hb hK hP hD hS 6 0 rfl rfl j hi hj (by decide) hdg (fun H1 locs1 hP1 hD1 hS1 => kk H1 locs1 hP1 hD1 hS1)
theorem mg_8 (hx : p.tables.exec = Jvm.exec) (hb : c_.code = cc) (hts : ∀ w ∈ BW, w.before args s = true) (hown : s.vm.findClass RX9 = some m.cls) (hK : va_K D vwCl (TY k) s) (hP : va_P D vwCl (Mw h q k c v nm a) H) {x : Int32} (hv : v 8 = x) (hdg : decode cc pc = .ok (.getfield 161, 3)) (kk : W p l e R s m args below meth c_ H locs cells slots Q (F0 m (pc + 3) ls (.int x :: rest))) : W p l e R s m args below meth c_ H locs cells slots Q (F0 m pc ls (.ref h :: rest)) := by
  subst hv
  exact va_get (D := D) (ci := 9) (v := .int (v 8)) (C := RX9) (T := TX9) (N := 48) hx hb hts inX9 hown hK hP 0 rfl rfl 8 (by decide) (hts _ wd_4_201) (fun _ h9 => h9) rfl hdg kk
theorem mp_8 (hx : p.tables.exec = Jvm.exec) (hb : c_.code = cc) (hts : ∀ w ∈ BW, w.before args s = true) (hown : s.vm.findClass RX9 = some m.cls) (hK : va_K D vwCl (TY k) s) (hP : va_P D vwCl (Mw h q k c v nm a) H) (hD : va_D A (Mw h q k c v nm a)) (hS : va_S A H0 H locs) (x : Int32) (hdg : decode cc pc = .ok (.putfield 161, 3)) (kk : ∀ (H1 : Heap) (locs1 : List Loc), va_P D vwCl (Mw h q k c (up v 8 x) nm a) H1 → va_D A (Mw h q k c (up v 8 x) nm a) → va_S A H0 H1 locs1 → W p l e R s m args below meth c_ H1 locs1 cells slots Q (F0 m (pc + 3) ls rest)) : W p l e R s m args below meth c_ H locs cells slots Q (F0 m pc ls (.int x :: .ref h :: rest)) := by
  exact va_put (D := D) (ci := 9) (v := .int x) (C := RX9) (T := TX9) (N := 48) hx hb hts inX9 tyX9 tyX9_ok nmX9 hown hK hP hD hS 0 rfl rfl 8 (by decide) (hts _ wd_4_201) (fun _ h9 => h9) rfl (tyX9_ok 8 (by decide)) rfl rfl (Nat.le_of_ble_eq_true rfl) hdg (fun H1 locs1 hP1 hD1 hS1 => kk H1 locs1 hP1 hD1 hS1)
theorem mg_9 (hx : p.tables.exec = Jvm.exec) (hb : c_.code = cc) (hts : ∀ w ∈ BW, w.before args s = true) (hown : s.vm.findClass RX9 = some m.cls) (hK : va_K D vwCl (TY k) s) (hP : va_P D vwCl (Mw h q k c v nm a) H) {x : Int32} (hv : nI (c 9) = x) (hdg : decode cc pc = .ok (.getfield 164, 3)) (kk : W p l e R s m args below meth c_ H locs cells slots Q (F0 m (pc + 3) ls (.int x :: rest))) : W p l e R s m args below meth c_ H locs cells slots Q (F0 m pc ls (.ref h :: rest)) := by
  subst hv
  exact va_get (D := D) (ci := 9) (v := .int (nI (c 9))) (C := RX9) (T := TX9) (N := 48) hx hb hts inX9 hown hK hP 0 rfl rfl 9 (by decide) (hts _ wd_4_202) (fun _ h9 => h9) rfl hdg kk
theorem mp_9 (hx : p.tables.exec = Jvm.exec) (hb : c_.code = cc) (hts : ∀ w ∈ BW, w.before args s = true) (hown : s.vm.findClass RX9 = some m.cls) (hK : va_K D vwCl (TY k) s) (hP : va_P D vwCl (Mw h q k c v nm a) H) (hD : va_D A (Mw h q k c v nm a)) (hS : va_S A H0 H locs) (x : Nat) {y : Int32} (hy : y = nI x) (hdg : decode cc pc = .ok (.putfield 164, 3)) (kk : ∀ (H1 : Heap) (locs1 : List Loc), va_P D vwCl (Mw h q k (up c 9 x) v nm a) H1 → va_D A (Mw h q k (up c 9 x) v nm a) → va_S A H0 H1 locs1 → W p l e R s m args below meth c_ H1 locs1 cells slots Q (F0 m (pc + 3) ls rest)) : W p l e R s m args below meth c_ H locs cells slots Q (F0 m pc ls (.int y :: .ref h :: rest)) := by
  subst hy
  exact va_put (D := D) (ci := 9) (v := .int (nI x)) (C := RX9) (T := TX9) (N := 48) hx hb hts inX9 tyX9 tyX9_ok nmX9 hown hK hP hD hS 0 rfl rfl 9 (by decide) (hts _ wd_4_202) (fun _ h9 => h9) rfl (tyX9_ok 9 (by decide)) rfl rfl (Nat.le_of_ble_eq_true rfl) hdg (fun H1 locs1 hP1 hD1 hS1 => kk H1 locs1 hP1 hD1 hS1)
theorem mg_10 (hx : p.tables.exec = Jvm.exec) (hb : c_.code = cc) (hts : ∀ w ∈ BW, w.before args s = true) (hown : s.vm.findClass RX9 = some m.cls) (hK : va_K D vwCl (TY k) s) (hP : va_P D vwCl (Mw h q k c v nm a) H) {x : Int32} (hv : nI (c 10) = x) (hdg : decode cc pc = .ok (.getfield 115, 3)) (kk : W p l e R s m args below meth c_ H locs cells slots Q (F0 m (pc + 3) ls (.int x :: rest))) : W p l e R s m args below meth c_ H locs cells slots Q (F0 m pc ls (.ref h :: rest)) := by
  subst hv
  exact va_get (D := D) (ci := 9) (v := .int (nI (c 10))) (C := RX9) (T := TX9) (N := 48) hx hb hts inX9 hown hK hP 0 rfl rfl 10 (by decide) (hts _ wd_4_203) (fun _ h9 => h9) rfl hdg kk
theorem mp_10 (hx : p.tables.exec = Jvm.exec) (hb : c_.code = cc) (hts : ∀ w ∈ BW, w.before args s = true) (hown : s.vm.findClass RX9 = some m.cls) (hK : va_K D vwCl (TY k) s) (hP : va_P D vwCl (Mw h q k c v nm a) H) (hD : va_D A (Mw h q k c v nm a)) (hS : va_S A H0 H locs) (x : Nat) {y : Int32} (hy : y = nI x) (hdg : decode cc pc = .ok (.putfield 115, 3)) (kk : ∀ (H1 : Heap) (locs1 : List Loc), va_P D vwCl (Mw h q k (up c 10 x) v nm a) H1 → va_D A (Mw h q k (up c 10 x) v nm a) → va_S A H0 H1 locs1 → W p l e R s m args below meth c_ H1 locs1 cells slots Q (F0 m (pc + 3) ls rest)) : W p l e R s m args below meth c_ H locs cells slots Q (F0 m pc ls (.int y :: .ref h :: rest)) := by
  subst hy
  exact va_put (D := D) (ci := 9) (v := .int (nI x)) (C := RX9) (T := TX9) (N := 48) hx hb hts inX9 tyX9 tyX9_ok nmX9 hown hK hP hD hS 0 rfl rfl 10 (by decide) (hts _ wd_4_203) (fun _ h9 => h9) rfl (tyX9_ok 10 (by decide)) rfl rfl (Nat.le_of_ble_eq_true rfl) hdg (fun H1 locs1 hP1 hD1 hS1 => kk H1 locs1 hP1 hD1 hS1)
theorem mg_11 (hx : p.tables.exec = Jvm.exec) (hb : c_.code = cc) (hts : ∀ w ∈ BW, w.before args s = true) (hown : s.vm.findClass RX9 = some m.cls) (hK : va_K D vwCl (TY k) s) (hP : va_P D vwCl (Mw h q k c v nm a) H) {x : Int32} (hv : nI (c 11) = x) (hdg : decode cc pc = .ok (.getfield 118, 3)) (kk : W p l e R s m args below meth c_ H locs cells slots Q (F0 m (pc + 3) ls (.int x :: rest))) : W p l e R s m args below meth c_ H locs cells slots Q (F0 m pc ls (.ref h :: rest)) := by
  subst hv
  exact va_get (D := D) (ci := 9) (v := .int (nI (c 11))) (C := RX9) (T := TX9) (N := 48) hx hb hts inX9 hown hK hP 0 rfl rfl 11 (by decide) (hts _ wd_4_204) (fun _ h9 => h9) rfl hdg kk
theorem mp_11 (hx : p.tables.exec = Jvm.exec) (hb : c_.code = cc) (hts : ∀ w ∈ BW, w.before args s = true) (hown : s.vm.findClass RX9 = some m.cls) (hK : va_K D vwCl (TY k) s) (hP : va_P D vwCl (Mw h q k c v nm a) H) (hD : va_D A (Mw h q k c v nm a)) (hS : va_S A H0 H locs) (x : Nat) {y : Int32} (hy : y = nI x) (hdg : decode cc pc = .ok (.putfield 118, 3)) (kk : ∀ (H1 : Heap) (locs1 : List Loc), va_P D vwCl (Mw h q k (up c 11 x) v nm a) H1 → va_D A (Mw h q k (up c 11 x) v nm a) → va_S A H0 H1 locs1 → W p l e R s m args below meth c_ H1 locs1 cells slots Q (F0 m (pc + 3) ls rest)) : W p l e R s m args below meth c_ H locs cells slots Q (F0 m pc ls (.int y :: .ref h :: rest)) := by
  subst hy
  exact va_put (D := D) (ci := 9) (v := .int (nI x)) (C := RX9) (T := TX9) (N := 48) hx hb hts inX9 tyX9 tyX9_ok nmX9 hown hK hP hD hS 0 rfl rfl 11 (by decide) (hts _ wd_4_204) (fun _ h9 => h9) rfl (tyX9_ok 11 (by decide)) rfl rfl (Nat.le_of_ble_eq_true rfl) hdg (fun H1 locs1 hP1 hD1 hS1 => kk H1 locs1 hP1 hD1 hS1)
theorem mg_12 (hx : p.tables.exec = Jvm.exec) (hb : c_.code = cc) (hts : ∀ w ∈ BW, w.before args s = true) (hown : s.vm.findClass RX9 = some m.cls) (hK : va_K D vwCl (TY k) s) (hP : va_P D vwCl (Mw h q k c v nm a) H) {x : Int32} (hv : nI (c 12) = x) (hdg : decode cc pc = .ok (.getfield 121, 3)) (kk : W p l e R s m args below meth c_ H locs cells slots Q (F0 m (pc + 3) ls (.int x :: rest))) : W p l e R s m args below meth c_ H locs cells slots Q (F0 m pc ls (.ref h :: rest)) := by
  subst hv
  exact va_get (D := D) (ci := 9) (v := .int (nI (c 12))) (C := RX9) (T := TX9) (N := 48) hx hb hts inX9 hown hK hP 0 rfl rfl 12 (by decide) (hts _ wd_4_205) (fun _ h9 => h9) rfl hdg kk
theorem mp_12 (hx : p.tables.exec = Jvm.exec) (hb : c_.code = cc) (hts : ∀ w ∈ BW, w.before args s = true) (hown : s.vm.findClass RX9 = some m.cls) (hK : va_K D vwCl (TY k) s) (hP : va_P D vwCl (Mw h q k c v nm a) H) (hD : va_D A (Mw h q k c v nm a)) (hS : va_S A H0 H locs) (x : Nat) {y : Int32} (hy : y = nI x) (hdg : decode cc pc = .ok (.putfield 121, 3)) (kk : ∀ (H1 : Heap) (locs1 : List Loc), va_P D vwCl (Mw h q k (up c 12 x) v nm a) H1 → va_D A (Mw h q k (up c 12 x) v nm a) → va_S A H0 H1 locs1 → W p l e R s m args below meth c_ H1 locs1 cells slots Q (F0 m (pc + 3) ls rest)) : W p l e R s m args below meth c_ H locs cells slots Q (F0 m pc ls (.int y :: .ref h :: rest)) := by
  subst hy
  exact va_put (D := D) (ci := 9) (v := .int (nI x)) (C := RX9) (T := TX9) (N := 48) hx hb hts inX9 tyX9 tyX9_ok nmX9 hown hK hP hD hS 0 rfl rfl 12 (by decide) (hts _ wd_4_205) (fun _ h9 => h9) rfl (tyX9_ok 12 (by decide)) rfl rfl (Nat.le_of_ble_eq_true rfl) hdg (fun H1 locs1 hP1 hD1 hS1 => kk H1 locs1 hP1 hD1 hS1)
theorem mg_13 (hx : p.tables.exec = Jvm.exec) (hb : c_.code = cc) (hts : ∀ w ∈ BW, w.before args s = true) (hown : s.vm.findClass RX9 = some m.cls) (hK : va_K D vwCl (TY k) s) (hP : va_P D vwCl (Mw h q k c v nm a) H) {x : Int32} (hv : v 13 = x) (hdg : decode cc pc = .ok (.getfield 124, 3)) (kk : W p l e R s m args below meth c_ H locs cells slots Q (F0 m (pc + 3) ls (.int x :: rest))) : W p l e R s m args below meth c_ H locs cells slots Q (F0 m pc ls (.ref h :: rest)) := by
  subst hv
  exact va_get (D := D) (ci := 9) (v := .int (v 13)) (C := RX9) (T := TX9) (N := 48) hx hb hts inX9 hown hK hP 0 rfl rfl 13 (by decide) (hts _ wd_4_206) (fun _ h9 => h9) rfl hdg kk
theorem mp_13 (hx : p.tables.exec = Jvm.exec) (hb : c_.code = cc) (hts : ∀ w ∈ BW, w.before args s = true) (hown : s.vm.findClass RX9 = some m.cls) (hK : va_K D vwCl (TY k) s) (hP : va_P D vwCl (Mw h q k c v nm a) H) (hD : va_D A (Mw h q k c v nm a)) (hS : va_S A H0 H locs) (x : Int32) (hdg : decode cc pc = .ok (.putfield 124, 3)) (kk : ∀ (H1 : Heap) (locs1 : List Loc), va_P D vwCl (Mw h q k c (up v 13 x) nm a) H1 → va_D A (Mw h q k c (up v 13 x) nm a) → va_S A H0 H1 locs1 → W p l e R s m args below meth c_ H1 locs1 cells slots Q (F0 m (pc + 3) ls rest)) : W p l e R s m args below meth c_ H locs cells slots Q (F0 m pc ls (.int x :: .ref h :: rest)) := by
  exact va_put (D := D) (ci := 9) (v := .int x) (C := RX9) (T := TX9) (N := 48) hx hb hts inX9 tyX9 tyX9_ok nmX9 hown hK hP hD hS 0 rfl rfl 13 (by decide) (hts _ wd_4_206) (fun _ h9 => h9) rfl (tyX9_ok 13 (by decide)) rfl rfl (Nat.le_of_ble_eq_true rfl) hdg (fun H1 locs1 hP1 hD1 hS1 => kk H1 locs1 hP1 hD1 hS1)
theorem mg_14 (hx : p.tables.exec = Jvm.exec) (hb : c_.code = cc) (hts : ∀ w ∈ BW, w.before args s = true) (hown : s.vm.findClass RX9 = some m.cls) (hK : va_K D vwCl (TY k) s) (hP : va_P D vwCl (Mw h q k c v nm a) H) {x : Int32} (hv : v 14 = x) (hdg : decode cc pc = .ok (.getfield 138, 3)) (kk : W p l e R s m args below meth c_ H locs cells slots Q (F0 m (pc + 3) ls (.int x :: rest))) : W p l e R s m args below meth c_ H locs cells slots Q (F0 m pc ls (.ref h :: rest)) := by
  subst hv
  exact va_get (D := D) (ci := 9) (v := .int (v 14)) (C := RX9) (T := TX9) (N := 48) hx hb hts inX9 hown hK hP 0 rfl rfl 14 (by decide) (hts _ wd_4_207) (fun _ h9 => h9) rfl hdg kk
theorem mp_14 (hx : p.tables.exec = Jvm.exec) (hb : c_.code = cc) (hts : ∀ w ∈ BW, w.before args s = true) (hown : s.vm.findClass RX9 = some m.cls) (hK : va_K D vwCl (TY k) s) (hP : va_P D vwCl (Mw h q k c v nm a) H) (hD : va_D A (Mw h q k c v nm a)) (hS : va_S A H0 H locs) (x : Int32) (hdg : decode cc pc = .ok (.putfield 138, 3)) (kk : ∀ (H1 : Heap) (locs1 : List Loc), va_P D vwCl (Mw h q k c (up v 14 x) nm a) H1 → va_D A (Mw h q k c (up v 14 x) nm a) → va_S A H0 H1 locs1 → W p l e R s m args below meth c_ H1 locs1 cells slots Q (F0 m (pc + 3) ls rest)) : W p l e R s m args below meth c_ H locs cells slots Q (F0 m pc ls (.int x :: .ref h :: rest)) := by
  exact va_put (D := D) (ci := 9) (v := .int x) (C := RX9) (T := TX9) (N := 48) hx hb hts inX9 tyX9 tyX9_ok nmX9 hown hK hP hD hS 0 rfl rfl 14 (by decide) (hts _ wd_4_207) (fun _ h9 => h9) rfl (tyX9_ok 14 (by decide)) rfl rfl (Nat.le_of_ble_eq_true rfl) hdg (fun H1 locs1 hP1 hD1 hS1 => kk H1 locs1 hP1 hD1 hS1)
theorem mg_15 (hx : p.tables.exec = Jvm.exec) (hb : c_.code = cc) (hts : ∀ w ∈ BW, w.before args s = true) (hown : s.vm.findClass RX9 = some m.cls) (hK : va_K D vwCl (TY k) s) (hP : va_P D vwCl (Mw h q k c v nm a) H) {x : Int64} (hv : nm = x) (hdg : decode cc pc = .ok (.getfield 134, 3)) (kk : W p l e R s m args below meth c_ H locs cells slots Q (F0 m (pc + 3) ls (.long x :: rest))) : W p l e R s m args below meth c_ H locs cells slots Q (F0 m pc ls (.ref h :: rest)) := by
  subst hv
  exact va_get (D := D) (ci := 9) (v := .long nm) (C := RX9) (T := TX9) (N := 48) hx hb hts inX9 hown hK hP 0 rfl rfl 15 (by decide) (hts _ wd_4_208) (fun _ h9 => h9) rfl hdg kk
theorem mp_15 (hx : p.tables.exec = Jvm.exec) (hb : c_.code = cc) (hts : ∀ w ∈ BW, w.before args s = true) (hown : s.vm.findClass RX9 = some m.cls) (hK : va_K D vwCl (TY k) s) (hP : va_P D vwCl (Mw h q k c v nm a) H) (hD : va_D A (Mw h q k c v nm a)) (hS : va_S A H0 H locs) (x : Int64) (hdg : decode cc pc = .ok (.putfield 134, 3)) (kk : ∀ (H1 : Heap) (locs1 : List Loc), va_P D vwCl (Mw h q k c v x a) H1 → va_D A (Mw h q k c v x a) → va_S A H0 H1 locs1 → W p l e R s m args below meth c_ H1 locs1 cells slots Q (F0 m (pc + 3) ls rest)) : W p l e R s m args below meth c_ H locs cells slots Q (F0 m pc ls (.long x :: .ref h :: rest)) := by
  exact va_put (D := D) (ci := 9) (v := .long x) (C := RX9) (T := TX9) (N := 48) hx hb hts inX9 tyX9 tyX9_ok nmX9 hown hK hP hD hS 0 rfl rfl 15 (by decide) (hts _ wd_4_208) (fun _ h9 => h9) rfl (tyX9_ok 15 (by decide)) rfl rfl (Nat.le_of_ble_eq_true rfl) hdg (fun H1 locs1 hP1 hD1 hS1 => kk H1 locs1 hP1 hD1 hS1)
theorem mg_16 (hx : p.tables.exec = Jvm.exec) (hb : c_.code = cc) (hts : ∀ w ∈ BW, w.before args s = true) (hown : s.vm.findClass RX9 = some m.cls) (hK : va_K D vwCl (TY k) s) (hP : va_P D vwCl (Mw h q k c v nm a) H) {x : Int32} (hv : nI (c 16) = x) (hdg : decode cc pc = .ok (.getfield 167, 3)) (kk : W p l e R s m args below meth c_ H locs cells slots Q (F0 m (pc + 3) ls (.int x :: rest))) : W p l e R s m args below meth c_ H locs cells slots Q (F0 m pc ls (.ref h :: rest)) := by
  subst hv
  exact va_get (D := D) (ci := 9) (v := .int (nI (c 16))) (C := RX9) (T := TX9) (N := 48) hx hb hts inX9 hown hK hP 0 rfl rfl 16 (by decide) (hts _ wd_4_209) (fun _ h9 => h9) rfl hdg kk
theorem mp_16 (hx : p.tables.exec = Jvm.exec) (hb : c_.code = cc) (hts : ∀ w ∈ BW, w.before args s = true) (hown : s.vm.findClass RX9 = some m.cls) (hK : va_K D vwCl (TY k) s) (hP : va_P D vwCl (Mw h q k c v nm a) H) (hD : va_D A (Mw h q k c v nm a)) (hS : va_S A H0 H locs) (x : Nat) {y : Int32} (hy : y = nI x) (hdg : decode cc pc = .ok (.putfield 167, 3)) (kk : ∀ (H1 : Heap) (locs1 : List Loc), va_P D vwCl (Mw h q k (up c 16 x) v nm a) H1 → va_D A (Mw h q k (up c 16 x) v nm a) → va_S A H0 H1 locs1 → W p l e R s m args below meth c_ H1 locs1 cells slots Q (F0 m (pc + 3) ls rest)) : W p l e R s m args below meth c_ H locs cells slots Q (F0 m pc ls (.int y :: .ref h :: rest)) := by
  subst hy
  exact va_put (D := D) (ci := 9) (v := .int (nI x)) (C := RX9) (T := TX9) (N := 48) hx hb hts inX9 tyX9 tyX9_ok nmX9 hown hK hP hD hS 0 rfl rfl 16 (by decide) (hts _ wd_4_209) (fun _ h9 => h9) rfl (tyX9_ok 16 (by decide)) rfl rfl (Nat.le_of_ble_eq_true rfl) hdg (fun H1 locs1 hP1 hD1 hS1 => kk H1 locs1 hP1 hD1 hS1)
theorem mg_17 (hx : p.tables.exec = Jvm.exec) (hb : c_.code = cc) (hts : ∀ w ∈ BW, w.before args s = true) (hown : s.vm.findClass RX9 = some m.cls) (hK : va_K D vwCl (TY k) s) (hP : va_P D vwCl (Mw h q k c v nm a) H) (hdg : decode cc pc = .ok (.getfield 29, 3)) (kk : W p l e R s m args below meth c_ H locs cells slots Q (F0 m (pc + 3) ls (.ref (q 17) :: rest))) : W p l e R s m args below meth c_ H locs cells slots Q (F0 m pc ls (.ref h :: rest)) := by
  exact va_get (D := D) (ci := 9) (v := .ref (q 17)) (C := RX9) (T := TX9) (N := 48) hx hb hts inX9 hown hK hP 0 rfl rfl 17 (by decide) (hts _ wd_4_210) (fun _ h9 => h9) rfl hdg kk
theorem ml_17 (hx : p.tables.exec = Jvm.exec) (hb : c_.code = cc) (hK : va_K D vwCl (TY k) s) (hP : va_P D vwCl (Mw h q k c v nm a) H) {i : Int32} (j : Nat) (hi : i = nI j) (hj : j < 40) {x : Int32} (hv : a 17 j = x) (hdg : decode cc pc = .ok (.iaload, 1)) (kk : W p l e R s m args below meth c_ H locs cells slots Q (F0 m (pc + 1) ls (.int x :: rest))) : W p l e R s m args below meth c_ H locs cells slots Q (F0 m pc ls (.int i :: .ref (q 17) :: rest)) := by
  subst hv
  exact ra_iald (n := 40) (f := a 17) hx hb hK hP 7 0 rfl rfl j hi hj (by decide) hdg kk
theorem mt_17 (hx : p.tables.exec = Jvm.exec) (hb : c_.code = cc) (hK : va_K D vwCl (TY k) s) (hP : va_P D vwCl (Mw h q k c v nm a) H) (hD : va_D A (Mw h q k c v nm a)) (hS : va_S A H0 H locs) {i : Int32} (j : Nat) (hi : i = nI j) (hj : j < 40) {f : Nat → Int32} (hf : a 17 = f) {x : Int32} (hdg : decode cc pc = .ok (.iastore, 1)) (kk : ∀ (H1 : Heap) (locs1 : List Loc), va_P D vwCl (Mw h q k c v nm (up a 17 (upd f j x))) H1 → va_D A (Mw h q k c v nm (up a 17 (upd f j x))) → va_S A H0 H1 locs1 → W p l e R s m args below meth c_ H1 locs1 cells slots Q (F0 m (pc + 1) ls rest)) : W p l e R s m args below meth c_ H locs cells slots Q (F0 m pc ls (.int x :: .int i :: .ref (q 17) :: rest)) := by
  subst hf
  exact ra_iast (n := 40) (f := a 17) hx hb hK hP hD hS 7 0 rfl rfl j hi hj (by decide) hdg (fun H1 locs1 hP1 hD1 hS1 => kk H1 locs1 hP1 hD1 hS1)
theorem mg_18 (hx : p.tables.exec = Jvm.exec) (hb : c_.code = cc) (hts : ∀ w ∈ BW, w.before args s = true) (hown : s.vm.findClass RX9 = some m.cls) (hK : va_K D vwCl (TY k) s) (hP : va_P D vwCl (Mw h q k c v nm a) H) (hdg : decode cc pc = .ok (.getfield 32, 3)) (kk : W p l e R s m args below meth c_ H locs cells slots Q (F0 m (pc + 3) ls (.ref (q 18) :: rest))) : W p l e R s m args below meth c_ H locs cells slots Q (F0 m pc ls (.ref h :: rest)) := by
  exact va_get (D := D) (ci := 9) (v := .ref (q 18)) (C := RX9) (T := TX9) (N := 48) hx hb hts inX9 hown hK hP 0 rfl rfl 18 (by decide) (hts _ wd_4_211) (fun _ h9 => h9) rfl hdg kk
theorem ml_18 (hx : p.tables.exec = Jvm.exec) (hb : c_.code = cc) (hK : va_K D vwCl (TY k) s) (hP : va_P D vwCl (Mw h q k c v nm a) H) {i : Int32} (j : Nat) (hi : i = nI j) (hj : j < 6) {x : Int32} (hv : a 18 j = x) (hdg : decode cc pc = .ok (.iaload, 1)) (kk : W p l e R s m args below meth c_ H locs cells slots Q (F0 m (pc + 1) ls (.int x :: rest))) : W p l e R s m args below meth c_ H locs cells slots Q (F0 m pc ls (.int i :: .ref (q 18) :: rest)) := by
  subst hv
  exact ra_iald (n := 6) (f := a 18) hx hb hK hP 8 0 rfl rfl j hi hj (by decide) hdg kk
theorem mt_18 (hx : p.tables.exec = Jvm.exec) (hb : c_.code = cc) (hK : va_K D vwCl (TY k) s) (hP : va_P D vwCl (Mw h q k c v nm a) H) (hD : va_D A (Mw h q k c v nm a)) (hS : va_S A H0 H locs) {i : Int32} (j : Nat) (hi : i = nI j) (hj : j < 6) {f : Nat → Int32} (hf : a 18 = f) {x : Int32} (hdg : decode cc pc = .ok (.iastore, 1)) (kk : ∀ (H1 : Heap) (locs1 : List Loc), va_P D vwCl (Mw h q k c v nm (up a 18 (upd f j x))) H1 → va_D A (Mw h q k c v nm (up a 18 (upd f j x))) → va_S A H0 H1 locs1 → W p l e R s m args below meth c_ H1 locs1 cells slots Q (F0 m (pc + 1) ls rest)) : W p l e R s m args below meth c_ H locs cells slots Q (F0 m pc ls (.int x :: .int i :: .ref (q 18) :: rest)) := by
  subst hf
  exact ra_iast (n := 6) (f := a 18) hx hb hK hP hD hS 8 0 rfl rfl j hi hj (by decide) hdg (fun H1 locs1 hP1 hD1 hS1 => kk H1 locs1 hP1 hD1 hS1)
theorem mg_19 (hx : p.tables.exec = Jvm.exec) (hb : c_.code = cc) (hts : ∀ w ∈ BW, w.before args s = true) (hown : s.vm.findClass RX9 = some m.cls) (hK : va_K D vwCl (TY k) s) (hP : va_P D vwCl (Mw h q k c v nm a) H) (hdg : decode cc pc = .ok (.getfield 35, 3)) (kk : W p l e R s m args below meth c_ H locs cells slots Q (F0 m (pc + 3) ls (.ref (q 19) :: rest))) : W p l e R s m args below meth c_ H locs cells slots Q (F0 m pc ls (.ref h :: rest)) := by
  exact va_get (D := D) (ci := 9) (v := .ref (q 19)) (C := RX9) (T := TX9) (N := 48) hx hb hts inX9 hown hK hP 0 rfl rfl 19 (by decide) (hts _ wd_4_212) (fun _ h9 => h9) rfl hdg kk
theorem ml_19 (hx : p.tables.exec = Jvm.exec) (hb : c_.code = cc) (hK : va_K D vwCl (TY k) s) (hP : va_P D vwCl (Mw h q k c v nm a) H) {i : Int32} (j : Nat) (hi : i = nI j) (hj : j < 6) {x : Int32} (hv : a 19 j = x) (hdg : decode cc pc = .ok (.iaload, 1)) (kk : W p l e R s m args below meth c_ H locs cells slots Q (F0 m (pc + 1) ls (.int x :: rest))) : W p l e R s m args below meth c_ H locs cells slots Q (F0 m pc ls (.int i :: .ref (q 19) :: rest)) := by
  subst hv
  exact ra_iald (n := 6) (f := a 19) hx hb hK hP 9 0 rfl rfl j hi hj (by decide) hdg kk
theorem mt_19 (hx : p.tables.exec = Jvm.exec) (hb : c_.code = cc) (hK : va_K D vwCl (TY k) s) (hP : va_P D vwCl (Mw h q k c v nm a) H) (hD : va_D A (Mw h q k c v nm a)) (hS : va_S A H0 H locs) {i : Int32} (j : Nat) (hi : i = nI j) (hj : j < 6) {f : Nat → Int32} (hf : a 19 = f) {x : Int32} (hdg : decode cc pc = .ok (.iastore, 1)) (kk : ∀ (H1 : Heap) (locs1 : List Loc), va_P D vwCl (Mw h q k c v nm (up a 19 (upd f j x))) H1 → va_D A (Mw h q k c v nm (up a 19 (upd f j x))) → va_S A H0 H1 locs1 → W p l e R s m args below meth c_ H1 locs1 cells slots Q (F0 m (pc + 1) ls rest)) : W p l e R s m args below meth c_ H locs cells slots Q (F0 m pc ls (.int x :: .int i :: .ref (q 19) :: rest)) := by
  subst hf
  exact ra_iast (n := 6) (f := a 19) hx hb hK hP hD hS 9 0 rfl rfl j hi hj (by decide) hdg (fun H1 locs1 hP1 hD1 hS1 => kk H1 locs1 hP1 hD1 hS1)
theorem mg_20 (hx : p.tables.exec = Jvm.exec) (hb : c_.code = cc) (hts : ∀ w ∈ BW, w.before args s = true) (hown : s.vm.findClass RX9 = some m.cls) (hK : va_K D vwCl (TY k) s) (hP : va_P D vwCl (Mw h q k c v nm a) H) (hdg : decode cc pc = .ok (.getfield 38, 3)) (kk : W p l e R s m args below meth c_ H locs cells slots Q (F0 m (pc + 3) ls (.ref (q 20) :: rest))) : W p l e R s m args below meth c_ H locs cells slots Q (F0 m pc ls (.ref h :: rest)) := by
  exact va_get (D := D) (ci := 9) (v := .ref (q 20)) (C := RX9) (T := TX9) (N := 48) hx hb hts inX9 hown hK hP 0 rfl rfl 20 (by decide) (hts _ wd_4_213) (fun _ h9 => h9) rfl hdg kk
theorem ml_20 (hx : p.tables.exec = Jvm.exec) (hb : c_.code = cc) (hK : va_K D vwCl (TY k) s) (hP : va_P D vwCl (Mw h q k c v nm a) H) {i : Int32} (j : Nat) (hi : i = nI j) (hj : j < 2406) {x : Int32} (hv : a 20 j = x) (hdg : decode cc pc = .ok (.iaload, 1)) (kk : W p l e R s m args below meth c_ H locs cells slots Q (F0 m (pc + 1) ls (.int x :: rest))) : W p l e R s m args below meth c_ H locs cells slots Q (F0 m pc ls (.int i :: .ref (q 20) :: rest)) := by
  subst hv
  exact ra_iald (n := 2406) (f := a 20) hx hb hK hP 10 0 rfl rfl j hi hj (by decide) hdg kk
theorem mt_20 (hx : p.tables.exec = Jvm.exec) (hb : c_.code = cc) (hK : va_K D vwCl (TY k) s) (hP : va_P D vwCl (Mw h q k c v nm a) H) (hD : va_D A (Mw h q k c v nm a)) (hS : va_S A H0 H locs) {i : Int32} (j : Nat) (hi : i = nI j) (hj : j < 2406) {f : Nat → Int32} (hf : a 20 = f) {x : Int32} (hdg : decode cc pc = .ok (.iastore, 1)) (kk : ∀ (H1 : Heap) (locs1 : List Loc), va_P D vwCl (Mw h q k c v nm (up a 20 (upd f j x))) H1 → va_D A (Mw h q k c v nm (up a 20 (upd f j x))) → va_S A H0 H1 locs1 → W p l e R s m args below meth c_ H1 locs1 cells slots Q (F0 m (pc + 1) ls rest)) : W p l e R s m args below meth c_ H locs cells slots Q (F0 m pc ls (.int x :: .int i :: .ref (q 20) :: rest)) := by
  subst hf
  exact ra_iast (n := 2406) (f := a 20) hx hb hK hP hD hS 10 0 rfl rfl j hi hj (by decide) hdg (fun H1 locs1 hP1 hD1 hS1 => kk H1 locs1 hP1 hD1 hS1)
theorem mg_21 (hx : p.tables.exec = Jvm.exec) (hb : c_.code = cc) (hts : ∀ w ∈ BW, w.before args s = true) (hown : s.vm.findClass RX9 = some m.cls) (hK : va_K D vwCl (TY k) s) (hP : va_P D vwCl (Mw h q k c v nm a) H) {x : Int32} (hv : nI (c 21) = x) (hdg : decode cc pc = .ok (.getfield 184, 3)) (kk : W p l e R s m args below meth c_ H locs cells slots Q (F0 m (pc + 3) ls (.int x :: rest))) : W p l e R s m args below meth c_ H locs cells slots Q (F0 m pc ls (.ref h :: rest)) := by
  subst hv
  exact va_get (D := D) (ci := 9) (v := .int (nI (c 21))) (C := RX9) (T := TX9) (N := 48) hx hb hts inX9 hown hK hP 0 rfl rfl 21 (by decide) (hts _ wd_4_214) (fun _ h9 => h9) rfl hdg kk
theorem mp_21 (hx : p.tables.exec = Jvm.exec) (hb : c_.code = cc) (hts : ∀ w ∈ BW, w.before args s = true) (hown : s.vm.findClass RX9 = some m.cls) (hK : va_K D vwCl (TY k) s) (hP : va_P D vwCl (Mw h q k c v nm a) H) (hD : va_D A (Mw h q k c v nm a)) (hS : va_S A H0 H locs) (x : Nat) {y : Int32} (hy : y = nI x) (hdg : decode cc pc = .ok (.putfield 184, 3)) (kk : ∀ (H1 : Heap) (locs1 : List Loc), va_P D vwCl (Mw h q k (up c 21 x) v nm a) H1 → va_D A (Mw h q k (up c 21 x) v nm a) → va_S A H0 H1 locs1 → W p l e R s m args below meth c_ H1 locs1 cells slots Q (F0 m (pc + 3) ls rest)) : W p l e R s m args below meth c_ H locs cells slots Q (F0 m pc ls (.int y :: .ref h :: rest)) := by
  subst hy
  exact va_put (D := D) (ci := 9) (v := .int (nI x)) (C := RX9) (T := TX9) (N := 48) hx hb hts inX9 tyX9 tyX9_ok nmX9 hown hK hP hD hS 0 rfl rfl 21 (by decide) (hts _ wd_4_214) (fun _ h9 => h9) rfl (tyX9_ok 21 (by decide)) rfl rfl (Nat.le_of_ble_eq_true rfl) hdg (fun H1 locs1 hP1 hD1 hS1 => kk H1 locs1 hP1 hD1 hS1)
theorem mg_22 (hx : p.tables.exec = Jvm.exec) (hb : c_.code = cc) (hts : ∀ w ∈ BW, w.before args s = true) (hown : s.vm.findClass RX9 = some m.cls) (hK : va_K D vwCl (TY k) s) (hP : va_P D vwCl (Mw h q k c v nm a) H) {x : Int32} (hv : nI (c 22) = x) (hdg : decode cc pc = .ok (.getfield 41, 3)) (kk : W p l e R s m args below meth c_ H locs cells slots Q (F0 m (pc + 3) ls (.int x :: rest))) : W p l e R s m args below meth c_ H locs cells slots Q (F0 m pc ls (.ref h :: rest)) := by
  subst hv
  exact va_get (D := D) (ci := 9) (v := .int (nI (c 22))) (C := RX9) (T := TX9) (N := 48) hx hb hts inX9 hown hK hP 0 rfl rfl 22 (by decide) (hts _ wd_4_215) (fun _ h9 => h9) rfl hdg kk
theorem mp_22 (hx : p.tables.exec = Jvm.exec) (hb : c_.code = cc) (hts : ∀ w ∈ BW, w.before args s = true) (hown : s.vm.findClass RX9 = some m.cls) (hK : va_K D vwCl (TY k) s) (hP : va_P D vwCl (Mw h q k c v nm a) H) (hD : va_D A (Mw h q k c v nm a)) (hS : va_S A H0 H locs) (x : Nat) {y : Int32} (hy : y = nI x) (hdg : decode cc pc = .ok (.putfield 41, 3)) (kk : ∀ (H1 : Heap) (locs1 : List Loc), va_P D vwCl (Mw h q k (up c 22 x) v nm a) H1 → va_D A (Mw h q k (up c 22 x) v nm a) → va_S A H0 H1 locs1 → W p l e R s m args below meth c_ H1 locs1 cells slots Q (F0 m (pc + 3) ls rest)) : W p l e R s m args below meth c_ H locs cells slots Q (F0 m pc ls (.int y :: .ref h :: rest)) := by
  subst hy
  exact va_put (D := D) (ci := 9) (v := .int (nI x)) (C := RX9) (T := TX9) (N := 48) hx hb hts inX9 tyX9 tyX9_ok nmX9 hown hK hP hD hS 0 rfl rfl 22 (by decide) (hts _ wd_4_215) (fun _ h9 => h9) rfl (tyX9_ok 22 (by decide)) rfl rfl (Nat.le_of_ble_eq_true rfl) hdg (fun H1 locs1 hP1 hD1 hS1 => kk H1 locs1 hP1 hD1 hS1)
theorem mg_23 (hx : p.tables.exec = Jvm.exec) (hb : c_.code = cc) (hts : ∀ w ∈ BW, w.before args s = true) (hown : s.vm.findClass RX9 = some m.cls) (hK : va_K D vwCl (TY k) s) (hP : va_P D vwCl (Mw h q k c v nm a) H) {x : Int32} (hv : nI (c 23) = x) (hdg : decode cc pc = .ok (.getfield 230, 3)) (kk : W p l e R s m args below meth c_ H locs cells slots Q (F0 m (pc + 3) ls (.int x :: rest))) : W p l e R s m args below meth c_ H locs cells slots Q (F0 m pc ls (.ref h :: rest)) := by
  subst hv
  exact va_get (D := D) (ci := 9) (v := .int (nI (c 23))) (C := RX9) (T := TX9) (N := 48) hx hb hts inX9 hown hK hP 0 rfl rfl 23 (by decide) (hts _ wd_4_216) (fun _ h9 => h9) rfl hdg kk
theorem mp_23 (hx : p.tables.exec = Jvm.exec) (hb : c_.code = cc) (hts : ∀ w ∈ BW, w.before args s = true) (hown : s.vm.findClass RX9 = some m.cls) (hK : va_K D vwCl (TY k) s) (hP : va_P D vwCl (Mw h q k c v nm a) H) (hD : va_D A (Mw h q k c v nm a)) (hS : va_S A H0 H locs) (x : Nat) {y : Int32} (hy : y = nI x) (hdg : decode cc pc = .ok (.putfield 230, 3)) (kk : ∀ (H1 : Heap) (locs1 : List Loc), va_P D vwCl (Mw h q k (up c 23 x) v nm a) H1 → va_D A (Mw h q k (up c 23 x) v nm a) → va_S A H0 H1 locs1 → W p l e R s m args below meth c_ H1 locs1 cells slots Q (F0 m (pc + 3) ls rest)) : W p l e R s m args below meth c_ H locs cells slots Q (F0 m pc ls (.int y :: .ref h :: rest)) := by
  subst hy
  exact va_put (D := D) (ci := 9) (v := .int (nI x)) (C := RX9) (T := TX9) (N := 48) hx hb hts inX9 tyX9 tyX9_ok nmX9 hown hK hP hD hS 0 rfl rfl 23 (by decide) (hts _ wd_4_216) (fun _ h9 => h9) rfl (tyX9_ok 23 (by decide)) rfl rfl (Nat.le_of_ble_eq_true rfl) hdg (fun H1 locs1 hP1 hD1 hS1 => kk H1 locs1 hP1 hD1 hS1)
theorem mg_24 (hx : p.tables.exec = Jvm.exec) (hb : c_.code = cc) (hts : ∀ w ∈ BW, w.before args s = true) (hown : s.vm.findClass RX9 = some m.cls) (hK : va_K D vwCl (TY k) s) (hP : va_P D vwCl (Mw h q k c v nm a) H) {x : Int32} (hv : v 24 = x) (hdg : decode cc pc = .ok (.getfield 191, 3)) (kk : W p l e R s m args below meth c_ H locs cells slots Q (F0 m (pc + 3) ls (.int x :: rest))) : W p l e R s m args below meth c_ H locs cells slots Q (F0 m pc ls (.ref h :: rest)) := by
  subst hv
  exact va_get (D := D) (ci := 9) (v := .int (v 24)) (C := RX9) (T := TX9) (N := 48) hx hb hts inX9 hown hK hP 0 rfl rfl 24 (by decide) (hts _ wd_4_217) (fun _ h9 => h9) rfl hdg kk
theorem mp_24 (hx : p.tables.exec = Jvm.exec) (hb : c_.code = cc) (hts : ∀ w ∈ BW, w.before args s = true) (hown : s.vm.findClass RX9 = some m.cls) (hK : va_K D vwCl (TY k) s) (hP : va_P D vwCl (Mw h q k c v nm a) H) (hD : va_D A (Mw h q k c v nm a)) (hS : va_S A H0 H locs) (x : Int32) (hdg : decode cc pc = .ok (.putfield 191, 3)) (kk : ∀ (H1 : Heap) (locs1 : List Loc), va_P D vwCl (Mw h q k c (up v 24 x) nm a) H1 → va_D A (Mw h q k c (up v 24 x) nm a) → va_S A H0 H1 locs1 → W p l e R s m args below meth c_ H1 locs1 cells slots Q (F0 m (pc + 3) ls rest)) : W p l e R s m args below meth c_ H locs cells slots Q (F0 m pc ls (.int x :: .ref h :: rest)) := by
  exact va_put (D := D) (ci := 9) (v := .int x) (C := RX9) (T := TX9) (N := 48) hx hb hts inX9 tyX9 tyX9_ok nmX9 hown hK hP hD hS 0 rfl rfl 24 (by decide) (hts _ wd_4_217) (fun _ h9 => h9) rfl (tyX9_ok 24 (by decide)) rfl rfl (Nat.le_of_ble_eq_true rfl) hdg (fun H1 locs1 hP1 hD1 hS1 => kk H1 locs1 hP1 hD1 hS1)
theorem mg_25 (hx : p.tables.exec = Jvm.exec) (hb : c_.code = cc) (hts : ∀ w ∈ BW, w.before args s = true) (hown : s.vm.findClass RX9 = some m.cls) (hK : va_K D vwCl (TY k) s) (hP : va_P D vwCl (Mw h q k c v nm a) H) {x : Int32} (hv : v 25 = x) (hdg : decode cc pc = .ok (.getfield 243, 3)) (kk : W p l e R s m args below meth c_ H locs cells slots Q (F0 m (pc + 3) ls (.int x :: rest))) : W p l e R s m args below meth c_ H locs cells slots Q (F0 m pc ls (.ref h :: rest)) := by
  subst hv
  exact va_get (D := D) (ci := 9) (v := .int (v 25)) (C := RX9) (T := TX9) (N := 48) hx hb hts inX9 hown hK hP 0 rfl rfl 25 (by decide) (hts _ wd_4_218) (fun _ h9 => h9) rfl hdg kk
theorem mp_25 (hx : p.tables.exec = Jvm.exec) (hb : c_.code = cc) (hts : ∀ w ∈ BW, w.before args s = true) (hown : s.vm.findClass RX9 = some m.cls) (hK : va_K D vwCl (TY k) s) (hP : va_P D vwCl (Mw h q k c v nm a) H) (hD : va_D A (Mw h q k c v nm a)) (hS : va_S A H0 H locs) (x : Int32) (hdg : decode cc pc = .ok (.putfield 243, 3)) (kk : ∀ (H1 : Heap) (locs1 : List Loc), va_P D vwCl (Mw h q k c (up v 25 x) nm a) H1 → va_D A (Mw h q k c (up v 25 x) nm a) → va_S A H0 H1 locs1 → W p l e R s m args below meth c_ H1 locs1 cells slots Q (F0 m (pc + 3) ls rest)) : W p l e R s m args below meth c_ H locs cells slots Q (F0 m pc ls (.int x :: .ref h :: rest)) := by
  exact va_put (D := D) (ci := 9) (v := .int x) (C := RX9) (T := TX9) (N := 48) hx hb hts inX9 tyX9 tyX9_ok nmX9 hown hK hP hD hS 0 rfl rfl 25 (by decide) (hts _ wd_4_218) (fun _ h9 => h9) rfl (tyX9_ok 25 (by decide)) rfl rfl (Nat.le_of_ble_eq_true rfl) hdg (fun H1 locs1 hP1 hD1 hS1 => kk H1 locs1 hP1 hD1 hS1)
theorem mg_26 (hx : p.tables.exec = Jvm.exec) (hb : c_.code = cc) (hts : ∀ w ∈ BW, w.before args s = true) (hown : s.vm.findClass RX9 = some m.cls) (hK : va_K D vwCl (TY k) s) (hP : va_P D vwCl (Mw h q k c v nm a) H) (hdg : decode cc pc = .ok (.getfield 45, 3)) (kk : W p l e R s m args below meth c_ H locs cells slots Q (F0 m (pc + 3) ls (.ref (q 26) :: rest))) : W p l e R s m args below meth c_ H locs cells slots Q (F0 m pc ls (.ref h :: rest)) := by
  exact va_get (D := D) (ci := 9) (v := .ref (q 26)) (C := RX9) (T := TX9) (N := 48) hx hb hts inX9 hown hK hP 0 rfl rfl 26 (by decide) (hts _ wd_4_219) (fun _ h9 => h9) rfl hdg kk
theorem ml_26 (hx : p.tables.exec = Jvm.exec) (hb : c_.code = cc) (hK : va_K D vwCl (TY k) s) (hP : va_P D vwCl (Mw h q k c v nm a) H) {i : Int32} (j : Nat) (hi : i = nI j) (hj : j < 100) {x : Int32} (hv : a 26 j = x) (hdg : decode cc pc = .ok (.iaload, 1)) (kk : W p l e R s m args below meth c_ H locs cells slots Q (F0 m (pc + 1) ls (.int x :: rest))) : W p l e R s m args below meth c_ H locs cells slots Q (F0 m pc ls (.int i :: .ref (q 26) :: rest)) := by
  subst hv
  exact ra_iald (n := 100) (f := a 26) hx hb hK hP 11 0 rfl rfl j hi hj (by decide) hdg kk
theorem mt_26 (hx : p.tables.exec = Jvm.exec) (hb : c_.code = cc) (hK : va_K D vwCl (TY k) s) (hP : va_P D vwCl (Mw h q k c v nm a) H) (hD : va_D A (Mw h q k c v nm a)) (hS : va_S A H0 H locs) {i : Int32} (j : Nat) (hi : i = nI j) (hj : j < 100) {f : Nat → Int32} (hf : a 26 = f) {x : Int32} (hdg : decode cc pc = .ok (.iastore, 1)) (kk : ∀ (H1 : Heap) (locs1 : List Loc), va_P D vwCl (Mw h q k c v nm (up a 26 (upd f j x))) H1 → va_D A (Mw h q k c v nm (up a 26 (upd f j x))) → va_S A H0 H1 locs1 → W p l e R s m args below meth c_ H1 locs1 cells slots Q (F0 m (pc + 1) ls rest)) : W p l e R s m args below meth c_ H locs cells slots Q (F0 m pc ls (.int x :: .int i :: .ref (q 26) :: rest)) := by
  subst hf
  exact ra_iast (n := 100) (f := a 26) hx hb hK hP hD hS 11 0 rfl rfl j hi hj (by decide) hdg (fun H1 locs1 hP1 hD1 hS1 => kk H1 locs1 hP1 hD1 hS1)
theorem mg_27 (hx : p.tables.exec = Jvm.exec) (hb : c_.code = cc) (hts : ∀ w ∈ BW, w.before args s = true) (hown : s.vm.findClass RX9 = some m.cls) (hK : va_K D vwCl (TY k) s) (hP : va_P D vwCl (Mw h q k c v nm a) H) (hdg : decode cc pc = .ok (.getfield 48, 3)) (kk : W p l e R s m args below meth c_ H locs cells slots Q (F0 m (pc + 3) ls (.ref (q 27) :: rest))) : W p l e R s m args below meth c_ H locs cells slots Q (F0 m pc ls (.ref h :: rest)) := by
  exact va_get (D := D) (ci := 9) (v := .ref (q 27)) (C := RX9) (T := TX9) (N := 48) hx hb hts inX9 hown hK hP 0 rfl rfl 27 (by decide) (hts _ wd_4_220) (fun _ h9 => h9) rfl hdg kk
theorem ml_27 (hx : p.tables.exec = Jvm.exec) (hb : c_.code = cc) (hK : va_K D vwCl (TY k) s) (hP : va_P D vwCl (Mw h q k c v nm a) H) {i : Int32} (j : Nat) (hi : i = nI j) (hj : j < 100) {x : Int32} (hv : a 27 j = x) (hdg : decode cc pc = .ok (.iaload, 1)) (kk : W p l e R s m args below meth c_ H locs cells slots Q (F0 m (pc + 1) ls (.int x :: rest))) : W p l e R s m args below meth c_ H locs cells slots Q (F0 m pc ls (.int i :: .ref (q 27) :: rest)) := by
  subst hv
  exact ra_iald (n := 100) (f := a 27) hx hb hK hP 12 0 rfl rfl j hi hj (by decide) hdg kk
theorem mt_27 (hx : p.tables.exec = Jvm.exec) (hb : c_.code = cc) (hK : va_K D vwCl (TY k) s) (hP : va_P D vwCl (Mw h q k c v nm a) H) (hD : va_D A (Mw h q k c v nm a)) (hS : va_S A H0 H locs) {i : Int32} (j : Nat) (hi : i = nI j) (hj : j < 100) {f : Nat → Int32} (hf : a 27 = f) {x : Int32} (hdg : decode cc pc = .ok (.iastore, 1)) (kk : ∀ (H1 : Heap) (locs1 : List Loc), va_P D vwCl (Mw h q k c v nm (up a 27 (upd f j x))) H1 → va_D A (Mw h q k c v nm (up a 27 (upd f j x))) → va_S A H0 H1 locs1 → W p l e R s m args below meth c_ H1 locs1 cells slots Q (F0 m (pc + 1) ls rest)) : W p l e R s m args below meth c_ H locs cells slots Q (F0 m pc ls (.int x :: .int i :: .ref (q 27) :: rest)) := by
  subst hf
  exact ra_iast (n := 100) (f := a 27) hx hb hK hP hD hS 12 0 rfl rfl j hi hj (by decide) hdg (fun H1 locs1 hP1 hD1 hS1 => kk H1 locs1 hP1 hD1 hS1)
theorem mg_28 (hx : p.tables.exec = Jvm.exec) (hb : c_.code = cc) (hts : ∀ w ∈ BW, w.before args s = true) (hown : s.vm.findClass RX9 = some m.cls) (hK : va_K D vwCl (TY k) s) (hP : va_P D vwCl (Mw h q k c v nm a) H) (hdg : decode cc pc = .ok (.getfield 51, 3)) (kk : W p l e R s m args below meth c_ H locs cells slots Q (F0 m (pc + 3) ls (.ref (q 28) :: rest))) : W p l e R s m args below meth c_ H locs cells slots Q (F0 m pc ls (.ref h :: rest)) := by
  exact va_get (D := D) (ci := 9) (v := .ref (q 28)) (C := RX9) (T := TX9) (N := 48) hx hb hts inX9 hown hK hP 0 rfl rfl 28 (by decide) (hts _ wd_4_221) (fun _ h9 => h9) rfl hdg kk
theorem ml_28 (hx : p.tables.exec = Jvm.exec) (hb : c_.code = cc) (hK : va_K D vwCl (TY k) s) (hP : va_P D vwCl (Mw h q k c v nm a) H) {i : Int32} (j : Nat) (hi : i = nI j) (hj : j < 100) {x : Int32} (hv : a 28 j = x) (hdg : decode cc pc = .ok (.iaload, 1)) (kk : W p l e R s m args below meth c_ H locs cells slots Q (F0 m (pc + 1) ls (.int x :: rest))) : W p l e R s m args below meth c_ H locs cells slots Q (F0 m pc ls (.int i :: .ref (q 28) :: rest)) := by
  subst hv
  exact ra_iald (n := 100) (f := a 28) hx hb hK hP 13 0 rfl rfl j hi hj (by decide) hdg kk
theorem mt_28 (hx : p.tables.exec = Jvm.exec) (hb : c_.code = cc) (hK : va_K D vwCl (TY k) s) (hP : va_P D vwCl (Mw h q k c v nm a) H) (hD : va_D A (Mw h q k c v nm a)) (hS : va_S A H0 H locs) {i : Int32} (j : Nat) (hi : i = nI j) (hj : j < 100) {f : Nat → Int32} (hf : a 28 = f) {x : Int32} (hdg : decode cc pc = .ok (.iastore, 1)) (kk : ∀ (H1 : Heap) (locs1 : List Loc), va_P D vwCl (Mw h q k c v nm (up a 28 (upd f j x))) H1 → va_D A (Mw h q k c v nm (up a 28 (upd f j x))) → va_S A H0 H1 locs1 → W p l e R s m args below meth c_ H1 locs1 cells slots Q (F0 m (pc + 1) ls rest)) : W p l e R s m args below meth c_ H locs cells slots Q (F0 m pc ls (.int x :: .int i :: .ref (q 28) :: rest)) := by
  subst hf
  exact ra_iast (n := 100) (f := a 28) hx hb hK hP hD hS 13 0 rfl rfl j hi hj (by decide) hdg (fun H1 locs1 hP1 hD1 hS1 => kk H1 locs1 hP1 hD1 hS1)
theorem mg_29 (hx : p.tables.exec = Jvm.exec) (hb : c_.code = cc) (hts : ∀ w ∈ BW, w.before args s = true) (hown : s.vm.findClass RX9 = some m.cls) (hK : va_K D vwCl (TY k) s) (hP : va_P D vwCl (Mw h q k c v nm a) H) (hdg : decode cc pc = .ok (.getfield 54, 3)) (kk : W p l e R s m args below meth c_ H locs cells slots Q (F0 m (pc + 3) ls (.ref (q 29) :: rest))) : W p l e R s m args below meth c_ H locs cells slots Q (F0 m pc ls (.ref h :: rest)) := by
  exact va_get (D := D) (ci := 9) (v := .ref (q 29)) (C := RX9) (T := TX9) (N := 48) hx hb hts inX9 hown hK hP 0 rfl rfl 29 (by decide) (hts _ wd_4_222) (fun _ h9 => h9) rfl hdg kk
theorem ml_29 (hx : p.tables.exec = Jvm.exec) (hb : c_.code = cc) (hK : va_K D vwCl (TY k) s) (hP : va_P D vwCl (Mw h q k c v nm a) H) {i : Int32} (j : Nat) (hi : i = nI j) (hj : j < 100) {x : Int32} (hv : a 29 j = x) (hdg : decode cc pc = .ok (.iaload, 1)) (kk : W p l e R s m args below meth c_ H locs cells slots Q (F0 m (pc + 1) ls (.int x :: rest))) : W p l e R s m args below meth c_ H locs cells slots Q (F0 m pc ls (.int i :: .ref (q 29) :: rest)) := by
  subst hv
  exact ra_iald (n := 100) (f := a 29) hx hb hK hP 14 0 rfl rfl j hi hj (by decide) hdg kk
theorem mt_29 (hx : p.tables.exec = Jvm.exec) (hb : c_.code = cc) (hK : va_K D vwCl (TY k) s) (hP : va_P D vwCl (Mw h q k c v nm a) H) (hD : va_D A (Mw h q k c v nm a)) (hS : va_S A H0 H locs) {i : Int32} (j : Nat) (hi : i = nI j) (hj : j < 100) {f : Nat → Int32} (hf : a 29 = f) {x : Int32} (hdg : decode cc pc = .ok (.iastore, 1)) (kk : ∀ (H1 : Heap) (locs1 : List Loc), va_P D vwCl (Mw h q k c v nm (up a 29 (upd f j x))) H1 → va_D A (Mw h q k c v nm (up a 29 (upd f j x))) → va_S A H0 H1 locs1 → W p l e R s m args below meth c_ H1 locs1 cells slots Q (F0 m (pc + 1) ls rest)) : W p l e R s m args below meth c_ H locs cells slots Q (F0 m pc ls (.int x :: .int i :: .ref (q 29) :: rest)) := by
  subst hf
  exact ra_iast (n := 100) (f := a 29) hx hb hK hP hD hS 14 0 rfl rfl j hi hj (by decide) hdg (fun H1 locs1 hP1 hD1 hS1 => kk H1 locs1 hP1 hD1 hS1)
theorem mg_30 (hx : p.tables.exec = Jvm.exec) (hb : c_.code = cc) (hts : ∀ w ∈ BW, w.before args s = true) (hown : s.vm.findClass RX9 = some m.cls) (hK : va_K D vwCl (TY k) s) (hP : va_P D vwCl (Mw h q k c v nm a) H) (hdg : decode cc pc = .ok (.getfield 57, 3)) (kk : W p l e R s m args below meth c_ H locs cells slots Q (F0 m (pc + 3) ls (.ref (q 30) :: rest))) : W p l e R s m args below meth c_ H locs cells slots Q (F0 m pc ls (.ref h :: rest)) := by
  exact va_get (D := D) (ci := 9) (v := .ref (q 30)) (C := RX9) (T := TX9) (N := 48) hx hb hts inX9 hown hK hP 0 rfl rfl 30 (by decide) (hts _ wd_4_223) (fun _ h9 => h9) rfl hdg kk
theorem ml_30 (hx : p.tables.exec = Jvm.exec) (hb : c_.code = cc) (hK : va_K D vwCl (TY k) s) (hP : va_P D vwCl (Mw h q k c v nm a) H) {i : Int32} (j : Nat) (hi : i = nI j) (hj : j < 100) {x : Int32} (hv : a 30 j = x) (hdg : decode cc pc = .ok (.iaload, 1)) (kk : W p l e R s m args below meth c_ H locs cells slots Q (F0 m (pc + 1) ls (.int x :: rest))) : W p l e R s m args below meth c_ H locs cells slots Q (F0 m pc ls (.int i :: .ref (q 30) :: rest)) := by
  subst hv
  exact ra_iald (n := 100) (f := a 30) hx hb hK hP 15 0 rfl rfl j hi hj (by decide) hdg kk
theorem mt_30 (hx : p.tables.exec = Jvm.exec) (hb : c_.code = cc) (hK : va_K D vwCl (TY k) s) (hP : va_P D vwCl (Mw h q k c v nm a) H) (hD : va_D A (Mw h q k c v nm a)) (hS : va_S A H0 H locs) {i : Int32} (j : Nat) (hi : i = nI j) (hj : j < 100) {f : Nat → Int32} (hf : a 30 = f) {x : Int32} (hdg : decode cc pc = .ok (.iastore, 1)) (kk : ∀ (H1 : Heap) (locs1 : List Loc), va_P D vwCl (Mw h q k c v nm (up a 30 (upd f j x))) H1 → va_D A (Mw h q k c v nm (up a 30 (upd f j x))) → va_S A H0 H1 locs1 → W p l e R s m args below meth c_ H1 locs1 cells slots Q (F0 m (pc + 1) ls rest)) : W p l e R s m args below meth c_ H locs cells slots Q (F0 m pc ls (.int x :: .int i :: .ref (q 30) :: rest)) := by
  subst hf
  exact ra_iast (n := 100) (f := a 30) hx hb hK hP hD hS 15 0 rfl rfl j hi hj (by decide) hdg (fun H1 locs1 hP1 hD1 hS1 => kk H1 locs1 hP1 hD1 hS1)
theorem mg_31 (hx : p.tables.exec = Jvm.exec) (hb : c_.code = cc) (hts : ∀ w ∈ BW, w.before args s = true) (hown : s.vm.findClass RX9 = some m.cls) (hK : va_K D vwCl (TY k) s) (hP : va_P D vwCl (Mw h q k c v nm a) H) (hdg : decode cc pc = .ok (.getfield 60, 3)) (kk : W p l e R s m args below meth c_ H locs cells slots Q (F0 m (pc + 3) ls (.ref (q 31) :: rest))) : W p l e R s m args below meth c_ H locs cells slots Q (F0 m pc ls (.ref h :: rest)) := by
  exact va_get (D := D) (ci := 9) (v := .ref (q 31)) (C := RX9) (T := TX9) (N := 48) hx hb hts inX9 hown hK hP 0 rfl rfl 31 (by decide) (hts _ wd_4_224) (fun _ h9 => h9) rfl hdg kk
theorem ml_31 (hx : p.tables.exec = Jvm.exec) (hb : c_.code = cc) (hK : va_K D vwCl (TY k) s) (hP : va_P D vwCl (Mw h q k c v nm a) H) {i : Int32} (j : Nat) (hi : i = nI j) (hj : j < 100) {x : Int32} (hv : a 31 j = x) (hdg : decode cc pc = .ok (.iaload, 1)) (kk : W p l e R s m args below meth c_ H locs cells slots Q (F0 m (pc + 1) ls (.int x :: rest))) : W p l e R s m args below meth c_ H locs cells slots Q (F0 m pc ls (.int i :: .ref (q 31) :: rest)) := by
  subst hv
  exact ra_iald (n := 100) (f := a 31) hx hb hK hP 16 0 rfl rfl j hi hj (by decide) hdg kk
theorem mt_31 (hx : p.tables.exec = Jvm.exec) (hb : c_.code = cc) (hK : va_K D vwCl (TY k) s) (hP : va_P D vwCl (Mw h q k c v nm a) H) (hD : va_D A (Mw h q k c v nm a)) (hS : va_S A H0 H locs) {i : Int32} (j : Nat) (hi : i = nI j) (hj : j < 100) {f : Nat → Int32} (hf : a 31 = f) {x : Int32} (hdg : decode cc pc = .ok (.iastore, 1)) (kk : ∀ (H1 : Heap) (locs1 : List Loc), va_P D vwCl (Mw h q k c v nm (up a 31 (upd f j x))) H1 → va_D A (Mw h q k c v nm (up a 31 (upd f j x))) → va_S A H0 H1 locs1 → W p l e R s m args below meth c_ H1 locs1 cells slots Q (F0 m (pc + 1) ls rest)) : W p l e R s m args below meth c_ H locs cells slots Q (F0 m pc ls (.int x :: .int i :: .ref (q 31) :: rest)) := by
  subst hf
  exact ra_iast (n := 100) (f := a 31) hx hb hK hP hD hS 16 0 rfl rfl j hi hj (by decide) hdg (fun H1 locs1 hP1 hD1 hS1 => kk H1 locs1 hP1 hD1 hS1)
theorem mg_32 (hx : p.tables.exec = Jvm.exec) (hb : c_.code = cc) (hts : ∀ w ∈ BW, w.before args s = true) (hown : s.vm.findClass RX9 = some m.cls) (hK : va_K D vwCl (TY k) s) (hP : va_P D vwCl (Mw h q k c v nm a) H) (hdg : decode cc pc = .ok (.getfield 63, 3)) (kk : W p l e R s m args below meth c_ H locs cells slots Q (F0 m (pc + 3) ls (.ref (q 32) :: rest))) : W p l e R s m args below meth c_ H locs cells slots Q (F0 m pc ls (.ref h :: rest)) := by
  exact va_get (D := D) (ci := 9) (v := .ref (q 32)) (C := RX9) (T := TX9) (N := 48) hx hb hts inX9 hown hK hP 0 rfl rfl 32 (by decide) (hts _ wd_4_225) (fun _ h9 => h9) rfl hdg kk
theorem ml_32 (hx : p.tables.exec = Jvm.exec) (hb : c_.code = cc) (hK : va_K D vwCl (TY k) s) (hP : va_P D vwCl (Mw h q k c v nm a) H) {i : Int32} (j : Nat) (hi : i = nI j) (hj : j < 100) {x : Int32} (hv : a 32 j = x) (hdg : decode cc pc = .ok (.iaload, 1)) (kk : W p l e R s m args below meth c_ H locs cells slots Q (F0 m (pc + 1) ls (.int x :: rest))) : W p l e R s m args below meth c_ H locs cells slots Q (F0 m pc ls (.int i :: .ref (q 32) :: rest)) := by
  subst hv
  exact ra_iald (n := 100) (f := a 32) hx hb hK hP 17 0 rfl rfl j hi hj (by decide) hdg kk
theorem mt_32 (hx : p.tables.exec = Jvm.exec) (hb : c_.code = cc) (hK : va_K D vwCl (TY k) s) (hP : va_P D vwCl (Mw h q k c v nm a) H) (hD : va_D A (Mw h q k c v nm a)) (hS : va_S A H0 H locs) {i : Int32} (j : Nat) (hi : i = nI j) (hj : j < 100) {f : Nat → Int32} (hf : a 32 = f) {x : Int32} (hdg : decode cc pc = .ok (.iastore, 1)) (kk : ∀ (H1 : Heap) (locs1 : List Loc), va_P D vwCl (Mw h q k c v nm (up a 32 (upd f j x))) H1 → va_D A (Mw h q k c v nm (up a 32 (upd f j x))) → va_S A H0 H1 locs1 → W p l e R s m args below meth c_ H1 locs1 cells slots Q (F0 m (pc + 1) ls rest)) : W p l e R s m args below meth c_ H locs cells slots Q (F0 m pc ls (.int x :: .int i :: .ref (q 32) :: rest)) := by
  subst hf
  exact ra_iast (n := 100) (f := a 32) hx hb hK hP hD hS 17 0 rfl rfl j hi hj (by decide) hdg (fun H1 locs1 hP1 hD1 hS1 => kk H1 locs1 hP1 hD1 hS1)
theorem mg_33 (hx : p.tables.exec = Jvm.exec) (hb : c_.code = cc) (hts : ∀ w ∈ BW, w.before args s = true) (hown : s.vm.findClass RX9 = some m.cls) (hK : va_K D vwCl (TY k) s) (hP : va_P D vwCl (Mw h q k c v nm a) H) (hdg : decode cc pc = .ok (.getfield 66, 3)) (kk : W p l e R s m args below meth c_ H locs cells slots Q (F0 m (pc + 3) ls (.ref (q 33) :: rest))) : W p l e R s m args below meth c_ H locs cells slots Q (F0 m pc ls (.ref h :: rest)) := by
  exact va_get (D := D) (ci := 9) (v := .ref (q 33)) (C := RX9) (T := TX9) (N := 48) hx hb hts inX9 hown hK hP 0 rfl rfl 33 (by decide) (hts _ wd_4_226) (fun _ h9 => h9) rfl hdg kk
theorem ml_33 (hx : p.tables.exec = Jvm.exec) (hb : c_.code = cc) (hK : va_K D vwCl (TY k) s) (hP : va_P D vwCl (Mw h q k c v nm a) H) {i : Int32} (j : Nat) (hi : i = nI j) (hj : j < 100) {x : Int32} (hv : a 33 j = x) (hdg : decode cc pc = .ok (.iaload, 1)) (kk : W p l e R s m args below meth c_ H locs cells slots Q (F0 m (pc + 1) ls (.int x :: rest))) : W p l e R s m args below meth c_ H locs cells slots Q (F0 m pc ls (.int i :: .ref (q 33) :: rest)) := by
  subst hv
  exact ra_iald (n := 100) (f := a 33) hx hb hK hP 18 0 rfl rfl j hi hj (by decide) hdg kk
theorem mt_33 (hx : p.tables.exec = Jvm.exec) (hb : c_.code = cc) (hK : va_K D vwCl (TY k) s) (hP : va_P D vwCl (Mw h q k c v nm a) H) (hD : va_D A (Mw h q k c v nm a)) (hS : va_S A H0 H locs) {i : Int32} (j : Nat) (hi : i = nI j) (hj : j < 100) {f : Nat → Int32} (hf : a 33 = f) {x : Int32} (hdg : decode cc pc = .ok (.iastore, 1)) (kk : ∀ (H1 : Heap) (locs1 : List Loc), va_P D vwCl (Mw h q k c v nm (up a 33 (upd f j x))) H1 → va_D A (Mw h q k c v nm (up a 33 (upd f j x))) → va_S A H0 H1 locs1 → W p l e R s m args below meth c_ H1 locs1 cells slots Q (F0 m (pc + 1) ls rest)) : W p l e R s m args below meth c_ H locs cells slots Q (F0 m pc ls (.int x :: .int i :: .ref (q 33) :: rest)) := by
  subst hf
  exact ra_iast (n := 100) (f := a 33) hx hb hK hP hD hS 18 0 rfl rfl j hi hj (by decide) hdg (fun H1 locs1 hP1 hD1 hS1 => kk H1 locs1 hP1 hD1 hS1)
theorem mg_34 (hx : p.tables.exec = Jvm.exec) (hb : c_.code = cc) (hts : ∀ w ∈ BW, w.before args s = true) (hown : s.vm.findClass RX9 = some m.cls) (hK : va_K D vwCl (TY k) s) (hP : va_P D vwCl (Mw h q k c v nm a) H) (hdg : decode cc pc = .ok (.getfield 69, 3)) (kk : W p l e R s m args below meth c_ H locs cells slots Q (F0 m (pc + 3) ls (.ref (q 34) :: rest))) : W p l e R s m args below meth c_ H locs cells slots Q (F0 m pc ls (.ref h :: rest)) := by
  exact va_get (D := D) (ci := 9) (v := .ref (q 34)) (C := RX9) (T := TX9) (N := 48) hx hb hts inX9 hown hK hP 0 rfl rfl 34 (by decide) (hts _ wd_4_227) (fun _ h9 => h9) rfl hdg kk
theorem ml_34 (hx : p.tables.exec = Jvm.exec) (hb : c_.code = cc) (hK : va_K D vwCl (TY k) s) (hP : va_P D vwCl (Mw h q k c v nm a) H) {i : Int32} (j : Nat) (hi : i = nI j) (hj : j < 100) {x : Int32} (hv : a 34 j = x) (hdg : decode cc pc = .ok (.iaload, 1)) (kk : W p l e R s m args below meth c_ H locs cells slots Q (F0 m (pc + 1) ls (.int x :: rest))) : W p l e R s m args below meth c_ H locs cells slots Q (F0 m pc ls (.int i :: .ref (q 34) :: rest)) := by
  subst hv
  exact ra_iald (n := 100) (f := a 34) hx hb hK hP 19 0 rfl rfl j hi hj (by decide) hdg kk
theorem mt_34 (hx : p.tables.exec = Jvm.exec) (hb : c_.code = cc) (hK : va_K D vwCl (TY k) s) (hP : va_P D vwCl (Mw h q k c v nm a) H) (hD : va_D A (Mw h q k c v nm a)) (hS : va_S A H0 H locs) {i : Int32} (j : Nat) (hi : i = nI j) (hj : j < 100) {f : Nat → Int32} (hf : a 34 = f) {x : Int32} (hdg : decode cc pc = .ok (.iastore, 1)) (kk : ∀ (H1 : Heap) (locs1 : List Loc), va_P D vwCl (Mw h q k c v nm (up a 34 (upd f j x))) H1 → va_D A (Mw h q k c v nm (up a 34 (upd f j x))) → va_S A H0 H1 locs1 → W p l e R s m args below meth c_ H1 locs1 cells slots Q (F0 m (pc + 1) ls rest)) : W p l e R s m args below meth c_ H locs cells slots Q (F0 m pc ls (.int x :: .int i :: .ref (q 34) :: rest)) := by
  subst hf
  exact ra_iast (n := 100) (f := a 34) hx hb hK hP hD hS 19 0 rfl rfl j hi hj (by decide) hdg (fun H1 locs1 hP1 hD1 hS1 => kk H1 locs1 hP1 hD1 hS1)
theorem mg_35 (hx : p.tables.exec = Jvm.exec) (hb : c_.code = cc) (hts : ∀ w ∈ BW, w.before args s = true) (hown : s.vm.findClass RX9 = some m.cls) (hK : va_K D vwCl (TY k) s) (hP : va_P D vwCl (Mw h q k c v nm a) H) (hdg : decode cc pc = .ok (.getfield 72, 3)) (kk : W p l e R s m args below meth c_ H locs cells slots Q (F0 m (pc + 3) ls (.ref (q 35) :: rest))) : W p l e R s m args below meth c_ H locs cells slots Q (F0 m pc ls (.ref h :: rest)) := by
  exact va_get (D := D) (ci := 9) (v := .ref (q 35)) (C := RX9) (T := TX9) (N := 48) hx hb hts inX9 hown hK hP 0 rfl rfl 35 (by decide) (hts _ wd_4_228) (fun _ h9 => h9) rfl hdg kk
theorem ml_35 (hx : p.tables.exec = Jvm.exec) (hb : c_.code = cc) (hK : va_K D vwCl (TY k) s) (hP : va_P D vwCl (Mw h q k c v nm a) H) {i : Int32} (j : Nat) (hi : i = nI j) (hj : j < 100) {x : Int32} (hv : a 35 j = x) (hdg : decode cc pc = .ok (.iaload, 1)) (kk : W p l e R s m args below meth c_ H locs cells slots Q (F0 m (pc + 1) ls (.int x :: rest))) : W p l e R s m args below meth c_ H locs cells slots Q (F0 m pc ls (.int i :: .ref (q 35) :: rest)) := by
  subst hv
  exact ra_iald (n := 100) (f := a 35) hx hb hK hP 20 0 rfl rfl j hi hj (by decide) hdg kk
theorem mt_35 (hx : p.tables.exec = Jvm.exec) (hb : c_.code = cc) (hK : va_K D vwCl (TY k) s) (hP : va_P D vwCl (Mw h q k c v nm a) H) (hD : va_D A (Mw h q k c v nm a)) (hS : va_S A H0 H locs) {i : Int32} (j : Nat) (hi : i = nI j) (hj : j < 100) {f : Nat → Int32} (hf : a 35 = f) {x : Int32} (hdg : decode cc pc = .ok (.iastore, 1)) (kk : ∀ (H1 : Heap) (locs1 : List Loc), va_P D vwCl (Mw h q k c v nm (up a 35 (upd f j x))) H1 → va_D A (Mw h q k c v nm (up a 35 (upd f j x))) → va_S A H0 H1 locs1 → W p l e R s m args below meth c_ H1 locs1 cells slots Q (F0 m (pc + 1) ls rest)) : W p l e R s m args below meth c_ H locs cells slots Q (F0 m pc ls (.int x :: .int i :: .ref (q 35) :: rest)) := by
  subst hf
  exact ra_iast (n := 100) (f := a 35) hx hb hK hP hD hS 20 0 rfl rfl j hi hj (by decide) hdg (fun H1 locs1 hP1 hD1 hS1 => kk H1 locs1 hP1 hD1 hS1)
theorem mg_36 (hx : p.tables.exec = Jvm.exec) (hb : c_.code = cc) (hts : ∀ w ∈ BW, w.before args s = true) (hown : s.vm.findClass RX9 = some m.cls) (hK : va_K D vwCl (TY k) s) (hP : va_P D vwCl (Mw h q k c v nm a) H) (hdg : decode cc pc = .ok (.getfield 75, 3)) (kk : W p l e R s m args below meth c_ H locs cells slots Q (F0 m (pc + 3) ls (.ref (q 36) :: rest))) : W p l e R s m args below meth c_ H locs cells slots Q (F0 m pc ls (.ref h :: rest)) := by
  exact va_get (D := D) (ci := 9) (v := .ref (q 36)) (C := RX9) (T := TX9) (N := 48) hx hb hts inX9 hown hK hP 0 rfl rfl 36 (by decide) (hts _ wd_4_229) (fun _ h9 => h9) rfl hdg kk
theorem ml_36 (hx : p.tables.exec = Jvm.exec) (hb : c_.code = cc) (hK : va_K D vwCl (TY k) s) (hP : va_P D vwCl (Mw h q k c v nm a) H) {i : Int32} (j : Nat) (hi : i = nI j) (hj : j < 100) {x : Int32} (hv : a 36 j = x) (hdg : decode cc pc = .ok (.iaload, 1)) (kk : W p l e R s m args below meth c_ H locs cells slots Q (F0 m (pc + 1) ls (.int x :: rest))) : W p l e R s m args below meth c_ H locs cells slots Q (F0 m pc ls (.int i :: .ref (q 36) :: rest)) := by
  subst hv
  exact ra_iald (n := 100) (f := a 36) hx hb hK hP 21 0 rfl rfl j hi hj (by decide) hdg kk
theorem mt_36 (hx : p.tables.exec = Jvm.exec) (hb : c_.code = cc) (hK : va_K D vwCl (TY k) s) (hP : va_P D vwCl (Mw h q k c v nm a) H) (hD : va_D A (Mw h q k c v nm a)) (hS : va_S A H0 H locs) {i : Int32} (j : Nat) (hi : i = nI j) (hj : j < 100) {f : Nat → Int32} (hf : a 36 = f) {x : Int32} (hdg : decode cc pc = .ok (.iastore, 1)) (kk : ∀ (H1 : Heap) (locs1 : List Loc), va_P D vwCl (Mw h q k c v nm (up a 36 (upd f j x))) H1 → va_D A (Mw h q k c v nm (up a 36 (upd f j x))) → va_S A H0 H1 locs1 → W p l e R s m args below meth c_ H1 locs1 cells slots Q (F0 m (pc + 1) ls rest)) : W p l e R s m args below meth c_ H locs cells slots Q (F0 m pc ls (.int x :: .int i :: .ref (q 36) :: rest)) := by
  subst hf
  exact ra_iast (n := 100) (f := a 36) hx hb hK hP hD hS 21 0 rfl rfl j hi hj (by decide) hdg (fun H1 locs1 hP1 hD1 hS1 => kk H1 locs1 hP1 hD1 hS1)
theorem mg_37 (hx : p.tables.exec = Jvm.exec) (hb : c_.code = cc) (hts : ∀ w ∈ BW, w.before args s = true) (hown : s.vm.findClass RX9 = some m.cls) (hK : va_K D vwCl (TY k) s) (hP : va_P D vwCl (Mw h q k c v nm a) H) (hdg : decode cc pc = .ok (.getfield 78, 3)) (kk : W p l e R s m args below meth c_ H locs cells slots Q (F0 m (pc + 3) ls (.ref (q 37) :: rest))) : W p l e R s m args below meth c_ H locs cells slots Q (F0 m pc ls (.ref h :: rest)) := by
  exact va_get (D := D) (ci := 9) (v := .ref (q 37)) (C := RX9) (T := TX9) (N := 48) hx hb hts inX9 hown hK hP 0 rfl rfl 37 (by decide) (hts _ wd_4_230) (fun _ h9 => h9) rfl hdg kk
theorem ml_37 (hx : p.tables.exec = Jvm.exec) (hb : c_.code = cc) (hK : va_K D vwCl (TY k) s) (hP : va_P D vwCl (Mw h q k c v nm a) H) {i : Int32} (j : Nat) (hi : i = nI j) (hj : j < 100) {x : Int32} (hv : a 37 j = x) (hdg : decode cc pc = .ok (.iaload, 1)) (kk : W p l e R s m args below meth c_ H locs cells slots Q (F0 m (pc + 1) ls (.int x :: rest))) : W p l e R s m args below meth c_ H locs cells slots Q (F0 m pc ls (.int i :: .ref (q 37) :: rest)) := by
  subst hv
  exact ra_iald (n := 100) (f := a 37) hx hb hK hP 22 0 rfl rfl j hi hj (by decide) hdg kk
theorem mt_37 (hx : p.tables.exec = Jvm.exec) (hb : c_.code = cc) (hK : va_K D vwCl (TY k) s) (hP : va_P D vwCl (Mw h q k c v nm a) H) (hD : va_D A (Mw h q k c v nm a)) (hS : va_S A H0 H locs) {i : Int32} (j : Nat) (hi : i = nI j) (hj : j < 100) {f : Nat → Int32} (hf : a 37 = f) {x : Int32} (hdg : decode cc pc = .ok (.iastore, 1)) (kk : ∀ (H1 : Heap) (locs1 : List Loc), va_P D vwCl (Mw h q k c v nm (up a 37 (upd f j x))) H1 → va_D A (Mw h q k c v nm (up a 37 (upd f j x))) → va_S A H0 H1 locs1 → W p l e R s m args below meth c_ H1 locs1 cells slots Q (F0 m (pc + 1) ls rest)) : W p l e R s m args below meth c_ H locs cells slots Q (F0 m pc ls (.int x :: .int i :: .ref (q 37) :: rest)) := by
  subst hf
  exact ra_iast (n := 100) (f := a 37) hx hb hK hP hD hS 22 0 rfl rfl j hi hj (by decide) hdg (fun H1 locs1 hP1 hD1 hS1 => kk H1 locs1 hP1 hD1 hS1)
theorem mg_38 (hx : p.tables.exec = Jvm.exec) (hb : c_.code = cc) (hts : ∀ w ∈ BW, w.before args s = true) (hown : s.vm.findClass RX9 = some m.cls) (hK : va_K D vwCl (TY k) s) (hP : va_P D vwCl (Mw h q k c v nm a) H) (hdg : decode cc pc = .ok (.getfield 81, 3)) (kk : W p l e R s m args below meth c_ H locs cells slots Q (F0 m (pc + 3) ls (.ref (q 38) :: rest))) : W p l e R s m args below meth c_ H locs cells slots Q (F0 m pc ls (.ref h :: rest)) := by
  exact va_get (D := D) (ci := 9) (v := .ref (q 38)) (C := RX9) (T := TX9) (N := 48) hx hb hts inX9 hown hK hP 0 rfl rfl 38 (by decide) (hts _ wd_4_231) (fun _ h9 => h9) rfl hdg kk
theorem ml_38 (hx : p.tables.exec = Jvm.exec) (hb : c_.code = cc) (hK : va_K D vwCl (TY k) s) (hP : va_P D vwCl (Mw h q k c v nm a) H) {i : Int32} (j : Nat) (hi : i = nI j) (hj : j < 100) {x : Int32} (hv : a 38 j = x) (hdg : decode cc pc = .ok (.iaload, 1)) (kk : W p l e R s m args below meth c_ H locs cells slots Q (F0 m (pc + 1) ls (.int x :: rest))) : W p l e R s m args below meth c_ H locs cells slots Q (F0 m pc ls (.int i :: .ref (q 38) :: rest)) := by
  subst hv
  exact ra_iald (n := 100) (f := a 38) hx hb hK hP 23 0 rfl rfl j hi hj (by decide) hdg kk
theorem mt_38 (hx : p.tables.exec = Jvm.exec) (hb : c_.code = cc) (hK : va_K D vwCl (TY k) s) (hP : va_P D vwCl (Mw h q k c v nm a) H) (hD : va_D A (Mw h q k c v nm a)) (hS : va_S A H0 H locs) {i : Int32} (j : Nat) (hi : i = nI j) (hj : j < 100) {f : Nat → Int32} (hf : a 38 = f) {x : Int32} (hdg : decode cc pc = .ok (.iastore, 1)) (kk : ∀ (H1 : Heap) (locs1 : List Loc), va_P D vwCl (Mw h q k c v nm (up a 38 (upd f j x))) H1 → va_D A (Mw h q k c v nm (up a 38 (upd f j x))) → va_S A H0 H1 locs1 → W p l e R s m args below meth c_ H1 locs1 cells slots Q (F0 m (pc + 1) ls rest)) : W p l e R s m args below meth c_ H locs cells slots Q (F0 m pc ls (.int x :: .int i :: .ref (q 38) :: rest)) := by
  subst hf
  exact ra_iast (n := 100) (f := a 38) hx hb hK hP hD hS 23 0 rfl rfl j hi hj (by decide) hdg (fun H1 locs1 hP1 hD1 hS1 => kk H1 locs1 hP1 hD1 hS1)
theorem mg_39 (hx : p.tables.exec = Jvm.exec) (hb : c_.code = cc) (hts : ∀ w ∈ BW, w.before args s = true) (hown : s.vm.findClass RX9 = some m.cls) (hK : va_K D vwCl (TY k) s) (hP : va_P D vwCl (Mw h q k c v nm a) H) (hdg : decode cc pc = .ok (.getfield 84, 3)) (kk : W p l e R s m args below meth c_ H locs cells slots Q (F0 m (pc + 3) ls (.ref (q 39) :: rest))) : W p l e R s m args below meth c_ H locs cells slots Q (F0 m pc ls (.ref h :: rest)) := by
  exact va_get (D := D) (ci := 9) (v := .ref (q 39)) (C := RX9) (T := TX9) (N := 48) hx hb hts inX9 hown hK hP 0 rfl rfl 39 (by decide) (hts _ wd_4_232) (fun _ h9 => h9) rfl hdg kk
theorem ml_39 (hx : p.tables.exec = Jvm.exec) (hb : c_.code = cc) (hK : va_K D vwCl (TY k) s) (hP : va_P D vwCl (Mw h q k c v nm a) H) {i : Int32} (j : Nat) (hi : i = nI j) (hj : j < 100) {x : Int32} (hv : a 39 j = x) (hdg : decode cc pc = .ok (.iaload, 1)) (kk : W p l e R s m args below meth c_ H locs cells slots Q (F0 m (pc + 1) ls (.int x :: rest))) : W p l e R s m args below meth c_ H locs cells slots Q (F0 m pc ls (.int i :: .ref (q 39) :: rest)) := by
  subst hv
  exact ra_iald (n := 100) (f := a 39) hx hb hK hP 24 0 rfl rfl j hi hj (by decide) hdg kk
theorem mt_39 (hx : p.tables.exec = Jvm.exec) (hb : c_.code = cc) (hK : va_K D vwCl (TY k) s) (hP : va_P D vwCl (Mw h q k c v nm a) H) (hD : va_D A (Mw h q k c v nm a)) (hS : va_S A H0 H locs) {i : Int32} (j : Nat) (hi : i = nI j) (hj : j < 100) {f : Nat → Int32} (hf : a 39 = f) {x : Int32} (hdg : decode cc pc = .ok (.iastore, 1)) (kk : ∀ (H1 : Heap) (locs1 : List Loc), va_P D vwCl (Mw h q k c v nm (up a 39 (upd f j x))) H1 → va_D A (Mw h q k c v nm (up a 39 (upd f j x))) → va_S A H0 H1 locs1 → W p l e R s m args below meth c_ H1 locs1 cells slots Q (F0 m (pc + 1) ls rest)) : W p l e R s m args below meth c_ H locs cells slots Q (F0 m pc ls (.int x :: .int i :: .ref (q 39) :: rest)) := by
  subst hf
  exact ra_iast (n := 100) (f := a 39) hx hb hK hP hD hS 24 0 rfl rfl j hi hj (by decide) hdg (fun H1 locs1 hP1 hD1 hS1 => kk H1 locs1 hP1 hD1 hS1)
theorem mg_40 (hx : p.tables.exec = Jvm.exec) (hb : c_.code = cc) (hts : ∀ w ∈ BW, w.before args s = true) (hown : s.vm.findClass RX9 = some m.cls) (hK : va_K D vwCl (TY k) s) (hP : va_P D vwCl (Mw h q k c v nm a) H) (hdg : decode cc pc = .ok (.getfield 87, 3)) (kk : W p l e R s m args below meth c_ H locs cells slots Q (F0 m (pc + 3) ls (.ref (q 40) :: rest))) : W p l e R s m args below meth c_ H locs cells slots Q (F0 m pc ls (.ref h :: rest)) := by
  exact va_get (D := D) (ci := 9) (v := .ref (q 40)) (C := RX9) (T := TX9) (N := 48) hx hb hts inX9 hown hK hP 0 rfl rfl 40 (by decide) (hts _ wd_4_233) (fun _ h9 => h9) rfl hdg kk
theorem ml_40 (hx : p.tables.exec = Jvm.exec) (hb : c_.code = cc) (hK : va_K D vwCl (TY k) s) (hP : va_P D vwCl (Mw h q k c v nm a) H) {i : Int32} (j : Nat) (hi : i = nI j) (hj : j < 300) {x : Int32} (hv : a 40 j = x) (hdg : decode cc pc = .ok (.iaload, 1)) (kk : W p l e R s m args below meth c_ H locs cells slots Q (F0 m (pc + 1) ls (.int x :: rest))) : W p l e R s m args below meth c_ H locs cells slots Q (F0 m pc ls (.int i :: .ref (q 40) :: rest)) := by
  subst hv
  exact ra_iald (n := 300) (f := a 40) hx hb hK hP 25 0 rfl rfl j hi hj (by decide) hdg kk
theorem mt_40 (hx : p.tables.exec = Jvm.exec) (hb : c_.code = cc) (hK : va_K D vwCl (TY k) s) (hP : va_P D vwCl (Mw h q k c v nm a) H) (hD : va_D A (Mw h q k c v nm a)) (hS : va_S A H0 H locs) {i : Int32} (j : Nat) (hi : i = nI j) (hj : j < 300) {f : Nat → Int32} (hf : a 40 = f) {x : Int32} (hdg : decode cc pc = .ok (.iastore, 1)) (kk : ∀ (H1 : Heap) (locs1 : List Loc), va_P D vwCl (Mw h q k c v nm (up a 40 (upd f j x))) H1 → va_D A (Mw h q k c v nm (up a 40 (upd f j x))) → va_S A H0 H1 locs1 → W p l e R s m args below meth c_ H1 locs1 cells slots Q (F0 m (pc + 1) ls rest)) : W p l e R s m args below meth c_ H locs cells slots Q (F0 m pc ls (.int x :: .int i :: .ref (q 40) :: rest)) := by
  subst hf
  exact ra_iast (n := 300) (f := a 40) hx hb hK hP hD hS 25 0 rfl rfl j hi hj (by decide) hdg (fun H1 locs1 hP1 hD1 hS1 => kk H1 locs1 hP1 hD1 hS1)
theorem mg_41 (hx : p.tables.exec = Jvm.exec) (hb : c_.code = cc) (hts : ∀ w ∈ BW, w.before args s = true) (hown : s.vm.findClass RX9 = some m.cls) (hK : va_K D vwCl (TY k) s) (hP : va_P D vwCl (Mw h q k c v nm a) H) (hdg : decode cc pc = .ok (.getfield 90, 3)) (kk : W p l e R s m args below meth c_ H locs cells slots Q (F0 m (pc + 3) ls (.ref (q 41) :: rest))) : W p l e R s m args below meth c_ H locs cells slots Q (F0 m pc ls (.ref h :: rest)) := by
  exact va_get (D := D) (ci := 9) (v := .ref (q 41)) (C := RX9) (T := TX9) (N := 48) hx hb hts inX9 hown hK hP 0 rfl rfl 41 (by decide) (hts _ wd_4_234) (fun _ h9 => h9) rfl hdg kk
theorem ml_41 (hx : p.tables.exec = Jvm.exec) (hb : c_.code = cc) (hK : va_K D vwCl (TY k) s) (hP : va_P D vwCl (Mw h q k c v nm a) H) {i : Int32} (j : Nat) (hi : i = nI j) (hj : j < 600) {x : Int32} (hv : a 41 j = x) (hdg : decode cc pc = .ok (.iaload, 1)) (kk : W p l e R s m args below meth c_ H locs cells slots Q (F0 m (pc + 1) ls (.int x :: rest))) : W p l e R s m args below meth c_ H locs cells slots Q (F0 m pc ls (.int i :: .ref (q 41) :: rest)) := by
  subst hv
  exact ra_iald (n := 600) (f := a 41) hx hb hK hP 26 0 rfl rfl j hi hj (by decide) hdg kk
theorem mt_41 (hx : p.tables.exec = Jvm.exec) (hb : c_.code = cc) (hK : va_K D vwCl (TY k) s) (hP : va_P D vwCl (Mw h q k c v nm a) H) (hD : va_D A (Mw h q k c v nm a)) (hS : va_S A H0 H locs) {i : Int32} (j : Nat) (hi : i = nI j) (hj : j < 600) {f : Nat → Int32} (hf : a 41 = f) {x : Int32} (hdg : decode cc pc = .ok (.iastore, 1)) (kk : ∀ (H1 : Heap) (locs1 : List Loc), va_P D vwCl (Mw h q k c v nm (up a 41 (upd f j x))) H1 → va_D A (Mw h q k c v nm (up a 41 (upd f j x))) → va_S A H0 H1 locs1 → W p l e R s m args below meth c_ H1 locs1 cells slots Q (F0 m (pc + 1) ls rest)) : W p l e R s m args below meth c_ H locs cells slots Q (F0 m pc ls (.int x :: .int i :: .ref (q 41) :: rest)) := by
  subst hf
  exact ra_iast (n := 600) (f := a 41) hx hb hK hP hD hS 26 0 rfl rfl j hi hj (by decide) hdg (fun H1 locs1 hP1 hD1 hS1 => kk H1 locs1 hP1 hD1 hS1)
theorem mg_42 (hx : p.tables.exec = Jvm.exec) (hb : c_.code = cc) (hts : ∀ w ∈ BW, w.before args s = true) (hown : s.vm.findClass RX9 = some m.cls) (hK : va_K D vwCl (TY k) s) (hP : va_P D vwCl (Mw h q k c v nm a) H) {x : Int32} (hv : nI (c 42) = x) (hdg : decode cc pc = .ok (.getfield 198, 3)) (kk : W p l e R s m args below meth c_ H locs cells slots Q (F0 m (pc + 3) ls (.int x :: rest))) : W p l e R s m args below meth c_ H locs cells slots Q (F0 m pc ls (.ref h :: rest)) := by
  subst hv
  exact va_get (D := D) (ci := 9) (v := .int (nI (c 42))) (C := RX9) (T := TX9) (N := 48) hx hb hts inX9 hown hK hP 0 rfl rfl 42 (by decide) (hts _ wd_4_235) (fun _ h9 => h9) rfl hdg kk
theorem mp_42 (hx : p.tables.exec = Jvm.exec) (hb : c_.code = cc) (hts : ∀ w ∈ BW, w.before args s = true) (hown : s.vm.findClass RX9 = some m.cls) (hK : va_K D vwCl (TY k) s) (hP : va_P D vwCl (Mw h q k c v nm a) H) (hD : va_D A (Mw h q k c v nm a)) (hS : va_S A H0 H locs) (x : Nat) {y : Int32} (hy : y = nI x) (hdg : decode cc pc = .ok (.putfield 198, 3)) (kk : ∀ (H1 : Heap) (locs1 : List Loc), va_P D vwCl (Mw h q k (up c 42 x) v nm a) H1 → va_D A (Mw h q k (up c 42 x) v nm a) → va_S A H0 H1 locs1 → W p l e R s m args below meth c_ H1 locs1 cells slots Q (F0 m (pc + 3) ls rest)) : W p l e R s m args below meth c_ H locs cells slots Q (F0 m pc ls (.int y :: .ref h :: rest)) := by
  subst hy
  exact va_put (D := D) (ci := 9) (v := .int (nI x)) (C := RX9) (T := TX9) (N := 48) hx hb hts inX9 tyX9 tyX9_ok nmX9 hown hK hP hD hS 0 rfl rfl 42 (by decide) (hts _ wd_4_235) (fun _ h9 => h9) rfl (tyX9_ok 42 (by decide)) rfl rfl (Nat.le_of_ble_eq_true rfl) hdg (fun H1 locs1 hP1 hD1 hS1 => kk H1 locs1 hP1 hD1 hS1)
theorem mg_43 (hx : p.tables.exec = Jvm.exec) (hb : c_.code = cc) (hts : ∀ w ∈ BW, w.before args s = true) (hown : s.vm.findClass RX9 = some m.cls) (hK : va_K D vwCl (TY k) s) (hP : va_P D vwCl (Mw h q k c v nm a) H) (hdg : decode cc pc = .ok (.getfield 93, 3)) (kk : W p l e R s m args below meth c_ H locs cells slots Q (F0 m (pc + 3) ls (.ref (q 43) :: rest))) : W p l e R s m args below meth c_ H locs cells slots Q (F0 m pc ls (.ref h :: rest)) := by
  exact va_get (D := D) (ci := 9) (v := .ref (q 43)) (C := RX9) (T := TX9) (N := 48) hx hb hts inX9 hown hK hP 0 rfl rfl 43 (by decide) (hts _ wd_4_236) (fun _ h9 => h9) rfl hdg kk
theorem ml_43 (hx : p.tables.exec = Jvm.exec) (hb : c_.code = cc) (hK : va_K D vwCl (TY k) s) (hP : va_P D vwCl (Mw h q k c v nm a) H) {i : Int32} (j : Nat) (hi : i = nI j) (hj : j < 300) {x : Int32} (hv : a 43 j = x) (hdg : decode cc pc = .ok (.iaload, 1)) (kk : W p l e R s m args below meth c_ H locs cells slots Q (F0 m (pc + 1) ls (.int x :: rest))) : W p l e R s m args below meth c_ H locs cells slots Q (F0 m pc ls (.int i :: .ref (q 43) :: rest)) := by
  subst hv
  exact ra_iald (n := 300) (f := a 43) hx hb hK hP 27 0 rfl rfl j hi hj (by decide) hdg kk
theorem mt_43 (hx : p.tables.exec = Jvm.exec) (hb : c_.code = cc) (hK : va_K D vwCl (TY k) s) (hP : va_P D vwCl (Mw h q k c v nm a) H) (hD : va_D A (Mw h q k c v nm a)) (hS : va_S A H0 H locs) {i : Int32} (j : Nat) (hi : i = nI j) (hj : j < 300) {f : Nat → Int32} (hf : a 43 = f) {x : Int32} (hdg : decode cc pc = .ok (.iastore, 1)) (kk : ∀ (H1 : Heap) (locs1 : List Loc), va_P D vwCl (Mw h q k c v nm (up a 43 (upd f j x))) H1 → va_D A (Mw h q k c v nm (up a 43 (upd f j x))) → va_S A H0 H1 locs1 → W p l e R s m args below meth c_ H1 locs1 cells slots Q (F0 m (pc + 1) ls rest)) : W p l e R s m args below meth c_ H locs cells slots Q (F0 m pc ls (.int x :: .int i :: .ref (q 43) :: rest)) := by
  subst hf
  exact ra_iast (n := 300) (f := a 43) hx hb hK hP hD hS 27 0 rfl rfl j hi hj (by decide) hdg (fun H1 locs1 hP1 hD1 hS1 => kk H1 locs1 hP1 hD1 hS1)
theorem mg_44 (hx : p.tables.exec = Jvm.exec) (hb : c_.code = cc) (hts : ∀ w ∈ BW, w.before args s = true) (hown : s.vm.findClass RX9 = some m.cls) (hK : va_K D vwCl (TY k) s) (hP : va_P D vwCl (Mw h q k c v nm a) H) (hdg : decode cc pc = .ok (.getfield 96, 3)) (kk : W p l e R s m args below meth c_ H locs cells slots Q (F0 m (pc + 3) ls (.ref (q 44) :: rest))) : W p l e R s m args below meth c_ H locs cells slots Q (F0 m pc ls (.ref h :: rest)) := by
  exact va_get (D := D) (ci := 9) (v := .ref (q 44)) (C := RX9) (T := TX9) (N := 48) hx hb hts inX9 hown hK hP 0 rfl rfl 44 (by decide) (hts _ wd_4_237) (fun _ h9 => h9) rfl hdg kk
theorem ml_44 (hx : p.tables.exec = Jvm.exec) (hb : c_.code = cc) (hK : va_K D vwCl (TY k) s) (hP : va_P D vwCl (Mw h q k c v nm a) H) {i : Int32} (j : Nat) (hi : i = nI j) (hj : j < 300) {x : Int32} (hv : a 44 j = x) (hdg : decode cc pc = .ok (.iaload, 1)) (kk : W p l e R s m args below meth c_ H locs cells slots Q (F0 m (pc + 1) ls (.int x :: rest))) : W p l e R s m args below meth c_ H locs cells slots Q (F0 m pc ls (.int i :: .ref (q 44) :: rest)) := by
  subst hv
  exact ra_iald (n := 300) (f := a 44) hx hb hK hP 28 0 rfl rfl j hi hj (by decide) hdg kk
theorem mt_44 (hx : p.tables.exec = Jvm.exec) (hb : c_.code = cc) (hK : va_K D vwCl (TY k) s) (hP : va_P D vwCl (Mw h q k c v nm a) H) (hD : va_D A (Mw h q k c v nm a)) (hS : va_S A H0 H locs) {i : Int32} (j : Nat) (hi : i = nI j) (hj : j < 300) {f : Nat → Int32} (hf : a 44 = f) {x : Int32} (hdg : decode cc pc = .ok (.iastore, 1)) (kk : ∀ (H1 : Heap) (locs1 : List Loc), va_P D vwCl (Mw h q k c v nm (up a 44 (upd f j x))) H1 → va_D A (Mw h q k c v nm (up a 44 (upd f j x))) → va_S A H0 H1 locs1 → W p l e R s m args below meth c_ H1 locs1 cells slots Q (F0 m (pc + 1) ls rest)) : W p l e R s m args below meth c_ H locs cells slots Q (F0 m pc ls (.int x :: .int i :: .ref (q 44) :: rest)) := by
  subst hf
  exact ra_iast (n := 300) (f := a 44) hx hb hK hP hD hS 28 0 rfl rfl j hi hj (by decide) hdg (fun H1 locs1 hP1 hD1 hS1 => kk H1 locs1 hP1 hD1 hS1)
theorem mg_45 (hx : p.tables.exec = Jvm.exec) (hb : c_.code = cc) (hts : ∀ w ∈ BW, w.before args s = true) (hown : s.vm.findClass RX9 = some m.cls) (hK : va_K D vwCl (TY k) s) (hP : va_P D vwCl (Mw h q k c v nm a) H) (hdg : decode cc pc = .ok (.getfield 99, 3)) (kk : W p l e R s m args below meth c_ H locs cells slots Q (F0 m (pc + 3) ls (.ref (q 45) :: rest))) : W p l e R s m args below meth c_ H locs cells slots Q (F0 m pc ls (.ref h :: rest)) := by
  exact va_get (D := D) (ci := 9) (v := .ref (q 45)) (C := RX9) (T := TX9) (N := 48) hx hb hts inX9 hown hK hP 0 rfl rfl 45 (by decide) (hts _ wd_4_238) (fun _ h9 => h9) rfl hdg kk
theorem ml_45 (hx : p.tables.exec = Jvm.exec) (hb : c_.code = cc) (hK : va_K D vwCl (TY k) s) (hP : va_P D vwCl (Mw h q k c v nm a) H) {i : Int32} (j : Nat) (hi : i = nI j) (hj : j < 300) {x : Int32} (hv : a 45 j = x) (hdg : decode cc pc = .ok (.iaload, 1)) (kk : W p l e R s m args below meth c_ H locs cells slots Q (F0 m (pc + 1) ls (.int x :: rest))) : W p l e R s m args below meth c_ H locs cells slots Q (F0 m pc ls (.int i :: .ref (q 45) :: rest)) := by
  subst hv
  exact ra_iald (n := 300) (f := a 45) hx hb hK hP 29 0 rfl rfl j hi hj (by decide) hdg kk
theorem mt_45 (hx : p.tables.exec = Jvm.exec) (hb : c_.code = cc) (hK : va_K D vwCl (TY k) s) (hP : va_P D vwCl (Mw h q k c v nm a) H) (hD : va_D A (Mw h q k c v nm a)) (hS : va_S A H0 H locs) {i : Int32} (j : Nat) (hi : i = nI j) (hj : j < 300) {f : Nat → Int32} (hf : a 45 = f) {x : Int32} (hdg : decode cc pc = .ok (.iastore, 1)) (kk : ∀ (H1 : Heap) (locs1 : List Loc), va_P D vwCl (Mw h q k c v nm (up a 45 (upd f j x))) H1 → va_D A (Mw h q k c v nm (up a 45 (upd f j x))) → va_S A H0 H1 locs1 → W p l e R s m args below meth c_ H1 locs1 cells slots Q (F0 m (pc + 1) ls rest)) : W p l e R s m args below meth c_ H locs cells slots Q (F0 m pc ls (.int x :: .int i :: .ref (q 45) :: rest)) := by
  subst hf
  exact ra_iast (n := 300) (f := a 45) hx hb hK hP hD hS 29 0 rfl rfl j hi hj (by decide) hdg (fun H1 locs1 hP1 hD1 hS1 => kk H1 locs1 hP1 hD1 hS1)
theorem mg_46 (hx : p.tables.exec = Jvm.exec) (hb : c_.code = cc) (hts : ∀ w ∈ BW, w.before args s = true) (hown : s.vm.findClass RX9 = some m.cls) (hK : va_K D vwCl (TY k) s) (hP : va_P D vwCl (Mw h q k c v nm a) H) {x : Int32} (hv : nI (c 46) = x) (hdg : decode cc pc = .ok (.getfield 201, 3)) (kk : W p l e R s m args below meth c_ H locs cells slots Q (F0 m (pc + 3) ls (.int x :: rest))) : W p l e R s m args below meth c_ H locs cells slots Q (F0 m pc ls (.ref h :: rest)) := by
  subst hv
  exact va_get (D := D) (ci := 9) (v := .int (nI (c 46))) (C := RX9) (T := TX9) (N := 48) hx hb hts inX9 hown hK hP 0 rfl rfl 46 (by decide) (hts _ wd_4_239) (fun _ h9 => h9) rfl hdg kk
theorem mp_46 (hx : p.tables.exec = Jvm.exec) (hb : c_.code = cc) (hts : ∀ w ∈ BW, w.before args s = true) (hown : s.vm.findClass RX9 = some m.cls) (hK : va_K D vwCl (TY k) s) (hP : va_P D vwCl (Mw h q k c v nm a) H) (hD : va_D A (Mw h q k c v nm a)) (hS : va_S A H0 H locs) (x : Nat) {y : Int32} (hy : y = nI x) (hdg : decode cc pc = .ok (.putfield 201, 3)) (kk : ∀ (H1 : Heap) (locs1 : List Loc), va_P D vwCl (Mw h q k (up c 46 x) v nm a) H1 → va_D A (Mw h q k (up c 46 x) v nm a) → va_S A H0 H1 locs1 → W p l e R s m args below meth c_ H1 locs1 cells slots Q (F0 m (pc + 3) ls rest)) : W p l e R s m args below meth c_ H locs cells slots Q (F0 m pc ls (.int y :: .ref h :: rest)) := by
  subst hy
  exact va_put (D := D) (ci := 9) (v := .int (nI x)) (C := RX9) (T := TX9) (N := 48) hx hb hts inX9 tyX9 tyX9_ok nmX9 hown hK hP hD hS 0 rfl rfl 46 (by decide) (hts _ wd_4_239) (fun _ h9 => h9) rfl (tyX9_ok 46 (by decide)) rfl rfl (Nat.le_of_ble_eq_true rfl) hdg (fun H1 locs1 hP1 hD1 hS1 => kk H1 locs1 hP1 hD1 hS1)
theorem mg_47 (hx : p.tables.exec = Jvm.exec) (hb : c_.code = cc) (hts : ∀ w ∈ BW, w.before args s = true) (hown : s.vm.findClass RX9 = some m.cls) (hK : va_K D vwCl (TY k) s) (hP : va_P D vwCl (Mw h q k c v nm a) H) (hdg : decode cc pc = .ok (.getfield 102, 3)) (kk : W p l e R s m args below meth c_ H locs cells slots Q (F0 m (pc + 3) ls (.ref (q 47) :: rest))) : W p l e R s m args below meth c_ H locs cells slots Q (F0 m pc ls (.ref h :: rest)) := by
  exact va_get (D := D) (ci := 9) (v := .ref (q 47)) (C := RX9) (T := TX9) (N := 48) hx hb hts inX9 hown hK hP 0 rfl rfl 47 (by decide) (hts _ wd_5_0) (fun _ h9 => h9) rfl hdg kk
theorem ml_47 (hx : p.tables.exec = Jvm.exec) (hb : c_.code = cc) (hK : va_K D vwCl (TY k) s) (hP : va_P D vwCl (Mw h q k c v nm a) H) {i : Int32} (j : Nat) (hi : i = nI j) (hj : j < 40) {x : Int32} (hv : a 47 j = x) (hdg : decode cc pc = .ok (.iaload, 1)) (kk : W p l e R s m args below meth c_ H locs cells slots Q (F0 m (pc + 1) ls (.int x :: rest))) : W p l e R s m args below meth c_ H locs cells slots Q (F0 m pc ls (.int i :: .ref (q 47) :: rest)) := by
  subst hv
  exact ra_iald (n := 40) (f := a 47) hx hb hK hP 30 0 rfl rfl j hi hj (by decide) hdg kk
theorem mt_47 (hx : p.tables.exec = Jvm.exec) (hb : c_.code = cc) (hK : va_K D vwCl (TY k) s) (hP : va_P D vwCl (Mw h q k c v nm a) H) (hD : va_D A (Mw h q k c v nm a)) (hS : va_S A H0 H locs) {i : Int32} (j : Nat) (hi : i = nI j) (hj : j < 40) {f : Nat → Int32} (hf : a 47 = f) {x : Int32} (hdg : decode cc pc = .ok (.iastore, 1)) (kk : ∀ (H1 : Heap) (locs1 : List Loc), va_P D vwCl (Mw h q k c v nm (up a 47 (upd f j x))) H1 → va_D A (Mw h q k c v nm (up a 47 (upd f j x))) → va_S A H0 H1 locs1 → W p l e R s m args below meth c_ H1 locs1 cells slots Q (F0 m (pc + 1) ls rest)) : W p l e R s m args below meth c_ H locs cells slots Q (F0 m pc ls (.int x :: .int i :: .ref (q 47) :: rest)) := by
  subst hf
  exact ra_iast (n := 40) (f := a 47) hx hb hK hP hD hS 30 0 rfl rfl j hi hj (by decide) hdg (fun H1 locs1 hP1 hD1 hS1 => kk H1 locs1 hP1 hD1 hS1)
end MROWS
end
section
def dig (x : Int32) : Bool := !decide (x < 48) && !decide (57 < x)
def let_ (x : Int32) : Bool := !decide (x < 97) && !decide (122 < x)
set_option maxHeartbeats 4000000 in
set_option maxRecDepth 100000 in
theorem c_X9_isDigit (l : Launch) (D : va_G) (k : Nat → ClassId) (x : Int32) : Ro l yX9_isDigit cX9_isDigit 1 (some .boolean) 0 D (TY k) G0 [.int x] ([]) (some (.int (bI (dig x)))) := by
  refine ro_body (by decide +kernel) (Nat.le_of_ble_eq_true rfl) ?_
  intro p e s m args below meth c_ Q hx hb hml hown hts hK hP hS hG hr hq hlocks ls hl
  replace hl : lv_has ls 1 [(0, .int x)] := hl
  change s.vm.findClass RX9 = some m.cls at hown
  refine lv_iload_n hx hb dX9_isDigit_0 rfl (lv_at hl 0 rfl) ?_
  refine lv_bipush (v := 48) hx hb dX9_isDigit_1 (by decide) ?_
  refine lv_icmp_lt (tgt := 16) hx hb dX9_isDigit_3 (by decide) (fun c3 => ?_) (fun c3 => ?_)
  · refine lv_iconst (v := 0) hx hb dX9_isDigit_16 (by decide) ?_
    exact ro_z hx hb hr hlocks hq (rfl) dX9_isDigit_17 (by simp [bI, dig, c3])
  · refine lv_iload_n hx hb dX9_isDigit_6 rfl (lv_at hl 0 rfl) ?_
    refine lv_bipush (v := 57) hx hb dX9_isDigit_7 (by decide) ?_
    refine lv_icmp_gt (tgt := 16) hx hb dX9_isDigit_9 (by decide) (fun c9 => ?_) (fun c9 => ?_)
    · refine lv_iconst (v := 0) hx hb dX9_isDigit_16 (by decide) ?_
      exact ro_z hx hb hr hlocks hq (rfl) dX9_isDigit_17 (by simp [bI, dig, c3, c9])
    · refine lv_iconst (v := 1) hx hb dX9_isDigit_12 (by decide) ?_
      refine lv_goto (tgt := 17) hx hb dX9_isDigit_13 (by decide) ?_
      exact ro_z hx hb hr hlocks hq (rfl) dX9_isDigit_17 (by simp [bI, dig, c3, c9])
set_option maxHeartbeats 4000000 in
set_option maxRecDepth 100000 in
theorem c_X9_isLetter (l : Launch) (D : va_G) (k : Nat → ClassId) (x : Int32) : Ro l yX9_isLetter cX9_isLetter 1 (some .boolean) 0 D (TY k) G0 [.int x] ([]) (some (.int (bI (let_ x)))) := by
  refine ro_body (by decide +kernel) (Nat.le_of_ble_eq_true rfl) ?_
  intro p e s m args below meth c_ Q hx hb hml hown hts hK hP hS hG hr hq hlocks ls hl
  replace hl : lv_has ls 1 [(0, .int x)] := hl
  change s.vm.findClass RX9 = some m.cls at hown
  refine lv_iload_n hx hb dX9_isLetter_0 rfl (lv_at hl 0 rfl) ?_
  refine lv_bipush (v := 97) hx hb dX9_isLetter_1 (by decide) ?_
  refine lv_icmp_lt (tgt := 16) hx hb dX9_isLetter_3 (by decide) (fun c3 => ?_) (fun c3 => ?_)
  · refine lv_iconst (v := 0) hx hb dX9_isLetter_16 (by decide) ?_
    exact ro_z hx hb hr hlocks hq (rfl) dX9_isLetter_17 (by simp [bI, let_, c3])
  · refine lv_iload_n hx hb dX9_isLetter_6 rfl (lv_at hl 0 rfl) ?_
    refine lv_bipush (v := 122) hx hb dX9_isLetter_7 (by decide) ?_
    refine lv_icmp_gt (tgt := 16) hx hb dX9_isLetter_9 (by decide) (fun c9 => ?_) (fun c9 => ?_)
    · refine lv_iconst (v := 0) hx hb dX9_isLetter_16 (by decide) ?_
      exact ro_z hx hb hr hlocks hq (rfl) dX9_isLetter_17 (by simp [bI, let_, c3, c9])
    · refine lv_iconst (v := 1) hx hb dX9_isLetter_12 (by decide) ?_
      refine lv_goto (tgt := 17) hx hb dX9_isLetter_13 (by decide) ?_
      exact ro_z hx hb hr hlocks hq (rfl) dX9_isLetter_17 (by simp [bI, let_, c3, c9])
set_option maxHeartbeats 4000000 in
set_option maxRecDepth 100000 in
theorem c_X9_isPerson (l : Launch) (D : va_G) (h : Nat) (q : Nat → Nat) (k : Nat → ClassId) (c : Nat → Nat) (v : Nat → Int32) (nm : Int64) (a : Nat → Nat → Int32) (x : Int32) : Ro l yX9_isPerson cX9_isPerson 2 (some .boolean) 0 D (TY k) G0 [.ref h, .int x] (Mw h q k c v nm a) (some (.int (bI (isIn x (c 21))))) := by
  refine ro_body (by decide +kernel) (Nat.le_of_ble_eq_true rfl) ?_
  intro p e s m args below meth c_ Q hx hb hml hown hts hK hP hS hG hr hq hlocks ls hl
  replace hl : lv_has ls 2 [(0, .ref h), (1, .int x)] := hl
  change s.vm.findClass RX9 = some m.cls at hown
  refine lv_iload_n hx hb dX9_isPerson_0 rfl (lv_at hl 1 rfl) ?_
  refine lv_if_lt (tgt := 16) hx hb dX9_isPerson_1 (by decide) (fun c1 => ?_) (fun c1 => ?_)
  · refine lv_iconst (v := 0) hx hb dX9_isPerson_16 (by decide) ?_
    exact ro_z hx hb hr hlocks hq (rfl) dX9_isPerson_17 (by simp [bI, isIn, c1])
  · refine lv_iload_n hx hb dX9_isPerson_4 rfl (lv_at hl 1 rfl) ?_
    refine lv_aload_n hx hb dX9_isPerson_5 rfl (lv_at hl 0 rfl) ?_
    refine mg_21 (x := nI (c 21)) hx hb hts hown hK hP rfl dX9_isPerson_6 ?_
    refine lv_icmp_ge (tgt := 16) hx hb dX9_isPerson_9 (by decide) (fun c9 => ?_) (fun c9 => ?_)
    · refine lv_iconst (v := 0) hx hb dX9_isPerson_16 (by decide) ?_
      exact ro_z hx hb hr hlocks hq (rfl) dX9_isPerson_17 (by simp [bI, isIn, c1, c9])
    · refine lv_iconst (v := 1) hx hb dX9_isPerson_12 (by decide) ?_
      refine lv_goto (tgt := 17) hx hb dX9_isPerson_13 (by decide) ?_
      exact ro_z hx hb hr hlocks hq (rfl) dX9_isPerson_17 (by simp [bI, isIn, c1, c9])
set_option maxHeartbeats 4000000 in
set_option maxRecDepth 100000 in
theorem c_X9_isFund (l : Launch) (D : va_G) (h : Nat) (q : Nat → Nat) (k : Nat → ClassId) (c : Nat → Nat) (v : Nat → Int32) (nm : Int64) (a : Nat → Nat → Int32) (x : Int32) : Ro l yX9_isFund cX9_isFund 2 (some .boolean) 0 D (TY k) G0 [.ref h, .int x] (Mw h q k c v nm a) (some (.int (bI (isIn x (c 22))))) := by
  refine ro_body (by decide +kernel) (Nat.le_of_ble_eq_true rfl) ?_
  intro p e s m args below meth c_ Q hx hb hml hown hts hK hP hS hG hr hq hlocks ls hl
  replace hl : lv_has ls 2 [(0, .ref h), (1, .int x)] := hl
  change s.vm.findClass RX9 = some m.cls at hown
  refine lv_iload_n hx hb dX9_isFund_0 rfl (lv_at hl 1 rfl) ?_
  refine lv_if_lt (tgt := 16) hx hb dX9_isFund_1 (by decide) (fun c1 => ?_) (fun c1 => ?_)
  · refine lv_iconst (v := 0) hx hb dX9_isFund_16 (by decide) ?_
    exact ro_z hx hb hr hlocks hq (rfl) dX9_isFund_17 (by simp [bI, isIn, c1])
  · refine lv_iload_n hx hb dX9_isFund_4 rfl (lv_at hl 1 rfl) ?_
    refine lv_aload_n hx hb dX9_isFund_5 rfl (lv_at hl 0 rfl) ?_
    refine mg_22 (x := nI (c 22)) hx hb hts hown hK hP rfl dX9_isFund_6 ?_
    refine lv_icmp_ge (tgt := 16) hx hb dX9_isFund_9 (by decide) (fun c9 => ?_) (fun c9 => ?_)
    · refine lv_iconst (v := 0) hx hb dX9_isFund_16 (by decide) ?_
      exact ro_z hx hb hr hlocks hq (rfl) dX9_isFund_17 (by simp [bI, isIn, c1, c9])
    · refine lv_iconst (v := 1) hx hb dX9_isFund_12 (by decide) ?_
      refine lv_goto (tgt := 17) hx hb dX9_isFund_13 (by decide) ?_
      exact ro_z hx hb hr hlocks hq (rfl) dX9_isFund_17 (by simp [bI, isIn, c1, c9])
set_option maxHeartbeats 4000000 in
set_option maxRecDepth 100000 in
theorem c_X9_isLoan (l : Launch) (D : va_G) (h : Nat) (q : Nat → Nat) (k : Nat → ClassId) (c : Nat → Nat) (v : Nat → Int32) (nm : Int64) (a : Nat → Nat → Int32) (x : Int32) : Ro l yX9_isLoan cX9_isLoan 2 (some .boolean) 0 D (TY k) G0 [.ref h, .int x] (Mw h q k c v nm a) (some (.int (bI (isIn x (c 42))))) := by
  refine ro_body (by decide +kernel) (Nat.le_of_ble_eq_true rfl) ?_
  intro p e s m args below meth c_ Q hx hb hml hown hts hK hP hS hG hr hq hlocks ls hl
  replace hl : lv_has ls 2 [(0, .ref h), (1, .int x)] := hl
  change s.vm.findClass RX9 = some m.cls at hown
  refine lv_iload_n hx hb dX9_isLoan_0 rfl (lv_at hl 1 rfl) ?_
  refine lv_if_lt (tgt := 16) hx hb dX9_isLoan_1 (by decide) (fun c1 => ?_) (fun c1 => ?_)
  · refine lv_iconst (v := 0) hx hb dX9_isLoan_16 (by decide) ?_
    exact ro_z hx hb hr hlocks hq (rfl) dX9_isLoan_17 (by simp [bI, isIn, c1])
  · refine lv_iload_n hx hb dX9_isLoan_4 rfl (lv_at hl 1 rfl) ?_
    refine lv_aload_n hx hb dX9_isLoan_5 rfl (lv_at hl 0 rfl) ?_
    refine mg_42 (x := nI (c 42)) hx hb hts hown hK hP rfl dX9_isLoan_6 ?_
    refine lv_icmp_ge (tgt := 16) hx hb dX9_isLoan_9 (by decide) (fun c9 => ?_) (fun c9 => ?_)
    · refine lv_iconst (v := 0) hx hb dX9_isLoan_16 (by decide) ?_
      exact ro_z hx hb hr hlocks hq (rfl) dX9_isLoan_17 (by simp [bI, isIn, c1, c9])
    · refine lv_iconst (v := 1) hx hb dX9_isLoan_12 (by decide) ?_
      refine lv_goto (tgt := 17) hx hb dX9_isLoan_13 (by decide) ?_
      exact ro_z hx hb hr hlocks hq (rfl) dX9_isLoan_17 (by simp [bI, isIn, c1, c9])
set_option maxHeartbeats 4000000 in
set_option maxRecDepth 100000 in
theorem c_X9_thrown (l : Launch) (D : va_G) (h : Nat) (q : Nat → Nat) (k : Nat → ClassId) (c : Nat → Nat) (v : Nat → Int32) (nm : Int64) (a : Nat → Nat → Int32) : Ro l yX9_thrown cX9_thrown 1 (some .int) 0 D (TY k) G0 [.ref h] (Mw h q k c v nm a) (some (.int (v 0))) := by
  refine ro_body (by decide +kernel) (Nat.le_of_ble_eq_true rfl) ?_
  intro p e s m args below meth c_ Q hx hb hml hown hts hK hP hS hG hr hq hlocks ls hl
  replace hl : lv_has ls 1 [(0, .ref h)] := hl
  change s.vm.findClass RX9 = some m.cls at hown
  refine lv_aload_n hx hb dX9_thrown_0 rfl (lv_at hl 0 rfl) ?_
  refine mg_0 (x := v 0) hx hb hts hown hK hP rfl dX9_thrown_1 ?_
  exact ro_i hx hb hr hlocks hq dX9_thrown_4 (rfl)
end
section
/-- thrown = 0 -/
def mT0 (u : MSt) : MSt := (u.1, up u.2.1 0 0, u.2.2.1, u.2.2.2)
def mT1 (u : MSt) : MSt := (u.1, up u.2.1 0 1, u.2.2.1, u.2.2.2)
/-- byte b of the four of w -/
def byt (w : Int32) (b : Int32) : Int32 := (w.toUInt32 >>> (b.toUInt32 &&& Int32.toUInt32 31)).toInt32 &&& 255
def put4 (f : Nat → Int32) (t : Nat) (w : Int32) : Nat → Int32 := upd (upd (upd (upd f t (byt w 24)) (t + 1) (byt w 16)) (t + 1 + 1) (byt w 8)) (t + 1 + 1 + 1) (byt w 0)
def mCome (w : Int32) (u : MSt) : MSt := (up u.1 2 (u.1 2 + 4), u.2.1, u.2.2.1, up u.2.2.2 1 (put4 (u.2.2.2 1) (u.1 2) w))

set_option maxHeartbeats 4000000 in
set_option maxRecDepth 100000 in
theorem c_X9_refuse (l : Launch) (D : va_G) (h : Nat) (q : Nat → Nat) (k : Nat → ClassId) (c : Nat → Nat) (v : Nat → Int32) (nm : Int64) (a : Nat → Nat → Int32) : Fs (S := Int32 × MSt) l yX9_refuse cX9_refuse 1 (some .int) 0 0 0 D (TY k) G0 [.ref h] (Mw h q k c v nm a) (fun u => some (.int u.1)) (fun u => u = (0, mT1 (c, v, nm, a))) (fun u => MwU h q k u.2) := by
  refine fs_body (by decide +kernel) (Nat.le_of_ble_eq_true rfl) ?_
  intro p e s m args below meth c_ Q A hx hb hml hown hts hK hP hD hS hA hG hin hr hq hlocks ls hl
  replace hl : lv_has ls 1 [(0, .ref h)] := hl
  change s.vm.findClass RX9 = some m.cls at hown
  refine lv_aload_n hx hb dX9_refuse_0 rfl (lv_at hl 0 rfl) ?_
  refine lv_iconst (v := 1) hx hb dX9_refuse_1 (by decide) ?_
  refine mp_0 hx hb hts hown hK hP hD hS 1 dX9_refuse_2 (fun H locs hP hD hS => ?_)
  refine lv_iconst (v := 0) hx hb dX9_refuse_5 (by decide) ?_
  exact fs_i hx hb hr hlocks hq (0, (c, up v 0 1, nm, a)) (rfl) hP hD hS dX9_refuse_6 rfl
set_option maxHeartbeats 4000000 in
set_option maxRecDepth 100000 in
theorem c_X9_come (l : Launch) (D : va_G) (h : Nat) (q : Nat → Nat) (k : Nat → ClassId) (c : Nat → Nat) (v : Nat → Int32) (nm : Int64) (a : Nat → Nat → Int32) (w : Int32) (ht : c 2 + 4 ≤ 320) : Fs (S := MSt) l yX9_come cX9_come 3 none 0 0 0 D (TY k) G0 [.ref h, .int w] (Mw h q k c v nm a) (fun _ => none) (fun u => u = mCome w (c, v, nm, a)) (fun u => MwU h q k u) := by
  refine fs_body (by decide +kernel) (Nat.le_of_ble_eq_true rfl) ?_
  intro p e s m args below meth c_ Q A hx hb hml hown hts hK hP hD hS hA hG hin hr hq hlocks ls hl
  replace hl : lv_has ls 3 [(0, .ref h), (1, .int w)] := hl
  change s.vm.findClass RX9 = some m.cls at hown
  refine lv_bipush (v := 24) hx hb dX9_come_0 (by decide) ?_
  refine lv_istore_n (lv' := [(2, .int 24), (0, .ref h), (1, .int w)]) hx hb dX9_come_2 rfl hl (by decide) rfl (fun ls hl => ?_)
  refine lv_iload_n hx hb dX9_come_3 rfl (lv_at hl 0 rfl) ?_
  refine lv_if_lt (tgt := 39) hx hb dX9_come_4 (by decide) (fun c4 => absurd c4 (by decide)) (fun c4 => ?_)
  refine lv_aload_n hx hb dX9_come_7 rfl (lv_at hl 1 rfl) ?_
  refine mg_1 hx hb hts hown hK hP dX9_come_8 ?_
  refine lv_aload_n hx hb dX9_come_11 rfl (lv_at hl 1 rfl) ?_
  refine mg_2 (x := nI (c 2)) hx hb hts hown hK hP rfl dX9_come_12 ?_
  refine lv_iload_n hx hb dX9_come_15 rfl (lv_at hl 2 rfl) ?_
  refine lv_iload_n hx hb dX9_come_16 rfl (lv_at hl 0 rfl) ?_
  refine lv_iushr (v := (w.toUInt32 >>> ((24 : Int32).toUInt32 &&& Int32.toUInt32 31)).toInt32) hx hb dX9_come_17 rfl ?_
  refine lv_sipush (v := 255) hx hb dX9_come_18 (by decide) ?_
  refine lv_iand hx hb dX9_come_21 ?_
  refine mt_1 (f := a 1) hx hb hK hP hD hS (c 2) rfl (by omega) rfl dX9_come_22 (fun H locs hP hD hS => ?_)
  refine lv_aload_n hx hb dX9_come_23 rfl (lv_at hl 1 rfl) ?_
  refine lv_dup hx hb dX9_come_24 rfl ?_
  refine mg_2 (x := nI (c 2)) hx hb hts hown hK hP rfl dX9_come_25 ?_
  refine lv_iconst (v := 1) hx hb dX9_come_28 (by decide) ?_
  refine lv_iadd hx hb dX9_come_29 ?_
  refine rw_topi (y := nI ((c 2) + 1)) (nI_add _ _) ?_
  refine mp_2 hx hb hts hown hK hP hD hS ((c 2) + 1) rfl dX9_come_30 (fun H locs hP hD hS => ?_)
  refine lv_iinc (v := 16) (lv' := [(2, .int 16), (0, .ref h), (1, .int w)]) hx hb dX9_come_33 hl (k := 0) rfl (by decide) (by decide) rfl (fun ls hl => ?_)
  refine lv_goto (tgt := 3) hx hb dX9_come_36 (by decide) ?_
  refine lv_iload_n hx hb dX9_come_3 rfl (lv_at hl 0 rfl) ?_
  refine lv_if_lt (tgt := 39) hx hb dX9_come_4 (by decide) (fun c4 => absurd c4 (by decide)) (fun c4 => ?_)
  refine lv_aload_n hx hb dX9_come_7 rfl (lv_at hl 1 rfl) ?_
  refine mg_1 hx hb hts hown hK hP dX9_come_8 ?_
  refine lv_aload_n hx hb dX9_come_11 rfl (lv_at hl 1 rfl) ?_
  refine mg_2 (x := nI ((c 2) + 1)) hx hb hts hown hK hP rfl dX9_come_12 ?_
  refine lv_iload_n hx hb dX9_come_15 rfl (lv_at hl 2 rfl) ?_
  refine lv_iload_n hx hb dX9_come_16 rfl (lv_at hl 0 rfl) ?_
  refine lv_iushr (v := (w.toUInt32 >>> ((16 : Int32).toUInt32 &&& Int32.toUInt32 31)).toInt32) hx hb dX9_come_17 rfl ?_
  refine lv_sipush (v := 255) hx hb dX9_come_18 (by decide) ?_
  refine lv_iand hx hb dX9_come_21 ?_
  refine mt_1 (f := upd (a 1) (c 2) (((w.toUInt32 >>> ((24 : Int32).toUInt32 &&& Int32.toUInt32 31)).toInt32) &&& 255)) hx hb hK hP hD hS ((c 2) + 1) rfl (by omega) rfl dX9_come_22 (fun H locs hP hD hS => ?_)
  rw [up_up] at hP hD
  refine lv_aload_n hx hb dX9_come_23 rfl (lv_at hl 1 rfl) ?_
  refine lv_dup hx hb dX9_come_24 rfl ?_
  refine mg_2 (x := nI ((c 2) + 1)) hx hb hts hown hK hP rfl dX9_come_25 ?_
  refine lv_iconst (v := 1) hx hb dX9_come_28 (by decide) ?_
  refine lv_iadd hx hb dX9_come_29 ?_
  refine rw_topi (y := nI (((c 2) + 1) + 1)) (nI_add _ _) ?_
  refine mp_2 hx hb hts hown hK hP hD hS (((c 2) + 1) + 1) rfl dX9_come_30 (fun H locs hP hD hS => ?_)
  rw [up_up] at hP hD
  refine lv_iinc (v := 8) (lv' := [(2, .int 8), (0, .ref h), (1, .int w)]) hx hb dX9_come_33 hl (k := 0) rfl (by decide) (by decide) rfl (fun ls hl => ?_)
  refine lv_goto (tgt := 3) hx hb dX9_come_36 (by decide) ?_
  refine lv_iload_n hx hb dX9_come_3 rfl (lv_at hl 0 rfl) ?_
  refine lv_if_lt (tgt := 39) hx hb dX9_come_4 (by decide) (fun c4 => absurd c4 (by decide)) (fun c4 => ?_)
  refine lv_aload_n hx hb dX9_come_7 rfl (lv_at hl 1 rfl) ?_
  refine mg_1 hx hb hts hown hK hP dX9_come_8 ?_
  refine lv_aload_n hx hb dX9_come_11 rfl (lv_at hl 1 rfl) ?_
  refine mg_2 (x := nI (((c 2) + 1) + 1)) hx hb hts hown hK hP rfl dX9_come_12 ?_
  refine lv_iload_n hx hb dX9_come_15 rfl (lv_at hl 2 rfl) ?_
  refine lv_iload_n hx hb dX9_come_16 rfl (lv_at hl 0 rfl) ?_
  refine lv_iushr (v := (w.toUInt32 >>> ((8 : Int32).toUInt32 &&& Int32.toUInt32 31)).toInt32) hx hb dX9_come_17 rfl ?_
  refine lv_sipush (v := 255) hx hb dX9_come_18 (by decide) ?_
  refine lv_iand hx hb dX9_come_21 ?_
  refine mt_1 (f := upd (upd (a 1) (c 2) (((w.toUInt32 >>> ((24 : Int32).toUInt32 &&& Int32.toUInt32 31)).toInt32) &&& 255)) ((c 2) + 1) (((w.toUInt32 >>> ((16 : Int32).toUInt32 &&& Int32.toUInt32 31)).toInt32) &&& 255)) hx hb hK hP hD hS (((c 2) + 1) + 1) rfl (by omega) rfl dX9_come_22 (fun H locs hP hD hS => ?_)
  rw [up_up] at hP hD
  refine lv_aload_n hx hb dX9_come_23 rfl (lv_at hl 1 rfl) ?_
  refine lv_dup hx hb dX9_come_24 rfl ?_
  refine mg_2 (x := nI (((c 2) + 1) + 1)) hx hb hts hown hK hP rfl dX9_come_25 ?_
  refine lv_iconst (v := 1) hx hb dX9_come_28 (by decide) ?_
  refine lv_iadd hx hb dX9_come_29 ?_
  refine rw_topi (y := nI ((((c 2) + 1) + 1) + 1)) (nI_add _ _) ?_
  refine mp_2 hx hb hts hown hK hP hD hS ((((c 2) + 1) + 1) + 1) rfl dX9_come_30 (fun H locs hP hD hS => ?_)
  rw [up_up] at hP hD
  refine lv_iinc (v := 0) (lv' := [(2, .int 0), (0, .ref h), (1, .int w)]) hx hb dX9_come_33 hl (k := 0) rfl (by decide) (by decide) rfl (fun ls hl => ?_)
  refine lv_goto (tgt := 3) hx hb dX9_come_36 (by decide) ?_
  refine lv_iload_n hx hb dX9_come_3 rfl (lv_at hl 0 rfl) ?_
  refine lv_if_lt (tgt := 39) hx hb dX9_come_4 (by decide) (fun c4 => absurd c4 (by decide)) (fun c4 => ?_)
  refine lv_aload_n hx hb dX9_come_7 rfl (lv_at hl 1 rfl) ?_
  refine mg_1 hx hb hts hown hK hP dX9_come_8 ?_
  refine lv_aload_n hx hb dX9_come_11 rfl (lv_at hl 1 rfl) ?_
  refine mg_2 (x := nI ((((c 2) + 1) + 1) + 1)) hx hb hts hown hK hP rfl dX9_come_12 ?_
  refine lv_iload_n hx hb dX9_come_15 rfl (lv_at hl 2 rfl) ?_
  refine lv_iload_n hx hb dX9_come_16 rfl (lv_at hl 0 rfl) ?_
  refine lv_iushr (v := (w.toUInt32 >>> ((0 : Int32).toUInt32 &&& Int32.toUInt32 31)).toInt32) hx hb dX9_come_17 rfl ?_
  refine lv_sipush (v := 255) hx hb dX9_come_18 (by decide) ?_
  refine lv_iand hx hb dX9_come_21 ?_
  refine mt_1 (f := upd (upd (upd (a 1) (c 2) (((w.toUInt32 >>> ((24 : Int32).toUInt32 &&& Int32.toUInt32 31)).toInt32) &&& 255)) ((c 2) + 1) (((w.toUInt32 >>> ((16 : Int32).toUInt32 &&& Int32.toUInt32 31)).toInt32) &&& 255)) (((c 2) + 1) + 1) (((w.toUInt32 >>> ((8 : Int32).toUInt32 &&& Int32.toUInt32 31)).toInt32) &&& 255)) hx hb hK hP hD hS ((((c 2) + 1) + 1) + 1) rfl (by omega) rfl dX9_come_22 (fun H locs hP hD hS => ?_)
  rw [up_up] at hP hD
  refine lv_aload_n hx hb dX9_come_23 rfl (lv_at hl 1 rfl) ?_
  refine lv_dup hx hb dX9_come_24 rfl ?_
  refine mg_2 (x := nI ((((c 2) + 1) + 1) + 1)) hx hb hts hown hK hP rfl dX9_come_25 ?_
  refine lv_iconst (v := 1) hx hb dX9_come_28 (by decide) ?_
  refine lv_iadd hx hb dX9_come_29 ?_
  refine rw_topi (y := nI (((((c 2) + 1) + 1) + 1) + 1)) (nI_add _ _) ?_
  refine mp_2 hx hb hts hown hK hP hD hS (((((c 2) + 1) + 1) + 1) + 1) rfl dX9_come_30 (fun H locs hP hD hS => ?_)
  rw [up_up] at hP hD
  refine lv_iinc (v := (-8)) (lv' := [(2, .int (-8)), (0, .ref h), (1, .int w)]) hx hb dX9_come_33 hl (k := 0) rfl (by decide) (by decide) rfl (fun ls hl => ?_)
  refine lv_goto (tgt := 3) hx hb dX9_come_36 (by decide) ?_
  refine lv_iload_n hx hb dX9_come_3 rfl (lv_at hl 0 rfl) ?_
  refine lv_if_lt (tgt := 39) hx hb dX9_come_4 (by decide) (fun c4 => ?_) (fun c4 => absurd (by decide) c4)
  exact fs_v hx hb hr hlocks hq (up c 2 (((((c 2) + 1) + 1) + 1) + 1), v, nm, up a 1 (upd (upd (upd (upd (a 1) (c 2) (((w.toUInt32 >>> ((24 : Int32).toUInt32 &&& Int32.toUInt32 31)).toInt32) &&& 255)) ((c 2) + 1) (((w.toUInt32 >>> ((16 : Int32).toUInt32 &&& Int32.toUInt32 31)).toInt32) &&& 255)) (((c 2) + 1) + 1) (((w.toUInt32 >>> ((8 : Int32).toUInt32 &&& Int32.toUInt32 31)).toInt32) &&& 255)) ((((c 2) + 1) + 1) + 1) (((w.toUInt32 >>> ((0 : Int32).toUInt32 &&& Int32.toUInt32 31)).toInt32) &&& 255))) (by simp [mCome, put4, byt, up_up, up_eq]) hP hD hS dX9_come_39 rfl
def mFeed (x y z w t : Int32) (u : MSt) : Int32 × MSt := if u.1 2 + 20 ≤ 320 then (nI (u.1 2 + 20), mCome t (mCome w (mCome z (mCome y (mCome x (mT0 u)))))) else (-1, mT0 u)
def mEnd (x : Int32) (u : MSt) : Int32 × MSt := if x < 0 then (0, mT0 u) else if x ≤ nI (u.1 2) then (1, (up u.1 2 x.toNatClampNeg, up u.2.1 0 0, u.2.2.1, u.2.2.2)) else (0, mT0 u)
def mRule (x : Int32) (u : MSt) : Int32 := if x < 0 then -1 else if x < 9 then u.2.2.2 3 x.toNatClampNeg else -1
def mPerson (x : Int32) (u : MSt) : Int32 × MSt := if u.1 21 = 40 then (-1, mT0 u) else if x < 0 then (-1, mT0 u) else if x ≤ 255 then (nI (u.1 21), (up u.1 21 (u.1 21 + 1), up u.2.1 0 0, u.2.2.1, up u.2.2.2 17 (upd (u.2.2.2 17) (u.1 21) x))) else (-1, mT0 u)
def mFund (x y : Int32) (u : MSt) : Int32 × MSt := if u.1 22 = 6 then (-1, mT0 u) else if x < 0 then (-1, mT0 u) else if 7 < x then (-1, mT0 u) else if y < 0 then (-1, mT0 u) else if y ≤ 100000 then (nI (u.1 22), (up u.1 22 (u.1 22 + 1), up (up u.2.1 0 0) 24 (u.2.1 24 + y), u.2.2.1, up (up u.2.2.2 18 (upd (u.2.2.2 18) (u.1 22) x)) 19 (upd (u.2.2.2 19) (u.1 22) y))) else (-1, mT0 u)
def mGift (x y : Int32) (u : MSt) : Int32 × MSt := if isIn x (u.1 22) = false then (-1, mT0 u) else if y < 1 then (-1, mT0 u) else if 100000 < y then (-1, mT0 u) else if u.2.2.2 19 x.toNatClampNeg + y ≤ 1000000 then (u.2.2.2 19 x.toNatClampNeg + y, (u.1, up (up u.2.1 0 0) 24 (u.2.1 24 + y), u.2.2.1, up u.2.2.2 19 (upd (u.2.2.2 19) x.toNatClampNeg (u.2.2.2 19 x.toNatClampNeg + y)))) else (-1, mT0 u)
def mTag (x y z : Int32) (u : MSt) : Int32 × MSt := if isIn x (u.1 21) = false then (0, mT0 u) else if y < 0 then (0, mT0 u) else if 7 < y then (0, mT0 u) else if (u.2.2.2 17 x.toNatClampNeg >>> (y &&& 31)) &&& 1 = (if z = 0 then 0 else 1) then (0, mT0 u) else (1, (u.1, up u.2.1 0 0, u.2.2.1, up u.2.2.2 17 (upd (u.2.2.2 17) x.toNatClampNeg (u.2.2.2 17 x.toNatClampNeg ^^^ (1 <<< (y &&& 31))))))

set_option maxHeartbeats 4000000 in
set_option maxRecDepth 100000 in
theorem c_X9_feed (l : Launch) (D : va_G) (h : Nat) (q : Nat → Nat) (k : Nat → ClassId) (c : Nat → Nat) (v : Nat → Int32) (nm : Int64) (a : Nat → Nat → Int32) (x : Int32) (y : Int32) (z : Int32) (w : Int32) (t : Int32) (ht : c 2 ≤ 320) : Fs (S := Int32 × MSt) l yX9_feed cX9_feed 6 (some .int) 1 0 0 D (TY k) G0 [.ref h, .int x, .int y, .int z, .int w, .int t] (Mw h q k c v nm a) (fun u => some (.int u.1)) (fun u => u = mFeed x y z w t (c, v, nm, a)) (fun u => MwU h q k u.2) := by
  refine fs_body (by decide +kernel) (Nat.le_of_ble_eq_true rfl) ?_
  intro p e s m args below meth c_ Q A hx hb hml hown hts hK hP hD hS hA hG hin hr hq hlocks ls hl
  replace hl : lv_has ls 6 [(0, .ref h), (1, .int x), (2, .int y), (3, .int z), (4, .int w), (5, .int t)] := hl
  change s.vm.findClass RX9 = some m.cls at hown
  refine lv_aload_n hx hb dX9_feed_0 rfl (lv_at hl 0 rfl) ?_
  refine lv_iconst (v := 0) hx hb dX9_feed_1 (by decide) ?_
  refine mp_0 hx hb hts hown hK hP hD hS 0 dX9_feed_2 (fun H locs hP hD hS => ?_)
  refine lv_aload_n hx hb dX9_feed_5 rfl (lv_at hl 0 rfl) ?_
  refine mg_2 (x := nI (c 2)) hx hb hts hown hK hP rfl dX9_feed_6 ?_
  refine lv_bipush (v := 20) hx hb dX9_feed_9 (by decide) ?_
  refine lv_iadd hx hb dX9_feed_11 ?_
  refine rw_topi (y := nI ((c 2) + 20)) (nI_add _ _) ?_
  refine lv_sipush (v := 320) hx hb dX9_feed_12 (by decide) ?_
  refine lv_icmp_le (tgt := 20) hx hb dX9_feed_15 (by decide) (fun c15 => ?_) (fun c15 => ?_)
  · replace c15 : ((c 2) + 20) ≤ 320 := (nI_leI (a := (c 2) + 20) (b := 320) (by omega) (by omega)).mp c15
    refine lv_aload_n hx hb dX9_feed_20 rfl (lv_at hl 0 rfl) ?_
    refine lv_iload_n hx hb dX9_feed_21 rfl (lv_at hl 1 rfl) ?_
    refine fs_Vw (rest := []) (As := [.int x]) ⟨hx, hb, hml, hown, hts⟩ Gd0 trivial hS hA hK (hP) (hD) (c_X9_come l D h q k c (up v 0 0) nm a x (by omega)) mi_X9_come wd_5_108 wp_2_10 wd_5_106 ⟨Nat.le_of_ble_eq_true rfl, Nat.le_of_ble_eq_true rfl⟩ 0 rfl rfl rfl hl.1 rfl (Nat.le_of_ble_eq_true rfl) ⟨Nat.le_of_ble_eq_true rfl, Nat.le_of_ble_eq_true rfl⟩ dX9_feed_22 (fun u_1 H locs hu_2 hP hD hS => ?_)
    subst hu_2
    replace hP : va_P D vwCl (Mw h q k (up c 2 (c 2 + 4)) (up v 0 0) nm (up a 1 (put4 (a 1) (c 2) x))) H := hP
    replace hD : va_D A (Mw h q k (up c 2 (c 2 + 4)) (up v 0 0) nm (up a 1 (put4 (a 1) (c 2) x))) := hD
    refine W.eq (g2 := F0 m 25 ls []) rfl ?_
    refine lv_aload_n hx hb dX9_feed_25 rfl (lv_at hl 0 rfl) ?_
    refine lv_iload_n hx hb dX9_feed_26 rfl (lv_at hl 2 rfl) ?_
    refine fs_Vw (rest := []) (As := [.int y]) ⟨hx, hb, hml, hown, hts⟩ Gd0 trivial hS hA hK (hP) (hD) (c_X9_come l D h q k (up c 2 (c 2 + 4)) (up v 0 0) nm (up a 1 (put4 (a 1) (c 2) x)) y (show _ + 4 ≤ 320 by simp only [up_eq]; omega)) mi_X9_come wd_5_108 wp_2_10 wd_5_106 ⟨Nat.le_of_ble_eq_true rfl, Nat.le_of_ble_eq_true rfl⟩ 0 rfl rfl rfl hl.1 rfl (Nat.le_of_ble_eq_true rfl) ⟨Nat.le_of_ble_eq_true rfl, Nat.le_of_ble_eq_true rfl⟩ dX9_feed_27 (fun u_3 H locs hu_4 hP hD hS => ?_)
    subst hu_4
    replace hP : va_P D vwCl (Mw h q k (up c 2 (c 2 + 4 + 4)) (up v 0 0) nm (up a 1 (put4 (put4 (a 1) (c 2) x) (c 2 + 4) y))) H := hP
    replace hD : va_D A (Mw h q k (up c 2 (c 2 + 4 + 4)) (up v 0 0) nm (up a 1 (put4 (put4 (a 1) (c 2) x) (c 2 + 4) y))) := hD
    refine W.eq (g2 := F0 m 30 ls []) rfl ?_
    refine lv_aload_n hx hb dX9_feed_30 rfl (lv_at hl 0 rfl) ?_
    refine lv_iload_n hx hb dX9_feed_31 rfl (lv_at hl 3 rfl) ?_
    refine fs_Vw (rest := []) (As := [.int z]) ⟨hx, hb, hml, hown, hts⟩ Gd0 trivial hS hA hK (hP) (hD) (c_X9_come l D h q k (up c 2 (c 2 + 4 + 4)) (up v 0 0) nm (up a 1 (put4 (put4 (a 1) (c 2) x) (c 2 + 4) y)) z (show _ + 4 ≤ 320 by simp only [up_eq]; omega)) mi_X9_come wd_5_108 wp_2_10 wd_5_106 ⟨Nat.le_of_ble_eq_true rfl, Nat.le_of_ble_eq_true rfl⟩ 0 rfl rfl rfl hl.1 rfl (Nat.le_of_ble_eq_true rfl) ⟨Nat.le_of_ble_eq_true rfl, Nat.le_of_ble_eq_true rfl⟩ dX9_feed_32 (fun u_5 H locs hu_6 hP hD hS => ?_)
    subst hu_6
    replace hP : va_P D vwCl (Mw h q k (up c 2 (c 2 + 4 + 4 + 4)) (up v 0 0) nm (up a 1 (put4 (put4 (put4 (a 1) (c 2) x) (c 2 + 4) y) (c 2 + 4 + 4) z))) H := hP
    replace hD : va_D A (Mw h q k (up c 2 (c 2 + 4 + 4 + 4)) (up v 0 0) nm (up a 1 (put4 (put4 (put4 (a 1) (c 2) x) (c 2 + 4) y) (c 2 + 4 + 4) z))) := hD
    refine W.eq (g2 := F0 m 35 ls []) rfl ?_
    refine lv_aload_n hx hb dX9_feed_35 rfl (lv_at hl 0 rfl) ?_
    refine lv_iload hx hb dX9_feed_36 (lv_at hl 4 rfl) ?_
    refine fs_Vw (rest := []) (As := [.int w]) ⟨hx, hb, hml, hown, hts⟩ Gd0 trivial hS hA hK (hP) (hD) (c_X9_come l D h q k (up c 2 (c 2 + 4 + 4 + 4)) (up v 0 0) nm (up a 1 (put4 (put4 (put4 (a 1) (c 2) x) (c 2 + 4) y) (c 2 + 4 + 4) z)) w (show _ + 4 ≤ 320 by simp only [up_eq]; omega)) mi_X9_come wd_5_108 wp_2_10 wd_5_106 ⟨Nat.le_of_ble_eq_true rfl, Nat.le_of_ble_eq_true rfl⟩ 0 rfl rfl rfl hl.1 rfl (Nat.le_of_ble_eq_true rfl) ⟨Nat.le_of_ble_eq_true rfl, Nat.le_of_ble_eq_true rfl⟩ dX9_feed_38 (fun u_7 H locs hu_8 hP hD hS => ?_)
    subst hu_8
    replace hP : va_P D vwCl (Mw h q k (up c 2 (c 2 + 4 + 4 + 4 + 4)) (up v 0 0) nm (up a 1 (put4 (put4 (put4 (put4 (a 1) (c 2) x) (c 2 + 4) y) (c 2 + 4 + 4) z) (c 2 + 4 + 4 + 4) w))) H := hP
    replace hD : va_D A (Mw h q k (up c 2 (c 2 + 4 + 4 + 4 + 4)) (up v 0 0) nm (up a 1 (put4 (put4 (put4 (put4 (a 1) (c 2) x) (c 2 + 4) y) (c 2 + 4 + 4) z) (c 2 + 4 + 4 + 4) w))) := hD
    refine W.eq (g2 := F0 m 41 ls []) rfl ?_
    refine lv_aload_n hx hb dX9_feed_41 rfl (lv_at hl 0 rfl) ?_
    refine lv_iload hx hb dX9_feed_42 (lv_at hl 5 rfl) ?_
    refine fs_Vw (rest := []) (As := [.int t]) ⟨hx, hb, hml, hown, hts⟩ Gd0 trivial hS hA hK (hP) (hD) (c_X9_come l D h q k (up c 2 (c 2 + 4 + 4 + 4 + 4)) (up v 0 0) nm (up a 1 (put4 (put4 (put4 (put4 (a 1) (c 2) x) (c 2 + 4) y) (c 2 + 4 + 4) z) (c 2 + 4 + 4 + 4) w)) t (show _ + 4 ≤ 320 by simp only [up_eq]; omega)) mi_X9_come wd_5_108 wp_2_10 wd_5_106 ⟨Nat.le_of_ble_eq_true rfl, Nat.le_of_ble_eq_true rfl⟩ 0 rfl rfl rfl hl.1 rfl (Nat.le_of_ble_eq_true rfl) ⟨Nat.le_of_ble_eq_true rfl, Nat.le_of_ble_eq_true rfl⟩ dX9_feed_44 (fun u_9 H locs hu_10 hP hD hS => ?_)
    subst hu_10
    replace hP : va_P D vwCl (Mw h q k (up c 2 (c 2 + 4 + 4 + 4 + 4 + 4)) (up v 0 0) nm (up a 1 (put4 (put4 (put4 (put4 (put4 (a 1) (c 2) x) (c 2 + 4) y) (c 2 + 4 + 4) z) (c 2 + 4 + 4 + 4) w) (c 2 + 4 + 4 + 4 + 4) t))) H := hP
    replace hD : va_D A (Mw h q k (up c 2 (c 2 + 4 + 4 + 4 + 4 + 4)) (up v 0 0) nm (up a 1 (put4 (put4 (put4 (put4 (put4 (a 1) (c 2) x) (c 2 + 4) y) (c 2 + 4 + 4) z) (c 2 + 4 + 4 + 4) w) (c 2 + 4 + 4 + 4 + 4) t))) := hD
    refine W.eq (g2 := F0 m 47 ls []) rfl ?_
    refine lv_aload_n hx hb dX9_feed_47 rfl (lv_at hl 0 rfl) ?_
    refine mg_2 (x := nI (c 2 + 4 + 4 + 4 + 4 + 4)) hx hb hts hown hK hP rfl dX9_feed_48 ?_
    exact fs_i hx hb hr hlocks hq (nI (c 2 + 4 + 4 + 4 + 4 + 4), (up c 2 (c 2 + 4 + 4 + 4 + 4 + 4), up v 0 0, nm, up a 1 (put4 (put4 (put4 (put4 (put4 (a 1) (c 2) x) (c 2 + 4) y) (c 2 + 4 + 4) z) (c 2 + 4 + 4 + 4) w) (c 2 + 4 + 4 + 4 + 4) t))) (by simp [mFeed, mT0, mCome, up_up, up_eq, c15]) hP hD hS dX9_feed_51 rfl
  · replace c15 : ¬ (((c 2) + 20) ≤ 320) := fun z => c15 ((nI_leI (a := (c 2) + 20) (b := 320) (by omega) (by omega)).mpr z)
    refine lv_iconst (v := (-1)) hx hb dX9_feed_18 (by decide) ?_
    exact fs_i hx hb hr hlocks hq ((-1), (c, up v 0 0, nm, a)) (by simp [mFeed, mT0, mCome, up_up, up_eq, c15]) hP hD hS dX9_feed_19 rfl
set_option maxHeartbeats 4000000 in
set_option maxRecDepth 100000 in
theorem c_X9_end (l : Launch) (D : va_G) (h : Nat) (q : Nat → Nat) (k : Nat → ClassId) (c : Nat → Nat) (v : Nat → Int32) (nm : Int64) (a : Nat → Nat → Int32) (x : Int32) (ht : c 2 ≤ 320) : Fs (S := Int32 × MSt) l yX9_end cX9_end 2 (some .boolean) 0 0 0 D (TY k) G0 [.ref h, .int x] (Mw h q k c v nm a) (fun u => some (.int u.1)) (fun u => u = mEnd x (c, v, nm, a)) (fun u => MwU h q k u.2) := by
  refine fs_body (by decide +kernel) (Nat.le_of_ble_eq_true rfl) ?_
  intro p e s m args below meth c_ Q A hx hb hml hown hts hK hP hD hS hA hG hin hr hq hlocks ls hl
  replace hl : lv_has ls 2 [(0, .ref h), (1, .int x)] := hl
  change s.vm.findClass RX9 = some m.cls at hown
  refine lv_aload_n hx hb dX9_end_0 rfl (lv_at hl 0 rfl) ?_
  refine lv_iconst (v := 0) hx hb dX9_end_1 (by decide) ?_
  refine mp_0 hx hb hts hown hK hP hD hS 0 dX9_end_2 (fun H locs hP hD hS => ?_)
  refine lv_iload_n hx hb dX9_end_5 rfl (lv_at hl 1 rfl) ?_
  refine lv_if_lt (tgt := 17) hx hb dX9_end_6 (by decide) (fun c6 => ?_) (fun c6 => ?_)
  · refine lv_iconst (v := 0) hx hb dX9_end_17 (by decide) ?_
    exact fs_z hx hb hr hlocks hq (0, (c, up v 0 0, nm, a)) (by simp [mEnd, mT0, c6]) hP hD hS (rfl) dX9_end_18 rfl
  · refine lv_iload_n hx hb dX9_end_9 rfl (lv_at hl 1 rfl) ?_
    refine lv_aload_n hx hb dX9_end_10 rfl (lv_at hl 0 rfl) ?_
    refine mg_2 (x := nI (c 2)) hx hb hts hown hK hP rfl dX9_end_11 ?_
    refine lv_icmp_le (tgt := 19) hx hb dX9_end_14 (by decide) (fun c14 => ?_) (fun c14 => ?_)
    · refine lv_aload_n hx hb dX9_end_19 rfl (lv_at hl 0 rfl) ?_
      refine lv_iload_n hx hb dX9_end_20 rfl (lv_at hl 1 rfl) ?_
      refine rw_topi (y := nI x.toNatClampNeg) (nI_self c6) ?_
      refine mp_2 hx hb hts hown hK hP hD hS x.toNatClampNeg rfl dX9_end_21 (fun H locs hP hD hS => ?_)
      refine lv_iconst (v := 1) hx hb dX9_end_24 (by decide) ?_
      exact fs_z hx hb hr hlocks hq (1, (up c 2 x.toNatClampNeg, up v 0 0, nm, a)) (by simp [mEnd, mT0, c6, c14]) hP hD hS (rfl) dX9_end_25 rfl
    · refine lv_iconst (v := 0) hx hb dX9_end_17 (by decide) ?_
      exact fs_z hx hb hr hlocks hq (0, (c, up v 0 0, nm, a)) (by simp [mEnd, mT0, c6, c14]) hP hD hS (rfl) dX9_end_18 rfl
set_option maxHeartbeats 4000000 in
set_option maxRecDepth 100000 in
theorem c_X9_fault (l : Launch) (D : va_G) (h : Nat) (q : Nat → Nat) (k : Nat → ClassId) (c : Nat → Nat) (v : Nat → Int32) (nm : Int64) (a : Nat → Nat → Int32) : Fs (S := Int32 × MSt) l yX9_fault cX9_fault 1 (some .int) 0 0 0 D (TY k) G0 [.ref h] (Mw h q k c v nm a) (fun u => some (.int u.1)) (fun u => u = (v 8, mT0 (c, v, nm, a))) (fun u => MwU h q k u.2) := by
  refine fs_body (by decide +kernel) (Nat.le_of_ble_eq_true rfl) ?_
  intro p e s m args below meth c_ Q A hx hb hml hown hts hK hP hD hS hA hG hin hr hq hlocks ls hl
  replace hl : lv_has ls 1 [(0, .ref h)] := hl
  change s.vm.findClass RX9 = some m.cls at hown
  refine lv_aload_n hx hb dX9_fault_0 rfl (lv_at hl 0 rfl) ?_
  refine lv_iconst (v := 0) hx hb dX9_fault_1 (by decide) ?_
  refine mp_0 hx hb hts hown hK hP hD hS 0 dX9_fault_2 (fun H locs hP hD hS => ?_)
  refine lv_aload_n hx hb dX9_fault_5 rfl (lv_at hl 0 rfl) ?_
  refine mg_8 (x := v 8) hx hb hts hown hK hP rfl dX9_fault_6 ?_
  exact fs_i hx hb hr hlocks hq (v 8, (c, up v 0 0, nm, a)) (rfl) hP hD hS dX9_fault_9 rfl
set_option maxHeartbeats 4000000 in
set_option maxRecDepth 100000 in
theorem c_X9_rule (l : Launch) (D : va_G) (h : Nat) (q : Nat → Nat) (k : Nat → ClassId) (c : Nat → Nat) (v : Nat → Int32) (nm : Int64) (a : Nat → Nat → Int32) (x : Int32) : Fs (S := Int32 × MSt) l yX9_rule cX9_rule 2 (some .int) 0 0 0 D (TY k) G0 [.ref h, .int x] (Mw h q k c v nm a) (fun u => some (.int u.1)) (fun u => u = (mRule x (c, v, nm, a), mT0 (c, v, nm, a))) (fun u => MwU h q k u.2) := by
  refine fs_body (by decide +kernel) (Nat.le_of_ble_eq_true rfl) ?_
  intro p e s m args below meth c_ Q A hx hb hml hown hts hK hP hD hS hA hG hin hr hq hlocks ls hl
  replace hl : lv_has ls 2 [(0, .ref h), (1, .int x)] := hl
  change s.vm.findClass RX9 = some m.cls at hown
  refine lv_aload_n hx hb dX9_rule_0 rfl (lv_at hl 0 rfl) ?_
  refine lv_iconst (v := 0) hx hb dX9_rule_1 (by decide) ?_
  refine mp_0 hx hb hts hown hK hP hD hS 0 dX9_rule_2 (fun H locs hP hD hS => ?_)
  refine lv_iload_n hx hb dX9_rule_5 rfl (lv_at hl 1 rfl) ?_
  refine lv_if_lt (tgt := 15) hx hb dX9_rule_6 (by decide) (fun c6 => ?_) (fun c6 => ?_)
  · refine lv_iconst (v := (-1)) hx hb dX9_rule_15 (by decide) ?_
    refine lv_goto (tgt := 25) hx hb dX9_rule_16 (by decide) ?_
    exact fs_i hx hb hr hlocks hq ((-1), (c, up v 0 0, nm, a)) (by simp [mRule, mT0, c6]) hP hD hS dX9_rule_25 rfl
  · refine lv_iload_n hx hb dX9_rule_9 rfl (lv_at hl 1 rfl) ?_
    refine lv_bipush (v := 9) hx hb dX9_rule_10 (by decide) ?_
    refine lv_icmp_lt (tgt := 19) hx hb dX9_rule_12 (by decide) (fun c12 => ?_) (fun c12 => ?_)
    · refine lv_aload_n hx hb dX9_rule_19 rfl (lv_at hl 0 rfl) ?_
      refine mg_3 hx hb hts hown hK hP dX9_rule_20 ?_
      refine lv_iload_n hx hb dX9_rule_23 rfl (lv_at hl 1 rfl) ?_
      refine ml_3 (x := (a 3) x.toNatClampNeg) hx hb hK hP x.toNatClampNeg (nI_self c6) (by have := nI_self c6; rw [this] at c12; exact (nI_ltI (a := x.toNatClampNeg) (b := 9) (by have := Int32.toNatClampNeg_lt x; omega) (by decide)).mp c12) rfl dX9_rule_24 ?_
      exact fs_i hx hb hr hlocks hq ((a 3) x.toNatClampNeg, (c, up v 0 0, nm, a)) (by simp [mRule, mT0, c6, c12]) hP hD hS dX9_rule_25 rfl
    · refine lv_iconst (v := (-1)) hx hb dX9_rule_15 (by decide) ?_
      refine lv_goto (tgt := 25) hx hb dX9_rule_16 (by decide) ?_
      exact fs_i hx hb hr hlocks hq ((-1), (c, up v 0 0, nm, a)) (by simp [mRule, mT0, c6, c12]) hP hD hS dX9_rule_25 rfl
set_option maxHeartbeats 4000000 in
set_option maxRecDepth 100000 in
theorem c_X9_person (l : Launch) (D : va_G) (h : Nat) (q : Nat → Nat) (k : Nat → ClassId) (c : Nat → Nat) (v : Nat → Int32) (nm : Int64) (a : Nat → Nat → Int32) (x : Int32) (hn : c 21 ≤ 40) : Fs (S := Int32 × MSt) l yX9_person cX9_person 2 (some .int) 0 0 0 D (TY k) G0 [.ref h, .int x] (Mw h q k c v nm a) (fun u => some (.int u.1)) (fun u => u = mPerson x (c, v, nm, a)) (fun u => MwU h q k u.2) := by
  refine fs_body (by decide +kernel) (Nat.le_of_ble_eq_true rfl) ?_
  intro p e s m args below meth c_ Q A hx hb hml hown hts hK hP hD hS hA hG hin hr hq hlocks ls hl
  replace hl : lv_has ls 2 [(0, .ref h), (1, .int x)] := hl
  change s.vm.findClass RX9 = some m.cls at hown
  refine lv_aload_n hx hb dX9_person_0 rfl (lv_at hl 0 rfl) ?_
  refine lv_iconst (v := 0) hx hb dX9_person_1 (by decide) ?_
  refine mp_0 hx hb hts hown hK hP hD hS 0 dX9_person_2 (fun H locs hP hD hS => ?_)
  refine lv_aload_n hx hb dX9_person_5 rfl (lv_at hl 0 rfl) ?_
  refine mg_21 (x := nI (c 21)) hx hb hts hown hK hP rfl dX9_person_6 ?_
  refine lv_bipush (v := 40) hx hb dX9_person_9 (by decide) ?_
  refine lv_icmp_eq (tgt := 25) hx hb dX9_person_11 (by decide) (fun c11 => ?_) (fun c11 => ?_)
  · replace c11 : (c 21) = 40 := (nI_eq (a := c 21) (b := 40) (by omega) (by omega)).mp c11
    refine lv_iconst (v := (-1)) hx hb dX9_person_25 (by decide) ?_
    exact fs_i hx hb hr hlocks hq ((-1), (c, up v 0 0, nm, a)) (by simp [mPerson, mT0, c11]) hP hD hS dX9_person_26 rfl
  · replace c11 : ¬ ((c 21) = 40) := fun z => c11 ((nI_eq (a := c 21) (b := 40) (by omega) (by omega)).mpr z)
    refine lv_iload_n hx hb dX9_person_14 rfl (lv_at hl 1 rfl) ?_
    refine lv_if_lt (tgt := 25) hx hb dX9_person_15 (by decide) (fun c15 => ?_) (fun c15 => ?_)
    · refine lv_iconst (v := (-1)) hx hb dX9_person_25 (by decide) ?_
      exact fs_i hx hb hr hlocks hq ((-1), (c, up v 0 0, nm, a)) (by simp [mPerson, mT0, c11, c15]) hP hD hS dX9_person_26 rfl
    · refine lv_iload_n hx hb dX9_person_18 rfl (lv_at hl 1 rfl) ?_
      refine lv_sipush (v := 255) hx hb dX9_person_19 (by decide) ?_
      refine lv_icmp_le (tgt := 27) hx hb dX9_person_22 (by decide) (fun c22 => ?_) (fun c22 => ?_)
      · refine lv_aload_n hx hb dX9_person_27 rfl (lv_at hl 0 rfl) ?_
        refine mg_17 hx hb hts hown hK hP dX9_person_28 ?_
        refine lv_aload_n hx hb dX9_person_31 rfl (lv_at hl 0 rfl) ?_
        refine mg_21 (x := nI (c 21)) hx hb hts hown hK hP rfl dX9_person_32 ?_
        refine lv_iload_n hx hb dX9_person_35 rfl (lv_at hl 1 rfl) ?_
        refine mt_17 (f := a 17) hx hb hK hP hD hS (c 21) rfl (by omega) rfl dX9_person_36 (fun H locs hP hD hS => ?_)
        refine lv_aload_n hx hb dX9_person_37 rfl (lv_at hl 0 rfl) ?_
        refine lv_dup hx hb dX9_person_38 rfl ?_
        refine mg_21 (x := nI (c 21)) hx hb hts hown hK hP rfl dX9_person_39 ?_
        refine lv_iconst (v := 1) hx hb dX9_person_42 (by decide) ?_
        refine lv_iadd hx hb dX9_person_43 ?_
        refine rw_topi (y := nI ((c 21) + 1)) (nI_add _ _) ?_
        refine mp_21 hx hb hts hown hK hP hD hS ((c 21) + 1) rfl dX9_person_44 (fun H locs hP hD hS => ?_)
        refine lv_aload_n hx hb dX9_person_47 rfl (lv_at hl 0 rfl) ?_
        refine mg_21 (x := nI ((c 21) + 1)) hx hb hts hown hK hP rfl dX9_person_48 ?_
        refine lv_iconst (v := 1) hx hb dX9_person_51 (by decide) ?_
        refine lv_isub hx hb dX9_person_52 ?_
        refine rw_topi (y := nI (c 21)) (nI_pred _) ?_
        exact fs_i hx hb hr hlocks hq (nI (c 21), (up c 21 ((c 21) + 1), up v 0 0, nm, up a 17 (upd (a 17) (c 21) x))) (by simp [mPerson, mT0, c11, c15, c22]) hP hD hS dX9_person_53 rfl
      · refine lv_iconst (v := (-1)) hx hb dX9_person_25 (by decide) ?_
        exact fs_i hx hb hr hlocks hq ((-1), (c, up v 0 0, nm, a)) (by simp [mPerson, mT0, c11, c15, c22]) hP hD hS dX9_person_26 rfl
set_option maxHeartbeats 4000000 in
set_option maxRecDepth 100000 in
theorem c_X9_fund (l : Launch) (D : va_G) (h : Nat) (q : Nat → Nat) (k : Nat → ClassId) (c : Nat → Nat) (v : Nat → Int32) (nm : Int64) (a : Nat → Nat → Int32) (x : Int32) (y : Int32) (hn : c 22 ≤ 6) : Fs (S := Int32 × MSt) l yX9_fund cX9_fund 3 (some .int) 0 0 0 D (TY k) G0 [.ref h, .int x, .int y] (Mw h q k c v nm a) (fun u => some (.int u.1)) (fun u => u = mFund x y (c, v, nm, a)) (fun u => MwU h q k u.2) := by
  refine fs_body (by decide +kernel) (Nat.le_of_ble_eq_true rfl) ?_
  intro p e s m args below meth c_ Q A hx hb hml hown hts hK hP hD hS hA hG hin hr hq hlocks ls hl
  replace hl : lv_has ls 3 [(0, .ref h), (1, .int x), (2, .int y)] := hl
  change s.vm.findClass RX9 = some m.cls at hown
  refine lv_aload_n hx hb dX9_fund_0 rfl (lv_at hl 0 rfl) ?_
  refine lv_iconst (v := 0) hx hb dX9_fund_1 (by decide) ?_
  refine mp_0 hx hb hts hown hK hP hD hS 0 dX9_fund_2 (fun H locs hP hD hS => ?_)
  refine lv_aload_n hx hb dX9_fund_5 rfl (lv_at hl 0 rfl) ?_
  refine mg_22 (x := nI (c 22)) hx hb hts hown hK hP rfl dX9_fund_6 ?_
  refine lv_bipush (v := 6) hx hb dX9_fund_9 (by decide) ?_
  refine lv_icmp_eq (tgt := 34) hx hb dX9_fund_11 (by decide) (fun c11 => ?_) (fun c11 => ?_)
  · replace c11 : (c 22) = 6 := (nI_eq (a := c 22) (b := 6) (by omega) (by omega)).mp c11
    refine lv_iconst (v := (-1)) hx hb dX9_fund_34 (by decide) ?_
    exact fs_i hx hb hr hlocks hq ((-1), (c, up v 0 0, nm, a)) (by simp [mFund, mT0, c11]) hP hD hS dX9_fund_35 rfl
  · replace c11 : ¬ ((c 22) = 6) := fun z => c11 ((nI_eq (a := c 22) (b := 6) (by omega) (by omega)).mpr z)
    refine lv_iload_n hx hb dX9_fund_14 rfl (lv_at hl 1 rfl) ?_
    refine lv_if_lt (tgt := 34) hx hb dX9_fund_15 (by decide) (fun c15 => ?_) (fun c15 => ?_)
    · refine lv_iconst (v := (-1)) hx hb dX9_fund_34 (by decide) ?_
      exact fs_i hx hb hr hlocks hq ((-1), (c, up v 0 0, nm, a)) (by simp [mFund, mT0, c11, c15]) hP hD hS dX9_fund_35 rfl
    · refine lv_iload_n hx hb dX9_fund_18 rfl (lv_at hl 1 rfl) ?_
      refine lv_bipush (v := 7) hx hb dX9_fund_19 (by decide) ?_
      refine lv_icmp_gt (tgt := 34) hx hb dX9_fund_21 (by decide) (fun c21 => ?_) (fun c21 => ?_)
      · refine lv_iconst (v := (-1)) hx hb dX9_fund_34 (by decide) ?_
        exact fs_i hx hb hr hlocks hq ((-1), (c, up v 0 0, nm, a)) (by simp [mFund, mT0, c11, c15, c21]) hP hD hS dX9_fund_35 rfl
      · refine lv_iload_n hx hb dX9_fund_24 rfl (lv_at hl 2 rfl) ?_
        refine lv_if_lt (tgt := 34) hx hb dX9_fund_25 (by decide) (fun c25 => ?_) (fun c25 => ?_)
        · refine lv_iconst (v := (-1)) hx hb dX9_fund_34 (by decide) ?_
          exact fs_i hx hb hr hlocks hq ((-1), (c, up v 0 0, nm, a)) (by simp [mFund, mT0, c11, c15, c21, c25]) hP hD hS dX9_fund_35 rfl
        · refine lv_iload_n hx hb dX9_fund_28 rfl (lv_at hl 2 rfl) ?_
          refine lv_ldc (v := 100000) hx hb hown (hts _ wd_5_177) dX9_fund_29 ?_
          refine lv_icmp_le (tgt := 36) hx hb dX9_fund_31 (by decide) (fun c31 => ?_) (fun c31 => ?_)
          · refine lv_aload_n hx hb dX9_fund_36 rfl (lv_at hl 0 rfl) ?_
            refine mg_18 hx hb hts hown hK hP dX9_fund_37 ?_
            refine lv_aload_n hx hb dX9_fund_40 rfl (lv_at hl 0 rfl) ?_
            refine mg_22 (x := nI (c 22)) hx hb hts hown hK hP rfl dX9_fund_41 ?_
            refine lv_iload_n hx hb dX9_fund_44 rfl (lv_at hl 1 rfl) ?_
            refine mt_18 (f := a 18) hx hb hK hP hD hS (c 22) rfl (by omega) rfl dX9_fund_45 (fun H locs hP hD hS => ?_)
            refine lv_aload_n hx hb dX9_fund_46 rfl (lv_at hl 0 rfl) ?_
            refine mg_19 hx hb hts hown hK hP dX9_fund_47 ?_
            refine lv_aload_n hx hb dX9_fund_50 rfl (lv_at hl 0 rfl) ?_
            refine mg_22 (x := nI (c 22)) hx hb hts hown hK hP rfl dX9_fund_51 ?_
            refine lv_iload_n hx hb dX9_fund_54 rfl (lv_at hl 2 rfl) ?_
            refine mt_19 (f := a 19) hx hb hK hP hD hS (c 22) rfl (by omega) rfl dX9_fund_55 (fun H locs hP hD hS => ?_)
            refine lv_aload_n hx hb dX9_fund_56 rfl (lv_at hl 0 rfl) ?_
            refine lv_dup hx hb dX9_fund_57 rfl ?_
            refine mg_24 (x := v 24) hx hb hts hown hK hP rfl dX9_fund_58 ?_
            refine lv_iload_n hx hb dX9_fund_61 rfl (lv_at hl 2 rfl) ?_
            refine lv_iadd hx hb dX9_fund_62 ?_
            refine mp_24 hx hb hts hown hK hP hD hS ((v 24) + y) dX9_fund_63 (fun H locs hP hD hS => ?_)
            refine lv_aload_n hx hb dX9_fund_66 rfl (lv_at hl 0 rfl) ?_
            refine lv_dup hx hb dX9_fund_67 rfl ?_
            refine mg_22 (x := nI (c 22)) hx hb hts hown hK hP rfl dX9_fund_68 ?_
            refine lv_iconst (v := 1) hx hb dX9_fund_71 (by decide) ?_
            refine lv_iadd hx hb dX9_fund_72 ?_
            refine rw_topi (y := nI ((c 22) + 1)) (nI_add _ _) ?_
            refine mp_22 hx hb hts hown hK hP hD hS ((c 22) + 1) rfl dX9_fund_73 (fun H locs hP hD hS => ?_)
            refine lv_aload_n hx hb dX9_fund_76 rfl (lv_at hl 0 rfl) ?_
            refine mg_22 (x := nI ((c 22) + 1)) hx hb hts hown hK hP rfl dX9_fund_77 ?_
            refine lv_iconst (v := 1) hx hb dX9_fund_80 (by decide) ?_
            refine lv_isub hx hb dX9_fund_81 ?_
            refine rw_topi (y := nI (c 22)) (nI_pred _) ?_
            exact fs_i hx hb hr hlocks hq (nI (c 22), (up c 22 ((c 22) + 1), up (up v 0 0) 24 ((v 24) + y), nm, up (up a 18 (upd (a 18) (c 22) x)) 19 (upd (a 19) (c 22) y))) (by simp [mFund, mT0, c11, c15, c21, c25, c31]) hP hD hS dX9_fund_82 rfl
          · refine lv_iconst (v := (-1)) hx hb dX9_fund_34 (by decide) ?_
            exact fs_i hx hb hr hlocks hq ((-1), (c, up v 0 0, nm, a)) (by simp [mFund, mT0, c11, c15, c21, c25, c31]) hP hD hS dX9_fund_35 rfl
set_option maxHeartbeats 4000000 in
set_option maxRecDepth 100000 in
theorem c_X9_gift (l : Launch) (D : va_G) (h : Nat) (q : Nat → Nat) (k : Nat → ClassId) (c : Nat → Nat) (v : Nat → Int32) (nm : Int64) (a : Nat → Nat → Int32) (x : Int32) (y : Int32) (hn : c 22 ≤ 6) : Fs (S := Int32 × MSt) l yX9_gift cX9_gift 3 (some .int) 1 0 0 D (TY k) G0 [.ref h, .int x, .int y] (Mw h q k c v nm a) (fun u => some (.int u.1)) (fun u => u = mGift x y (c, v, nm, a)) (fun u => MwU h q k u.2) := by
  refine fs_body (by decide +kernel) (Nat.le_of_ble_eq_true rfl) ?_
  intro p e s m args below meth c_ Q A hx hb hml hown hts hK hP hD hS hA hG hin hr hq hlocks ls hl
  replace hl : lv_has ls 3 [(0, .ref h), (1, .int x), (2, .int y)] := hl
  change s.vm.findClass RX9 = some m.cls at hown
  refine lv_aload_n hx hb dX9_gift_0 rfl (lv_at hl 0 rfl) ?_
  refine lv_iconst (v := 0) hx hb dX9_gift_1 (by decide) ?_
  refine mp_0 hx hb hts hown hK hP hD hS 0 dX9_gift_2 (fun H locs hP hD hS => ?_)
  refine lv_aload_n hx hb dX9_gift_5 rfl (lv_at hl 0 rfl) ?_
  refine lv_iload_n hx hb dX9_gift_6 rfl (lv_at hl 1 rfl) ?_
  refine ro_V (rest := []) (st1 := [.int (bI (isIn x (c 22)))]) (As := [.int x]) ⟨hx, hb, hml, hown, hts⟩ Gd0 trivial hS hK (c_X9_isFund l D h q k c (up v 0 0) nm a x ) mi_X9_isFund wd_5_184 wp_3_1 wd_5_182 ⟨Nat.le_of_ble_eq_true rfl, Nat.le_of_ble_eq_true rfl⟩ (hP) 0 rfl rfl rfl hl.1 rfl (Nat.le_of_ble_eq_true rfl) rfl ⟨Nat.le_of_ble_eq_true rfl, Nat.le_of_ble_eq_true rfl⟩ dX9_gift_7 ?_
  refine lv_if_eq (tgt := 37) hx hb dX9_gift_10 (by decide) (fun c10 => ?_) (fun c10 => ?_)
  · replace c10 : (isIn x (c 22)) = false := bI_0.mp c10
    refine lv_iconst (v := (-1)) hx hb dX9_gift_37 (by decide) ?_
    exact fs_i hx hb hr hlocks hq ((-1), (c, up v 0 0, nm, a)) (by simp [mGift, mT0, upd_eq, c10]) hP hD hS dX9_gift_38 rfl
  · replace c10 : (isIn x (c 22)) = true := bI_n.mp c10
    obtain ⟨ex, hjx⟩ := isIn_spec c10 (by omega)
    refine lv_iload_n hx hb dX9_gift_13 rfl (lv_at hl 2 rfl) ?_
    refine lv_iconst (v := 1) hx hb dX9_gift_14 (by decide) ?_
    refine lv_icmp_lt (tgt := 37) hx hb dX9_gift_15 (by decide) (fun c15 => ?_) (fun c15 => ?_)
    · refine lv_iconst (v := (-1)) hx hb dX9_gift_37 (by decide) ?_
      exact fs_i hx hb hr hlocks hq ((-1), (c, up v 0 0, nm, a)) (by simp [mGift, mT0, upd_eq, c10, c15]) hP hD hS dX9_gift_38 rfl
    · refine lv_iload_n hx hb dX9_gift_18 rfl (lv_at hl 2 rfl) ?_
      refine lv_ldc (v := 100000) hx hb hown (hts _ wd_5_177) dX9_gift_19 ?_
      refine lv_icmp_gt (tgt := 37) hx hb dX9_gift_21 (by decide) (fun c21 => ?_) (fun c21 => ?_)
      · refine lv_iconst (v := (-1)) hx hb dX9_gift_37 (by decide) ?_
        exact fs_i hx hb hr hlocks hq ((-1), (c, up v 0 0, nm, a)) (by simp [mGift, mT0, upd_eq, c10, c15, c21]) hP hD hS dX9_gift_38 rfl
      · refine lv_aload_n hx hb dX9_gift_24 rfl (lv_at hl 0 rfl) ?_
        refine mg_19 hx hb hts hown hK hP dX9_gift_25 ?_
        refine lv_iload_n hx hb dX9_gift_28 rfl (lv_at hl 1 rfl) ?_
        refine ml_19 (x := (a 19) x.toNatClampNeg) hx hb hK hP x.toNatClampNeg ex (by omega) rfl dX9_gift_29 ?_
        refine lv_iload_n hx hb dX9_gift_30 rfl (lv_at hl 2 rfl) ?_
        refine lv_iadd hx hb dX9_gift_31 ?_
        refine lv_ldc (v := 1000000) hx hb hown (hts _ wd_5_186) dX9_gift_32 ?_
        refine lv_icmp_le (tgt := 39) hx hb dX9_gift_34 (by decide) (fun c34 => ?_) (fun c34 => ?_)
        · refine lv_aload_n hx hb dX9_gift_39 rfl (lv_at hl 0 rfl) ?_
          refine mg_19 hx hb hts hown hK hP dX9_gift_40 ?_
          refine lv_iload_n hx hb dX9_gift_43 rfl (lv_at hl 1 rfl) ?_
          refine lv_dup2_11 hx hb dX9_gift_44 rfl rfl ?_
          refine ml_19 (x := (a 19) x.toNatClampNeg) hx hb hK hP x.toNatClampNeg ex (by omega) rfl dX9_gift_45 ?_
          refine lv_iload_n hx hb dX9_gift_46 rfl (lv_at hl 2 rfl) ?_
          refine lv_iadd hx hb dX9_gift_47 ?_
          refine mt_19 (f := a 19) hx hb hK hP hD hS x.toNatClampNeg ex (by omega) rfl dX9_gift_48 (fun H locs hP hD hS => ?_)
          refine lv_aload_n hx hb dX9_gift_49 rfl (lv_at hl 0 rfl) ?_
          refine lv_dup hx hb dX9_gift_50 rfl ?_
          refine mg_24 (x := v 24) hx hb hts hown hK hP rfl dX9_gift_51 ?_
          refine lv_iload_n hx hb dX9_gift_54 rfl (lv_at hl 2 rfl) ?_
          refine lv_iadd hx hb dX9_gift_55 ?_
          refine mp_24 hx hb hts hown hK hP hD hS ((v 24) + y) dX9_gift_56 (fun H locs hP hD hS => ?_)
          refine lv_aload_n hx hb dX9_gift_59 rfl (lv_at hl 0 rfl) ?_
          refine mg_19 hx hb hts hown hK hP dX9_gift_60 ?_
          refine lv_iload_n hx hb dX9_gift_63 rfl (lv_at hl 1 rfl) ?_
          refine ml_19 (x := (upd (a 19) x.toNatClampNeg (((a 19) x.toNatClampNeg) + y)) x.toNatClampNeg) hx hb hK hP x.toNatClampNeg ex (by omega) rfl dX9_gift_64 ?_
          exact fs_i hx hb hr hlocks hq ((upd (a 19) x.toNatClampNeg (((a 19) x.toNatClampNeg) + y)) x.toNatClampNeg, (c, up (up v 0 0) 24 ((v 24) + y), nm, up a 19 (upd (a 19) x.toNatClampNeg (((a 19) x.toNatClampNeg) + y)))) (by simp [mGift, mT0, upd_eq, c10, c15, c21, c34]) hP hD hS dX9_gift_65 rfl
        · refine lv_iconst (v := (-1)) hx hb dX9_gift_37 (by decide) ?_
          exact fs_i hx hb hr hlocks hq ((-1), (c, up v 0 0, nm, a)) (by simp [mGift, mT0, upd_eq, c10, c15, c21, c34]) hP hD hS dX9_gift_38 rfl
set_option maxHeartbeats 4000000 in
set_option maxRecDepth 100000 in
theorem c_X9_tag (l : Launch) (D : va_G) (h : Nat) (q : Nat → Nat) (k : Nat → ClassId) (c : Nat → Nat) (v : Nat → Int32) (nm : Int64) (a : Nat → Nat → Int32) (x : Int32) (y : Int32) (z : Int32) (hn : c 21 ≤ 40) : Fs (S := Int32 × MSt) l yX9_tag cX9_tag 4 (some .boolean) 1 0 0 D (TY k) G0 [.ref h, .int x, .int y, .int z] (Mw h q k c v nm a) (fun u => some (.int u.1)) (fun u => u = mTag x y z (c, v, nm, a)) (fun u => MwU h q k u.2) := by
  refine fs_body (by decide +kernel) (Nat.le_of_ble_eq_true rfl) ?_
  intro p e s m args below meth c_ Q A hx hb hml hown hts hK hP hD hS hA hG hin hr hq hlocks ls hl
  replace hl : lv_has ls 4 [(0, .ref h), (1, .int x), (2, .int y), (3, .int z)] := hl
  change s.vm.findClass RX9 = some m.cls at hown
  refine lv_aload_n hx hb dX9_tag_0 rfl (lv_at hl 0 rfl) ?_
  refine lv_iconst (v := 0) hx hb dX9_tag_1 (by decide) ?_
  refine mp_0 hx hb hts hown hK hP hD hS 0 dX9_tag_2 (fun H locs hP hD hS => ?_)
  refine lv_aload_n hx hb dX9_tag_5 rfl (lv_at hl 0 rfl) ?_
  refine lv_iload_n hx hb dX9_tag_6 rfl (lv_at hl 1 rfl) ?_
  refine ro_V (rest := []) (st1 := [.int (bI (isIn x (c 21)))]) (As := [.int x]) ⟨hx, hb, hml, hown, hts⟩ Gd0 trivial hS hK (c_X9_isPerson l D h q k c (up v 0 0) nm a x ) mi_X9_isPerson wd_5_171 wp_3_0 wd_5_169 ⟨Nat.le_of_ble_eq_true rfl, Nat.le_of_ble_eq_true rfl⟩ (hP) 0 rfl rfl rfl hl.1 rfl (Nat.le_of_ble_eq_true rfl) rfl ⟨Nat.le_of_ble_eq_true rfl, Nat.le_of_ble_eq_true rfl⟩ dX9_tag_7 ?_
  refine lv_if_eq (tgt := 45) hx hb dX9_tag_10 (by decide) (fun c10 => ?_) (fun c10 => ?_)
  · replace c10 : (isIn x (c 21)) = false := bI_0.mp c10
    refine lv_iconst (v := 0) hx hb dX9_tag_45 (by decide) ?_
    exact fs_z hx hb hr hlocks hq (0, (c, up v 0 0, nm, a)) (by simp [mTag, mT0, c10]) hP hD hS (rfl) dX9_tag_46 rfl
  · replace c10 : (isIn x (c 21)) = true := bI_n.mp c10
    obtain ⟨ex, hjx⟩ := isIn_spec c10 (by omega)
    refine lv_iload_n hx hb dX9_tag_13 rfl (lv_at hl 2 rfl) ?_
    refine lv_if_lt (tgt := 45) hx hb dX9_tag_14 (by decide) (fun c14 => ?_) (fun c14 => ?_)
    · refine lv_iconst (v := 0) hx hb dX9_tag_45 (by decide) ?_
      exact fs_z hx hb hr hlocks hq (0, (c, up v 0 0, nm, a)) (by simp [mTag, mT0, c10, c14]) hP hD hS (rfl) dX9_tag_46 rfl
    · refine lv_iload_n hx hb dX9_tag_17 rfl (lv_at hl 2 rfl) ?_
      refine lv_bipush (v := 7) hx hb dX9_tag_18 (by decide) ?_
      refine lv_icmp_gt (tgt := 45) hx hb dX9_tag_20 (by decide) (fun c20 => ?_) (fun c20 => ?_)
      · refine lv_iconst (v := 0) hx hb dX9_tag_45 (by decide) ?_
        exact fs_z hx hb hr hlocks hq (0, (c, up v 0 0, nm, a)) (by simp [mTag, mT0, c10, c14, c20]) hP hD hS (rfl) dX9_tag_46 rfl
      · refine lv_aload_n hx hb dX9_tag_23 rfl (lv_at hl 0 rfl) ?_
        refine mg_17 hx hb hts hown hK hP dX9_tag_24 ?_
        refine lv_iload_n hx hb dX9_tag_27 rfl (lv_at hl 1 rfl) ?_
        refine ml_17 (x := (a 17) x.toNatClampNeg) hx hb hK hP x.toNatClampNeg ex (by omega) rfl dX9_tag_28 ?_
        refine lv_iload_n hx hb dX9_tag_29 rfl (lv_at hl 2 rfl) ?_
        refine lv_ishr hx hb dX9_tag_30 ?_
        refine lv_iconst (v := 1) hx hb dX9_tag_31 (by decide) ?_
        refine lv_iand hx hb dX9_tag_32 ?_
        refine lv_iload_n hx hb dX9_tag_33 rfl (lv_at hl 3 rfl) ?_
        refine lv_if_eq (tgt := 41) hx hb dX9_tag_34 (by decide) (fun c34 => ?_) (fun c34 => ?_)
        · refine lv_iconst (v := 0) hx hb dX9_tag_41 (by decide) ?_
          refine lv_icmp_ne (tgt := 47) hx hb dX9_tag_42 (by decide) (fun c42 => ?_) (fun c42 => ?_)
          · refine lv_aload_n hx hb dX9_tag_47 rfl (lv_at hl 0 rfl) ?_
            refine mg_17 hx hb hts hown hK hP dX9_tag_48 ?_
            refine lv_iload_n hx hb dX9_tag_51 rfl (lv_at hl 1 rfl) ?_
            refine lv_dup2_11 hx hb dX9_tag_52 rfl rfl ?_
            refine ml_17 (x := (a 17) x.toNatClampNeg) hx hb hK hP x.toNatClampNeg ex (by omega) rfl dX9_tag_53 ?_
            refine lv_iconst (v := 1) hx hb dX9_tag_54 (by decide) ?_
            refine lv_iload_n hx hb dX9_tag_55 rfl (lv_at hl 2 rfl) ?_
            refine lv_ishl hx hb dX9_tag_56 ?_
            refine lv_ixor hx hb dX9_tag_57 ?_
            refine mt_17 (f := a 17) hx hb hK hP hD hS x.toNatClampNeg ex (by omega) rfl dX9_tag_58 (fun H locs hP hD hS => ?_)
            refine lv_iconst (v := 1) hx hb dX9_tag_59 (by decide) ?_
            exact fs_z hx hb hr hlocks hq (1, (c, up v 0 0, nm, up a 17 (upd (a 17) x.toNatClampNeg (((a 17) x.toNatClampNeg) ^^^ (1 <<< (y &&& 31)))))) (by simp [mTag, mT0, c10, c14, c20, c34, c42]) hP hD hS (rfl) dX9_tag_60 rfl
          · refine lv_iconst (v := 0) hx hb dX9_tag_45 (by decide) ?_
            exact fs_z hx hb hr hlocks hq (0, (c, up v 0 0, nm, a)) (by simp [mTag, mT0, c10, c14, c20, c34, c42]) hP hD hS (rfl) dX9_tag_46 rfl
        · refine lv_iconst (v := 1) hx hb dX9_tag_37 (by decide) ?_
          refine lv_goto (tgt := 42) hx hb dX9_tag_38 (by decide) ?_
          refine lv_icmp_ne (tgt := 47) hx hb dX9_tag_42 (by decide) (fun c42 => ?_) (fun c42 => ?_)
          · refine lv_aload_n hx hb dX9_tag_47 rfl (lv_at hl 0 rfl) ?_
            refine mg_17 hx hb hts hown hK hP dX9_tag_48 ?_
            refine lv_iload_n hx hb dX9_tag_51 rfl (lv_at hl 1 rfl) ?_
            refine lv_dup2_11 hx hb dX9_tag_52 rfl rfl ?_
            refine ml_17 (x := (a 17) x.toNatClampNeg) hx hb hK hP x.toNatClampNeg ex (by omega) rfl dX9_tag_53 ?_
            refine lv_iconst (v := 1) hx hb dX9_tag_54 (by decide) ?_
            refine lv_iload_n hx hb dX9_tag_55 rfl (lv_at hl 2 rfl) ?_
            refine lv_ishl hx hb dX9_tag_56 ?_
            refine lv_ixor hx hb dX9_tag_57 ?_
            refine mt_17 (f := a 17) hx hb hK hP hD hS x.toNatClampNeg ex (by omega) rfl dX9_tag_58 (fun H locs hP hD hS => ?_)
            refine lv_iconst (v := 1) hx hb dX9_tag_59 (by decide) ?_
            exact fs_z hx hb hr hlocks hq (1, (c, up v 0 0, nm, up a 17 (upd (a 17) x.toNatClampNeg (((a 17) x.toNatClampNeg) ^^^ (1 <<< (y &&& 31)))))) (by simp [mTag, mT0, c10, c14, c20, c34, c42]) hP hD hS (rfl) dX9_tag_60 rfl
          · refine lv_iconst (v := 0) hx hb dX9_tag_45 (by decide) ?_
            exact fs_z hx hb hr hlocks hq (0, (c, up v 0 0, nm, a)) (by simp [mTag, mT0, c10, c14, c20, c34, c42]) hP hD hS (rfl) dX9_tag_46 rfl
end
section
/-- the OPEN one among n of them whose borrower is p -/
def fOpen (who st : Nat → Int32) (p : Int32) (n : Nat) : Option Nat := fnd (fun i => decide (who i = p) && decide (st i = 0)) n 0
def fCallsOf (cw left : Nat → Int32) (p : Int32) (n : Nat) : Int32 := lp (fun i s => if cw i = p then s + left i else s) n 0 0
def fAnyCall (cw left : Nat → Int32) (p : Int32) (n : Nat) : Bool := (fnd (fun i => decide (cw i = p) && !decide (left i ≤ 0)) n 0).isSome
def fCalled (who st : Nat → Int32) (p : Int32) (n : Nat) : Int32 := lp (fun i s => if who i = p then (if st i = 2 then s + 1 else s) else s) n 0 0
def fBarred (cw left who st : Nat → Int32) (bar p : Int32) (nc n : Nat) : Bool := fAnyCall cw left p nc || !decide (fCalled who st p n < bar)
def fStands (st sur : Nat → Int32) (sn : Nat → Nat) (p : Int32) (n : Nat) : Int32 := lp (fun k s => if st k = 0 then lp (fun i s => if sur (3 * k + i) = p then s + 1 else s) (sn k) 0 s else s) n 0 0
def fChar (who st late : Nat → Int32) (p : Int32) (n : Nat) : Int32 := lp (fun i s => if who i = p then (if st i = 2 then (if st i = 1 then s + (if late i = 0 then 10 else 5) else s) + (-30) else (if st i = 1 then s + (if late i = 0 then 10 else 5) else s)) - 2 * late i else s) n 0 100
def fClamp (x : Int32) : Int32 := if 0 ≤ x then (if x ≤ 200 then x else 200) else 0
def fUnpaid (cw left : Nat → Int32) (p : Int32) (n : Nat) : Int32 := lp (fun i s => if cw i = p then (if left i ≤ 0 then s else s + 1) else s) n 0 0
def fOpens (st : Nat → Int32) (n : Nat) : Int32 := lp (fun i s => if st i = 0 then s + 1 else s) n 0 0
def fTwice (t : Nat → Int32) (i : Nat) : Bool := (fnd (fun k => decide (t k = t i)) i 0).isSome
set_option maxHeartbeats 4000000 in
set_option maxRecDepth 100000 in
theorem c_X9_openOf (l : Launch) (D : va_G) (h : Nat) (q : Nat → Nat) (k : Nat → ClassId) (c : Nat → Nat) (v : Nat → Int32) (nm : Int64) (a : Nat → Nat → Int32) (x : Int32) (hn : c 42 ≤ 100) : Ro l yX9_openOf cX9_openOf 3 (some .int) 0 D (TY k) G0 [.ref h, .int x] (Mw h q k c v nm a) (some (.int (oI (fOpen (a 26) (a 37) x (c 42))))) := by
  refine ro_body (by decide +kernel) (Nat.le_of_ble_eq_true rfl) ?_
  intro p e s m args below meth c_ Q hx hb hml hown hts hK hP hS hG hr hq hlocks ls hl
  replace hl : lv_has ls 3 [(0, .ref h), (1, .int x)] := hl
  change s.vm.findClass RX9 = some m.cls at hown
  have L : ∀ (r i : Nat), i + r = c 42 → oI (fnd (fun i => decide (a 26 i = x) && decide (a 37 i = 0)) r i) = oI (fOpen (a 26) (a 37) x (c 42)) → ∀ (ls : Array Slot), lv_has ls 3 [(0, .ref h), (1, .int x), (2, .int (nI i))] → W p l e (rmd 0 0 0) s m args below meth c_ s.heap [] 0 0 Q (F0 m 2 ls []) := by
    intro r
    induction r with
    | zero =>
      intro i hi he ls hl
      refine lv_iload_n hx hb dX9_openOf_2 rfl (lv_at hl 2 rfl) ?_
      refine lv_aload_n hx hb dX9_openOf_3 rfl (lv_at hl 0 rfl) ?_
      refine mg_42 (x := nI (c 42)) hx hb hts hown hK hP rfl dX9_openOf_4 ?_
      refine lv_icmp_ge (tgt := 37) hx hb dX9_openOf_7 (by decide) (fun c7 => ?_) (fun c7 => absurd (nI_le (by omega) (by omega)) c7)
      refine lv_iconst (v := (-1)) hx hb dX9_openOf_37 (by decide) ?_
      exact ro_i hx hb hr hlocks hq dX9_openOf_38 (by rw [← he]; simp [lp, fnd, oI])
    | succ r ih =>
      intro i hi he ls hl
      refine lv_iload_n hx hb dX9_openOf_2 rfl (lv_at hl 2 rfl) ?_
      refine lv_aload_n hx hb dX9_openOf_3 rfl (lv_at hl 0 rfl) ?_
      refine mg_42 (x := nI (c 42)) hx hb hts hown hK hP rfl dX9_openOf_4 ?_
      refine lv_icmp_ge (tgt := 37) hx hb dX9_openOf_7 (by decide) (fun c7 => absurd c7 (nI_ge (by omega) (by omega))) (fun c7 => ?_)
      refine lv_aload_n hx hb dX9_openOf_10 rfl (lv_at hl 0 rfl) ?_
      refine mg_26 hx hb hts hown hK hP dX9_openOf_11 ?_
      refine lv_iload_n hx hb dX9_openOf_14 rfl (lv_at hl 2 rfl) ?_
      refine ml_26 (x := (a 26) i) hx hb hK hP i rfl (by omega) rfl dX9_openOf_15 ?_
      refine lv_iload_n hx hb dX9_openOf_16 rfl (lv_at hl 1 rfl) ?_
      refine lv_icmp_ne (tgt := 31) hx hb dX9_openOf_17 (by decide) (fun c17 => ?_) (fun c17 => ?_)
      · refine lv_iinc (v := nI (i + 1)) (lv' := [(2, .int (nI (i + 1))), (0, .ref h), (1, .int x)]) hx hb dX9_openOf_31 hl (k := 2) rfl (nI_1 _) (by decide) rfl (fun ls hl => ?_)
        refine lv_goto (tgt := 2) hx hb dX9_openOf_34 (by decide) ?_
        exact ih (i + 1)  (by omega) (by rw [← he]; simp [lp, fnd, c17]) ls (lv_sub hl [1, 2, 0] rfl)
      · refine lv_aload_n hx hb dX9_openOf_20 rfl (lv_at hl 0 rfl) ?_
        refine mg_37 hx hb hts hown hK hP dX9_openOf_21 ?_
        refine lv_iload_n hx hb dX9_openOf_24 rfl (lv_at hl 2 rfl) ?_
        refine ml_37 (x := (a 37) i) hx hb hK hP i rfl (by omega) rfl dX9_openOf_25 ?_
        refine lv_if_ne (tgt := 31) hx hb dX9_openOf_26 (by decide) (fun c26 => ?_) (fun c26 => ?_)
        · refine lv_iinc (v := nI (i + 1)) (lv' := [(2, .int (nI (i + 1))), (0, .ref h), (1, .int x)]) hx hb dX9_openOf_31 hl (k := 2) rfl (nI_1 _) (by decide) rfl (fun ls hl => ?_)
          refine lv_goto (tgt := 2) hx hb dX9_openOf_34 (by decide) ?_
          exact ih (i + 1)  (by omega) (by rw [← he]; simp [lp, fnd, c17, c26]) ls (lv_sub hl [1, 2, 0] rfl)
        · refine lv_iload_n hx hb dX9_openOf_29 rfl (lv_at hl 2 rfl) ?_
          exact ro_i hx hb hr hlocks hq dX9_openOf_30 (by rw [← he]; simp [lp, fnd, oI, c17, c26])
  refine lv_iconst (v := 0) hx hb dX9_openOf_0 (by decide) ?_
  refine lv_istore_n (lv' := [(2, .int 0), (0, .ref h), (1, .int x)]) hx hb dX9_openOf_1 rfl hl (by decide) rfl (fun ls hl => ?_)
  exact L (c 42) 0 (by omega) (rfl) ls (lv_sub hl [1, 2, 0] rfl)
set_option maxHeartbeats 4000000 in
set_option maxRecDepth 100000 in
theorem c_X9_callsOf (l : Launch) (D : va_G) (h : Nat) (q : Nat → Nat) (k : Nat → ClassId) (c : Nat → Nat) (v : Nat → Int32) (nm : Int64) (a : Nat → Nat → Int32) (x : Int32) (hn : c 46 ≤ 300) : Ro l yX9_callsOf cX9_callsOf 4 (some .int) 0 D (TY k) G0 [.ref h, .int x] (Mw h q k c v nm a) (some (.int (fCallsOf (a 43) (a 45) x (c 46)))) := by
  refine ro_body (by decide +kernel) (Nat.le_of_ble_eq_true rfl) ?_
  intro p e s m args below meth c_ Q hx hb hml hown hts hK hP hS hG hr hq hlocks ls hl
  replace hl : lv_has ls 4 [(0, .ref h), (1, .int x)] := hl
  change s.vm.findClass RX9 = some m.cls at hown
  have L : ∀ (r i : Nat) (y : Int32), i + r = c 46 → lp (fun i s => if a 43 i = x then s + a 45 i else s) r i y = fCallsOf (a 43) (a 45) x (c 46) → ∀ (ls : Array Slot), lv_has ls 4 [(0, .ref h), (1, .int x), (2, .int y), (3, .int (nI i))] → W p l e (rmd 0 0 0) s m args below meth c_ s.heap [] 0 0 Q (F0 m 4 ls []) := by
    intro r
    induction r with
    | zero =>
      intro i y hi he ls hl
      refine lv_iload_n hx hb dX9_callsOf_4 rfl (lv_at hl 3 rfl) ?_
      refine lv_aload_n hx hb dX9_callsOf_5 rfl (lv_at hl 0 rfl) ?_
      refine mg_46 (x := nI (c 46)) hx hb hts hown hK hP rfl dX9_callsOf_6 ?_
      refine lv_icmp_ge (tgt := 37) hx hb dX9_callsOf_9 (by decide) (fun c9 => ?_) (fun c9 => absurd (nI_le (by omega) (by omega)) c9)
      refine lv_iload_n hx hb dX9_callsOf_37 rfl (lv_at hl 2 rfl) ?_
      exact ro_i hx hb hr hlocks hq dX9_callsOf_38 (by rw [← he]; simp [lp, fnd, ])
    | succ r ih =>
      intro i y hi he ls hl
      refine lv_iload_n hx hb dX9_callsOf_4 rfl (lv_at hl 3 rfl) ?_
      refine lv_aload_n hx hb dX9_callsOf_5 rfl (lv_at hl 0 rfl) ?_
      refine mg_46 (x := nI (c 46)) hx hb hts hown hK hP rfl dX9_callsOf_6 ?_
      refine lv_icmp_ge (tgt := 37) hx hb dX9_callsOf_9 (by decide) (fun c9 => absurd c9 (nI_ge (by omega) (by omega))) (fun c9 => ?_)
      refine lv_aload_n hx hb dX9_callsOf_12 rfl (lv_at hl 0 rfl) ?_
      refine mg_43 hx hb hts hown hK hP dX9_callsOf_13 ?_
      refine lv_iload_n hx hb dX9_callsOf_16 rfl (lv_at hl 3 rfl) ?_
      refine ml_43 (x := (a 43) i) hx hb hK hP i rfl (by omega) rfl dX9_callsOf_17 ?_
      refine lv_iload_n hx hb dX9_callsOf_18 rfl (lv_at hl 1 rfl) ?_
      refine lv_icmp_ne (tgt := 31) hx hb dX9_callsOf_19 (by decide) (fun c19 => ?_) (fun c19 => ?_)
      · refine lv_iinc (v := nI (i + 1)) (lv' := [(3, .int (nI (i + 1))), (0, .ref h), (1, .int x), (2, .int y)]) hx hb dX9_callsOf_31 hl (k := 3) rfl (nI_1 _) (by decide) rfl (fun ls hl => ?_)
        refine lv_goto (tgt := 4) hx hb dX9_callsOf_34 (by decide) ?_
        exact ih (i + 1) y (by omega) (by rw [← he]; simp [lp, fnd, c19]) ls (lv_sub hl [1, 2, 3, 0] rfl)
      · refine lv_iload_n hx hb dX9_callsOf_22 rfl (lv_at hl 2 rfl) ?_
        refine lv_aload_n hx hb dX9_callsOf_23 rfl (lv_at hl 0 rfl) ?_
        refine mg_45 hx hb hts hown hK hP dX9_callsOf_24 ?_
        refine lv_iload_n hx hb dX9_callsOf_27 rfl (lv_at hl 3 rfl) ?_
        refine ml_45 (x := (a 45) i) hx hb hK hP i rfl (by omega) rfl dX9_callsOf_28 ?_
        refine lv_iadd hx hb dX9_callsOf_29 ?_
        refine lv_istore_n (lv' := [(2, .int (y + ((a 45) i))), (0, .ref h), (1, .int x), (3, .int (nI i))]) hx hb dX9_callsOf_30 rfl hl (by decide) rfl (fun ls hl => ?_)
        refine lv_iinc (v := nI (i + 1)) (lv' := [(3, .int (nI (i + 1))), (2, .int (y + ((a 45) i))), (0, .ref h), (1, .int x)]) hx hb dX9_callsOf_31 hl (k := 3) rfl (nI_1 _) (by decide) rfl (fun ls hl => ?_)
        refine lv_goto (tgt := 4) hx hb dX9_callsOf_34 (by decide) ?_
        exact ih (i + 1) (y + ((a 45) i)) (by omega) (by rw [← he]; simp [lp, fnd, c19]) ls (lv_sub hl [2, 3, 1, 0] rfl)
  refine lv_iconst (v := 0) hx hb dX9_callsOf_0 (by decide) ?_
  refine lv_istore_n (lv' := [(2, .int 0), (0, .ref h), (1, .int x)]) hx hb dX9_callsOf_1 rfl hl (by decide) rfl (fun ls hl => ?_)
  refine lv_iconst (v := 0) hx hb dX9_callsOf_2 (by decide) ?_
  refine lv_istore_n (lv' := [(3, .int 0), (2, .int 0), (0, .ref h), (1, .int x)]) hx hb dX9_callsOf_3 rfl hl (by decide) rfl (fun ls hl => ?_)
  exact L (c 46) 0 0 (by omega) (rfl) ls (lv_sub hl [2, 3, 1, 0] rfl)
set_option maxHeartbeats 4000000 in
set_option maxRecDepth 100000 in
theorem c_X9_isBarred (l : Launch) (D : va_G) (h : Nat) (q : Nat → Nat) (k : Nat → ClassId) (c : Nat → Nat) (v : Nat → Int32) (nm : Int64) (a : Nat → Nat → Int32) (x : Int32) (hc : c 46 ≤ 300) (hn : c 42 ≤ 100) : Ro l yX9_isBarred cX9_isBarred 4 (some .boolean) 0 D (TY k) G0 [.ref h, .int x] (Mw h q k c v nm a) (some (.int (bI (fBarred (a 43) (a 45) (a 26) (a 37) (a 3 8) x (c 46) (c 42))))) := by
  refine ro_body (by decide +kernel) (Nat.le_of_ble_eq_true rfl) ?_
  intro p e s m args below meth c_ Q hx hb hml hown hts hK hP hS hG hr hq hlocks ls hl
  replace hl : lv_has ls 4 [(0, .ref h), (1, .int x)] := hl
  change s.vm.findClass RX9 = some m.cls at hown
  have L2 : ∀ (r i : Nat) (y : Int32), i + r = c 42 → bI (!decide (lp (fun i s => if a 26 i = x then (if a 37 i = 2 then s + 1 else s) else s) r i y < a 3 8)) = bI (fBarred (a 43) (a 45) (a 26) (a 37) (a 3 8) x (c 46) (c 42)) → ∀ (ls : Array Slot), lv_has ls 4 [(0, .ref h), (1, .int x), (2, .int y), (3, .int (nI i))] → W p l e (rmd 0 0 0) s m args below meth c_ s.heap [] 0 0 Q (F0 m 41 ls []) := by
    intro r
    induction r with
    | zero =>
      intro i y hi he ls hl
      refine lv_iload_n hx hb dX9_isBarred_41 rfl (lv_at hl 3 rfl) ?_
      refine lv_aload_n hx hb dX9_isBarred_42 rfl (lv_at hl 0 rfl) ?_
      refine mg_42 (x := nI (c 42)) hx hb hts hown hK hP rfl dX9_isBarred_43 ?_
      refine lv_icmp_ge (tgt := 78) hx hb dX9_isBarred_46 (by decide) (fun c46 => ?_) (fun c46 => absurd (nI_le (by omega) (by omega)) c46)
      refine lv_iload_n hx hb dX9_isBarred_78 rfl (lv_at hl 2 rfl) ?_
      refine lv_aload_n hx hb dX9_isBarred_79 rfl (lv_at hl 0 rfl) ?_
      refine mg_3 hx hb hts hown hK hP dX9_isBarred_80 ?_
      refine lv_bipush (v := 8) hx hb dX9_isBarred_83 (by decide) ?_
      refine ml_3 (x := (a 3) 8) hx hb hK hP 8 rfl (by omega) rfl dX9_isBarred_85 ?_
      refine lv_icmp_lt (tgt := 93) hx hb dX9_isBarred_86 (by decide) (fun c86 => ?_) (fun c86 => ?_)
      · refine lv_iconst (v := 0) hx hb dX9_isBarred_93 (by decide) ?_
        exact ro_z hx hb hr hlocks hq (rfl) dX9_isBarred_94 (by rw [← he]; simp [lp, fnd, bI, c86])
      · refine lv_iconst (v := 1) hx hb dX9_isBarred_89 (by decide) ?_
        refine lv_goto (tgt := 94) hx hb dX9_isBarred_90 (by decide) ?_
        exact ro_z hx hb hr hlocks hq (rfl) dX9_isBarred_94 (by rw [← he]; simp [lp, fnd, bI, c86])
    | succ r ih =>
      intro i y hi he ls hl
      refine lv_iload_n hx hb dX9_isBarred_41 rfl (lv_at hl 3 rfl) ?_
      refine lv_aload_n hx hb dX9_isBarred_42 rfl (lv_at hl 0 rfl) ?_
      refine mg_42 (x := nI (c 42)) hx hb hts hown hK hP rfl dX9_isBarred_43 ?_
      refine lv_icmp_ge (tgt := 78) hx hb dX9_isBarred_46 (by decide) (fun c46 => absurd c46 (nI_ge (by omega) (by omega))) (fun c46 => ?_)
      refine lv_aload_n hx hb dX9_isBarred_49 rfl (lv_at hl 0 rfl) ?_
      refine mg_26 hx hb hts hown hK hP dX9_isBarred_50 ?_
      refine lv_iload_n hx hb dX9_isBarred_53 rfl (lv_at hl 3 rfl) ?_
      refine ml_26 (x := (a 26) i) hx hb hK hP i rfl (by omega) rfl dX9_isBarred_54 ?_
      refine lv_iload_n hx hb dX9_isBarred_55 rfl (lv_at hl 1 rfl) ?_
      refine lv_icmp_ne (tgt := 72) hx hb dX9_isBarred_56 (by decide) (fun c56 => ?_) (fun c56 => ?_)
      · refine lv_iinc (v := nI (i + 1)) (lv' := [(3, .int (nI (i + 1))), (0, .ref h), (1, .int x), (2, .int y)]) hx hb dX9_isBarred_72 hl (k := 3) rfl (nI_1 _) (by decide) rfl (fun ls hl => ?_)
        refine lv_goto (tgt := 41) hx hb dX9_isBarred_75 (by decide) ?_
        exact ih (i + 1) y (by omega) (by rw [← he]; simp [lp, fnd, c56]) ls (lv_sub hl [1, 2, 3, 0] rfl)
      · refine lv_aload_n hx hb dX9_isBarred_59 rfl (lv_at hl 0 rfl) ?_
        refine mg_37 hx hb hts hown hK hP dX9_isBarred_60 ?_
        refine lv_iload_n hx hb dX9_isBarred_63 rfl (lv_at hl 3 rfl) ?_
        refine ml_37 (x := (a 37) i) hx hb hK hP i rfl (by omega) rfl dX9_isBarred_64 ?_
        refine lv_iconst (v := 2) hx hb dX9_isBarred_65 (by decide) ?_
        refine lv_icmp_ne (tgt := 72) hx hb dX9_isBarred_66 (by decide) (fun c66 => ?_) (fun c66 => ?_)
        · refine lv_iinc (v := nI (i + 1)) (lv' := [(3, .int (nI (i + 1))), (0, .ref h), (1, .int x), (2, .int y)]) hx hb dX9_isBarred_72 hl (k := 3) rfl (nI_1 _) (by decide) rfl (fun ls hl => ?_)
          refine lv_goto (tgt := 41) hx hb dX9_isBarred_75 (by decide) ?_
          exact ih (i + 1) y (by omega) (by rw [← he]; simp [lp, fnd, c56, c66]) ls (lv_sub hl [1, 2, 3, 0] rfl)
        · refine lv_iinc (v := y + 1) (lv' := [(2, .int (y + 1)), (0, .ref h), (1, .int x), (3, .int (nI i))]) hx hb dX9_isBarred_69 hl (k := 2) rfl (rfl) (by decide) rfl (fun ls hl => ?_)
          refine lv_iinc (v := nI (i + 1)) (lv' := [(3, .int (nI (i + 1))), (2, .int (y + 1)), (0, .ref h), (1, .int x)]) hx hb dX9_isBarred_72 hl (k := 3) rfl (nI_1 _) (by decide) rfl (fun ls hl => ?_)
          refine lv_goto (tgt := 41) hx hb dX9_isBarred_75 (by decide) ?_
          exact ih (i + 1) (y + 1) (by omega) (by rw [← he]; simp [lp, fnd, c56, c66]) ls (lv_sub hl [2, 3, 1, 0] rfl)
  have L1 : ∀ (r i : Nat), i + r = c 46 → bI ((fnd (fun i => decide (a 43 i = x) && !decide (a 45 i ≤ 0)) r i).isSome || !decide (fCalled (a 26) (a 37) x (c 42) < a 3 8)) = bI (fBarred (a 43) (a 45) (a 26) (a 37) (a 3 8) x (c 46) (c 42)) → ∀ (ls : Array Slot), lv_has ls 4 [(0, .ref h), (1, .int x), (2, .int (nI i))] → W p l e (rmd 0 0 0) s m args below meth c_ s.heap [] 0 0 Q (F0 m 2 ls []) := by
    intro r
    induction r with
    | zero =>
      intro i hi he ls hl
      refine lv_iload_n hx hb dX9_isBarred_2 rfl (lv_at hl 2 rfl) ?_
      refine lv_aload_n hx hb dX9_isBarred_3 rfl (lv_at hl 0 rfl) ?_
      refine mg_46 (x := nI (c 46)) hx hb hts hown hK hP rfl dX9_isBarred_4 ?_
      refine lv_icmp_ge (tgt := 37) hx hb dX9_isBarred_7 (by decide) (fun c7 => ?_) (fun c7 => absurd (nI_le (by omega) (by omega)) c7)
      refine lv_iconst (v := 0) hx hb dX9_isBarred_37 (by decide) ?_
      refine lv_istore_n (lv' := [(2, .int 0), (0, .ref h), (1, .int x)]) hx hb dX9_isBarred_38 rfl hl (by decide) rfl (fun ls hl => ?_)
      refine lv_iconst (v := 0) hx hb dX9_isBarred_39 (by decide) ?_
      refine lv_istore_n (lv' := [(3, .int 0), (2, .int 0), (0, .ref h), (1, .int x)]) hx hb dX9_isBarred_40 rfl hl (by decide) rfl (fun ls hl => ?_)
      exact L2 (c 42) 0 0 (by omega) (by rw [← he]; rfl) ls (lv_sub hl [2, 3, 1, 0] rfl)
    | succ r ih =>
      intro i hi he ls hl
      refine lv_iload_n hx hb dX9_isBarred_2 rfl (lv_at hl 2 rfl) ?_
      refine lv_aload_n hx hb dX9_isBarred_3 rfl (lv_at hl 0 rfl) ?_
      refine mg_46 (x := nI (c 46)) hx hb hts hown hK hP rfl dX9_isBarred_4 ?_
      refine lv_icmp_ge (tgt := 37) hx hb dX9_isBarred_7 (by decide) (fun c7 => absurd c7 (nI_ge (by omega) (by omega))) (fun c7 => ?_)
      refine lv_aload_n hx hb dX9_isBarred_10 rfl (lv_at hl 0 rfl) ?_
      refine mg_43 hx hb hts hown hK hP dX9_isBarred_11 ?_
      refine lv_iload_n hx hb dX9_isBarred_14 rfl (lv_at hl 2 rfl) ?_
      refine ml_43 (x := (a 43) i) hx hb hK hP i rfl (by omega) rfl dX9_isBarred_15 ?_
      refine lv_iload_n hx hb dX9_isBarred_16 rfl (lv_at hl 1 rfl) ?_
      refine lv_icmp_ne (tgt := 31) hx hb dX9_isBarred_17 (by decide) (fun c17 => ?_) (fun c17 => ?_)
      · refine lv_iinc (v := nI (i + 1)) (lv' := [(2, .int (nI (i + 1))), (0, .ref h), (1, .int x)]) hx hb dX9_isBarred_31 hl (k := 2) rfl (nI_1 _) (by decide) rfl (fun ls hl => ?_)
        refine lv_goto (tgt := 2) hx hb dX9_isBarred_34 (by decide) ?_
        exact ih (i + 1)  (by omega) (by rw [← he]; simp [lp, fnd, c17]) ls (lv_sub hl [1, 2, 0] rfl)
      · refine lv_aload_n hx hb dX9_isBarred_20 rfl (lv_at hl 0 rfl) ?_
        refine mg_45 hx hb hts hown hK hP dX9_isBarred_21 ?_
        refine lv_iload_n hx hb dX9_isBarred_24 rfl (lv_at hl 2 rfl) ?_
        refine ml_45 (x := (a 45) i) hx hb hK hP i rfl (by omega) rfl dX9_isBarred_25 ?_
        refine lv_if_le (tgt := 31) hx hb dX9_isBarred_26 (by decide) (fun c26 => ?_) (fun c26 => ?_)
        · refine lv_iinc (v := nI (i + 1)) (lv' := [(2, .int (nI (i + 1))), (0, .ref h), (1, .int x)]) hx hb dX9_isBarred_31 hl (k := 2) rfl (nI_1 _) (by decide) rfl (fun ls hl => ?_)
          refine lv_goto (tgt := 2) hx hb dX9_isBarred_34 (by decide) ?_
          exact ih (i + 1)  (by omega) (by rw [← he]; simp [lp, fnd, c17, c26]) ls (lv_sub hl [1, 2, 0] rfl)
        · refine lv_iconst (v := 1) hx hb dX9_isBarred_29 (by decide) ?_
          exact ro_z hx hb hr hlocks hq (rfl) dX9_isBarred_30 (by rw [← he]; simp [lp, fnd, bI, c17, c26])
  refine lv_iconst (v := 0) hx hb dX9_isBarred_0 (by decide) ?_
  refine lv_istore_n (lv' := [(2, .int 0), (0, .ref h), (1, .int x)]) hx hb dX9_isBarred_1 rfl hl (by decide) rfl (fun ls hl => ?_)
  exact L1 (c 46) 0 (by omega) (rfl) ls (lv_sub hl [1, 2, 0] rfl)
set_option maxHeartbeats 4000000 in
set_option maxRecDepth 100000 in
theorem c_X9_standsFor (l : Launch) (D : va_G) (h : Nat) (q : Nat → Nat) (k : Nat → ClassId) (c : Nat → Nat) (v : Nat → Int32) (nm : Int64) (a : Nat → Nat → Int32) (x : Int32) (hn : c 42 ≤ 100) (sn : Nat → Nat) (hs : ∀ k, k < c 42 → a 39 k = nI (sn k) ∧ sn k ≤ 3) : Ro l yX9_standsFor cX9_standsFor 5 (some .int) 0 D (TY k) G0 [.ref h, .int x] (Mw h q k c v nm a) (some (.int (fStands (a 37) (a 40) sn x (c 42)))) := by
  refine ro_body (by decide +kernel) (Nat.le_of_ble_eq_true rfl) ?_
  intro p e s m args below meth c_ Q hx hb hml hown hts hK hP hS hG hr hq hlocks ls hl
  replace hl : lv_has ls 5 [(0, .ref h), (1, .int x)] := hl
  change s.vm.findClass RX9 = some m.cls at hown
  have L : ∀ (r i : Nat) (y : Int32), i + r = c 42 → lp (fun k s => if a 37 k = 0 then lp (fun i s => if a 40 (3 * k + i) = x then s + 1 else s) (sn k) 0 s else s) r i y = fStands (a 37) (a 40) sn x (c 42) → ∀ (ls : Array Slot), lv_has ls 5 [(0, .ref h), (1, .int x), (2, .int y), (3, .int (nI i))] → W p l e (rmd 0 0 0) s m args below meth c_ s.heap [] 0 0 Q (F0 m 4 ls []) := by
    intro r
    induction r with
    | zero =>
      intro i y hi he ls hl
      refine lv_iload_n hx hb dX9_standsFor_4 rfl (lv_at hl 3 rfl) ?_
      refine lv_aload_n hx hb dX9_standsFor_5 rfl (lv_at hl 0 rfl) ?_
      refine mg_42 (x := nI (c 42)) hx hb hts hown hK hP rfl dX9_standsFor_6 ?_
      refine lv_icmp_ge (tgt := 68) hx hb dX9_standsFor_9 (by decide) (fun c9 => ?_) (fun c9 => absurd (nI_le (by omega) (by omega)) c9)
      refine lv_iload_n hx hb dX9_standsFor_68 rfl (lv_at hl 2 rfl) ?_
      exact ro_i hx hb hr hlocks hq dX9_standsFor_69 (by rw [← he]; simp [lp, fnd, ])
    | succ r ih =>
      intro i y hi he ls hl
      refine lv_iload_n hx hb dX9_standsFor_4 rfl (lv_at hl 3 rfl) ?_
      refine lv_aload_n hx hb dX9_standsFor_5 rfl (lv_at hl 0 rfl) ?_
      refine mg_42 (x := nI (c 42)) hx hb hts hown hK hP rfl dX9_standsFor_6 ?_
      refine lv_icmp_ge (tgt := 68) hx hb dX9_standsFor_9 (by decide) (fun c9 => absurd c9 (nI_ge (by omega) (by omega))) (fun c9 => ?_)
      refine lv_aload_n hx hb dX9_standsFor_12 rfl (lv_at hl 0 rfl) ?_
      refine mg_37 hx hb hts hown hK hP dX9_standsFor_13 ?_
      refine lv_iload_n hx hb dX9_standsFor_16 rfl (lv_at hl 3 rfl) ?_
      refine ml_37 (x := (a 37) i) hx hb hK hP i rfl (by omega) rfl dX9_standsFor_17 ?_
      refine lv_if_eq (tgt := 24) hx hb dX9_standsFor_18 (by decide) (fun c18 => ?_) (fun c18 => ?_)
      · have hsk := (hs i (by omega)).2
        have L2 : ∀ (r2 j : Nat) (y2 : Int32), j + r2 = sn i → lp (fun k s => if a 37 k = 0 then lp (fun i s => if a 40 (3 * k + i) = x then s + 1 else s) (sn k) 0 s else s) r (i + 1) (lp (fun t s => if a 40 (3 * i + t) = x then s + 1 else s) r2 j y2) = fStands (a 37) (a 40) sn x (c 42) → ∀ (ls : Array Slot), lv_has ls 5 [(0, .ref h), (1, .int x), (2, .int y2), (3, .int (nI i)), (4, .int (nI j))] → W p l e (rmd 0 0 0) s m args below meth c_ s.heap [] 0 0 Q (F0 m 27 ls []) := by
          intro r2
          induction r2 with
          | zero =>
            intro j y2 hi2 he2 ls hl
            refine lv_iload hx hb dX9_standsFor_27 (lv_at hl 4 rfl) ?_
            refine lv_aload_n hx hb dX9_standsFor_29 rfl (lv_at hl 0 rfl) ?_
            refine mg_39 hx hb hts hown hK hP dX9_standsFor_30 ?_
            refine lv_iload_n hx hb dX9_standsFor_33 rfl (lv_at hl 3 rfl) ?_
            refine ml_39 (x := (a 39) i) hx hb hK hP i rfl (by omega) rfl dX9_standsFor_34 ?_
            refine rw_topi (y := nI (sn i)) ((hs i (by omega)).1) ?_
            refine lv_icmp_ge (tgt := 62) hx hb dX9_standsFor_35 (by decide) (fun c35 => ?_) (fun c35 => absurd (nI_le (by omega) (by omega)) c35)
            refine lv_iinc (v := nI (i + 1)) (lv' := [(3, .int (nI (i + 1))), (0, .ref h), (1, .int x), (2, .int y2), (4, .int (nI j))]) hx hb dX9_standsFor_62 hl (k := 3) rfl (nI_1 _) (by decide) rfl (fun ls hl => ?_)
            refine lv_goto (tgt := 4) hx hb dX9_standsFor_65 (by decide) ?_
            exact ih (i + 1) y2 (by omega) (by rw [← he2]; simp [lp]) ls (lv_sub hl [1, 2, 3, 0] rfl)
          | succ r2 ih2 =>
            intro j y2 hi2 he2 ls hl
            refine lv_iload hx hb dX9_standsFor_27 (lv_at hl 4 rfl) ?_
            refine lv_aload_n hx hb dX9_standsFor_29 rfl (lv_at hl 0 rfl) ?_
            refine mg_39 hx hb hts hown hK hP dX9_standsFor_30 ?_
            refine lv_iload_n hx hb dX9_standsFor_33 rfl (lv_at hl 3 rfl) ?_
            refine ml_39 (x := (a 39) i) hx hb hK hP i rfl (by omega) rfl dX9_standsFor_34 ?_
            refine rw_topi (y := nI (sn i)) ((hs i (by omega)).1) ?_
            refine lv_icmp_ge (tgt := 62) hx hb dX9_standsFor_35 (by decide) (fun c35 => absurd c35 (nI_ge (by omega) (by omega))) (fun c35 => ?_)
            refine lv_aload_n hx hb dX9_standsFor_38 rfl (lv_at hl 0 rfl) ?_
            refine mg_40 hx hb hts hown hK hP dX9_standsFor_39 ?_
            refine lv_iconst (v := 3) hx hb dX9_standsFor_42 (by decide) ?_
            refine lv_iload_n hx hb dX9_standsFor_43 rfl (lv_at hl 3 rfl) ?_
            refine lv_imul hx hb dX9_standsFor_44 ?_
            refine rw_topi (y := nI (3 * i)) (pk_mul _ _) ?_
            refine lv_iload hx hb dX9_standsFor_45 (lv_at hl 4 rfl) ?_
            refine lv_iadd hx hb dX9_standsFor_47 ?_
            refine rw_topi (y := nI ((3 * i) + j)) (nI_add _ _) ?_
            refine ml_40 (x := (a 40) ((3 * i) + j)) hx hb hK hP ((3 * i) + j) rfl (by omega) rfl dX9_standsFor_48 ?_
            refine lv_iload_n hx hb dX9_standsFor_49 rfl (lv_at hl 1 rfl) ?_
            refine lv_icmp_ne (tgt := 56) hx hb dX9_standsFor_50 (by decide) (fun c50 => ?_) (fun c50 => ?_)
            · refine lv_iinc (v := nI (j + 1)) (lv' := [(4, .int (nI (j + 1))), (0, .ref h), (1, .int x), (2, .int y2), (3, .int (nI i))]) hx hb dX9_standsFor_56 hl (k := 4) rfl (nI_1 _) (by decide) rfl (fun ls hl => ?_)
              refine lv_goto (tgt := 27) hx hb dX9_standsFor_59 (by decide) ?_
              exact ih2 (j + 1) y2 (by omega) (by rw [← he2]; simp [lp, c50]) ls (lv_sub hl [1, 2, 3, 4, 0] rfl)
            · refine lv_iinc (v := y2 + 1) (lv' := [(2, .int (y2 + 1)), (0, .ref h), (1, .int x), (3, .int (nI i)), (4, .int (nI j))]) hx hb dX9_standsFor_53 hl (k := 2) rfl (rfl) (by decide) rfl (fun ls hl => ?_)
              refine lv_iinc (v := nI (j + 1)) (lv' := [(4, .int (nI (j + 1))), (2, .int (y2 + 1)), (0, .ref h), (1, .int x), (3, .int (nI i))]) hx hb dX9_standsFor_56 hl (k := 4) rfl (nI_1 _) (by decide) rfl (fun ls hl => ?_)
              refine lv_goto (tgt := 27) hx hb dX9_standsFor_59 (by decide) ?_
              exact ih2 (j + 1) (y2 + 1) (by omega) (by rw [← he2]; simp [lp, c50]) ls (lv_sub hl [2, 3, 1, 4, 0] rfl)
        refine lv_iconst (v := 0) hx hb dX9_standsFor_24 (by decide) ?_
        refine lv_istore (lv' := [(4, .int 0), (0, .ref h), (1, .int x), (2, .int y), (3, .int (nI i))]) hx hb dX9_standsFor_25 hl (by decide) rfl (fun ls hl => ?_)
        exact L2 (sn i) 0 y (by omega) (by rw [← he]; simp [lp, c18]) ls (lv_sub hl [1, 2, 3, 4, 0] rfl)
      · refine lv_goto (tgt := 62) hx hb dX9_standsFor_21 (by decide) ?_
        refine lv_iinc (v := nI (i + 1)) (lv' := [(3, .int (nI (i + 1))), (0, .ref h), (1, .int x), (2, .int y)]) hx hb dX9_standsFor_62 hl (k := 3) rfl (nI_1 _) (by decide) rfl (fun ls hl => ?_)
        refine lv_goto (tgt := 4) hx hb dX9_standsFor_65 (by decide) ?_
        exact ih (i + 1) y (by omega) (by rw [← he]; simp [lp, fnd, c18]) ls (lv_sub hl [1, 2, 3, 0] rfl)
  refine lv_iconst (v := 0) hx hb dX9_standsFor_0 (by decide) ?_
  refine lv_istore_n (lv' := [(2, .int 0), (0, .ref h), (1, .int x)]) hx hb dX9_standsFor_1 rfl hl (by decide) rfl (fun ls hl => ?_)
  refine lv_iconst (v := 0) hx hb dX9_standsFor_2 (by decide) ?_
  refine lv_istore_n (lv' := [(3, .int 0), (2, .int 0), (0, .ref h), (1, .int x)]) hx hb dX9_standsFor_3 rfl hl (by decide) rfl (fun ls hl => ?_)
  exact L (c 42) 0 0 (by omega) (rfl) ls (lv_sub hl [2, 3, 1, 0] rfl)
set_option maxHeartbeats 4000000 in
set_option maxRecDepth 100000 in
theorem c_X9_character (l : Launch) (D : va_G) (h : Nat) (q : Nat → Nat) (k : Nat → ClassId) (c : Nat → Nat) (v : Nat → Int32) (nm : Int64) (a : Nat → Nat → Int32) (x : Int32) (hn : c 42 ≤ 100) : Ro l yX9_character cX9_character 4 (some .int) 0 D (TY k) G0 [.ref h, .int x] (Mw h q k c v nm a) (some (.int (fClamp (fChar (a 26) (a 37) (a 35) x (c 42))))) := by
  refine ro_body (by decide +kernel) (Nat.le_of_ble_eq_true rfl) ?_
  intro p e s m args below meth c_ Q hx hb hml hown hts hK hP hS hG hr hq hlocks ls hl
  replace hl : lv_has ls 4 [(0, .ref h), (1, .int x)] := hl
  change s.vm.findClass RX9 = some m.cls at hown
  have L : ∀ (r i : Nat) (y : Int32), i + r = c 42 → fClamp (lp (fun i s => if a 26 i = x then (if a 37 i = 2 then (if a 37 i = 1 then s + (if a 35 i = 0 then 10 else 5) else s) + (-30) else (if a 37 i = 1 then s + (if a 35 i = 0 then 10 else 5) else s)) - 2 * a 35 i else s) r i y) = fClamp (fChar (a 26) (a 37) (a 35) x (c 42)) → ∀ (ls : Array Slot), lv_has ls 4 [(0, .ref h), (1, .int x), (2, .int y), (3, .int (nI i))] → W p l e (rmd 0 0 0) s m args below meth c_ s.heap [] 0 0 Q (F0 m 5 ls []) := by
    intro r
    induction r with
    | zero =>
      intro i y hi he ls hl
      refine lv_iload_n hx hb dX9_character_5 rfl (lv_at hl 3 rfl) ?_
      refine lv_aload_n hx hb dX9_character_6 rfl (lv_at hl 0 rfl) ?_
      refine mg_42 (x := nI (c 42)) hx hb hts hown hK hP rfl dX9_character_7 ?_
      refine lv_icmp_ge (tgt := 84) hx hb dX9_character_10 (by decide) (fun c10 => ?_) (fun c10 => absurd (nI_le (by omega) (by omega)) c10)
      refine lv_iload_n hx hb dX9_character_84 rfl (lv_at hl 2 rfl) ?_
      refine lv_if_ge (tgt := 92) hx hb dX9_character_85 (by decide) (fun c85 => ?_) (fun c85 => ?_)
      · refine lv_iload_n hx hb dX9_character_92 rfl (lv_at hl 2 rfl) ?_
        refine lv_sipush (v := 200) hx hb dX9_character_93 (by decide) ?_
        refine lv_icmp_le (tgt := 105) hx hb dX9_character_96 (by decide) (fun c96 => ?_) (fun c96 => ?_)
        · refine lv_iload_n hx hb dX9_character_105 rfl (lv_at hl 2 rfl) ?_
          exact ro_i hx hb hr hlocks hq dX9_character_106 (by rw [← he]; show _ = some (Value.int (fClamp y)); unfold fClamp; rw [if_pos c85, if_pos c96])
        · refine lv_sipush (v := 200) hx hb dX9_character_99 (by decide) ?_
          refine lv_goto (tgt := 106) hx hb dX9_character_102 (by decide) ?_
          exact ro_i hx hb hr hlocks hq dX9_character_106 (by rw [← he]; show _ = some (Value.int (fClamp y)); unfold fClamp; rw [if_pos c85, if_neg c96])
      · refine lv_iconst (v := 0) hx hb dX9_character_88 (by decide) ?_
        refine lv_goto (tgt := 106) hx hb dX9_character_89 (by decide) ?_
        exact ro_i hx hb hr hlocks hq dX9_character_106 (by rw [← he]; show _ = some (Value.int (fClamp y)); unfold fClamp; rw [if_neg c85])
    | succ r ih =>
      intro i y hi he ls hl
      refine lv_iload_n hx hb dX9_character_5 rfl (lv_at hl 3 rfl) ?_
      refine lv_aload_n hx hb dX9_character_6 rfl (lv_at hl 0 rfl) ?_
      refine mg_42 (x := nI (c 42)) hx hb hts hown hK hP rfl dX9_character_7 ?_
      refine lv_icmp_ge (tgt := 84) hx hb dX9_character_10 (by decide) (fun c10 => absurd c10 (nI_ge (by omega) (by omega))) (fun c10 => ?_)
      refine lv_aload_n hx hb dX9_character_13 rfl (lv_at hl 0 rfl) ?_
      refine mg_26 hx hb hts hown hK hP dX9_character_14 ?_
      refine lv_iload_n hx hb dX9_character_17 rfl (lv_at hl 3 rfl) ?_
      refine ml_26 (x := (a 26) i) hx hb hK hP i rfl (by omega) rfl dX9_character_18 ?_
      refine lv_iload_n hx hb dX9_character_19 rfl (lv_at hl 1 rfl) ?_
      refine lv_icmp_eq (tgt := 26) hx hb dX9_character_20 (by decide) (fun c20 => ?_) (fun c20 => ?_)
      · refine lv_aload_n hx hb dX9_character_26 rfl (lv_at hl 0 rfl) ?_
        refine mg_37 hx hb hts hown hK hP dX9_character_27 ?_
        refine lv_iload_n hx hb dX9_character_30 rfl (lv_at hl 3 rfl) ?_
        refine ml_37 (x := (a 37) i) hx hb hK hP i rfl (by omega) rfl dX9_character_31 ?_
        refine lv_iconst (v := 1) hx hb dX9_character_32 (by decide) ?_
        refine lv_icmp_ne (tgt := 54) hx hb dX9_character_33 (by decide) (fun c33 => ?_) (fun c33 => ?_)
        · refine lv_aload_n hx hb dX9_character_54 rfl (lv_at hl 0 rfl) ?_
          refine mg_37 hx hb hts hown hK hP dX9_character_55 ?_
          refine lv_iload_n hx hb dX9_character_58 rfl (lv_at hl 3 rfl) ?_
          refine ml_37 (x := (a 37) i) hx hb hK hP i rfl (by omega) rfl dX9_character_59 ?_
          refine lv_iconst (v := 2) hx hb dX9_character_60 (by decide) ?_
          refine lv_icmp_ne (tgt := 67) hx hb dX9_character_61 (by decide) (fun c61 => ?_) (fun c61 => ?_)
          · refine lv_iload_n hx hb dX9_character_67 rfl (lv_at hl 2 rfl) ?_
            refine lv_iconst (v := 2) hx hb dX9_character_68 (by decide) ?_
            refine lv_aload_n hx hb dX9_character_69 rfl (lv_at hl 0 rfl) ?_
            refine mg_35 hx hb hts hown hK hP dX9_character_70 ?_
            refine lv_iload_n hx hb dX9_character_73 rfl (lv_at hl 3 rfl) ?_
            refine ml_35 (x := (a 35) i) hx hb hK hP i rfl (by omega) rfl dX9_character_74 ?_
            refine lv_imul hx hb dX9_character_75 ?_
            refine lv_isub hx hb dX9_character_76 ?_
            refine lv_istore_n (lv' := [(2, .int (y - (2 * ((a 35) i)))), (0, .ref h), (1, .int x), (3, .int (nI i))]) hx hb dX9_character_77 rfl hl (by decide) rfl (fun ls hl => ?_)
            refine lv_iinc (v := nI (i + 1)) (lv' := [(3, .int (nI (i + 1))), (2, .int (y - (2 * ((a 35) i)))), (0, .ref h), (1, .int x)]) hx hb dX9_character_78 hl (k := 3) rfl (nI_1 _) (by decide) rfl (fun ls hl => ?_)
            refine lv_goto (tgt := 5) hx hb dX9_character_81 (by decide) ?_
            exact ih (i + 1) (y - (2 * ((a 35) i))) (by omega) (by rw [← he]; simp only [lp, if_pos c20, if_neg c33, if_neg c61]) ls (lv_sub hl [2, 3, 1, 0] rfl)
          · refine lv_iinc (v := y + (-30)) (lv' := [(2, .int (y + (-30))), (0, .ref h), (1, .int x), (3, .int (nI i))]) hx hb dX9_character_64 hl (k := 2) rfl (rfl) (by decide) rfl (fun ls hl => ?_)
            refine lv_iload_n hx hb dX9_character_67 rfl (lv_at hl 0 rfl) ?_
            refine lv_iconst (v := 2) hx hb dX9_character_68 (by decide) ?_
            refine lv_aload_n hx hb dX9_character_69 rfl (lv_at hl 1 rfl) ?_
            refine mg_35 hx hb hts hown hK hP dX9_character_70 ?_
            refine lv_iload_n hx hb dX9_character_73 rfl (lv_at hl 3 rfl) ?_
            refine ml_35 (x := (a 35) i) hx hb hK hP i rfl (by omega) rfl dX9_character_74 ?_
            refine lv_imul hx hb dX9_character_75 ?_
            refine lv_isub hx hb dX9_character_76 ?_
            refine lv_istore_n (lv' := [(2, .int ((y + (-30)) - (2 * ((a 35) i)))), (0, .ref h), (1, .int x), (3, .int (nI i))]) hx hb dX9_character_77 rfl hl (by decide) rfl (fun ls hl => ?_)
            refine lv_iinc (v := nI (i + 1)) (lv' := [(3, .int (nI (i + 1))), (2, .int ((y + (-30)) - (2 * ((a 35) i)))), (0, .ref h), (1, .int x)]) hx hb dX9_character_78 hl (k := 3) rfl (nI_1 _) (by decide) rfl (fun ls hl => ?_)
            refine lv_goto (tgt := 5) hx hb dX9_character_81 (by decide) ?_
            exact ih (i + 1) ((y + (-30)) - (2 * ((a 35) i))) (by omega) (by rw [← he]; simp only [lp, if_pos c20, if_neg c33, if_pos c61]) ls (lv_sub hl [2, 3, 1, 0] rfl)
        · refine lv_iload_n hx hb dX9_character_36 rfl (lv_at hl 2 rfl) ?_
          refine lv_aload_n hx hb dX9_character_37 rfl (lv_at hl 0 rfl) ?_
          refine mg_35 hx hb hts hown hK hP dX9_character_38 ?_
          refine lv_iload_n hx hb dX9_character_41 rfl (lv_at hl 3 rfl) ?_
          refine ml_35 (x := (a 35) i) hx hb hK hP i rfl (by omega) rfl dX9_character_42 ?_
          refine lv_if_ne (tgt := 51) hx hb dX9_character_43 (by decide) (fun c43 => ?_) (fun c43 => ?_)
          · refine lv_iconst (v := 5) hx hb dX9_character_51 (by decide) ?_
            refine lv_iadd hx hb dX9_character_52 ?_
            refine lv_istore_n (lv' := [(2, .int (y + 5)), (0, .ref h), (1, .int x), (3, .int (nI i))]) hx hb dX9_character_53 rfl hl (by decide) rfl (fun ls hl => ?_)
            refine lv_aload_n hx hb dX9_character_54 rfl (lv_at hl 1 rfl) ?_
            refine mg_37 hx hb hts hown hK hP dX9_character_55 ?_
            refine lv_iload_n hx hb dX9_character_58 rfl (lv_at hl 3 rfl) ?_
            refine ml_37 (x := (a 37) i) hx hb hK hP i rfl (by omega) rfl dX9_character_59 ?_
            refine lv_iconst (v := 2) hx hb dX9_character_60 (by decide) ?_
            refine lv_icmp_ne (tgt := 67) hx hb dX9_character_61 (by decide) (fun c61 => ?_) (fun c61 => ?_)
            · refine lv_iload_n hx hb dX9_character_67 rfl (lv_at hl 0 rfl) ?_
              refine lv_iconst (v := 2) hx hb dX9_character_68 (by decide) ?_
              refine lv_aload_n hx hb dX9_character_69 rfl (lv_at hl 1 rfl) ?_
              refine mg_35 hx hb hts hown hK hP dX9_character_70 ?_
              refine lv_iload_n hx hb dX9_character_73 rfl (lv_at hl 3 rfl) ?_
              refine ml_35 (x := (a 35) i) hx hb hK hP i rfl (by omega) rfl dX9_character_74 ?_
              refine lv_imul hx hb dX9_character_75 ?_
              refine lv_isub hx hb dX9_character_76 ?_
              refine lv_istore_n (lv' := [(2, .int ((y + 5) - (2 * ((a 35) i)))), (0, .ref h), (1, .int x), (3, .int (nI i))]) hx hb dX9_character_77 rfl hl (by decide) rfl (fun ls hl => ?_)
              refine lv_iinc (v := nI (i + 1)) (lv' := [(3, .int (nI (i + 1))), (2, .int ((y + 5) - (2 * ((a 35) i)))), (0, .ref h), (1, .int x)]) hx hb dX9_character_78 hl (k := 3) rfl (nI_1 _) (by decide) rfl (fun ls hl => ?_)
              refine lv_goto (tgt := 5) hx hb dX9_character_81 (by decide) ?_
              exact ih (i + 1) ((y + 5) - (2 * ((a 35) i))) (by omega) (by rw [← he]; simp only [lp, if_pos c20, if_pos c33, if_neg c43, if_neg c61]) ls (lv_sub hl [2, 3, 1, 0] rfl)
            · refine lv_iinc (v := (y + 5) + (-30)) (lv' := [(2, .int ((y + 5) + (-30))), (0, .ref h), (1, .int x), (3, .int (nI i))]) hx hb dX9_character_64 hl (k := 0) rfl (rfl) (by decide) rfl (fun ls hl => ?_)
              refine lv_iload_n hx hb dX9_character_67 rfl (lv_at hl 0 rfl) ?_
              refine lv_iconst (v := 2) hx hb dX9_character_68 (by decide) ?_
              refine lv_aload_n hx hb dX9_character_69 rfl (lv_at hl 1 rfl) ?_
              refine mg_35 hx hb hts hown hK hP dX9_character_70 ?_
              refine lv_iload_n hx hb dX9_character_73 rfl (lv_at hl 3 rfl) ?_
              refine ml_35 (x := (a 35) i) hx hb hK hP i rfl (by omega) rfl dX9_character_74 ?_
              refine lv_imul hx hb dX9_character_75 ?_
              refine lv_isub hx hb dX9_character_76 ?_
              refine lv_istore_n (lv' := [(2, .int (((y + 5) + (-30)) - (2 * ((a 35) i)))), (0, .ref h), (1, .int x), (3, .int (nI i))]) hx hb dX9_character_77 rfl hl (by decide) rfl (fun ls hl => ?_)
              refine lv_iinc (v := nI (i + 1)) (lv' := [(3, .int (nI (i + 1))), (2, .int (((y + 5) + (-30)) - (2 * ((a 35) i)))), (0, .ref h), (1, .int x)]) hx hb dX9_character_78 hl (k := 3) rfl (nI_1 _) (by decide) rfl (fun ls hl => ?_)
              refine lv_goto (tgt := 5) hx hb dX9_character_81 (by decide) ?_
              exact ih (i + 1) (((y + 5) + (-30)) - (2 * ((a 35) i))) (by omega) (by rw [← he]; simp only [lp, if_pos c20, if_pos c33, if_neg c43, if_pos c61]) ls (lv_sub hl [2, 3, 1, 0] rfl)
          · refine lv_bipush (v := 10) hx hb dX9_character_46 (by decide) ?_
            refine lv_goto (tgt := 52) hx hb dX9_character_48 (by decide) ?_
            refine lv_iadd hx hb dX9_character_52 ?_
            refine lv_istore_n (lv' := [(2, .int (y + 10)), (0, .ref h), (1, .int x), (3, .int (nI i))]) hx hb dX9_character_53 rfl hl (by decide) rfl (fun ls hl => ?_)
            refine lv_aload_n hx hb dX9_character_54 rfl (lv_at hl 1 rfl) ?_
            refine mg_37 hx hb hts hown hK hP dX9_character_55 ?_
            refine lv_iload_n hx hb dX9_character_58 rfl (lv_at hl 3 rfl) ?_
            refine ml_37 (x := (a 37) i) hx hb hK hP i rfl (by omega) rfl dX9_character_59 ?_
            refine lv_iconst (v := 2) hx hb dX9_character_60 (by decide) ?_
            refine lv_icmp_ne (tgt := 67) hx hb dX9_character_61 (by decide) (fun c61 => ?_) (fun c61 => ?_)
            · refine lv_iload_n hx hb dX9_character_67 rfl (lv_at hl 0 rfl) ?_
              refine lv_iconst (v := 2) hx hb dX9_character_68 (by decide) ?_
              refine lv_aload_n hx hb dX9_character_69 rfl (lv_at hl 1 rfl) ?_
              refine mg_35 hx hb hts hown hK hP dX9_character_70 ?_
              refine lv_iload_n hx hb dX9_character_73 rfl (lv_at hl 3 rfl) ?_
              refine ml_35 (x := (a 35) i) hx hb hK hP i rfl (by omega) rfl dX9_character_74 ?_
              refine lv_imul hx hb dX9_character_75 ?_
              refine lv_isub hx hb dX9_character_76 ?_
              refine lv_istore_n (lv' := [(2, .int ((y + 10) - (2 * ((a 35) i)))), (0, .ref h), (1, .int x), (3, .int (nI i))]) hx hb dX9_character_77 rfl hl (by decide) rfl (fun ls hl => ?_)
              refine lv_iinc (v := nI (i + 1)) (lv' := [(3, .int (nI (i + 1))), (2, .int ((y + 10) - (2 * ((a 35) i)))), (0, .ref h), (1, .int x)]) hx hb dX9_character_78 hl (k := 3) rfl (nI_1 _) (by decide) rfl (fun ls hl => ?_)
              refine lv_goto (tgt := 5) hx hb dX9_character_81 (by decide) ?_
              exact ih (i + 1) ((y + 10) - (2 * ((a 35) i))) (by omega) (by rw [← he]; simp only [lp, if_pos c20, if_pos c33, if_pos c43, if_neg c61]) ls (lv_sub hl [2, 3, 1, 0] rfl)
            · refine lv_iinc (v := (y + 10) + (-30)) (lv' := [(2, .int ((y + 10) + (-30))), (0, .ref h), (1, .int x), (3, .int (nI i))]) hx hb dX9_character_64 hl (k := 0) rfl (rfl) (by decide) rfl (fun ls hl => ?_)
              refine lv_iload_n hx hb dX9_character_67 rfl (lv_at hl 0 rfl) ?_
              refine lv_iconst (v := 2) hx hb dX9_character_68 (by decide) ?_
              refine lv_aload_n hx hb dX9_character_69 rfl (lv_at hl 1 rfl) ?_
              refine mg_35 hx hb hts hown hK hP dX9_character_70 ?_
              refine lv_iload_n hx hb dX9_character_73 rfl (lv_at hl 3 rfl) ?_
              refine ml_35 (x := (a 35) i) hx hb hK hP i rfl (by omega) rfl dX9_character_74 ?_
              refine lv_imul hx hb dX9_character_75 ?_
              refine lv_isub hx hb dX9_character_76 ?_
              refine lv_istore_n (lv' := [(2, .int (((y + 10) + (-30)) - (2 * ((a 35) i)))), (0, .ref h), (1, .int x), (3, .int (nI i))]) hx hb dX9_character_77 rfl hl (by decide) rfl (fun ls hl => ?_)
              refine lv_iinc (v := nI (i + 1)) (lv' := [(3, .int (nI (i + 1))), (2, .int (((y + 10) + (-30)) - (2 * ((a 35) i)))), (0, .ref h), (1, .int x)]) hx hb dX9_character_78 hl (k := 3) rfl (nI_1 _) (by decide) rfl (fun ls hl => ?_)
              refine lv_goto (tgt := 5) hx hb dX9_character_81 (by decide) ?_
              exact ih (i + 1) (((y + 10) + (-30)) - (2 * ((a 35) i))) (by omega) (by rw [← he]; simp only [lp, if_pos c20, if_pos c33, if_pos c43, if_pos c61]) ls (lv_sub hl [2, 3, 1, 0] rfl)
      · refine lv_goto (tgt := 78) hx hb dX9_character_23 (by decide) ?_
        refine lv_iinc (v := nI (i + 1)) (lv' := [(3, .int (nI (i + 1))), (0, .ref h), (1, .int x), (2, .int y)]) hx hb dX9_character_78 hl (k := 3) rfl (nI_1 _) (by decide) rfl (fun ls hl => ?_)
        refine lv_goto (tgt := 5) hx hb dX9_character_81 (by decide) ?_
        exact ih (i + 1) y (by omega) (by rw [← he]; simp only [lp, if_neg c20]) ls (lv_sub hl [1, 2, 3, 0] rfl)
  refine lv_bipush (v := 100) hx hb dX9_character_0 (by decide) ?_
  refine lv_istore_n (lv' := [(2, .int 100), (0, .ref h), (1, .int x)]) hx hb dX9_character_2 rfl hl (by decide) rfl (fun ls hl => ?_)
  refine lv_iconst (v := 0) hx hb dX9_character_3 (by decide) ?_
  refine lv_istore_n (lv' := [(3, .int 0), (2, .int 100), (0, .ref h), (1, .int x)]) hx hb dX9_character_4 rfl hl (by decide) rfl (fun ls hl => ?_)
  exact L (c 42) 0 100 (by omega) (rfl) ls (lv_sub hl [2, 3, 1, 0] rfl)
set_option maxHeartbeats 4000000 in
set_option maxRecDepth 100000 in
theorem c_X9_isTwice (l : Launch) (D : va_G) (h : Nat) (q : Nat → Nat) (k : Nat → ClassId) (c : Nat → Nat) (v : Nat → Int32) (nm : Int64) (a : Nat → Nat → Int32) (x : Int32) (j : Nat) (hj : j < 320) : Ro l yX9_isTwice cX9_isTwice 4 (some .boolean) 0 D (TY k) G0 [.ref h, .int x, .int (nI j)] (Mw h q k c v nm a) (some (.int (bI (fTwice (a 1) j)))) := by
  refine ro_body (by decide +kernel) (Nat.le_of_ble_eq_true rfl) ?_
  intro p e s m args below meth c_ Q hx hb hml hown hts hK hP hS hG hr hq hlocks ls hl
  replace hl : lv_has ls 4 [(0, .ref h), (1, .int x), (2, .int (nI j))] := hl
  change s.vm.findClass RX9 = some m.cls at hown
  have L : ∀ (r i : Nat), i + r = j → bI ((fnd (fun k => decide (a 1 k = a 1 j)) r i).isSome) = bI (fTwice (a 1) j) → ∀ (ls : Array Slot), lv_has ls 4 [(0, .ref h), (1, .int x), (2, .int (nI j)), (3, .int (nI i))] → W p l e (rmd 0 0 0) s m args below meth c_ s.heap [] 0 0 Q (F0 m 2 ls []) := by
    intro r
    induction r with
    | zero =>
      intro i hi he ls hl
      refine lv_iload_n hx hb dX9_isTwice_2 rfl (lv_at hl 3 rfl) ?_
      refine lv_iload_n hx hb dX9_isTwice_3 rfl (lv_at hl 2 rfl) ?_
      refine lv_icmp_ge (tgt := 30) hx hb dX9_isTwice_4 (by decide) (fun c4 => ?_) (fun c4 => absurd (nI_le (by omega) (by omega)) c4)
      refine lv_iconst (v := 0) hx hb dX9_isTwice_30 (by decide) ?_
      exact ro_z hx hb hr hlocks hq (rfl) dX9_isTwice_31 (by rw [← he]; simp [lp, fnd, bI])
    | succ r ih =>
      intro i hi he ls hl
      refine lv_iload_n hx hb dX9_isTwice_2 rfl (lv_at hl 3 rfl) ?_
      refine lv_iload_n hx hb dX9_isTwice_3 rfl (lv_at hl 2 rfl) ?_
      refine lv_icmp_ge (tgt := 30) hx hb dX9_isTwice_4 (by decide) (fun c4 => absurd c4 (nI_ge (by omega) (by omega))) (fun c4 => ?_)
      refine lv_aload_n hx hb dX9_isTwice_7 rfl (lv_at hl 0 rfl) ?_
      refine mg_1 hx hb hts hown hK hP dX9_isTwice_8 ?_
      refine lv_iload_n hx hb dX9_isTwice_11 rfl (lv_at hl 3 rfl) ?_
      refine ml_1 (x := (a 1) i) hx hb hK hP i rfl (by omega) rfl dX9_isTwice_12 ?_
      refine lv_aload_n hx hb dX9_isTwice_13 rfl (lv_at hl 0 rfl) ?_
      refine mg_1 hx hb hts hown hK hP dX9_isTwice_14 ?_
      refine lv_iload_n hx hb dX9_isTwice_17 rfl (lv_at hl 2 rfl) ?_
      refine ml_1 (x := (a 1) j) hx hb hK hP j rfl (by omega) rfl dX9_isTwice_18 ?_
      refine lv_icmp_ne (tgt := 24) hx hb dX9_isTwice_19 (by decide) (fun c19 => ?_) (fun c19 => ?_)
      · refine lv_iinc (v := nI (i + 1)) (lv' := [(3, .int (nI (i + 1))), (0, .ref h), (1, .int x), (2, .int (nI j))]) hx hb dX9_isTwice_24 hl (k := 3) rfl (nI_1 _) (by decide) rfl (fun ls hl => ?_)
        refine lv_goto (tgt := 2) hx hb dX9_isTwice_27 (by decide) ?_
        exact ih (i + 1)  (by omega) (by rw [← he]; simp [lp, fnd, c19]) ls (lv_sub hl [1, 2, 3, 0] rfl)
      · refine lv_iconst (v := 1) hx hb dX9_isTwice_22 (by decide) ?_
        exact ro_z hx hb hr hlocks hq (rfl) dX9_isTwice_23 (by rw [← he]; simp [lp, fnd, bI, c19])
  refine lv_iconst (v := 0) hx hb dX9_isTwice_0 (by decide) ?_
  refine lv_istore_n (lv' := [(3, .int 0), (0, .ref h), (1, .int x), (2, .int (nI j))]) hx hb dX9_isTwice_1 rfl hl (by decide) rfl (fun ls hl => ?_)
  exact L j 0 (by omega) (rfl) ls (lv_sub hl [1, 2, 3, 0] rfl)
set_option maxHeartbeats 4000000 in
set_option maxRecDepth 100000 in
theorem c_X9_at (l : Launch) (D : va_G) (h : Nat) (q : Nat → Nat) (k : Nat → ClassId) (c : Nat → Nat) (v : Nat → Int32) (nm : Int64) (a : Nat → Nat → Int32) (j : Nat) (hs : c 10 ≤ 320) (hj : j < 2147483648) : Ro l yX9_at cX9_at 2 (some .int) 0 D (TY k) G0 [.ref h, .int (nI j)] (Mw h q k c v nm a) (some (.int (if c 10 ≤ j then 0 else a 1 j))) := by
  refine ro_body (by decide +kernel) (Nat.le_of_ble_eq_true rfl) ?_
  intro p e s m args below meth c_ Q hx hb hml hown hts hK hP hS hG hr hq hlocks ls hl
  replace hl : lv_has ls 2 [(0, .ref h), (1, .int (nI j))] := hl
  change s.vm.findClass RX9 = some m.cls at hown
  refine lv_iload_n hx hb dX9_at_0 rfl (lv_at hl 1 rfl) ?_
  refine lv_aload_n hx hb dX9_at_1 rfl (lv_at hl 0 rfl) ?_
  refine mg_10 (x := nI (c 10)) hx hb hts hown hK hP rfl dX9_at_2 ?_
  refine lv_icmp_ge (tgt := 17) hx hb dX9_at_5 (by decide) (fun c5 => ?_) (fun c5 => ?_)
  · replace c5 : (c 10) ≤ j := (nI_leI (a := c 10) (b := j) (by omega) (by omega)).mp c5
    refine lv_iconst (v := 0) hx hb dX9_at_17 (by decide) ?_
    exact ro_i hx hb hr hlocks hq dX9_at_18 (by simp [c5])
  · replace c5 : ¬ ((c 10) ≤ j) := fun z => c5 ((nI_leI (a := c 10) (b := j) (by omega) (by omega)).mpr z)
    refine lv_aload_n hx hb dX9_at_8 rfl (lv_at hl 0 rfl) ?_
    refine mg_1 hx hb hts hown hK hP dX9_at_9 ?_
    refine lv_iload_n hx hb dX9_at_12 rfl (lv_at hl 1 rfl) ?_
    refine ml_1 (x := (a 1) j) hx hb hK hP j rfl (by omega) rfl dX9_at_13 ?_
    refine lv_goto (tgt := 18) hx hb dX9_at_14 (by decide) ?_
    exact ro_i hx hb hr hlocks hq dX9_at_18 (by simp [c5])
end
section
def fOwed (x : Int32) (u : MSt) : Int32 := match fOpen (u.2.2.2 26) (u.2.2.2 37) x (u.1 42) with
  | none => fCallsOf (u.2.2.2 43) (u.2.2.2 45) x (u.1 46) + 0
  | some k => fCallsOf (u.2.2.2 43) (u.2.2.2 45) x (u.1 46) + (u.2.2.2 33 k - u.2.2.2 34 k + u.2.2.2 27 k - u.2.2.2 32 k)
theorem fOpen_lt {who st : Nat → Int32} {p : Int32} {n j : Nat} (h : fOpen who st p n = some j) : j < n := by
  have := fnd_lt h; omega
theorem fOpen_spec {who st : Nat → Int32} {p : Int32} {n j : Nat} (h : fOpen who st p n = some j) : who j = p ∧ st j = 0 := by
  have := (fnd_lt h).2.2
  simpa using this
set_option maxHeartbeats 4000000 in
set_option maxRecDepth 100000 in
theorem c_X9_owed (l : Launch) (D : va_G) (h : Nat) (q : Nat → Nat) (k : Nat → ClassId) (c : Nat → Nat) (v : Nat → Int32) (nm : Int64) (a : Nat → Nat → Int32) (x : Int32) (hn : c 42 ≤ 100) (hc : c 46 ≤ 300) : Ro l yX9_owed cX9_owed 3 (some .int) 1 D (TY k) G0 [.ref h, .int x] (Mw h q k c v nm a) (some (.int (fOwed x (c, v, nm, a)))) := by
  refine ro_body (by decide +kernel) (Nat.le_of_ble_eq_true rfl) ?_
  intro p e s m args below meth c_ Q hx hb hml hown hts hK hP hS hG hr hq hlocks ls hl
  replace hl : lv_has ls 3 [(0, .ref h), (1, .int x)] := hl
  change s.vm.findClass RX9 = some m.cls at hown
  refine lv_aload_n hx hb dX9_owed_0 rfl (lv_at hl 0 rfl) ?_
  refine lv_iload_n hx hb dX9_owed_1 rfl (lv_at hl 1 rfl) ?_
  refine ro_V (rest := []) (st1 := [.int (oI (fOpen (a 26) (a 37) x (c 42)))]) (As := [.int x]) ⟨hx, hb, hml, hown, hts⟩ Gd0 trivial hS hK (c_X9_openOf l D h q k c v nm a x hn) mi_X9_openOf wd_5_197 wp_3_3 wd_5_195 ⟨Nat.le_of_ble_eq_true rfl, Nat.le_of_ble_eq_true rfl⟩ (hP) 0 rfl rfl rfl hl.1 rfl (Nat.le_of_ble_eq_true rfl) rfl ⟨Nat.le_of_ble_eq_true rfl, Nat.le_of_ble_eq_true rfl⟩ dX9_owed_2 ?_
  refine lv_istore_n (lv' := [(2, .int (oI (fOpen (a 26) (a 37) x (c 42)))), (0, .ref h), (1, .int x)]) hx hb dX9_owed_5 rfl hl (by decide) rfl (fun ls hl => ?_)
  refine lv_aload_n hx hb dX9_owed_6 rfl (lv_at hl 1 rfl) ?_
  refine lv_iload_n hx hb dX9_owed_7 rfl (lv_at hl 2 rfl) ?_
  refine ro_V (rest := []) (st1 := [.int (fCallsOf (a 43) (a 45) x (c 46))]) (As := [.int x]) ⟨hx, hb, hml, hown, hts⟩ Gd0 trivial hS hK (c_X9_callsOf l D h q k c v nm a x hc) mi_X9_callsOf wd_5_233 wp_3_11 wd_5_231 ⟨Nat.le_of_ble_eq_true rfl, Nat.le_of_ble_eq_true rfl⟩ (hP) 0 rfl rfl rfl hl.1 rfl (Nat.le_of_ble_eq_true rfl) rfl ⟨Nat.le_of_ble_eq_true rfl, Nat.le_of_ble_eq_true rfl⟩ dX9_owed_8 ?_
  refine lv_iload_n hx hb dX9_owed_11 rfl (lv_at hl 0 rfl) ?_
  refine lv_iconst (v := (-1)) hx hb dX9_owed_12 (by decide) ?_
  refine lv_icmp_ne (tgt := 20) hx hb dX9_owed_13 (by decide) (fun c13 => ?_) (fun c13 => ?_)
  · obtain ⟨j, ej, eo⟩ := oI_some c13
    have hjn := fOpen_lt ej
    refine lv_aload_n hx hb dX9_owed_20 rfl (lv_at hl 1 rfl) ?_
    refine mg_33 hx hb hts hown hK hP dX9_owed_21 ?_
    refine lv_iload_n hx hb dX9_owed_24 rfl (lv_at hl 0 rfl) ?_
    refine ml_33 (x := (a 33) j) hx hb hK hP j eo (by omega) rfl dX9_owed_25 ?_
    refine lv_aload_n hx hb dX9_owed_26 rfl (lv_at hl 1 rfl) ?_
    refine mg_34 hx hb hts hown hK hP dX9_owed_27 ?_
    refine lv_iload_n hx hb dX9_owed_30 rfl (lv_at hl 0 rfl) ?_
    refine ml_34 (x := (a 34) j) hx hb hK hP j eo (by omega) rfl dX9_owed_31 ?_
    refine lv_isub hx hb dX9_owed_32 ?_
    refine lv_aload_n hx hb dX9_owed_33 rfl (lv_at hl 1 rfl) ?_
    refine mg_27 hx hb hts hown hK hP dX9_owed_34 ?_
    refine lv_iload_n hx hb dX9_owed_37 rfl (lv_at hl 0 rfl) ?_
    refine ml_27 (x := (a 27) j) hx hb hK hP j eo (by omega) rfl dX9_owed_38 ?_
    refine lv_iadd hx hb dX9_owed_39 ?_
    refine lv_aload_n hx hb dX9_owed_40 rfl (lv_at hl 1 rfl) ?_
    refine mg_32 hx hb hts hown hK hP dX9_owed_41 ?_
    refine lv_iload_n hx hb dX9_owed_44 rfl (lv_at hl 0 rfl) ?_
    refine ml_32 (x := (a 32) j) hx hb hK hP j eo (by omega) rfl dX9_owed_45 ?_
    refine lv_isub hx hb dX9_owed_46 ?_
    refine lv_iadd hx hb dX9_owed_47 ?_
    exact ro_i hx hb hr hlocks hq dX9_owed_48 (by simp only [fOwed, ej])
  · have en := oI_none c13 (fun j hj => by have := fOpen_lt hj; omega)
    refine lv_iconst (v := 0) hx hb dX9_owed_16 (by decide) ?_
    refine lv_goto (tgt := 47) hx hb dX9_owed_17 (by decide) ?_
    refine lv_iadd hx hb dX9_owed_47 ?_
    exact ro_i hx hb hr hlocks hq dX9_owed_48 (by simp only [fOwed, en])
def mOwes (x : Int32) (u : MSt) : Int32 × MSt := (if isIn x (u.1 21) = false then -1 else fOwed x u, mT0 u)
def mCount (x : Int32) (u : MSt) : Int32 := match swN x 7 with
  | 0 => nI (u.1 23) | 1 => nI (u.1 21) | 2 => nI (u.1 22) | 3 => nI (u.1 42) | 4 => fOpens (u.2.2.2 37) (u.1 42) | 5 => u.2.1 25 | 6 => u.2.1 24 | 7 => nI (u.1 2) | _ => -1
def mAboutV (x y : Int32) (sn : Nat → Nat) (u : MSt) : Int32 := match swN y 6 with
  | 0 => u.2.2.2 17 x.toNatClampNeg | 1 => fClamp (fChar (u.2.2.2 26) (u.2.2.2 37) (u.2.2.2 35) x (u.1 42)) | 2 => bI (fBarred (u.2.2.2 43) (u.2.2.2 45) (u.2.2.2 26) (u.2.2.2 37) (u.2.2.2 3 8) x (u.1 46) (u.1 42)) | 3 => oI (fOpen (u.2.2.2 26) (u.2.2.2 37) x (u.1 42)) | 4 => fStands (u.2.2.2 37) (u.2.2.2 40) sn x (u.1 42) | 5 => fUnpaid (u.2.2.2 43) (u.2.2.2 45) x (u.1 46) | 6 => fCallsOf (u.2.2.2 43) (u.2.2.2 45) x (u.1 46) | _ => 0
def mAbout (x y : Int32) (sn : Nat → Nat) (u : MSt) : Int32 × MSt := if isIn x (u.1 21) = false then (0, mT1 u) else if y < 0 then (0, mT1 u) else if y ≤ 6 then (mAboutV x y sn u, mT0 u) else (0, mT1 u)
def mLoanV (x y : Int32) (u : MSt) : Int32 := match swN y 8 with
  | 0 => u.2.2.2 26 x.toNatClampNeg | 1 => u.2.2.2 27 x.toNatClampNeg | 2 => u.2.2.2 28 x.toNatClampNeg | 3 => u.2.2.2 32 x.toNatClampNeg | 4 => u.2.2.2 33 x.toNatClampNeg | 5 => u.2.2.2 34 x.toNatClampNeg | 6 => u.2.2.2 35 x.toNatClampNeg | 7 => u.2.2.2 37 x.toNatClampNeg | 8 => u.2.2.2 39 x.toNatClampNeg | _ => u.2.2.2 38 x.toNatClampNeg
def mLoan (x y : Int32) (u : MSt) : Int32 × MSt := if isIn x (u.1 42) = false then (0, mT1 u) else if y < 0 then (0, mT1 u) else if y ≤ 9 then (mLoanV x y u, mT0 u) else (0, mT1 u)
def mSurety (x y : Int32) (u : MSt) : Int32 × MSt := if isIn x (u.1 42) = false then (0, mT1 u) else if y < 0 then (0, mT1 u) else if y < u.2.2.2 39 x.toNatClampNeg then (u.2.2.2 40 (3 * x.toNatClampNeg + y.toNatClampNeg), mT0 u) else (0, mT1 u)
def mTaken (x y : Int32) (u : MSt) : Int32 × MSt := if isIn x (u.1 42) = false then (0, mT1 u) else if isIn y (u.1 22) = true then (u.2.2.2 41 (6 * x.toNatClampNeg + y.toNatClampNeg), mT0 u) else (0, mT1 u)
def mChest (x y : Int32) (u : MSt) : Int32 × MSt := (if isIn x (u.1 22) = false then -1 else if y < 0 then -1 else if y ≤ nI (u.1 23) then (if y = nI (u.1 23) then u.2.2.2 19 x.toNatClampNeg else u.2.2.2 20 (6 * y.toNatClampNeg + x.toNatClampNeg)) else -1, mT0 u)
set_option maxHeartbeats 4000000 in
set_option maxRecDepth 100000 in
theorem c_X9_owes (l : Launch) (D : va_G) (h : Nat) (q : Nat → Nat) (k : Nat → ClassId) (c : Nat → Nat) (v : Nat → Int32) (nm : Int64) (a : Nat → Nat → Int32) (x : Int32) (hp : c 21 ≤ 40) (hn : c 42 ≤ 100) (hc : c 46 ≤ 300) : Fs (S := Int32 × MSt) l yX9_owes cX9_owes 2 (some .int) 2 0 0 D (TY k) G0 [.ref h, .int x] (Mw h q k c v nm a) (fun u => some (.int u.1)) (fun u => u = mOwes x (c, v, nm, a)) (fun u => MwU h q k u.2) := by
  refine fs_body (by decide +kernel) (Nat.le_of_ble_eq_true rfl) ?_
  intro p e s m args below meth c_ Q A hx hb hml hown hts hK hP hD hS hA hG hin hr hq hlocks ls hl
  replace hl : lv_has ls 2 [(0, .ref h), (1, .int x)] := hl
  change s.vm.findClass RX9 = some m.cls at hown
  refine lv_aload_n hx hb dX9_owes_0 rfl (lv_at hl 0 rfl) ?_
  refine lv_iconst (v := 0) hx hb dX9_owes_1 (by decide) ?_
  refine mp_0 hx hb hts hown hK hP hD hS 0 dX9_owes_2 (fun H locs hP hD hS => ?_)
  refine lv_aload_n hx hb dX9_owes_5 rfl (lv_at hl 0 rfl) ?_
  refine lv_iload_n hx hb dX9_owes_6 rfl (lv_at hl 1 rfl) ?_
  refine ro_V (rest := []) (st1 := [.int (bI (isIn x (c 21)))]) (As := [.int x]) ⟨hx, hb, hml, hown, hts⟩ Gd0 trivial hS hK (c_X9_isPerson l D h q k c (up v 0 0) nm a x ) mi_X9_isPerson wd_5_171 wp_3_0 wd_5_169 ⟨Nat.le_of_ble_eq_true rfl, Nat.le_of_ble_eq_true rfl⟩ (hP) 0 rfl rfl rfl hl.1 rfl (Nat.le_of_ble_eq_true rfl) rfl ⟨Nat.le_of_ble_eq_true rfl, Nat.le_of_ble_eq_true rfl⟩ dX9_owes_7 ?_
  refine lv_if_eq (tgt := 21) hx hb dX9_owes_10 (by decide) (fun c10 => ?_) (fun c10 => ?_)
  · replace c10 : (isIn x (c 21)) = false := bI_0.mp c10
    refine lv_iconst (v := (-1)) hx hb dX9_owes_21 (by decide) ?_
    exact fs_i hx hb hr hlocks hq ((-1), (c, up v 0 0, nm, a)) (by simp [mOwes, mT0, fOwed, c10]) hP hD hS dX9_owes_22 rfl
  · replace c10 : (isIn x (c 21)) = true := bI_n.mp c10
    refine lv_aload_n hx hb dX9_owes_13 rfl (lv_at hl 0 rfl) ?_
    refine lv_iload_n hx hb dX9_owes_14 rfl (lv_at hl 1 rfl) ?_
    refine ro_V (rest := []) (st1 := [.int (fOwed x (c, up v 0 0, nm, a))]) (As := [.int x]) ⟨hx, hb, hml, hown, hts⟩ Gd0 trivial hS hK (c_X9_owed l D h q k c (up v 0 0) nm a x hn hc) mi_X9_owed wd_5_229 wp_3_10 wd_5_227 ⟨Nat.le_of_ble_eq_true rfl, Nat.le_of_ble_eq_true rfl⟩ (hP) 0 rfl rfl rfl hl.1 rfl (Nat.le_of_ble_eq_true rfl) rfl ⟨Nat.le_of_ble_eq_true rfl, Nat.le_of_ble_eq_true rfl⟩ dX9_owes_15 ?_
    refine lv_goto (tgt := 22) hx hb dX9_owes_18 (by decide) ?_
    exact fs_i hx hb hr hlocks hq (fOwed x (c, up v 0 0, nm, a), (c, up v 0 0, nm, a)) (by simp [mOwes, mT0, fOwed, c10]) hP hD hS dX9_owes_22 rfl
set_option maxHeartbeats 4000000 in
set_option maxRecDepth 100000 in
theorem c_X9_count (l : Launch) (D : va_G) (h : Nat) (q : Nat → Nat) (k : Nat → ClassId) (c : Nat → Nat) (v : Nat → Int32) (nm : Int64) (a : Nat → Nat → Int32) (x : Int32) (hn : c 42 ≤ 100) : Fs (S := Int32 × MSt) l yX9_count cX9_count 4 (some .int) 0 0 0 D (TY k) G0 [.ref h, .int x] (Mw h q k c v nm a) (fun u => some (.int u.1)) (fun u => u = (mCount x (c, v, nm, a), mT0 (c, v, nm, a))) (fun u => MwU h q k u.2) := by
  refine fs_body (by decide +kernel) (Nat.le_of_ble_eq_true rfl) ?_
  intro p e s m args below meth c_ Q A hx hb hml hown hts hK hP hD hS hA hG hin hr hq hlocks ls hl
  replace hl : lv_has ls 4 [(0, .ref h), (1, .int x)] := hl
  change s.vm.findClass RX9 = some m.cls at hown
  refine lv_aload_n hx hb dX9_count_0 rfl (lv_at hl 0 rfl) ?_
  refine lv_iconst (v := 0) hx hb dX9_count_1 (by decide) ?_
  refine mp_0 hx hb hts hown hK hP hD hS 0 dX9_count_2 (fun H locs hP hD hS => ?_)
  refine lv_iload_n hx hb dX9_count_5 rfl (lv_at hl 1 rfl) ?_
  rcases sw_cases x 7 with sw_2 | ⟨j_1, hj_1, ej_1⟩
  · refine lv_tableOut (tgt := 87) hx hb dX9_count_6 sw_2 (by decide) ?_
    refine lv_iload_n hx hb dX9_count_87 rfl (lv_at hl 1 rfl) ?_
    refine lv_iconst (v := 4) hx hb dX9_count_88 (by decide) ?_
    refine lv_icmp_eq (tgt := 94) hx hb dX9_count_89 (by decide) (fun c89 => absurd c89 (fun e9 => by rw [e9] at sw_2; revert sw_2; decide)) (fun c89 => ?_)
    refine lv_iconst (v := (-1)) hx hb dX9_count_92 (by decide) ?_
    exact fs_i hx hb hr hlocks hq ((-1), (c, up v 0 0, nm, a)) (by simp only [mCount, swN_out sw_2]; rfl) hP hD hS dX9_count_93 rfl
  · subst ej_1
    rcases (show j_1 = 0 ∨ j_1 = 1 ∨ j_1 = 2 ∨ j_1 = 3 ∨ j_1 = 4 ∨ j_1 = 5 ∨ j_1 = 6 ∨ j_1 = 7 by omega) with rfl | rfl | rfl | rfl | rfl | rfl | rfl | rfl
    · refine lv_tableIn (off := 46) (tgt := 52) hx hb dX9_count_6 (by decide) (by decide) (by decide) (by decide) ?_
      refine lv_aload_n hx hb dX9_count_52 rfl (lv_at hl 0 rfl) ?_
      refine mg_23 (x := nI (c 23)) hx hb hts hown hK hP rfl dX9_count_53 ?_
      exact fs_i hx hb hr hlocks hq (nI (c 23), (c, up v 0 0, nm, a)) (by simp only [mCount, swN_in (show 0 ≤ 7 by decide) (by decide)]; rfl) hP hD hS dX9_count_56 rfl
    · refine lv_tableIn (off := 51) (tgt := 57) hx hb dX9_count_6 (by decide) (by decide) (by decide) (by decide) ?_
      refine lv_aload_n hx hb dX9_count_57 rfl (lv_at hl 0 rfl) ?_
      refine mg_21 (x := nI (c 21)) hx hb hts hown hK hP rfl dX9_count_58 ?_
      exact fs_i hx hb hr hlocks hq (nI (c 21), (c, up v 0 0, nm, a)) (by simp only [mCount, swN_in (show 1 ≤ 7 by decide) (by decide)]; rfl) hP hD hS dX9_count_61 rfl
    · refine lv_tableIn (off := 56) (tgt := 62) hx hb dX9_count_6 (by decide) (by decide) (by decide) (by decide) ?_
      refine lv_aload_n hx hb dX9_count_62 rfl (lv_at hl 0 rfl) ?_
      refine mg_22 (x := nI (c 22)) hx hb hts hown hK hP rfl dX9_count_63 ?_
      exact fs_i hx hb hr hlocks hq (nI (c 22), (c, up v 0 0, nm, a)) (by simp only [mCount, swN_in (show 2 ≤ 7 by decide) (by decide)]; rfl) hP hD hS dX9_count_66 rfl
    · refine lv_tableIn (off := 61) (tgt := 67) hx hb dX9_count_6 (by decide) (by decide) (by decide) (by decide) ?_
      refine lv_aload_n hx hb dX9_count_67 rfl (lv_at hl 0 rfl) ?_
      refine mg_42 (x := nI (c 42)) hx hb hts hown hK hP rfl dX9_count_68 ?_
      exact fs_i hx hb hr hlocks hq (nI (c 42), (c, up v 0 0, nm, a)) (by simp only [mCount, swN_in (show 3 ≤ 7 by decide) (by decide)]; rfl) hP hD hS dX9_count_71 rfl
    · refine lv_tableIn (off := 81) (tgt := 87) hx hb dX9_count_6 (by decide) (by decide) (by decide) (by decide) ?_
      refine lv_iload_n hx hb dX9_count_87 rfl (lv_at hl 1 rfl) ?_
      refine lv_iconst (v := 4) hx hb dX9_count_88 (by decide) ?_
      refine lv_icmp_eq (tgt := 94) hx hb dX9_count_89 (by decide) (fun c89 => ?_) (fun c89 => absurd (rfl) c89)
      have L : ∀ (r i : Nat) (y : Int32), i + r = c 42 → lp (fun i s => if a 37 i = 0 then s + 1 else s) r i y = fOpens (a 37) (c 42) → ∀ (ls : Array Slot), lv_has ls 4 [(0, .ref h), (1, .int (nI 4)), (2, .int y), (3, .int (nI i))] → W p l e (rmd 0 0 0) s m args below meth c_ H locs 0 0 Q (F0 m 98 ls []) := by
        intro r
        induction r with
        | zero =>
          intro i y hi he ls hl
          refine lv_iload_n hx hb dX9_count_98 rfl (lv_at hl 3 rfl) ?_
          refine lv_aload_n hx hb dX9_count_99 rfl (lv_at hl 0 rfl) ?_
          refine mg_42 (x := nI (c 42)) hx hb hts hown hK hP rfl dX9_count_100 ?_
          refine lv_icmp_ge (tgt := 124) hx hb dX9_count_103 (by decide) (fun c103 => ?_) (fun c103 => absurd (nI_le (by omega) (by omega)) c103)
          refine lv_iload_n hx hb dX9_count_124 rfl (lv_at hl 2 rfl) ?_
          exact fs_i hx hb hr hlocks hq (y, (c, up v 0 0, nm, a)) (by simp only [mCount, swN_in (show 4 ≤ 7 by decide) (show 7 < 2 ^ 31 by decide)]; rw [← he]; rfl) hP hD hS dX9_count_125 rfl
        | succ r ih =>
          intro i y hi he ls hl
          refine lv_iload_n hx hb dX9_count_98 rfl (lv_at hl 3 rfl) ?_
          refine lv_aload_n hx hb dX9_count_99 rfl (lv_at hl 0 rfl) ?_
          refine mg_42 (x := nI (c 42)) hx hb hts hown hK hP rfl dX9_count_100 ?_
          refine lv_icmp_ge (tgt := 124) hx hb dX9_count_103 (by decide) (fun c103 => absurd c103 (nI_ge (by omega) (by omega))) (fun c103 => ?_)
          refine lv_aload_n hx hb dX9_count_106 rfl (lv_at hl 0 rfl) ?_
          refine mg_37 hx hb hts hown hK hP dX9_count_107 ?_
          refine lv_iload_n hx hb dX9_count_110 rfl (lv_at hl 3 rfl) ?_
          refine ml_37 (x := (a 37) i) hx hb hK hP i rfl (by omega) rfl dX9_count_111 ?_
          refine lv_if_ne (tgt := 118) hx hb dX9_count_112 (by decide) (fun c112 => ?_) (fun c112 => ?_)
          · refine lv_iinc (v := nI (i + 1)) (lv' := [(3, .int (nI (i + 1))), (0, .ref h), (1, .int (nI 4)), (2, .int y)]) hx hb dX9_count_118 hl (k := 3) rfl (nI_1 _) (by decide) rfl (fun ls hl => ?_)
            refine lv_goto (tgt := 98) hx hb dX9_count_121 (by decide) ?_
            exact ih (i + 1) y (by omega) (by rw [← he]; simp [lp, fnd, c112]) ls (lv_sub hl [1, 2, 3, 0] rfl)
          · refine lv_iinc (v := y + 1) (lv' := [(2, .int (y + 1)), (0, .ref h), (1, .int (nI 4)), (3, .int (nI i))]) hx hb dX9_count_115 hl (k := 2) rfl (rfl) (by decide) rfl (fun ls hl => ?_)
            refine lv_iinc (v := nI (i + 1)) (lv' := [(3, .int (nI (i + 1))), (2, .int (y + 1)), (0, .ref h), (1, .int (nI 4))]) hx hb dX9_count_118 hl (k := 3) rfl (nI_1 _) (by decide) rfl (fun ls hl => ?_)
            refine lv_goto (tgt := 98) hx hb dX9_count_121 (by decide) ?_
            exact ih (i + 1) (y + 1) (by omega) (by rw [← he]; simp [lp, fnd, c112]) ls (lv_sub hl [2, 3, 1, 0] rfl)
      refine lv_iconst (v := 0) hx hb dX9_count_94 (by decide) ?_
      refine lv_istore_n (lv' := [(2, .int 0), (0, .ref h), (1, .int (nI 4))]) hx hb dX9_count_95 rfl hl (by decide) rfl (fun ls hl => ?_)
      refine lv_iconst (v := 0) hx hb dX9_count_96 (by decide) ?_
      refine lv_istore_n (lv' := [(3, .int 0), (2, .int 0), (0, .ref h), (1, .int (nI 4))]) hx hb dX9_count_97 rfl hl (by decide) rfl (fun ls hl => ?_)
      exact L (c 42) 0 0 (by omega) (rfl) ls (lv_sub hl [2, 3, 1, 0] rfl)
    · refine lv_tableIn (off := 66) (tgt := 72) hx hb dX9_count_6 (by decide) (by decide) (by decide) (by decide) ?_
      refine lv_aload_n hx hb dX9_count_72 rfl (lv_at hl 0 rfl) ?_
      refine mg_25 (x := v 25) hx hb hts hown hK hP rfl dX9_count_73 ?_
      exact fs_i hx hb hr hlocks hq (v 25, (c, up v 0 0, nm, a)) (by simp only [mCount, swN_in (show 5 ≤ 7 by decide) (by decide)]; rfl) hP hD hS dX9_count_76 rfl
    · refine lv_tableIn (off := 71) (tgt := 77) hx hb dX9_count_6 (by decide) (by decide) (by decide) (by decide) ?_
      refine lv_aload_n hx hb dX9_count_77 rfl (lv_at hl 0 rfl) ?_
      refine mg_24 (x := v 24) hx hb hts hown hK hP rfl dX9_count_78 ?_
      exact fs_i hx hb hr hlocks hq (v 24, (c, up v 0 0, nm, a)) (by simp only [mCount, swN_in (show 6 ≤ 7 by decide) (by decide)]; rfl) hP hD hS dX9_count_81 rfl
    · refine lv_tableIn (off := 76) (tgt := 82) hx hb dX9_count_6 (by decide) (by decide) (by decide) (by decide) ?_
      refine lv_aload_n hx hb dX9_count_82 rfl (lv_at hl 0 rfl) ?_
      refine mg_2 (x := nI (c 2)) hx hb hts hown hK hP rfl dX9_count_83 ?_
      exact fs_i hx hb hr hlocks hq (nI (c 2), (c, up v 0 0, nm, a)) (by simp only [mCount, swN_in (show 7 ≤ 7 by decide) (by decide)]; rfl) hP hD hS dX9_count_86 rfl
set_option maxHeartbeats 4000000 in
set_option maxRecDepth 100000 in
theorem c_X9_loan (l : Launch) (D : va_G) (h : Nat) (q : Nat → Nat) (k : Nat → ClassId) (c : Nat → Nat) (v : Nat → Int32) (nm : Int64) (a : Nat → Nat → Int32) (x : Int32) (y : Int32) (hn : c 42 ≤ 100) : Fs (S := Int32 × MSt) l yX9_loan cX9_loan 3 (some .int) 1 0 0 D (TY k) G0 [.ref h, .int x, .int y] (Mw h q k c v nm a) (fun u => some (.int u.1)) (fun u => u = mLoan x y (c, v, nm, a)) (fun u => MwU h q k u.2) := by
  refine fs_body (by decide +kernel) (Nat.le_of_ble_eq_true rfl) ?_
  intro p e s m args below meth c_ Q A hx hb hml hown hts hK hP hD hS hA hG hin hr hq hlocks ls hl
  replace hl : lv_has ls 3 [(0, .ref h), (1, .int x), (2, .int y)] := hl
  change s.vm.findClass RX9 = some m.cls at hown
  refine lv_aload_n hx hb dX9_loan_0 rfl (lv_at hl 0 rfl) ?_
  refine lv_iload_n hx hb dX9_loan_1 rfl (lv_at hl 1 rfl) ?_
  refine ro_V (rest := []) (st1 := [.int (bI (isIn x (c 42)))]) (As := [.int x]) ⟨hx, hb, hml, hown, hts⟩ Gd0 trivial hS hK (c_X9_isLoan l D h q k c v nm a x ) mi_X9_isLoan wd_6_21 wp_3_14 wd_6_19 ⟨Nat.le_of_ble_eq_true rfl, Nat.le_of_ble_eq_true rfl⟩ (hP) 0 rfl rfl rfl hl.1 rfl (Nat.le_of_ble_eq_true rfl) rfl ⟨Nat.le_of_ble_eq_true rfl, Nat.le_of_ble_eq_true rfl⟩ dX9_loan_2 ?_
  refine lv_if_eq (tgt := 18) hx hb dX9_loan_5 (by decide) (fun c5 => ?_) (fun c5 => ?_)
  · replace c5 : (isIn x (c 42)) = false := bI_0.mp c5
    refine lv_aload_n hx hb dX9_loan_18 rfl (lv_at hl 0 rfl) ?_
    refine fs_Vw (rest := []) (As := []) ⟨hx, hb, hml, hown, hts⟩ Gd0 trivial hS hA hK (hP) (hD) (c_X9_refuse l D h q k c v nm a  ) mi_X9_refuse wd_6_25 wp_3_15 wd_6_23 ⟨Nat.le_of_ble_eq_true rfl, Nat.le_of_ble_eq_true rfl⟩ 0 rfl rfl rfl hl.1 rfl (Nat.le_of_ble_eq_true rfl) ⟨Nat.le_of_ble_eq_true rfl, Nat.le_of_ble_eq_true rfl⟩ dX9_loan_19 (fun u_1 H locs hu_2 hP hD hS => ?_)
    subst hu_2
    replace hP : va_P D vwCl (Mw h q k c (up v 0 1) nm a) H := hP
    replace hD : va_D A (Mw h q k c (up v 0 1) nm a) := hD
    refine W.eq (g2 := F0 m 22 ls [.int 0]) rfl ?_
    exact fs_i hx hb hr hlocks hq (0, (c, up v 0 1, nm, a)) (by simp only [mLoan, if_pos c5]; rfl) hP hD hS dX9_loan_22 rfl
  · replace c5 : (isIn x (c 42)) = true := bI_n.mp c5
    obtain ⟨ex, hjx⟩ := isIn_spec c5 (by omega)
    refine lv_iload_n hx hb dX9_loan_8 rfl (lv_at hl 2 rfl) ?_
    refine lv_if_lt (tgt := 18) hx hb dX9_loan_9 (by decide) (fun c9 => ?_) (fun c9 => ?_)
    · refine lv_aload_n hx hb dX9_loan_18 rfl (lv_at hl 0 rfl) ?_
      refine fs_Vw (rest := []) (As := []) ⟨hx, hb, hml, hown, hts⟩ Gd0 trivial hS hA hK (hP) (hD) (c_X9_refuse l D h q k c v nm a  ) mi_X9_refuse wd_6_25 wp_3_15 wd_6_23 ⟨Nat.le_of_ble_eq_true rfl, Nat.le_of_ble_eq_true rfl⟩ 0 rfl rfl rfl hl.1 rfl (Nat.le_of_ble_eq_true rfl) ⟨Nat.le_of_ble_eq_true rfl, Nat.le_of_ble_eq_true rfl⟩ dX9_loan_19 (fun u_3 H locs hu_4 hP hD hS => ?_)
      subst hu_4
      replace hP : va_P D vwCl (Mw h q k c (up v 0 1) nm a) H := hP
      replace hD : va_D A (Mw h q k c (up v 0 1) nm a) := hD
      refine W.eq (g2 := F0 m 22 ls [.int 0]) rfl ?_
      exact fs_i hx hb hr hlocks hq (0, (c, up v 0 1, nm, a)) (by simp only [mLoan, if_neg (show ¬ (isIn x (c 42) = false) by rw [c5]; decide), if_pos c9]; rfl) hP hD hS dX9_loan_22 rfl
    · refine lv_iload_n hx hb dX9_loan_12 rfl (lv_at hl 2 rfl) ?_
      refine lv_bipush (v := 9) hx hb dX9_loan_13 (by decide) ?_
      refine lv_icmp_le (tgt := 23) hx hb dX9_loan_15 (by decide) (fun c15 => ?_) (fun c15 => ?_)
      · refine lv_aload_n hx hb dX9_loan_23 rfl (lv_at hl 0 rfl) ?_
        refine lv_iconst (v := 0) hx hb dX9_loan_24 (by decide) ?_
        refine mp_0 hx hb hts hown hK hP hD hS 0 dX9_loan_25 (fun H locs hP hD hS => ?_)
        refine lv_iload_n hx hb dX9_loan_28 rfl (lv_at hl 2 rfl) ?_
        rcases sw_cases y 8 with sw_6 | ⟨j_5, hj_5, ej_5⟩
        · refine lv_tableOut (tgt := 143) hx hb dX9_loan_29 sw_6 (by decide) ?_
          refine lv_aload_n hx hb dX9_loan_143 rfl (lv_at hl 0 rfl) ?_
          refine mg_38 hx hb hts hown hK hP dX9_loan_144 ?_
          refine lv_iload_n hx hb dX9_loan_147 rfl (lv_at hl 1 rfl) ?_
          refine ml_38 (x := (a 38) x.toNatClampNeg) hx hb hK hP x.toNatClampNeg ex (by omega) rfl dX9_loan_148 ?_
          exact fs_i hx hb hr hlocks hq ((a 38) x.toNatClampNeg, (c, up v 0 0, nm, a)) (by simp only [mLoan, mLoanV, if_neg (show ¬ (isIn x (c 42) = false) by rw [c5]; decide), if_neg c9, if_pos c15, swN_out sw_6]; rfl) hP hD hS dX9_loan_149 rfl
        · subst ej_5
          rcases (show j_5 = 0 ∨ j_5 = 1 ∨ j_5 = 2 ∨ j_5 = 3 ∨ j_5 = 4 ∨ j_5 = 5 ∨ j_5 = 6 ∨ j_5 = 7 ∨ j_5 = 8 by omega) with rfl | rfl | rfl | rfl | rfl | rfl | rfl | rfl | rfl
          · refine lv_tableIn (off := 51) (tgt := 80) hx hb dX9_loan_29 (by decide) (by decide) (by decide) (by decide) ?_
            refine lv_aload_n hx hb dX9_loan_80 rfl (lv_at hl 0 rfl) ?_
            refine mg_26 hx hb hts hown hK hP dX9_loan_81 ?_
            refine lv_iload_n hx hb dX9_loan_84 rfl (lv_at hl 1 rfl) ?_
            refine ml_26 (x := (a 26) x.toNatClampNeg) hx hb hK hP x.toNatClampNeg ex (by omega) rfl dX9_loan_85 ?_
            exact fs_i hx hb hr hlocks hq ((a 26) x.toNatClampNeg, (c, up v 0 0, nm, a)) (by simp only [mLoan, mLoanV, if_neg (show ¬ (isIn x (c 42) = false) by rw [c5]; decide), if_neg c9, if_pos c15, swN_in (show 0 ≤ 8 by decide) (by decide)]; rfl) hP hD hS dX9_loan_86 rfl
          · refine lv_tableIn (off := 58) (tgt := 87) hx hb dX9_loan_29 (by decide) (by decide) (by decide) (by decide) ?_
            refine lv_aload_n hx hb dX9_loan_87 rfl (lv_at hl 0 rfl) ?_
            refine mg_27 hx hb hts hown hK hP dX9_loan_88 ?_
            refine lv_iload_n hx hb dX9_loan_91 rfl (lv_at hl 1 rfl) ?_
            refine ml_27 (x := (a 27) x.toNatClampNeg) hx hb hK hP x.toNatClampNeg ex (by omega) rfl dX9_loan_92 ?_
            exact fs_i hx hb hr hlocks hq ((a 27) x.toNatClampNeg, (c, up v 0 0, nm, a)) (by simp only [mLoan, mLoanV, if_neg (show ¬ (isIn x (c 42) = false) by rw [c5]; decide), if_neg c9, if_pos c15, swN_in (show 1 ≤ 8 by decide) (by decide)]; rfl) hP hD hS dX9_loan_93 rfl
          · refine lv_tableIn (off := 65) (tgt := 94) hx hb dX9_loan_29 (by decide) (by decide) (by decide) (by decide) ?_
            refine lv_aload_n hx hb dX9_loan_94 rfl (lv_at hl 0 rfl) ?_
            refine mg_28 hx hb hts hown hK hP dX9_loan_95 ?_
            refine lv_iload_n hx hb dX9_loan_98 rfl (lv_at hl 1 rfl) ?_
            refine ml_28 (x := (a 28) x.toNatClampNeg) hx hb hK hP x.toNatClampNeg ex (by omega) rfl dX9_loan_99 ?_
            exact fs_i hx hb hr hlocks hq ((a 28) x.toNatClampNeg, (c, up v 0 0, nm, a)) (by simp only [mLoan, mLoanV, if_neg (show ¬ (isIn x (c 42) = false) by rw [c5]; decide), if_neg c9, if_pos c15, swN_in (show 2 ≤ 8 by decide) (by decide)]; rfl) hP hD hS dX9_loan_100 rfl
          · refine lv_tableIn (off := 72) (tgt := 101) hx hb dX9_loan_29 (by decide) (by decide) (by decide) (by decide) ?_
            refine lv_aload_n hx hb dX9_loan_101 rfl (lv_at hl 0 rfl) ?_
            refine mg_32 hx hb hts hown hK hP dX9_loan_102 ?_
            refine lv_iload_n hx hb dX9_loan_105 rfl (lv_at hl 1 rfl) ?_
            refine ml_32 (x := (a 32) x.toNatClampNeg) hx hb hK hP x.toNatClampNeg ex (by omega) rfl dX9_loan_106 ?_
            exact fs_i hx hb hr hlocks hq ((a 32) x.toNatClampNeg, (c, up v 0 0, nm, a)) (by simp only [mLoan, mLoanV, if_neg (show ¬ (isIn x (c 42) = false) by rw [c5]; decide), if_neg c9, if_pos c15, swN_in (show 3 ≤ 8 by decide) (by decide)]; rfl) hP hD hS dX9_loan_107 rfl
          · refine lv_tableIn (off := 79) (tgt := 108) hx hb dX9_loan_29 (by decide) (by decide) (by decide) (by decide) ?_
            refine lv_aload_n hx hb dX9_loan_108 rfl (lv_at hl 0 rfl) ?_
            refine mg_33 hx hb hts hown hK hP dX9_loan_109 ?_
            refine lv_iload_n hx hb dX9_loan_112 rfl (lv_at hl 1 rfl) ?_
            refine ml_33 (x := (a 33) x.toNatClampNeg) hx hb hK hP x.toNatClampNeg ex (by omega) rfl dX9_loan_113 ?_
            exact fs_i hx hb hr hlocks hq ((a 33) x.toNatClampNeg, (c, up v 0 0, nm, a)) (by simp only [mLoan, mLoanV, if_neg (show ¬ (isIn x (c 42) = false) by rw [c5]; decide), if_neg c9, if_pos c15, swN_in (show 4 ≤ 8 by decide) (by decide)]; rfl) hP hD hS dX9_loan_114 rfl
          · refine lv_tableIn (off := 86) (tgt := 115) hx hb dX9_loan_29 (by decide) (by decide) (by decide) (by decide) ?_
            refine lv_aload_n hx hb dX9_loan_115 rfl (lv_at hl 0 rfl) ?_
            refine mg_34 hx hb hts hown hK hP dX9_loan_116 ?_
            refine lv_iload_n hx hb dX9_loan_119 rfl (lv_at hl 1 rfl) ?_
            refine ml_34 (x := (a 34) x.toNatClampNeg) hx hb hK hP x.toNatClampNeg ex (by omega) rfl dX9_loan_120 ?_
            exact fs_i hx hb hr hlocks hq ((a 34) x.toNatClampNeg, (c, up v 0 0, nm, a)) (by simp only [mLoan, mLoanV, if_neg (show ¬ (isIn x (c 42) = false) by rw [c5]; decide), if_neg c9, if_pos c15, swN_in (show 5 ≤ 8 by decide) (by decide)]; rfl) hP hD hS dX9_loan_121 rfl
          · refine lv_tableIn (off := 93) (tgt := 122) hx hb dX9_loan_29 (by decide) (by decide) (by decide) (by decide) ?_
            refine lv_aload_n hx hb dX9_loan_122 rfl (lv_at hl 0 rfl) ?_
            refine mg_35 hx hb hts hown hK hP dX9_loan_123 ?_
            refine lv_iload_n hx hb dX9_loan_126 rfl (lv_at hl 1 rfl) ?_
            refine ml_35 (x := (a 35) x.toNatClampNeg) hx hb hK hP x.toNatClampNeg ex (by omega) rfl dX9_loan_127 ?_
            exact fs_i hx hb hr hlocks hq ((a 35) x.toNatClampNeg, (c, up v 0 0, nm, a)) (by simp only [mLoan, mLoanV, if_neg (show ¬ (isIn x (c 42) = false) by rw [c5]; decide), if_neg c9, if_pos c15, swN_in (show 6 ≤ 8 by decide) (by decide)]; rfl) hP hD hS dX9_loan_128 rfl
          · refine lv_tableIn (off := 100) (tgt := 129) hx hb dX9_loan_29 (by decide) (by decide) (by decide) (by decide) ?_
            refine lv_aload_n hx hb dX9_loan_129 rfl (lv_at hl 0 rfl) ?_
            refine mg_37 hx hb hts hown hK hP dX9_loan_130 ?_
            refine lv_iload_n hx hb dX9_loan_133 rfl (lv_at hl 1 rfl) ?_
            refine ml_37 (x := (a 37) x.toNatClampNeg) hx hb hK hP x.toNatClampNeg ex (by omega) rfl dX9_loan_134 ?_
            exact fs_i hx hb hr hlocks hq ((a 37) x.toNatClampNeg, (c, up v 0 0, nm, a)) (by simp only [mLoan, mLoanV, if_neg (show ¬ (isIn x (c 42) = false) by rw [c5]; decide), if_neg c9, if_pos c15, swN_in (show 7 ≤ 8 by decide) (by decide)]; rfl) hP hD hS dX9_loan_135 rfl
          · refine lv_tableIn (off := 107) (tgt := 136) hx hb dX9_loan_29 (by decide) (by decide) (by decide) (by decide) ?_
            refine lv_aload_n hx hb dX9_loan_136 rfl (lv_at hl 0 rfl) ?_
            refine mg_39 hx hb hts hown hK hP dX9_loan_137 ?_
            refine lv_iload_n hx hb dX9_loan_140 rfl (lv_at hl 1 rfl) ?_
            refine ml_39 (x := (a 39) x.toNatClampNeg) hx hb hK hP x.toNatClampNeg ex (by omega) rfl dX9_loan_141 ?_
            exact fs_i hx hb hr hlocks hq ((a 39) x.toNatClampNeg, (c, up v 0 0, nm, a)) (by simp only [mLoan, mLoanV, if_neg (show ¬ (isIn x (c 42) = false) by rw [c5]; decide), if_neg c9, if_pos c15, swN_in (show 8 ≤ 8 by decide) (by decide)]; rfl) hP hD hS dX9_loan_142 rfl
      · refine lv_aload_n hx hb dX9_loan_18 rfl (lv_at hl 0 rfl) ?_
        refine fs_Vw (rest := []) (As := []) ⟨hx, hb, hml, hown, hts⟩ Gd0 trivial hS hA hK (hP) (hD) (c_X9_refuse l D h q k c v nm a  ) mi_X9_refuse wd_6_25 wp_3_15 wd_6_23 ⟨Nat.le_of_ble_eq_true rfl, Nat.le_of_ble_eq_true rfl⟩ 0 rfl rfl rfl hl.1 rfl (Nat.le_of_ble_eq_true rfl) ⟨Nat.le_of_ble_eq_true rfl, Nat.le_of_ble_eq_true rfl⟩ dX9_loan_19 (fun u_7 H locs hu_8 hP hD hS => ?_)
        subst hu_8
        replace hP : va_P D vwCl (Mw h q k c (up v 0 1) nm a) H := hP
        replace hD : va_D A (Mw h q k c (up v 0 1) nm a) := hD
        refine W.eq (g2 := F0 m 22 ls [.int 0]) rfl ?_
        exact fs_i hx hb hr hlocks hq (0, (c, up v 0 1, nm, a)) (by simp only [mLoan, if_neg (show ¬ (isIn x (c 42) = false) by rw [c5]; decide), if_neg c9, if_neg c15]; rfl) hP hD hS dX9_loan_22 rfl
set_option maxHeartbeats 4000000 in
set_option maxRecDepth 100000 in
theorem c_X9_about (l : Launch) (D : va_G) (h : Nat) (q : Nat → Nat) (k : Nat → ClassId) (c : Nat → Nat) (v : Nat → Int32) (nm : Int64) (a : Nat → Nat → Int32) (x : Int32) (y : Int32) (hp : c 21 ≤ 40) (hn : c 42 ≤ 100) (hc : c 46 ≤ 300) (sn : Nat → Nat) (hs : ∀ k, k < c 42 → a 39 k = nI (sn k) ∧ sn k ≤ 3) : Fs (S := Int32 × MSt) l yX9_about cX9_about 5 (some .int) 1 0 0 D (TY k) G0 [.ref h, .int x, .int y] (Mw h q k c v nm a) (fun u => some (.int u.1)) (fun u => u = mAbout x y sn (c, v, nm, a)) (fun u => MwU h q k u.2) := by
  refine fs_body (by decide +kernel) (Nat.le_of_ble_eq_true rfl) ?_
  intro p e s m args below meth c_ Q A hx hb hml hown hts hK hP hD hS hA hG hin hr hq hlocks ls hl
  replace hl : lv_has ls 5 [(0, .ref h), (1, .int x), (2, .int y)] := hl
  change s.vm.findClass RX9 = some m.cls at hown
  refine lv_aload_n hx hb dX9_about_0 rfl (lv_at hl 0 rfl) ?_
  refine lv_iload_n hx hb dX9_about_1 rfl (lv_at hl 1 rfl) ?_
  refine ro_V (rest := []) (st1 := [.int (bI (isIn x (c 21)))]) (As := [.int x]) ⟨hx, hb, hml, hown, hts⟩ Gd0 trivial hS hK (c_X9_isPerson l D h q k c v nm a x ) mi_X9_isPerson wd_5_171 wp_3_0 wd_5_169 ⟨Nat.le_of_ble_eq_true rfl, Nat.le_of_ble_eq_true rfl⟩ (hP) 0 rfl rfl rfl hl.1 rfl (Nat.le_of_ble_eq_true rfl) rfl ⟨Nat.le_of_ble_eq_true rfl, Nat.le_of_ble_eq_true rfl⟩ dX9_about_2 ?_
  refine lv_if_eq (tgt := 18) hx hb dX9_about_5 (by decide) (fun c5 => ?_) (fun c5 => ?_)
  · replace c5 : (isIn x (c 21)) = false := bI_0.mp c5
    refine lv_aload_n hx hb dX9_about_18 rfl (lv_at hl 0 rfl) ?_
    refine fs_Vw (rest := []) (As := []) ⟨hx, hb, hml, hown, hts⟩ Gd0 trivial hS hA hK (hP) (hD) (c_X9_refuse l D h q k c v nm a  ) mi_X9_refuse wd_6_25 wp_3_15 wd_6_23 ⟨Nat.le_of_ble_eq_true rfl, Nat.le_of_ble_eq_true rfl⟩ 0 rfl rfl rfl hl.1 rfl (Nat.le_of_ble_eq_true rfl) ⟨Nat.le_of_ble_eq_true rfl, Nat.le_of_ble_eq_true rfl⟩ dX9_about_19 (fun u_1 H locs hu_2 hP hD hS => ?_)
    subst hu_2
    replace hP : va_P D vwCl (Mw h q k c (up v 0 1) nm a) H := hP
    replace hD : va_D A (Mw h q k c (up v 0 1) nm a) := hD
    refine W.eq (g2 := F0 m 22 ls [.int 0]) rfl ?_
    exact fs_i hx hb hr hlocks hq (0, (c, up v 0 1, nm, a)) (by simp only [mAbout, if_pos c5]; rfl) hP hD hS dX9_about_22 rfl
  · replace c5 : (isIn x (c 21)) = true := bI_n.mp c5
    obtain ⟨ex, hjx⟩ := isIn_spec c5 (by omega)
    refine lv_iload_n hx hb dX9_about_8 rfl (lv_at hl 2 rfl) ?_
    refine lv_if_lt (tgt := 18) hx hb dX9_about_9 (by decide) (fun c9 => ?_) (fun c9 => ?_)
    · refine lv_aload_n hx hb dX9_about_18 rfl (lv_at hl 0 rfl) ?_
      refine fs_Vw (rest := []) (As := []) ⟨hx, hb, hml, hown, hts⟩ Gd0 trivial hS hA hK (hP) (hD) (c_X9_refuse l D h q k c v nm a  ) mi_X9_refuse wd_6_25 wp_3_15 wd_6_23 ⟨Nat.le_of_ble_eq_true rfl, Nat.le_of_ble_eq_true rfl⟩ 0 rfl rfl rfl hl.1 rfl (Nat.le_of_ble_eq_true rfl) ⟨Nat.le_of_ble_eq_true rfl, Nat.le_of_ble_eq_true rfl⟩ dX9_about_19 (fun u_3 H locs hu_4 hP hD hS => ?_)
      subst hu_4
      replace hP : va_P D vwCl (Mw h q k c (up v 0 1) nm a) H := hP
      replace hD : va_D A (Mw h q k c (up v 0 1) nm a) := hD
      refine W.eq (g2 := F0 m 22 ls [.int 0]) rfl ?_
      exact fs_i hx hb hr hlocks hq (0, (c, up v 0 1, nm, a)) (by simp only [mAbout, if_neg (show ¬ (isIn x (c 21) = false) by rw [c5]; decide), if_pos c9]; rfl) hP hD hS dX9_about_22 rfl
    · refine lv_iload_n hx hb dX9_about_12 rfl (lv_at hl 2 rfl) ?_
      refine lv_bipush (v := 6) hx hb dX9_about_13 (by decide) ?_
      refine lv_icmp_le (tgt := 23) hx hb dX9_about_15 (by decide) (fun c15 => ?_) (fun c15 => ?_)
      · refine lv_aload_n hx hb dX9_about_23 rfl (lv_at hl 0 rfl) ?_
        refine lv_iconst (v := 0) hx hb dX9_about_24 (by decide) ?_
        refine mp_0 hx hb hts hown hK hP hD hS 0 dX9_about_25 (fun H locs hP hD hS => ?_)
        refine lv_iload_n hx hb dX9_about_28 rfl (lv_at hl 2 rfl) ?_
        rcases sw_cases y 6 with sw_6 | ⟨j_5, hj_5, ej_5⟩
        · exact absurd sw_6 (by have h1 := toInt_lt0 c9; have h2 := toInt_le_nI (n := 6) c15 (by decide); omega)
        · subst ej_5
          rcases (show j_5 = 0 ∨ j_5 = 1 ∨ j_5 = 2 ∨ j_5 = 3 ∨ j_5 = 4 ∨ j_5 = 5 ∨ j_5 = 6 by omega) with rfl | rfl | rfl | rfl | rfl | rfl | rfl
          · refine lv_tableIn (off := 43) (tgt := 72) hx hb dX9_about_29 (by decide) (by decide) (by decide) (by decide) ?_
            refine lv_aload_n hx hb dX9_about_72 rfl (lv_at hl 0 rfl) ?_
            refine mg_17 hx hb hts hown hK hP dX9_about_73 ?_
            refine lv_iload_n hx hb dX9_about_76 rfl (lv_at hl 1 rfl) ?_
            refine ml_17 (x := (a 17) x.toNatClampNeg) hx hb hK hP x.toNatClampNeg ex (by omega) rfl dX9_about_77 ?_
            exact fs_i hx hb hr hlocks hq ((a 17) x.toNatClampNeg, (c, up v 0 0, nm, a)) (by simp only [mAbout, mAboutV, if_neg (show ¬ (isIn x (c 21) = false) by rw [c5]; decide), if_neg c9, if_pos c15, swN_in (show 0 ≤ 6 by decide) (by decide)]; rfl) hP hD hS dX9_about_78 rfl
          · refine lv_tableIn (off := 50) (tgt := 79) hx hb dX9_about_29 (by decide) (by decide) (by decide) (by decide) ?_
            refine lv_aload_n hx hb dX9_about_79 rfl (lv_at hl 0 rfl) ?_
            refine lv_iload_n hx hb dX9_about_80 rfl (lv_at hl 1 rfl) ?_
            refine ro_V (rest := []) (st1 := [.int (fClamp (fChar (a 26) (a 37) (a 35) x (c 42)))]) (As := [.int x]) ⟨hx, hb, hml, hown, hts⟩ Gd0 trivial hS hK (c_X9_character l D h q k c (up v 0 0) nm a x hn) mi_X9_character wd_6_41 wp_4_0 wd_6_39 ⟨Nat.le_of_ble_eq_true rfl, Nat.le_of_ble_eq_true rfl⟩ (hP) 0 rfl rfl rfl hl.1 rfl (Nat.le_of_ble_eq_true rfl) rfl ⟨Nat.le_of_ble_eq_true rfl, Nat.le_of_ble_eq_true rfl⟩ dX9_about_81 ?_
            exact fs_i hx hb hr hlocks hq (fClamp (fChar (a 26) (a 37) (a 35) x (c 42)), (c, up v 0 0, nm, a)) (by simp only [mAbout, mAboutV, if_neg (show ¬ (isIn x (c 21) = false) by rw [c5]; decide), if_neg c9, if_pos c15, swN_in (show 1 ≤ 6 by decide) (by decide)]; rfl) hP hD hS dX9_about_84 rfl
          · refine lv_tableIn (off := 56) (tgt := 85) hx hb dX9_about_29 (by decide) (by decide) (by decide) (by decide) ?_
            refine lv_aload_n hx hb dX9_about_85 rfl (lv_at hl 0 rfl) ?_
            refine lv_iload_n hx hb dX9_about_86 rfl (lv_at hl 1 rfl) ?_
            refine ro_V (rest := []) (st1 := [.int (bI (fBarred (a 43) (a 45) (a 26) (a 37) ((a 3) 8) x (c 46) (c 42)))]) (As := [.int x]) ⟨hx, hb, hml, hown, hts⟩ Gd0 trivial hS hK (c_X9_isBarred l D h q k c (up v 0 0) nm a x hc hn) mi_X9_isBarred wd_5_201 wp_3_4 wd_5_199 ⟨Nat.le_of_ble_eq_true rfl, Nat.le_of_ble_eq_true rfl⟩ (hP) 0 rfl rfl rfl hl.1 rfl (Nat.le_of_ble_eq_true rfl) rfl ⟨Nat.le_of_ble_eq_true rfl, Nat.le_of_ble_eq_true rfl⟩ dX9_about_87 ?_
            refine lv_if_eq (tgt := 97) hx hb dX9_about_90 (by decide) (fun c90 => ?_) (fun c90 => ?_)
            · replace c90 : (fBarred (a 43) (a 45) (a 26) (a 37) ((a 3) 8) x (c 46) (c 42)) = false := bI_0.mp c90
              refine lv_iconst (v := 0) hx hb dX9_about_97 (by decide) ?_
              exact fs_i hx hb hr hlocks hq (0, (c, up v 0 0, nm, a)) (by simp only [mAbout, mAboutV, if_neg (show ¬ (isIn x (c 21) = false) by rw [c5]; decide), if_neg c9, if_pos c15, swN_in (show 2 ≤ 6 by decide) (by decide), c90]; rfl) hP hD hS dX9_about_98 rfl
            · replace c90 : (fBarred (a 43) (a 45) (a 26) (a 37) ((a 3) 8) x (c 46) (c 42)) = true := bI_n.mp c90
              refine lv_iconst (v := 1) hx hb dX9_about_93 (by decide) ?_
              refine lv_goto (tgt := 98) hx hb dX9_about_94 (by decide) ?_
              exact fs_i hx hb hr hlocks hq (1, (c, up v 0 0, nm, a)) (by simp only [mAbout, mAboutV, if_neg (show ¬ (isIn x (c 21) = false) by rw [c5]; decide), if_neg c9, if_pos c15, swN_in (show 2 ≤ 6 by decide) (by decide), c90]; rfl) hP hD hS dX9_about_98 rfl
          · refine lv_tableIn (off := 70) (tgt := 99) hx hb dX9_about_29 (by decide) (by decide) (by decide) (by decide) ?_
            refine lv_aload_n hx hb dX9_about_99 rfl (lv_at hl 0 rfl) ?_
            refine lv_iload_n hx hb dX9_about_100 rfl (lv_at hl 1 rfl) ?_
            refine ro_V (rest := []) (st1 := [.int (oI (fOpen (a 26) (a 37) x (c 42)))]) (As := [.int x]) ⟨hx, hb, hml, hown, hts⟩ Gd0 trivial hS hK (c_X9_openOf l D h q k c (up v 0 0) nm a x hn) mi_X9_openOf wd_5_197 wp_3_3 wd_5_195 ⟨Nat.le_of_ble_eq_true rfl, Nat.le_of_ble_eq_true rfl⟩ (hP) 0 rfl rfl rfl hl.1 rfl (Nat.le_of_ble_eq_true rfl) rfl ⟨Nat.le_of_ble_eq_true rfl, Nat.le_of_ble_eq_true rfl⟩ dX9_about_101 ?_
            exact fs_i hx hb hr hlocks hq (oI (fOpen (a 26) (a 37) x (c 42)), (c, up v 0 0, nm, a)) (by simp only [mAbout, mAboutV, if_neg (show ¬ (isIn x (c 21) = false) by rw [c5]; decide), if_neg c9, if_pos c15, swN_in (show 3 ≤ 6 by decide) (by decide)]; rfl) hP hD hS dX9_about_104 rfl
          · refine lv_tableIn (off := 76) (tgt := 105) hx hb dX9_about_29 (by decide) (by decide) (by decide) (by decide) ?_
            refine lv_aload_n hx hb dX9_about_105 rfl (lv_at hl 0 rfl) ?_
            refine lv_iload_n hx hb dX9_about_106 rfl (lv_at hl 1 rfl) ?_
            refine ro_V (rest := []) (st1 := [.int (fStands (a 37) (a 40) sn x (c 42))]) (As := [.int x]) ⟨hx, hb, hml, hown, hts⟩ Gd0 trivial hS hK (c_X9_standsFor l D h q k c (up v 0 0) nm a x hn sn hs) mi_X9_standsFor wd_5_209 wp_3_6 wd_5_207 ⟨Nat.le_of_ble_eq_true rfl, Nat.le_of_ble_eq_true rfl⟩ (hP) 0 rfl rfl rfl hl.1 rfl (Nat.le_of_ble_eq_true rfl) rfl ⟨Nat.le_of_ble_eq_true rfl, Nat.le_of_ble_eq_true rfl⟩ dX9_about_107 ?_
            exact fs_i hx hb hr hlocks hq (fStands (a 37) (a 40) sn x (c 42), (c, up v 0 0, nm, a)) (by simp only [mAbout, mAboutV, if_neg (show ¬ (isIn x (c 21) = false) by rw [c5]; decide), if_neg c9, if_pos c15, swN_in (show 4 ≤ 6 by decide) (by decide)]; rfl) hP hD hS dX9_about_110 rfl
          · refine lv_tableIn (off := 88) (tgt := 117) hx hb dX9_about_29 (by decide) (by decide) (by decide) (by decide) ?_
            refine lv_iconst (v := 0) hx hb dX9_about_117 (by decide) ?_
            refine lv_istore_n (lv' := [(3, .int 0), (0, .ref h), (1, .int x), (2, .int (nI 5))]) hx hb dX9_about_118 rfl hl (by decide) rfl (fun ls hl => ?_)
            have L : ∀ (r i : Nat) (z : Int32), i + r = c 46 → lp (fun i s => if a 43 i = x then (if a 45 i ≤ 0 then s else s + 1) else s) r i z = fUnpaid (a 43) (a 45) x (c 46) → ∀ (ls : Array Slot), lv_has ls 5 [(0, .ref h), (1, .int x), (2, .int (nI 5)), (3, .int z), (4, .int (nI i))] → W p l e (rmd 1 0 0) s m args below meth c_ H locs 0 0 Q (F0 m 122 ls []) := by
              intro r
              induction r with
              | zero =>
                intro i z hi he ls hl
                refine lv_iload hx hb dX9_about_122 (lv_at hl 4 rfl) ?_
                refine lv_aload_n hx hb dX9_about_124 rfl (lv_at hl 0 rfl) ?_
                refine mg_46 (x := nI (c 46)) hx hb hts hown hK hP rfl dX9_about_125 ?_
                refine lv_icmp_ge (tgt := 161) hx hb dX9_about_128 (by decide) (fun c128 => ?_) (fun c128 => absurd (nI_le (by omega) (by omega)) c128)
                refine lv_iload_n hx hb dX9_about_161 rfl (lv_at hl 3 rfl) ?_
                exact fs_i hx hb hr hlocks hq (z, (c, up v 0 0, nm, a)) (by simp only [mAbout, if_neg (show ¬ (isIn x (c 21) = false) by rw [c5]; decide), if_neg c9, if_pos c15, mAboutV, swN_in (show 5 ≤ 6 by decide) (show 6 < 2 ^ 31 by decide)]; rw [← he]; rfl) hP hD hS dX9_about_162 rfl
              | succ r ih =>
                intro i z hi he ls hl
                refine lv_iload hx hb dX9_about_122 (lv_at hl 4 rfl) ?_
                refine lv_aload_n hx hb dX9_about_124 rfl (lv_at hl 0 rfl) ?_
                refine mg_46 (x := nI (c 46)) hx hb hts hown hK hP rfl dX9_about_125 ?_
                refine lv_icmp_ge (tgt := 161) hx hb dX9_about_128 (by decide) (fun c128 => absurd c128 (nI_ge (by omega) (by omega))) (fun c128 => ?_)
                refine lv_aload_n hx hb dX9_about_131 rfl (lv_at hl 0 rfl) ?_
                refine mg_43 hx hb hts hown hK hP dX9_about_132 ?_
                refine lv_iload hx hb dX9_about_135 (lv_at hl 4 rfl) ?_
                refine ml_43 (x := (a 43) i) hx hb hK hP i rfl (by omega) rfl dX9_about_137 ?_
                refine lv_iload_n hx hb dX9_about_138 rfl (lv_at hl 1 rfl) ?_
                refine lv_icmp_ne (tgt := 155) hx hb dX9_about_139 (by decide) (fun c139 => ?_) (fun c139 => ?_)
                · refine lv_iinc (v := nI (i + 1)) (lv' := [(4, .int (nI (i + 1))), (0, .ref h), (1, .int x), (2, .int (nI 5)), (3, .int z)]) hx hb dX9_about_155 hl (k := 4) rfl (nI_1 _) (by decide) rfl (fun ls hl => ?_)
                  refine lv_goto (tgt := 122) hx hb dX9_about_158 (by decide) ?_
                  exact ih (i + 1) z (by omega) (by rw [← he]; simp only [lp, if_neg c139]) ls (lv_sub hl [1, 2, 3, 4, 0] rfl)
                · refine lv_aload_n hx hb dX9_about_142 rfl (lv_at hl 0 rfl) ?_
                  refine mg_45 hx hb hts hown hK hP dX9_about_143 ?_
                  refine lv_iload hx hb dX9_about_146 (lv_at hl 4 rfl) ?_
                  refine ml_45 (x := (a 45) i) hx hb hK hP i rfl (by omega) rfl dX9_about_148 ?_
                  refine lv_if_le (tgt := 155) hx hb dX9_about_149 (by decide) (fun c149 => ?_) (fun c149 => ?_)
                  · refine lv_iinc (v := nI (i + 1)) (lv' := [(4, .int (nI (i + 1))), (0, .ref h), (1, .int x), (2, .int (nI 5)), (3, .int z)]) hx hb dX9_about_155 hl (k := 4) rfl (nI_1 _) (by decide) rfl (fun ls hl => ?_)
                    refine lv_goto (tgt := 122) hx hb dX9_about_158 (by decide) ?_
                    exact ih (i + 1) z (by omega) (by rw [← he]; simp only [lp, if_pos c139, if_pos c149]) ls (lv_sub hl [1, 2, 3, 4, 0] rfl)
                  · refine lv_iinc (v := z + 1) (lv' := [(3, .int (z + 1)), (0, .ref h), (1, .int x), (2, .int (nI 5)), (4, .int (nI i))]) hx hb dX9_about_152 hl (k := 3) rfl (rfl) (by decide) rfl (fun ls hl => ?_)
                    refine lv_iinc (v := nI (i + 1)) (lv' := [(4, .int (nI (i + 1))), (3, .int (z + 1)), (0, .ref h), (1, .int x), (2, .int (nI 5))]) hx hb dX9_about_155 hl (k := 4) rfl (nI_1 _) (by decide) rfl (fun ls hl => ?_)
                    refine lv_goto (tgt := 122) hx hb dX9_about_158 (by decide) ?_
                    exact ih (i + 1) (z + 1) (by omega) (by rw [← he]; simp only [lp, if_pos c139, if_neg c149]) ls (lv_sub hl [2, 3, 4, 1, 0] rfl)
            refine lv_iconst (v := 0) hx hb dX9_about_119 (by decide) ?_
            refine lv_istore (lv' := [(4, .int 0), (3, .int 0), (0, .ref h), (1, .int x), (2, .int (nI 5))]) hx hb dX9_about_120 hl (by decide) rfl (fun ls hl => ?_)
            exact L (c 46) 0 0 (by omega) (rfl) ls (lv_sub hl [2, 3, 4, 1, 0] rfl)
          · refine lv_tableIn (off := 82) (tgt := 111) hx hb dX9_about_29 (by decide) (by decide) (by decide) (by decide) ?_
            refine lv_aload_n hx hb dX9_about_111 rfl (lv_at hl 0 rfl) ?_
            refine lv_iload_n hx hb dX9_about_112 rfl (lv_at hl 1 rfl) ?_
            refine ro_V (rest := []) (st1 := [.int (fCallsOf (a 43) (a 45) x (c 46))]) (As := [.int x]) ⟨hx, hb, hml, hown, hts⟩ Gd0 trivial hS hK (c_X9_callsOf l D h q k c (up v 0 0) nm a x hc) mi_X9_callsOf wd_5_233 wp_3_11 wd_5_231 ⟨Nat.le_of_ble_eq_true rfl, Nat.le_of_ble_eq_true rfl⟩ (hP) 0 rfl rfl rfl hl.1 rfl (Nat.le_of_ble_eq_true rfl) rfl ⟨Nat.le_of_ble_eq_true rfl, Nat.le_of_ble_eq_true rfl⟩ dX9_about_113 ?_
            exact fs_i hx hb hr hlocks hq (fCallsOf (a 43) (a 45) x (c 46), (c, up v 0 0, nm, a)) (by simp only [mAbout, mAboutV, if_neg (show ¬ (isIn x (c 21) = false) by rw [c5]; decide), if_neg c9, if_pos c15, swN_in (show 6 ≤ 6 by decide) (by decide)]; rfl) hP hD hS dX9_about_116 rfl
      · refine lv_aload_n hx hb dX9_about_18 rfl (lv_at hl 0 rfl) ?_
        refine fs_Vw (rest := []) (As := []) ⟨hx, hb, hml, hown, hts⟩ Gd0 trivial hS hA hK (hP) (hD) (c_X9_refuse l D h q k c v nm a  ) mi_X9_refuse wd_6_25 wp_3_15 wd_6_23 ⟨Nat.le_of_ble_eq_true rfl, Nat.le_of_ble_eq_true rfl⟩ 0 rfl rfl rfl hl.1 rfl (Nat.le_of_ble_eq_true rfl) ⟨Nat.le_of_ble_eq_true rfl, Nat.le_of_ble_eq_true rfl⟩ dX9_about_19 (fun u_7 H locs hu_8 hP hD hS => ?_)
        subst hu_8
        replace hP : va_P D vwCl (Mw h q k c (up v 0 1) nm a) H := hP
        replace hD : va_D A (Mw h q k c (up v 0 1) nm a) := hD
        refine W.eq (g2 := F0 m 22 ls [.int 0]) rfl ?_
        exact fs_i hx hb hr hlocks hq (0, (c, up v 0 1, nm, a)) (by simp only [mAbout, if_neg (show ¬ (isIn x (c 21) = false) by rw [c5]; decide), if_neg c9, if_neg c15]; rfl) hP hD hS dX9_about_22 rfl
set_option maxHeartbeats 4000000 in
set_option maxRecDepth 100000 in
theorem c_X9_surety (l : Launch) (D : va_G) (h : Nat) (q : Nat → Nat) (k : Nat → ClassId) (c : Nat → Nat) (v : Nat → Int32) (nm : Int64) (a : Nat → Nat → Int32) (x : Int32) (y : Int32) (hn : c 42 ≤ 100) (sn : Nat → Nat) (hs : ∀ k, k < c 42 → a 39 k = nI (sn k) ∧ sn k ≤ 3) : Fs (S := Int32 × MSt) l yX9_surety cX9_surety 3 (some .int) 1 0 0 D (TY k) G0 [.ref h, .int x, .int y] (Mw h q k c v nm a) (fun u => some (.int u.1)) (fun u => u = mSurety x y (c, v, nm, a)) (fun u => MwU h q k u.2) := by
  refine fs_body (by decide +kernel) (Nat.le_of_ble_eq_true rfl) ?_
  intro p e s m args below meth c_ Q A hx hb hml hown hts hK hP hD hS hA hG hin hr hq hlocks ls hl
  replace hl : lv_has ls 3 [(0, .ref h), (1, .int x), (2, .int y)] := hl
  change s.vm.findClass RX9 = some m.cls at hown
  refine lv_aload_n hx hb dX9_surety_0 rfl (lv_at hl 0 rfl) ?_
  refine lv_iload_n hx hb dX9_surety_1 rfl (lv_at hl 1 rfl) ?_
  refine ro_V (rest := []) (st1 := [.int (bI (isIn x (c 42)))]) (As := [.int x]) ⟨hx, hb, hml, hown, hts⟩ Gd0 trivial hS hK (c_X9_isLoan l D h q k c v nm a x ) mi_X9_isLoan wd_6_21 wp_3_14 wd_6_19 ⟨Nat.le_of_ble_eq_true rfl, Nat.le_of_ble_eq_true rfl⟩ (hP) 0 rfl rfl rfl hl.1 rfl (Nat.le_of_ble_eq_true rfl) rfl ⟨Nat.le_of_ble_eq_true rfl, Nat.le_of_ble_eq_true rfl⟩ dX9_surety_2 ?_
  refine lv_if_eq (tgt := 22) hx hb dX9_surety_5 (by decide) (fun c5 => ?_) (fun c5 => ?_)
  · replace c5 : (isIn x (c 42)) = false := bI_0.mp c5
    refine lv_aload_n hx hb dX9_surety_22 rfl (lv_at hl 0 rfl) ?_
    refine fs_Vw (rest := []) (As := []) ⟨hx, hb, hml, hown, hts⟩ Gd0 trivial hS hA hK (hP) (hD) (c_X9_refuse l D h q k c v nm a  ) mi_X9_refuse wd_6_25 wp_3_15 wd_6_23 ⟨Nat.le_of_ble_eq_true rfl, Nat.le_of_ble_eq_true rfl⟩ 0 rfl rfl rfl hl.1 rfl (Nat.le_of_ble_eq_true rfl) ⟨Nat.le_of_ble_eq_true rfl, Nat.le_of_ble_eq_true rfl⟩ dX9_surety_23 (fun u_1 H locs hu_2 hP hD hS => ?_)
    subst hu_2
    replace hP : va_P D vwCl (Mw h q k c (up v 0 1) nm a) H := hP
    replace hD : va_D A (Mw h q k c (up v 0 1) nm a) := hD
    refine W.eq (g2 := F0 m 26 ls [.int 0]) rfl ?_
    exact fs_i hx hb hr hlocks hq (0, (c, up v 0 1, nm, a)) (by simp only [mSurety, if_pos c5]; rfl) hP hD hS dX9_surety_26 rfl
  · replace c5 : (isIn x (c 42)) = true := bI_n.mp c5
    obtain ⟨ex, hjx⟩ := isIn_spec c5 (by omega)
    refine lv_iload_n hx hb dX9_surety_8 rfl (lv_at hl 2 rfl) ?_
    refine lv_if_lt (tgt := 22) hx hb dX9_surety_9 (by decide) (fun c9 => ?_) (fun c9 => ?_)
    · refine lv_aload_n hx hb dX9_surety_22 rfl (lv_at hl 0 rfl) ?_
      refine fs_Vw (rest := []) (As := []) ⟨hx, hb, hml, hown, hts⟩ Gd0 trivial hS hA hK (hP) (hD) (c_X9_refuse l D h q k c v nm a  ) mi_X9_refuse wd_6_25 wp_3_15 wd_6_23 ⟨Nat.le_of_ble_eq_true rfl, Nat.le_of_ble_eq_true rfl⟩ 0 rfl rfl rfl hl.1 rfl (Nat.le_of_ble_eq_true rfl) ⟨Nat.le_of_ble_eq_true rfl, Nat.le_of_ble_eq_true rfl⟩ dX9_surety_23 (fun u_3 H locs hu_4 hP hD hS => ?_)
      subst hu_4
      replace hP : va_P D vwCl (Mw h q k c (up v 0 1) nm a) H := hP
      replace hD : va_D A (Mw h q k c (up v 0 1) nm a) := hD
      refine W.eq (g2 := F0 m 26 ls [.int 0]) rfl ?_
      exact fs_i hx hb hr hlocks hq (0, (c, up v 0 1, nm, a)) (by simp only [mSurety, if_neg (show ¬ (isIn x (c 42) = false) by rw [c5]; decide), if_pos c9]; rfl) hP hD hS dX9_surety_26 rfl
    · refine lv_iload_n hx hb dX9_surety_12 rfl (lv_at hl 2 rfl) ?_
      refine lv_aload_n hx hb dX9_surety_13 rfl (lv_at hl 0 rfl) ?_
      refine mg_39 hx hb hts hown hK hP dX9_surety_14 ?_
      refine lv_iload_n hx hb dX9_surety_17 rfl (lv_at hl 1 rfl) ?_
      refine ml_39 (x := (a 39) x.toNatClampNeg) hx hb hK hP x.toNatClampNeg ex (by omega) rfl dX9_surety_18 ?_
      refine lv_icmp_lt (tgt := 27) hx hb dX9_surety_19 (by decide) (fun c19 => ?_) (fun c19 => ?_)
      · have hsn := (hs _ hjx).2
        have hyj : y.toNatClampNeg < sn x.toNatClampNeg := clamp_lt c9 (by rw [← (hs _ hjx).1]; exact c19) (by omega)
        refine lv_aload_n hx hb dX9_surety_27 rfl (lv_at hl 0 rfl) ?_
        refine lv_iconst (v := 0) hx hb dX9_surety_28 (by decide) ?_
        refine mp_0 hx hb hts hown hK hP hD hS 0 dX9_surety_29 (fun H locs hP hD hS => ?_)
        refine lv_aload_n hx hb dX9_surety_32 rfl (lv_at hl 0 rfl) ?_
        refine mg_40 hx hb hts hown hK hP dX9_surety_33 ?_
        refine lv_iconst (v := 3) hx hb dX9_surety_36 (by decide) ?_
        refine lv_iload_n hx hb dX9_surety_37 rfl (lv_at hl 1 rfl) ?_
        refine rw_topi (y := nI x.toNatClampNeg) (ex) ?_
        refine lv_imul hx hb dX9_surety_38 ?_
        refine rw_topi (y := nI (3 * x.toNatClampNeg)) (pk_mul _ _) ?_
        refine lv_iload_n hx hb dX9_surety_39 rfl (lv_at hl 2 rfl) ?_
        refine rw_topi (y := nI y.toNatClampNeg) (nI_self c9) ?_
        refine lv_iadd hx hb dX9_surety_40 ?_
        refine rw_topi (y := nI ((3 * x.toNatClampNeg) + y.toNatClampNeg)) (nI_add _ _) ?_
        refine ml_40 (x := (a 40) ((3 * x.toNatClampNeg) + y.toNatClampNeg)) hx hb hK hP ((3 * x.toNatClampNeg) + y.toNatClampNeg) rfl (by omega) rfl dX9_surety_41 ?_
        exact fs_i hx hb hr hlocks hq ((a 40) ((3 * x.toNatClampNeg) + y.toNatClampNeg), (c, up v 0 0, nm, a)) (by simp only [mSurety, if_neg (show ¬ (isIn x (c 42) = false) by rw [c5]; decide), if_neg c9, if_pos c19]; rfl) hP hD hS dX9_surety_42 rfl
      · refine lv_aload_n hx hb dX9_surety_22 rfl (lv_at hl 0 rfl) ?_
        refine fs_Vw (rest := []) (As := []) ⟨hx, hb, hml, hown, hts⟩ Gd0 trivial hS hA hK (hP) (hD) (c_X9_refuse l D h q k c v nm a  ) mi_X9_refuse wd_6_25 wp_3_15 wd_6_23 ⟨Nat.le_of_ble_eq_true rfl, Nat.le_of_ble_eq_true rfl⟩ 0 rfl rfl rfl hl.1 rfl (Nat.le_of_ble_eq_true rfl) ⟨Nat.le_of_ble_eq_true rfl, Nat.le_of_ble_eq_true rfl⟩ dX9_surety_23 (fun u_5 H locs hu_6 hP hD hS => ?_)
        subst hu_6
        replace hP : va_P D vwCl (Mw h q k c (up v 0 1) nm a) H := hP
        replace hD : va_D A (Mw h q k c (up v 0 1) nm a) := hD
        refine W.eq (g2 := F0 m 26 ls [.int 0]) rfl ?_
        exact fs_i hx hb hr hlocks hq (0, (c, up v 0 1, nm, a)) (by simp only [mSurety, if_neg (show ¬ (isIn x (c 42) = false) by rw [c5]; decide), if_neg c9, if_neg c19]; rfl) hP hD hS dX9_surety_26 rfl
set_option maxHeartbeats 4000000 in
set_option maxRecDepth 100000 in
theorem c_X9_taken (l : Launch) (D : va_G) (h : Nat) (q : Nat → Nat) (k : Nat → ClassId) (c : Nat → Nat) (v : Nat → Int32) (nm : Int64) (a : Nat → Nat → Int32) (x : Int32) (y : Int32) (hn : c 42 ≤ 100) (hf : c 22 ≤ 6) : Fs (S := Int32 × MSt) l yX9_taken cX9_taken 3 (some .int) 1 0 0 D (TY k) G0 [.ref h, .int x, .int y] (Mw h q k c v nm a) (fun u => some (.int u.1)) (fun u => u = mTaken x y (c, v, nm, a)) (fun u => MwU h q k u.2) := by
  refine fs_body (by decide +kernel) (Nat.le_of_ble_eq_true rfl) ?_
  intro p e s m args below meth c_ Q A hx hb hml hown hts hK hP hD hS hA hG hin hr hq hlocks ls hl
  replace hl : lv_has ls 3 [(0, .ref h), (1, .int x), (2, .int y)] := hl
  change s.vm.findClass RX9 = some m.cls at hown
  refine lv_aload_n hx hb dX9_taken_0 rfl (lv_at hl 0 rfl) ?_
  refine lv_iload_n hx hb dX9_taken_1 rfl (lv_at hl 1 rfl) ?_
  refine ro_V (rest := []) (st1 := [.int (bI (isIn x (c 42)))]) (As := [.int x]) ⟨hx, hb, hml, hown, hts⟩ Gd0 trivial hS hK (c_X9_isLoan l D h q k c v nm a x ) mi_X9_isLoan wd_6_21 wp_3_14 wd_6_19 ⟨Nat.le_of_ble_eq_true rfl, Nat.le_of_ble_eq_true rfl⟩ (hP) 0 rfl rfl rfl hl.1 rfl (Nat.le_of_ble_eq_true rfl) rfl ⟨Nat.le_of_ble_eq_true rfl, Nat.le_of_ble_eq_true rfl⟩ dX9_taken_2 ?_
  refine lv_if_eq (tgt := 16) hx hb dX9_taken_5 (by decide) (fun c5 => ?_) (fun c5 => ?_)
  · replace c5 : (isIn x (c 42)) = false := bI_0.mp c5
    refine lv_aload_n hx hb dX9_taken_16 rfl (lv_at hl 0 rfl) ?_
    refine fs_Vw (rest := []) (As := []) ⟨hx, hb, hml, hown, hts⟩ Gd0 trivial hS hA hK (hP) (hD) (c_X9_refuse l D h q k c v nm a  ) mi_X9_refuse wd_6_25 wp_3_15 wd_6_23 ⟨Nat.le_of_ble_eq_true rfl, Nat.le_of_ble_eq_true rfl⟩ 0 rfl rfl rfl hl.1 rfl (Nat.le_of_ble_eq_true rfl) ⟨Nat.le_of_ble_eq_true rfl, Nat.le_of_ble_eq_true rfl⟩ dX9_taken_17 (fun u_1 H locs hu_2 hP hD hS => ?_)
    subst hu_2
    replace hP : va_P D vwCl (Mw h q k c (up v 0 1) nm a) H := hP
    replace hD : va_D A (Mw h q k c (up v 0 1) nm a) := hD
    refine W.eq (g2 := F0 m 20 ls [.int 0]) rfl ?_
    exact fs_i hx hb hr hlocks hq (0, (c, up v 0 1, nm, a)) (by simp only [mTaken, if_pos c5]; rfl) hP hD hS dX9_taken_20 rfl
  · replace c5 : (isIn x (c 42)) = true := bI_n.mp c5
    obtain ⟨ex, hjx⟩ := isIn_spec c5 (by omega)
    refine lv_aload_n hx hb dX9_taken_8 rfl (lv_at hl 0 rfl) ?_
    refine lv_iload_n hx hb dX9_taken_9 rfl (lv_at hl 2 rfl) ?_
    refine ro_V (rest := []) (st1 := [.int (bI (isIn y (c 22)))]) (As := [.int y]) ⟨hx, hb, hml, hown, hts⟩ Gd0 trivial hS hK (c_X9_isFund l D h q k c v nm a y ) mi_X9_isFund wd_5_184 wp_3_1 wd_5_182 ⟨Nat.le_of_ble_eq_true rfl, Nat.le_of_ble_eq_true rfl⟩ (hP) 0 rfl rfl rfl hl.1 rfl (Nat.le_of_ble_eq_true rfl) rfl ⟨Nat.le_of_ble_eq_true rfl, Nat.le_of_ble_eq_true rfl⟩ dX9_taken_10 ?_
    refine lv_if_ne (tgt := 21) hx hb dX9_taken_13 (by decide) (fun c13 => ?_) (fun c13 => ?_)
    · replace c13 : (isIn y (c 22)) = true := bI_n.mp c13
      obtain ⟨ey, hjy⟩ := isIn_spec c13 (by omega)
      refine lv_aload_n hx hb dX9_taken_21 rfl (lv_at hl 0 rfl) ?_
      refine lv_iconst (v := 0) hx hb dX9_taken_22 (by decide) ?_
      refine mp_0 hx hb hts hown hK hP hD hS 0 dX9_taken_23 (fun H locs hP hD hS => ?_)
      refine lv_aload_n hx hb dX9_taken_26 rfl (lv_at hl 0 rfl) ?_
      refine mg_41 hx hb hts hown hK hP dX9_taken_27 ?_
      refine lv_bipush (v := 6) hx hb dX9_taken_30 (by decide) ?_
      refine lv_iload_n hx hb dX9_taken_32 rfl (lv_at hl 1 rfl) ?_
      refine rw_topi (y := nI x.toNatClampNeg) (ex) ?_
      refine lv_imul hx hb dX9_taken_33 ?_
      refine rw_topi (y := nI (6 * x.toNatClampNeg)) (pk_mul _ _) ?_
      refine lv_iload_n hx hb dX9_taken_34 rfl (lv_at hl 2 rfl) ?_
      refine rw_topi (y := nI y.toNatClampNeg) (ey) ?_
      refine lv_iadd hx hb dX9_taken_35 ?_
      refine rw_topi (y := nI ((6 * x.toNatClampNeg) + y.toNatClampNeg)) (nI_add _ _) ?_
      refine ml_41 (x := (a 41) ((6 * x.toNatClampNeg) + y.toNatClampNeg)) hx hb hK hP ((6 * x.toNatClampNeg) + y.toNatClampNeg) rfl (by omega) rfl dX9_taken_36 ?_
      exact fs_i hx hb hr hlocks hq ((a 41) ((6 * x.toNatClampNeg) + y.toNatClampNeg), (c, up v 0 0, nm, a)) (by simp only [mTaken, if_neg (show ¬ (isIn x (c 42) = false) by rw [c5]; decide), if_pos c13]; rfl) hP hD hS dX9_taken_37 rfl
    · replace c13 : (isIn y (c 22)) = false := bI_0.mp c13
      refine lv_aload_n hx hb dX9_taken_16 rfl (lv_at hl 0 rfl) ?_
      refine fs_Vw (rest := []) (As := []) ⟨hx, hb, hml, hown, hts⟩ Gd0 trivial hS hA hK (hP) (hD) (c_X9_refuse l D h q k c v nm a  ) mi_X9_refuse wd_6_25 wp_3_15 wd_6_23 ⟨Nat.le_of_ble_eq_true rfl, Nat.le_of_ble_eq_true rfl⟩ 0 rfl rfl rfl hl.1 rfl (Nat.le_of_ble_eq_true rfl) ⟨Nat.le_of_ble_eq_true rfl, Nat.le_of_ble_eq_true rfl⟩ dX9_taken_17 (fun u_3 H locs hu_4 hP hD hS => ?_)
      subst hu_4
      replace hP : va_P D vwCl (Mw h q k c (up v 0 1) nm a) H := hP
      replace hD : va_D A (Mw h q k c (up v 0 1) nm a) := hD
      refine W.eq (g2 := F0 m 20 ls [.int 0]) rfl ?_
      exact fs_i hx hb hr hlocks hq (0, (c, up v 0 1, nm, a)) (by simp only [mTaken, if_neg (show ¬ (isIn x (c 42) = false) by rw [c5]; decide), if_neg (show ¬ (isIn y (c 22) = true) by rw [c13]; decide)]; rfl) hP hD hS dX9_taken_20 rfl
set_option maxHeartbeats 4000000 in
set_option maxRecDepth 100000 in
theorem c_X9_chest (l : Launch) (D : va_G) (h : Nat) (q : Nat → Nat) (k : Nat → ClassId) (c : Nat → Nat) (v : Nat → Int32) (nm : Int64) (a : Nat → Nat → Int32) (x : Int32) (y : Int32) (hf : c 22 ≤ 6) (hw : c 23 ≤ 400) : Fs (S := Int32 × MSt) l yX9_chest cX9_chest 3 (some .int) 1 0 0 D (TY k) G0 [.ref h, .int x, .int y] (Mw h q k c v nm a) (fun u => some (.int u.1)) (fun u => u = mChest x y (c, v, nm, a)) (fun u => MwU h q k u.2) := by
  refine fs_body (by decide +kernel) (Nat.le_of_ble_eq_true rfl) ?_
  intro p e s m args below meth c_ Q A hx hb hml hown hts hK hP hD hS hA hG hin hr hq hlocks ls hl
  replace hl : lv_has ls 3 [(0, .ref h), (1, .int x), (2, .int y)] := hl
  change s.vm.findClass RX9 = some m.cls at hown
  refine lv_aload_n hx hb dX9_chest_0 rfl (lv_at hl 0 rfl) ?_
  refine lv_iconst (v := 0) hx hb dX9_chest_1 (by decide) ?_
  refine mp_0 hx hb hts hown hK hP hD hS 0 dX9_chest_2 (fun H locs hP hD hS => ?_)
  refine lv_aload_n hx hb dX9_chest_5 rfl (lv_at hl 0 rfl) ?_
  refine lv_iload_n hx hb dX9_chest_6 rfl (lv_at hl 1 rfl) ?_
  refine ro_V (rest := []) (st1 := [.int (bI (isIn x (c 22)))]) (As := [.int x]) ⟨hx, hb, hml, hown, hts⟩ Gd0 trivial hS hK (c_X9_isFund l D h q k c (up v 0 0) nm a x ) mi_X9_isFund wd_5_184 wp_3_1 wd_5_182 ⟨Nat.le_of_ble_eq_true rfl, Nat.le_of_ble_eq_true rfl⟩ (hP) 0 rfl rfl rfl hl.1 rfl (Nat.le_of_ble_eq_true rfl) rfl ⟨Nat.le_of_ble_eq_true rfl, Nat.le_of_ble_eq_true rfl⟩ dX9_chest_7 ?_
  refine lv_if_eq (tgt := 25) hx hb dX9_chest_10 (by decide) (fun c10 => ?_) (fun c10 => ?_)
  · replace c10 : (isIn x (c 22)) = false := bI_0.mp c10
    refine lv_iconst (v := (-1)) hx hb dX9_chest_25 (by decide) ?_
    exact fs_i hx hb hr hlocks hq ((-1), (c, up v 0 0, nm, a)) (by simp only [mChest, if_pos c10]; rfl) hP hD hS dX9_chest_26 rfl
  · replace c10 : (isIn x (c 22)) = true := bI_n.mp c10
    obtain ⟨ex, hjx⟩ := isIn_spec c10 (by omega)
    refine lv_iload_n hx hb dX9_chest_13 rfl (lv_at hl 2 rfl) ?_
    refine lv_if_lt (tgt := 25) hx hb dX9_chest_14 (by decide) (fun c14 => ?_) (fun c14 => ?_)
    · refine lv_iconst (v := (-1)) hx hb dX9_chest_25 (by decide) ?_
      exact fs_i hx hb hr hlocks hq ((-1), (c, up v 0 0, nm, a)) (by simp only [mChest, if_neg (show ¬ (isIn x (c 22) = false) by rw [c10]; decide), if_pos c14]; rfl) hP hD hS dX9_chest_26 rfl
    · refine lv_iload_n hx hb dX9_chest_17 rfl (lv_at hl 2 rfl) ?_
      refine lv_aload_n hx hb dX9_chest_18 rfl (lv_at hl 0 rfl) ?_
      refine mg_23 (x := nI (c 23)) hx hb hts hown hK hP rfl dX9_chest_19 ?_
      refine lv_icmp_le (tgt := 27) hx hb dX9_chest_22 (by decide) (fun c22 => ?_) (fun c22 => ?_)
      · have hyl := clamp_le c14 c22 (by omega)
        refine lv_iload_n hx hb dX9_chest_27 rfl (lv_at hl 2 rfl) ?_
        refine lv_aload_n hx hb dX9_chest_28 rfl (lv_at hl 0 rfl) ?_
        refine mg_23 (x := nI (c 23)) hx hb hts hown hK hP rfl dX9_chest_29 ?_
        refine lv_icmp_ne (tgt := 44) hx hb dX9_chest_32 (by decide) (fun c32 => ?_) (fun c32 => ?_)
        · refine lv_aload_n hx hb dX9_chest_44 rfl (lv_at hl 0 rfl) ?_
          refine mg_20 hx hb hts hown hK hP dX9_chest_45 ?_
          refine lv_bipush (v := 6) hx hb dX9_chest_48 (by decide) ?_
          refine lv_iload_n hx hb dX9_chest_50 rfl (lv_at hl 2 rfl) ?_
          refine rw_topi (y := nI y.toNatClampNeg) (nI_self c14) ?_
          refine lv_imul hx hb dX9_chest_51 ?_
          refine rw_topi (y := nI (6 * y.toNatClampNeg)) (pk_mul _ _) ?_
          refine lv_iload_n hx hb dX9_chest_52 rfl (lv_at hl 1 rfl) ?_
          refine rw_topi (y := nI x.toNatClampNeg) (ex) ?_
          refine lv_iadd hx hb dX9_chest_53 ?_
          refine rw_topi (y := nI ((6 * y.toNatClampNeg) + x.toNatClampNeg)) (nI_add _ _) ?_
          refine ml_20 (x := (a 20) ((6 * y.toNatClampNeg) + x.toNatClampNeg)) hx hb hK hP ((6 * y.toNatClampNeg) + x.toNatClampNeg) rfl (by omega) rfl dX9_chest_54 ?_
          exact fs_i hx hb hr hlocks hq ((a 20) ((6 * y.toNatClampNeg) + x.toNatClampNeg), (c, up v 0 0, nm, a)) (by simp only [mChest, if_neg (show ¬ (isIn x (c 22) = false) by rw [c10]; decide), if_neg c14, if_pos c22, if_neg c32]; rfl) hP hD hS dX9_chest_55 rfl
        · refine lv_aload_n hx hb dX9_chest_35 rfl (lv_at hl 0 rfl) ?_
          refine mg_19 hx hb hts hown hK hP dX9_chest_36 ?_
          refine lv_iload_n hx hb dX9_chest_39 rfl (lv_at hl 1 rfl) ?_
          refine ml_19 (x := (a 19) x.toNatClampNeg) hx hb hK hP x.toNatClampNeg ex (by omega) rfl dX9_chest_40 ?_
          refine lv_goto (tgt := 55) hx hb dX9_chest_41 (by decide) ?_
          exact fs_i hx hb hr hlocks hq ((a 19) x.toNatClampNeg, (c, up v 0 0, nm, a)) (by simp only [mChest, if_neg (show ¬ (isIn x (c 22) = false) by rw [c10]; decide), if_neg c14, if_pos c22, if_pos c32]; rfl) hP hD hS dX9_chest_55 rfl
      · refine lv_iconst (v := (-1)) hx hb dX9_chest_25 (by decide) ?_
        exact fs_i hx hb hr hlocks hq ((-1), (c, up v 0 0, nm, a)) (by simp only [mChest, if_neg (show ¬ (isIn x (c 22) = false) by rw [c10]; decide), if_neg c14, if_neg c22]; rfl) hP hD hS dX9_chest_26 rfl
end
section
def fClear (f : Nat → Int32) : Nat → Int32 := lp (fun i f => upd f i (-1)) 40 0 f
def mClear (u : MSt) : MSt := (u.1, u.2.1, u.2.2.1, up u.2.2.2 47 (fClear (u.2.2.2 47)))
set_option maxHeartbeats 4000000 in
set_option maxRecDepth 100000 in
theorem c_X9_clear (l : Launch) (D : va_G) (h : Nat) (q : Nat → Nat) (k : Nat → ClassId) (c : Nat → Nat) (v : Nat → Int32) (nm : Int64) (a : Nat → Nat → Int32) : Fs (S := MSt) l yX9_clear cX9_clear 2 none 0 0 0 D (TY k) G0 [.ref h] (Mw h q k c v nm a) (fun _ => none) (fun u => u = mClear (c, v, nm, a)) (fun u => MwU h q k u) := by
  refine fs_body (by decide +kernel) (Nat.le_of_ble_eq_true rfl) ?_
  intro p e s m args below meth c_ Q A hx hb hml hown hts hK hP hD hS hA hG hin hr hq hlocks ls hl
  replace hl : lv_has ls 2 [(0, .ref h)] := hl
  change s.vm.findClass RX9 = some m.cls at hown
  have L : ∀ (r i : Nat) (f : Nat → Int32) (H : Heap) (locs : List Loc), i + r = 40 → lp (fun i f => upd f i (-1)) r i f = fClear (a 47) → va_P D vwCl (Mw h q k c v nm (up a 47 f)) H → va_D A (Mw h q k c v nm (up a 47 f)) → va_S A s.heap H locs → ∀ (ls : Array Slot), lv_has ls 2 [(0, .ref h), (1, .int (nI i))] → W p l e (rmd 0 0 0) s m args below meth c_ H locs 0 0 Q (F0 m 2 ls []) := by
    intro r
    induction r with
    | zero =>
      intro i f H locs hi he hP hD hS ls hl
      refine lv_iload_n hx hb dX9_clear_2 rfl (lv_at hl 1 rfl) ?_
      refine lv_bipush (v := 40) hx hb dX9_clear_3 (by decide) ?_
      refine lv_icmp_ge (tgt := 21) hx hb dX9_clear_5 (by decide) (fun c5 => ?_) (fun c5 => absurd (nI_le (a := 40) (by omega) (by omega)) c5)
      exact fs_v hx hb hr hlocks hq (c, v, nm, up a 47 f) (by rw [mClear, ← he]; rfl) hP hD hS dX9_clear_21 rfl
    | succ r ih =>
      intro i f H locs hi he hP hD hS ls hl
      refine lv_iload_n hx hb dX9_clear_2 rfl (lv_at hl 1 rfl) ?_
      refine lv_bipush (v := 40) hx hb dX9_clear_3 (by decide) ?_
      refine lv_icmp_ge (tgt := 21) hx hb dX9_clear_5 (by decide) (fun c5 => absurd c5 (nI_ge (b := 40) (by omega) (by omega))) (fun c5 => ?_)
      refine lv_aload_n hx hb dX9_clear_8 rfl (lv_at hl 0 rfl) ?_
      refine mg_47 hx hb hts hown hK hP dX9_clear_9 ?_
      refine lv_iload_n hx hb dX9_clear_12 rfl (lv_at hl 1 rfl) ?_
      refine lv_iconst (v := (-1)) hx hb dX9_clear_13 (by decide) ?_
      refine mt_47 (f := f) hx hb hK hP hD hS i rfl (by omega) rfl dX9_clear_14 (fun H locs hP hD hS => ?_)
      rw [up_up] at hP hD
      refine lv_iinc (v := nI (i + 1)) (lv' := [(1, .int (nI (i + 1))), (0, .ref h)]) hx hb dX9_clear_15 hl (k := 1) rfl (nI_1 _) (by decide) rfl (fun ls hl => ?_)
      refine lv_goto (tgt := 2) hx hb dX9_clear_18 (by decide) ?_
      exact ih (i + 1) (upd f i (-1)) H locs (by omega) (by rw [← he]; rfl) hP hD hS ls (lv_sub hl [1, 0] rfl)
  refine lv_iconst (v := 0) hx hb dX9_clear_0 (by decide) ?_
  refine lv_istore_n (lv' := [(1, .int 0), (0, .ref h)]) hx hb dX9_clear_1 rfl hl (by decide) rfl (fun ls hl => ?_)
  exact L 40 0 (a 47) _ _ (by omega) (rfl) hP hD hS ls (lv_sub hl [1, 0] rfl)
def mSteps (x : Int32) (sn : Nat → Nat) (u : MSt) : Int32 × MSt := (bI (fSteps (u.2.2.2 26) (u.2.2.2 37) (u.2.2.2 40) sn (u.1 42) x (u.2.2.2 47)).2, (u.1, u.2.1, u.2.2.1, up u.2.2.2 47 (fSteps (u.2.2.2 26) (u.2.2.2 37) (u.2.2.2 40) sn (u.1 42) x (u.2.2.2 47)).1))
def mSpread (sn : Nat → Nat) (u : MSt) : MSt := (u.1, u.2.1, u.2.2.1, up u.2.2.2 47 (fSpread (u.2.2.2 26) (u.2.2.2 37) (u.2.2.2 40) sn (u.1 42) 41 1 (u.2.2.2 47)))
set_option maxHeartbeats 4000000 in
set_option maxRecDepth 100000 in
theorem c_X9_steps (l : Launch) (D : va_G) (h : Nat) (q : Nat → Nat) (k : Nat → ClassId) (c : Nat → Nat) (v : Nat → Int32) (nm : Int64) (a : Nat → Nat → Int32) (x : Int32) (hn : c 42 ≤ 100) (sn : Nat → Nat) (hs : ∀ k, k < c 42 → a 39 k = nI (sn k) ∧ sn k ≤ 3) (hw : ∀ k, k < c 42 → isIn (a 26 k) 40 = true) (hu : ∀ k i, k < c 42 → i < sn k → isIn (a 40 (3 * k + i)) 40 = true) : Fs (S := Int32 × MSt) l yX9_steps cX9_steps 6 (some .boolean) 0 0 0 D (TY k) G0 [.ref h, .int x] (Mw h q k c v nm a) (fun u => some (.int u.1)) (fun u => u = mSteps x sn (c, v, nm, a)) (fun u => MwU h q k u.2) := by
  refine fs_body (by decide +kernel) (Nat.le_of_ble_eq_true rfl) ?_
  intro p e s m args below meth c_ Q A hx hb hml hown hts hK hP hD hS hA hG hin hr hq hlocks ls hl
  replace hl : lv_has ls 6 [(0, .ref h), (1, .int x)] := hl
  change s.vm.findClass RX9 = some m.cls at hown
  have L : ∀ (r i : Nat) (f : Nat → Int32) (b : Bool) (H : Heap) (locs : List Loc), i + r = c 42 → lp (fStepO (a 26) (a 37) (a 40) sn x) r i (f, b) = fSteps (a 26) (a 37) (a 40) sn (c 42) x (a 47) → va_P D vwCl (Mw h q k c v nm (up a 47 f)) H → va_D A (Mw h q k c v nm (up a 47 f)) → va_S A s.heap H locs → ∀ (ls : Array Slot), lv_has ls 6 [(0, .ref h), (1, .int x), (2, .int (bI b)), (3, .int (nI i))] → W p l e (rmd 0 0 0) s m args below meth c_ H locs 0 0 Q (F0 m 4 ls []) := by
    intro r
    induction r with
    | zero =>
      intro i f b H locs hi he hP hD hS ls hl
      refine lv_iload_n hx hb dX9_steps_4 rfl (lv_at hl 3 rfl) ?_
      refine lv_aload_n hx hb dX9_steps_5 rfl (lv_at hl 0 rfl) ?_
      refine mg_42 (x := nI (c 42)) hx hb hts hown hK hP rfl dX9_steps_6 ?_
      refine lv_icmp_ge (tgt := 104) hx hb dX9_steps_9 (by decide) (fun c9 => ?_) (fun c9 => absurd (nI_le (by omega) (by omega)) c9)
      refine lv_iload_n hx hb dX9_steps_104 rfl (lv_at hl 2 rfl) ?_
      exact fs_z hx hb hr hlocks hq (bI b, (c, v, nm, up a 47 f)) (by rw [mSteps, ← he]; rfl) hP hD hS (bI_nar b) dX9_steps_105 rfl
    | succ r ih =>
      intro i f b H locs hi he hP hD hS ls hl
      refine lv_iload_n hx hb dX9_steps_4 rfl (lv_at hl 3 rfl) ?_
      refine lv_aload_n hx hb dX9_steps_5 rfl (lv_at hl 0 rfl) ?_
      refine mg_42 (x := nI (c 42)) hx hb hts hown hK hP rfl dX9_steps_6 ?_
      refine lv_icmp_ge (tgt := 104) hx hb dX9_steps_9 (by decide) (fun c9 => absurd c9 (nI_ge (by omega) (by omega))) (fun c9 => ?_)
      refine lv_aload_n hx hb dX9_steps_12 rfl (lv_at hl 0 rfl) ?_
      refine mg_37 hx hb hts hown hK hP dX9_steps_13 ?_
      refine lv_iload_n hx hb dX9_steps_16 rfl (lv_at hl 3 rfl) ?_
      refine ml_37 (x := (a 37) i) hx hb hK hP i rfl (by omega) rfl dX9_steps_17 ?_
      refine lv_if_ne (tgt := 98) hx hb dX9_steps_18 (by decide) (fun c18 => ?_) (fun c18 => ?_)
      · refine lv_iinc (v := nI (i + 1)) (lv' := [(3, .int (nI (i + 1))), (0, .ref h), (1, .int x), (2, .int (bI b))]) hx hb dX9_steps_98 hl (k := 3) rfl (nI_1 _) (by decide) rfl (fun ls hl => ?_)
        refine lv_goto (tgt := 4) hx hb dX9_steps_101 (by decide) ?_
        exact ih (i + 1) f b H locs (by omega) (by rw [← he]; simp only [lp, fStepO, if_neg c18]) hP hD hS ls (lv_sub hl [1, 2, 3, 0] rfl)
      · refine lv_aload_n hx hb dX9_steps_21 rfl (lv_at hl 0 rfl) ?_
        refine mg_47 hx hb hts hown hK hP dX9_steps_22 ?_
        refine lv_aload_n hx hb dX9_steps_25 rfl (lv_at hl 0 rfl) ?_
        refine mg_26 hx hb hts hown hK hP dX9_steps_26 ?_
        refine lv_iload_n hx hb dX9_steps_29 rfl (lv_at hl 3 rfl) ?_
        refine ml_26 (x := (a 26) i) hx hb hK hP i rfl (by omega) rfl dX9_steps_30 ?_
        refine ml_47 (x := f ((a 26 i).toNatClampNeg)) hx hb hK hP ((a 26 i).toNatClampNeg) ((isIn_spec (hw i (by omega)) (by decide)).1) ((isIn_spec (hw i (by omega)) (by decide)).2) rfl dX9_steps_31 ?_
        refine lv_iload_n hx hb dX9_steps_32 rfl (lv_at hl 1 rfl) ?_
        refine lv_icmp_eq (tgt := 39) hx hb dX9_steps_33 (by decide) (fun c33 => ?_) (fun c33 => ?_)
        · have hsk := (hs i (by omega)).2
          have L2 : ∀ (r2 j : Nat) (f2 : Nat → Int32) (b2 : Bool) (H : Heap) (locs : List Loc), j + r2 = sn i → lp (fStepO (a 26) (a 37) (a 40) sn x) r (i + 1) (lp (fStepI (a 40) x i) r2 j (f2, b2)) = fSteps (a 26) (a 37) (a 40) sn (c 42) x (a 47) → va_P D vwCl (Mw h q k c v nm (up a 47 f2)) H → va_D A (Mw h q k c v nm (up a 47 f2)) → va_S A s.heap H locs → ∀ (ls : Array Slot), lv_has ls 6 [(0, .ref h), (1, .int x), (2, .int (bI b2)), (3, .int (nI i)), (4, .int (nI j))] → W p l e (rmd 0 0 0) s m args below meth c_ H locs 0 0 Q (F0 m 42 ls []) := by
            intro r2
            induction r2 with
            | zero =>
              intro j f2 b2 H locs hi2 he2 hP hD hS ls hl
              refine lv_iload hx hb dX9_steps_42 (lv_at hl 4 rfl) ?_
              refine lv_aload_n hx hb dX9_steps_44 rfl (lv_at hl 0 rfl) ?_
              refine mg_39 hx hb hts hown hK hP dX9_steps_45 ?_
              refine lv_iload_n hx hb dX9_steps_48 rfl (lv_at hl 3 rfl) ?_
              refine ml_39 (x := (a 39) i) hx hb hK hP i rfl (by omega) rfl dX9_steps_49 ?_
              refine rw_topi (y := nI (sn i)) ((hs i (by omega)).1) ?_
              refine lv_icmp_ge (tgt := 98) hx hb dX9_steps_50 (by decide) (fun c50 => ?_) (fun c50 => absurd (nI_le (by omega) (by omega)) c50)
              refine lv_iinc (v := nI (i + 1)) (lv' := [(3, .int (nI (i + 1))), (0, .ref h), (1, .int x), (2, .int (bI b2)), (4, .int (nI j))]) hx hb dX9_steps_98 hl (k := 3) rfl (nI_1 _) (by decide) rfl (fun ls hl => ?_)
              refine lv_goto (tgt := 4) hx hb dX9_steps_101 (by decide) ?_
              exact ih (i + 1) f2 b2 H locs (by omega) (by rw [← he2]; rfl) hP hD hS ls (lv_sub hl [1, 2, 3, 0] rfl)
            | succ r2 ih2 =>
              intro j f2 b2 H locs hi2 he2 hP hD hS ls hl
              refine lv_iload hx hb dX9_steps_42 (lv_at hl 4 rfl) ?_
              refine lv_aload_n hx hb dX9_steps_44 rfl (lv_at hl 0 rfl) ?_
              refine mg_39 hx hb hts hown hK hP dX9_steps_45 ?_
              refine lv_iload_n hx hb dX9_steps_48 rfl (lv_at hl 3 rfl) ?_
              refine ml_39 (x := (a 39) i) hx hb hK hP i rfl (by omega) rfl dX9_steps_49 ?_
              refine rw_topi (y := nI (sn i)) ((hs i (by omega)).1) ?_
              refine lv_icmp_ge (tgt := 98) hx hb dX9_steps_50 (by decide) (fun c50 => absurd c50 (nI_ge (by omega) (by omega))) (fun c50 => ?_)
              refine lv_aload_n hx hb dX9_steps_53 rfl (lv_at hl 0 rfl) ?_
              refine mg_40 hx hb hts hown hK hP dX9_steps_54 ?_
              refine lv_iconst (v := 3) hx hb dX9_steps_57 (by decide) ?_
              refine lv_iload_n hx hb dX9_steps_58 rfl (lv_at hl 3 rfl) ?_
              refine lv_imul hx hb dX9_steps_59 ?_
              refine rw_topi (y := nI (3 * i)) (pk_mul _ _) ?_
              refine lv_iload hx hb dX9_steps_60 (lv_at hl 4 rfl) ?_
              refine lv_iadd hx hb dX9_steps_62 ?_
              refine rw_topi (y := nI ((3 * i) + j)) (nI_add _ _) ?_
              refine ml_40 (x := (a 40) ((3 * i) + j)) hx hb hK hP ((3 * i) + j) rfl (by omega) rfl dX9_steps_63 ?_
              refine lv_istore (lv' := [(5, .int ((a 40) ((3 * i) + j))), (0, .ref h), (1, .int x), (2, .int (bI b2)), (3, .int (nI i)), (4, .int (nI j))]) hx hb dX9_steps_64 hl (by decide) rfl (fun ls hl => ?_)
              refine lv_aload_n hx hb dX9_steps_66 rfl (lv_at hl 1 rfl) ?_
              refine mg_47 hx hb hts hown hK hP dX9_steps_67 ?_
              refine lv_iload hx hb dX9_steps_70 (lv_at hl 0 rfl) ?_
              refine ml_47 (x := f2 ((a 40 (3 * i + j)).toNatClampNeg)) hx hb hK hP ((a 40 (3 * i + j)).toNatClampNeg) ((isIn_spec (hu i j (by omega) (by omega)) (by decide)).1) ((isIn_spec (hu i j (by omega) (by omega)) (by decide)).2) rfl dX9_steps_72 ?_
              refine lv_iconst (v := (-1)) hx hb dX9_steps_73 (by decide) ?_
              refine lv_icmp_eq (tgt := 80) hx hb dX9_steps_74 (by decide) (fun c74 => ?_) (fun c74 => ?_)
              · refine lv_aload_n hx hb dX9_steps_80 rfl (lv_at hl 1 rfl) ?_
                refine mg_47 hx hb hts hown hK hP dX9_steps_81 ?_
                refine lv_iload hx hb dX9_steps_84 (lv_at hl 0 rfl) ?_
                refine lv_iload_n hx hb dX9_steps_86 rfl (lv_at hl 2 rfl) ?_
                refine lv_iconst (v := 1) hx hb dX9_steps_87 (by decide) ?_
                refine lv_iadd hx hb dX9_steps_88 ?_
                refine mt_47 (f := f2) hx hb hK hP hD hS ((a 40 (3 * i + j)).toNatClampNeg) ((isIn_spec (hu i j (by omega) (by omega)) (by decide)).1) ((isIn_spec (hu i j (by omega) (by omega)) (by decide)).2) rfl dX9_steps_89 (fun H locs hP hD hS => ?_)
                rw [up_up] at hP hD
                refine lv_iconst (v := 1) hx hb dX9_steps_90 (by decide) ?_
                refine lv_istore_n (lv' := [(2, .int 1), (5, .int ((a 40) ((3 * i) + j))), (0, .ref h), (1, .int x), (3, .int (nI i)), (4, .int (nI j))]) hx hb dX9_steps_91 rfl hl (by decide) rfl (fun ls hl => ?_)
                refine lv_iinc (v := nI (j + 1)) (lv' := [(4, .int (nI (j + 1))), (2, .int 1), (5, .int ((a 40) ((3 * i) + j))), (0, .ref h), (1, .int x), (3, .int (nI i))]) hx hb dX9_steps_92 hl (k := 5) rfl (nI_1 _) (by decide) rfl (fun ls hl => ?_)
                refine lv_goto (tgt := 42) hx hb dX9_steps_95 (by decide) ?_
                exact ih2 (j + 1) (upd f2 ((a 40 (3 * i + j)).toNatClampNeg) (x + 1)) true H locs (by omega) (by rw [← he2]; simp only [lp, fStepI, if_pos c74]) hP hD hS ls (lv_sub hl [3, 4, 1, 5, 0] rfl)
              · refine lv_goto (tgt := 92) hx hb dX9_steps_77 (by decide) ?_
                refine lv_iinc (v := nI (j + 1)) (lv' := [(4, .int (nI (j + 1))), (5, .int ((a 40) ((3 * i) + j))), (0, .ref h), (1, .int x), (2, .int (bI b2)), (3, .int (nI i))]) hx hb dX9_steps_92 hl (k := 5) rfl (nI_1 _) (by decide) rfl (fun ls hl => ?_)
                refine lv_goto (tgt := 42) hx hb dX9_steps_95 (by decide) ?_
                exact ih2 (j + 1) f2 b2 H locs (by omega) (by rw [← he2]; simp only [lp, fStepI, if_neg c74]) hP hD hS ls (lv_sub hl [2, 3, 4, 5, 0] rfl)
          refine lv_iconst (v := 0) hx hb dX9_steps_39 (by decide) ?_
          refine lv_istore (lv' := [(4, .int 0), (0, .ref h), (1, .int x), (2, .int (bI b)), (3, .int (nI i))]) hx hb dX9_steps_40 hl (by decide) rfl (fun ls hl => ?_)
          exact L2 (sn i) 0 f b H locs (by omega) (by rw [← he]; simp only [lp, fStepO, if_pos c18, if_pos c33]) hP hD hS ls (lv_sub hl [1, 2, 3, 4, 0] rfl)
        · refine lv_goto (tgt := 98) hx hb dX9_steps_36 (by decide) ?_
          refine lv_iinc (v := nI (i + 1)) (lv' := [(3, .int (nI (i + 1))), (0, .ref h), (1, .int x), (2, .int (bI b))]) hx hb dX9_steps_98 hl (k := 3) rfl (nI_1 _) (by decide) rfl (fun ls hl => ?_)
          refine lv_goto (tgt := 4) hx hb dX9_steps_101 (by decide) ?_
          exact ih (i + 1) f b H locs (by omega) (by rw [← he]; simp only [lp, fStepO, if_pos c18, if_neg c33]) hP hD hS ls (lv_sub hl [1, 2, 3, 0] rfl)
  refine lv_iconst (v := 0) hx hb dX9_steps_0 (by decide) ?_
  refine lv_istore_n (lv' := [(2, .int 0), (0, .ref h), (1, .int x)]) hx hb dX9_steps_1 rfl hl (by decide) rfl (fun ls hl => ?_)
  refine lv_iconst (v := 0) hx hb dX9_steps_2 (by decide) ?_
  refine lv_istore_n (lv' := [(3, .int 0), (2, .int 0), (0, .ref h), (1, .int x)]) hx hb dX9_steps_3 rfl hl (by decide) rfl (fun ls hl => ?_)
  exact L (c 42) 0 (a 47) false _ _ (by omega) (rfl) hP hD hS ls (lv_sub hl [2, 3, 1, 0] rfl)
set_option maxHeartbeats 4000000 in
set_option maxRecDepth 100000 in
theorem c_X9_spread (l : Launch) (D : va_G) (h : Nat) (q : Nat → Nat) (k : Nat → ClassId) (c : Nat → Nat) (v : Nat → Int32) (nm : Int64) (a : Nat → Nat → Int32) (hn : c 42 ≤ 100) (sn : Nat → Nat) (hs : ∀ k, k < c 42 → a 39 k = nI (sn k) ∧ sn k ≤ 3) (hw : ∀ k, k < c 42 → isIn (a 26 k) 40 = true) (hu : ∀ k i, k < c 42 → i < sn k → isIn (a 40 (3 * k + i)) 40 = true) : Fs (S := MSt) l yX9_spread cX9_spread 2 none 1 0 0 D (TY k) G0 [.ref h] (Mw h q k c v nm a) (fun _ => none) (fun u => u = mSpread sn (c, v, nm, a)) (fun u => MwU h q k u) := by
  refine fs_body (by decide +kernel) (Nat.le_of_ble_eq_true rfl) ?_
  intro p e s m args below meth c_ Q A hx hb hml hown hts hK hP hD hS hA hG hin hr hq hlocks ls hl
  replace hl : lv_has ls 2 [(0, .ref h)] := hl
  change s.vm.findClass RX9 = some m.cls at hown
  have L : ∀ (r i : Nat) (f : Nat → Int32) (H : Heap) (locs : List Loc), i + r = 42 → cnt f 40 < r → fSpread (a 26) (a 37) (a 40) sn (c 42) r i f = fSpread (a 26) (a 37) (a 40) sn (c 42) 41 1 (a 47) → va_P D vwCl (Mw h q k c v nm (up a 47 f)) H → va_D A (Mw h q k c v nm (up a 47 f)) → va_S A s.heap H locs → ∀ (ls : Array Slot), lv_has ls 2 [(0, .ref h), (1, .int (nI i))] → W p l e (rmd 1 0 0) s m args below meth c_ H locs 0 0 Q (F0 m 2 ls []) := by
    intro r
    induction r with
    | zero =>
      intro i f H locs hi hm he hP hD hS ls hl
      exact absurd hm (Nat.not_lt_zero _)
    | succ r ih =>
      intro i f H locs hi hm he hP hD hS ls hl
      refine lv_aload_n hx hb dX9_spread_2 rfl (lv_at hl 0 rfl) ?_
      refine lv_iload_n hx hb dX9_spread_3 rfl (lv_at hl 1 rfl) ?_
      refine fs_Vw (rest := []) (As := [.int (nI i)]) ⟨hx, hb, hml, hown, hts⟩ Gd0 trivial hS hA hK (hP) (hD) (c_X9_steps l D h q k c v nm (up a 47 f) (nI i) hn sn hs hw hu) mi_X9_steps wd_5_221 wp_3_9 wd_5_219 ⟨Nat.le_of_ble_eq_true rfl, Nat.le_of_ble_eq_true rfl⟩ 0 rfl rfl rfl hl.1 rfl (Nat.le_of_ble_eq_true rfl) ⟨Nat.le_of_ble_eq_true rfl, Nat.le_of_ble_eq_true rfl⟩ dX9_spread_4 (fun u_1 H locs hu_2 hP hD hS => ?_)
      subst hu_2
      replace hP : va_P D vwCl (Mw h q k c v nm (up a 47 ((fSteps (a 26) (a 37) (a 40) sn (c 42) (nI i) f).1))) H := hP
      replace hD : va_D A (Mw h q k c v nm (up a 47 ((fSteps (a 26) (a 37) (a 40) sn (c 42) (nI i) f).1))) := hD
      refine W.eq (g2 := F0 m 7 ls [.int (bI (fSteps (a 26) (a 37) (a 40) sn (c 42) (nI i) f).2)]) rfl ?_
      refine lv_if_eq (tgt := 16) hx hb dX9_spread_7 (by decide) (fun c7 => ?_) (fun c7 => ?_)
      · replace c7 : ((fSteps (a 26) (a 37) (a 40) sn (c 42) (nI i) f).2) = false := bI_0.mp c7
        exact fs_v hx hb hr hlocks hq (c, v, nm, up a 47 ((fSteps (a 26) (a 37) (a 40) sn (c 42) (nI i) f).1)) (by rw [mSpread, ← he]; simp only [fSpread, c7, if_pos]) hP hD hS dX9_spread_16 rfl
      · replace c7 : ((fSteps (a 26) (a 37) (a 40) sn (c 42) (nI i) f).2) = true := bI_n.mp c7
        refine lv_iinc (v := nI (i + 1)) (lv' := [(1, .int (nI (i + 1))), (0, .ref h)]) hx hb dX9_spread_10 hl (k := 1) rfl (nI_1 _) (by decide) rfl (fun ls hl => ?_)
        refine lv_goto (tgt := 2) hx hb dX9_spread_13 (by decide) ?_
        exact ih (i + 1) ((fSteps (a 26) (a 37) (a 40) sn (c 42) (nI i) f).1) H locs (by omega) (by have := (fSteps_cnt (N := 40) (by decide) (d := nI i) (f := f) (nI_nem1 (by omega)) hu).2 c7; omega) (by rw [← he]; simp only [fSpread, c7]; rfl) hP hD hS ls (lv_sub hl [1, 0] rfl)
  refine lv_iconst (v := 1) hx hb dX9_spread_0 (by decide) ?_
  refine lv_istore_n (lv' := [(1, .int 1), (0, .ref h)]) hx hb dX9_spread_1 rfl hl (by decide) rfl (fun ls hl => ?_)
  exact L 41 1 (a 47) _ _ (by omega) (by have := cnt_le (a 47) 40; omega) (rfl) hP hD hS ls (lv_sub hl [1, 0] rfl)
def fRingF (j : Nat) (sn : Nat → Nat) (u : MSt) : Nat → Int32 := fSpread (u.2.2.2 26) (u.2.2.2 37) (u.2.2.2 40) sn (u.1 42) 41 1 (fSeed (u.2.2.2 40) j (sn j) (fClear (u.2.2.2 47)))
def mRing (x : Int32) (sn : Nat → Nat) (u : MSt) : Int32 × MSt := if isIn x (u.1 21) = false then (-1, mT0 u) else match fOpen (u.2.2.2 26) (u.2.2.2 37) x (u.1 42) with
  | none => (-1, mT0 u)
  | some j => (fRingF j sn u x.toNatClampNeg, (u.1, up u.2.1 0 0, u.2.2.1, up u.2.2.2 47 (fRingF j sn u)))
set_option maxHeartbeats 4000000 in
set_option maxRecDepth 100000 in
theorem c_X9_ring (l : Launch) (D : va_G) (h : Nat) (q : Nat → Nat) (k : Nat → ClassId) (c : Nat → Nat) (v : Nat → Int32) (nm : Int64) (a : Nat → Nat → Int32) (x : Int32) (hp : c 21 ≤ 40) (hn : c 42 ≤ 100) (sn : Nat → Nat) (hs : ∀ k, k < c 42 → a 39 k = nI (sn k) ∧ sn k ≤ 3) (hw : ∀ k, k < c 42 → isIn (a 26 k) 40 = true) (hu : ∀ k i, k < c 42 → i < sn k → isIn (a 40 (3 * k + i)) 40 = true) : Fs (S := Int32 × MSt) l yX9_ring cX9_ring 4 (some .int) 2 0 0 D (TY k) G0 [.ref h, .int x] (Mw h q k c v nm a) (fun u => some (.int u.1)) (fun u => u = mRing x sn (c, v, nm, a)) (fun u => MwU h q k u.2) := by
  refine fs_body (by decide +kernel) (Nat.le_of_ble_eq_true rfl) ?_
  intro p e s m args below meth c_ Q A hx hb hml hown hts hK hP hD hS hA hG hin hr hq hlocks ls hl
  replace hl : lv_has ls 4 [(0, .ref h), (1, .int x)] := hl
  change s.vm.findClass RX9 = some m.cls at hown
  refine lv_aload_n hx hb dX9_ring_0 rfl (lv_at hl 0 rfl) ?_
  refine lv_iconst (v := 0) hx hb dX9_ring_1 (by decide) ?_
  refine mp_0 hx hb hts hown hK hP hD hS 0 dX9_ring_2 (fun H locs hP hD hS => ?_)
  refine lv_aload_n hx hb dX9_ring_5 rfl (lv_at hl 0 rfl) ?_
  refine lv_iload_n hx hb dX9_ring_6 rfl (lv_at hl 1 rfl) ?_
  refine ro_V (rest := []) (st1 := [.int (bI (isIn x (c 21)))]) (As := [.int x]) ⟨hx, hb, hml, hown, hts⟩ Gd0 trivial hS hK (c_X9_isPerson l D h q k c (up v 0 0) nm a x ) mi_X9_isPerson wd_5_171 wp_3_0 wd_5_169 ⟨Nat.le_of_ble_eq_true rfl, Nat.le_of_ble_eq_true rfl⟩ (hP) 0 rfl rfl rfl hl.1 rfl (Nat.le_of_ble_eq_true rfl) rfl ⟨Nat.le_of_ble_eq_true rfl, Nat.le_of_ble_eq_true rfl⟩ dX9_ring_7 ?_
  refine lv_if_eq (tgt := 21) hx hb dX9_ring_10 (by decide) (fun c10 => ?_) (fun c10 => ?_)
  · replace c10 : (isIn x (c 21)) = false := bI_0.mp c10
    refine lv_iconst (v := (-1)) hx hb dX9_ring_21 (by decide) ?_
    refine lv_istore_n (lv' := [(2, .int (-1)), (0, .ref h), (1, .int x)]) hx hb dX9_ring_22 rfl hl (by decide) rfl (fun ls hl => ?_)
    refine lv_iload_n hx hb dX9_ring_23 rfl (lv_at hl 0 rfl) ?_
    refine lv_iconst (v := (-1)) hx hb dX9_ring_24 (by decide) ?_
    refine lv_icmp_ne (tgt := 30) hx hb dX9_ring_25 (by decide) (fun c25 => absurd (by decide) c25) (fun c25 => ?_)
    refine lv_iconst (v := (-1)) hx hb dX9_ring_28 (by decide) ?_
    exact fs_i hx hb hr hlocks hq ((-1), (c, up v 0 0, nm, a)) (by simp only [mRing, if_pos c10]; rfl) hP hD hS dX9_ring_29 rfl
  · replace c10 : (isIn x (c 21)) = true := bI_n.mp c10
    obtain ⟨ex, hjx⟩ := isIn_spec c10 (by omega)
    refine lv_aload_n hx hb dX9_ring_13 rfl (lv_at hl 0 rfl) ?_
    refine lv_iload_n hx hb dX9_ring_14 rfl (lv_at hl 1 rfl) ?_
    refine ro_V (rest := []) (st1 := [.int (oI (fOpen (a 26) (a 37) x (c 42)))]) (As := [.int x]) ⟨hx, hb, hml, hown, hts⟩ Gd0 trivial hS hK (c_X9_openOf l D h q k c (up v 0 0) nm a x hn) mi_X9_openOf wd_5_197 wp_3_3 wd_5_195 ⟨Nat.le_of_ble_eq_true rfl, Nat.le_of_ble_eq_true rfl⟩ (hP) 0 rfl rfl rfl hl.1 rfl (Nat.le_of_ble_eq_true rfl) rfl ⟨Nat.le_of_ble_eq_true rfl, Nat.le_of_ble_eq_true rfl⟩ dX9_ring_15 ?_
    refine lv_goto (tgt := 22) hx hb dX9_ring_18 (by decide) ?_
    refine lv_istore_n (lv' := [(2, .int (oI (fOpen (a 26) (a 37) x (c 42)))), (0, .ref h), (1, .int x)]) hx hb dX9_ring_22 rfl hl (by decide) rfl (fun ls hl => ?_)
    refine lv_iload_n hx hb dX9_ring_23 rfl (lv_at hl 0 rfl) ?_
    refine lv_iconst (v := (-1)) hx hb dX9_ring_24 (by decide) ?_
    refine lv_icmp_ne (tgt := 30) hx hb dX9_ring_25 (by decide) (fun c25 => ?_) (fun c25 => ?_)
    · obtain ⟨j, ej, eo⟩ := oI_some c25
      have hjn := fOpen_lt ej
      refine lv_aload_n hx hb dX9_ring_30 rfl (lv_at hl 1 rfl) ?_
      refine fs_Vw (rest := []) (As := []) ⟨hx, hb, hml, hown, hts⟩ Gd0 trivial hS hA hK (hP) (hD) (c_X9_clear l D h q k c (up v 0 0) nm a  ) mi_X9_clear wd_5_213 wp_3_7 wd_5_211 ⟨Nat.le_of_ble_eq_true rfl, Nat.le_of_ble_eq_true rfl⟩ 0 rfl rfl rfl hl.1 rfl (Nat.le_of_ble_eq_true rfl) ⟨Nat.le_of_ble_eq_true rfl, Nat.le_of_ble_eq_true rfl⟩ dX9_ring_31 (fun u_1 H locs hu_2 hP hD hS => ?_)
      subst hu_2
      replace hP : va_P D vwCl (Mw h q k c (up v 0 0) nm (up a 47 (fClear (a 47)))) H := hP
      replace hD : va_D A (Mw h q k c (up v 0 0) nm (up a 47 (fClear (a 47)))) := hD
      refine W.eq (g2 := F0 m 34 ls []) rfl ?_
      have L : ∀ (r i : Nat) (f : Nat → Int32) (H : Heap) (locs : List Loc), i + r = sn j → lp (fun i f => upd f (a 40 (3 * j + i)).toNatClampNeg 1) r i f = fSeed (a 40) j (sn j) (fClear (a 47)) → va_P D vwCl (Mw h q k c (up v 0 0) nm (up a 47 f)) H → va_D A (Mw h q k c (up v 0 0) nm (up a 47 f)) → va_S A s.heap H locs → ∀ (ls : Array Slot), lv_has ls 4 [(0, .ref h), (1, .int x), (2, .int (oI (fOpen (a 26) (a 37) x (c 42)))), (3, .int (nI i))] → W p l e (rmd 2 0 0) s m args below meth c_ H locs 0 0 Q (F0 m 36 ls []) := by
        intro r
        induction r with
        | zero =>
          intro i f H locs hi he hP hD hS ls hl
          have hsj := (hs j (by omega)).2
          refine lv_iload_n hx hb dX9_ring_36 rfl (lv_at hl 3 rfl) ?_
          refine lv_aload_n hx hb dX9_ring_37 rfl (lv_at hl 0 rfl) ?_
          refine mg_39 hx hb hts hown hK hP dX9_ring_38 ?_
          refine lv_iload_n hx hb dX9_ring_41 rfl (lv_at hl 2 rfl) ?_
          refine rw_topi (y := nI j) (eo) ?_
          refine ml_39 (x := (a 39) j) hx hb hK hP j rfl (by omega) rfl dX9_ring_42 ?_
          refine rw_topi (y := nI (sn j)) ((hs j (by omega)).1) ?_
          refine lv_icmp_ge (tgt := 68) hx hb dX9_ring_43 (by decide) (fun c43 => ?_) (fun c43 => absurd (nI_le (by omega) (by omega)) c43)
          refine lv_aload_n hx hb dX9_ring_68 rfl (lv_at hl 0 rfl) ?_
          refine fs_Vw (rest := []) (As := []) ⟨hx, hb, hml, hown, hts⟩ Gd0 trivial hS hA hK (hP) (hD) (c_X9_spread l D h q k c (up v 0 0) nm (up a 47 f)  hn sn hs hw hu) mi_X9_spread wd_5_217 wp_3_8 wd_5_215 ⟨Nat.le_of_ble_eq_true rfl, Nat.le_of_ble_eq_true rfl⟩ 0 rfl rfl rfl hl.1 rfl (Nat.le_of_ble_eq_true rfl) ⟨Nat.le_of_ble_eq_true rfl, Nat.le_of_ble_eq_true rfl⟩ dX9_ring_69 (fun u_1 H locs hu_2 hP hD hS => ?_)
          subst hu_2
          replace hP : va_P D vwCl (Mw h q k c (up v 0 0) nm (up a 47 (fSpread (a 26) (a 37) (a 40) sn (c 42) 41 1 f))) H := hP
          replace hD : va_D A (Mw h q k c (up v 0 0) nm (up a 47 (fSpread (a 26) (a 37) (a 40) sn (c 42) 41 1 f))) := hD
          refine W.eq (g2 := F0 m 72 ls []) rfl ?_
          refine lv_aload_n hx hb dX9_ring_72 rfl (lv_at hl 0 rfl) ?_
          refine mg_47 hx hb hts hown hK hP dX9_ring_73 ?_
          refine lv_iload_n hx hb dX9_ring_76 rfl (lv_at hl 1 rfl) ?_
          refine ml_47 (x := (fSpread (a 26) (a 37) (a 40) sn (c 42) 41 1 f) x.toNatClampNeg) hx hb hK hP x.toNatClampNeg ex (by omega) rfl dX9_ring_77 ?_
          exact fs_i hx hb hr hlocks hq ((fSpread (a 26) (a 37) (a 40) sn (c 42) 41 1 f) x.toNatClampNeg, (c, up v 0 0, nm, up a 47 (fSpread (a 26) (a 37) (a 40) sn (c 42) 41 1 f))) (by simp only [mRing, if_neg (show ¬ (isIn x (c 21) = false) by rw [c10]; decide), ej, fRingF]; rw [← he]; rfl) hP hD hS dX9_ring_78 rfl
        | succ r ih =>
          intro i f H locs hi he hP hD hS ls hl
          have hsj := (hs j (by omega)).2
          refine lv_iload_n hx hb dX9_ring_36 rfl (lv_at hl 3 rfl) ?_
          refine lv_aload_n hx hb dX9_ring_37 rfl (lv_at hl 0 rfl) ?_
          refine mg_39 hx hb hts hown hK hP dX9_ring_38 ?_
          refine lv_iload_n hx hb dX9_ring_41 rfl (lv_at hl 2 rfl) ?_
          refine rw_topi (y := nI j) (eo) ?_
          refine ml_39 (x := (a 39) j) hx hb hK hP j rfl (by omega) rfl dX9_ring_42 ?_
          refine rw_topi (y := nI (sn j)) ((hs j (by omega)).1) ?_
          refine lv_icmp_ge (tgt := 68) hx hb dX9_ring_43 (by decide) (fun c43 => absurd c43 (nI_ge (by omega) (by omega))) (fun c43 => ?_)
          refine lv_aload_n hx hb dX9_ring_46 rfl (lv_at hl 0 rfl) ?_
          refine mg_47 hx hb hts hown hK hP dX9_ring_47 ?_
          refine lv_aload_n hx hb dX9_ring_50 rfl (lv_at hl 0 rfl) ?_
          refine mg_40 hx hb hts hown hK hP dX9_ring_51 ?_
          refine lv_iconst (v := 3) hx hb dX9_ring_54 (by decide) ?_
          refine lv_iload_n hx hb dX9_ring_55 rfl (lv_at hl 2 rfl) ?_
          refine rw_topi (y := nI j) (eo) ?_
          refine lv_imul hx hb dX9_ring_56 ?_
          refine rw_topi (y := nI (3 * j)) (pk_mul _ _) ?_
          refine lv_iload_n hx hb dX9_ring_57 rfl (lv_at hl 3 rfl) ?_
          refine lv_iadd hx hb dX9_ring_58 ?_
          refine rw_topi (y := nI ((3 * j) + i)) (nI_add _ _) ?_
          refine ml_40 (x := (a 40) ((3 * j) + i)) hx hb hK hP ((3 * j) + i) rfl (by omega) rfl dX9_ring_59 ?_
          refine lv_iconst (v := 1) hx hb dX9_ring_60 (by decide) ?_
          refine mt_47 (f := f) hx hb hK hP hD hS ((a 40 (3 * j + i)).toNatClampNeg) ((isIn_spec (hu j i (by omega) (by omega)) (by decide)).1) ((isIn_spec (hu j i (by omega) (by omega)) (by decide)).2) rfl dX9_ring_61 (fun H locs hP hD hS => ?_)
          rw [up_up] at hP hD
          refine lv_iinc (v := nI (i + 1)) (lv' := [(3, .int (nI (i + 1))), (0, .ref h), (1, .int x), (2, .int (oI (fOpen (a 26) (a 37) x (c 42))))]) hx hb dX9_ring_62 hl (k := 3) rfl (nI_1 _) (by decide) rfl (fun ls hl => ?_)
          refine lv_goto (tgt := 36) hx hb dX9_ring_65 (by decide) ?_
          exact ih (i + 1) (upd f ((a 40 (3 * j + i)).toNatClampNeg) 1) H locs (by omega) (by rw [← he]; rfl) hP hD hS ls (lv_sub hl [1, 2, 3, 0] rfl)
      refine lv_iconst (v := 0) hx hb dX9_ring_34 (by decide) ?_
      refine lv_istore_n (lv' := [(3, .int 0), (2, .int (oI (fOpen (a 26) (a 37) x (c 42)))), (0, .ref h), (1, .int x)]) hx hb dX9_ring_35 rfl hl (by decide) rfl (fun ls hl => ?_)
      exact L (sn j) 0 (fClear (a 47)) H locs (by omega) (rfl) hP hD hS ls (lv_sub hl [2, 3, 1, 0] rfl)
    · have en := oI_none c25 (fun j hj => by have := fOpen_lt hj; omega)
      refine lv_iconst (v := (-1)) hx hb dX9_ring_28 (by decide) ?_
      exact fs_i hx hb hr hlocks hq ((-1), (c, up v 0 0, nm, a)) (by simp only [mRing, if_neg (show ¬ (isIn x (c 21) = false) by rw [c10]; decide), en]; rfl) hP hD hS dX9_ring_29 rfl
end
section
def mBack (z : Nat) (y : Int32) (u : MSt) : MSt := (u.1, u.2.1, u.2.2.1, up (up u.2.2.2 38 (upd (u.2.2.2 38) z (u.2.2.2 38 z + y))) 19 (fBack (u.2.2.2 41) z (u.2.2.2 38 z) (u.2.2.2 38 z + y) (u.2.2.2 19)))
set_option maxHeartbeats 4000000 in
set_option maxRecDepth 100000 in
theorem c_X9_comesBack (l : Launch) (D : va_G) (h : Nat) (q : Nat → Nat) (k : Nat → ClassId) (c : Nat → Nat) (v : Nat → Int32) (nm : Int64) (a : Nat → Nat → Int32) (z : Nat) (y : Int32) (hz : z < 100) : Fs (S := MSt) l yX9_comesBack cX9_comesBack 11 none 0 0 0 D (TY k) G0 [.ref h, .int (nI z), .int y] (Mw h q k c v nm a) (fun _ => none) (fun u => u = mBack z y (c, v, nm, a)) (fun u => MwU h q k u) := by
  refine fs_body (by decide +kernel) (Nat.le_of_ble_eq_true rfl) ?_
  intro p e s m args below meth c_ Q A hx hb hml hown hts hK hP hD hS hA hG hin hr hq hlocks ls hl
  replace hl : lv_has ls 11 [(0, .ref h), (1, .int (nI z)), (2, .int y)] := hl
  change s.vm.findClass RX9 = some m.cls at hown
  have L : ∀ (r i : Nat) (f : Nat → Int32) (w : Int32) (H : Heap) (locs : List Loc), i + r = 6 → (lp (cbStep (a 41) z (a 38 z) (a 38 z + y)) r i (f, w)).1 = fBack (a 41) z (a 38 z) (a 38 z + y) (a 19) → va_P D vwCl (Mw h q k c v nm (up (up a 38 (upd (a 38) z (a 38 z + y))) 19 f)) H → va_D A (Mw h q k c v nm (up (up a 38 (upd (a 38) z (a 38 z + y))) 19 f)) → va_S A s.heap H locs → ∀ (ls : Array Slot), lv_has ls 11 [(0, .ref h), (1, .int (nI z)), (2, .int y), (3, .int (a 38 z)), (4, .int (a 38 z + y)), (5, .int w), (6, .int (nI i))] → W p l e (rmd 0 0 0) s m args below meth c_ H locs 0 0 Q (F0 m 26 ls []) := by
    intro r
    induction r with
    | zero =>
      intro i f w H locs hi he hP hD hS ls hl
      refine lv_iload hx hb dX9_comesBack_26 (lv_at hl 6 rfl) ?_
      refine lv_bipush (v := 6) hx hb dX9_comesBack_28 (by decide) ?_
      refine lv_icmp_ge (tgt := 134) hx hb dX9_comesBack_30 (by decide) (fun c30 => ?_) (fun c30 => absurd (nI_le (a := 6) (by omega) (by omega)) c30)
      exact fs_v hx hb hr hlocks hq (c, v, nm, up (up a 38 (upd (a 38) z (a 38 z + y))) 19 f) (by rw [mBack, ← he]; rfl) hP hD hS dX9_comesBack_134 rfl
    | succ r ih =>
      intro i f w H locs hi he hP hD hS ls hl
      refine lv_iload hx hb dX9_comesBack_26 (lv_at hl 6 rfl) ?_
      refine lv_bipush (v := 6) hx hb dX9_comesBack_28 (by decide) ?_
      refine lv_icmp_ge (tgt := 134) hx hb dX9_comesBack_30 (by decide) (fun c30 => absurd c30 (nI_ge (b := 6) (by omega) (by omega))) (fun c30 => ?_)
      refine lv_iload hx hb dX9_comesBack_33 (lv_at hl 6 rfl) ?_
      refine lv_if_ne (tgt := 42) hx hb dX9_comesBack_35 (by decide) (fun c35 => ?_) (fun c35 => ?_)
      · replace c35 : ¬ (i = 0) := fun z => c35 ((nI_eq (a := i) (b := 0) (by omega) (by omega)).mpr z)
        refine lv_bipush (v := 6) hx hb dX9_comesBack_42 (by decide) ?_
        refine lv_iload hx hb dX9_comesBack_44 (lv_at hl 6 rfl) ?_
        refine lv_isub hx hb dX9_comesBack_46 ?_
        refine rw_topi (y := nI (6 - i)) (pk_sub (a := 6) (by omega)) ?_
        refine lv_istore (lv' := [(7, .int (nI (6 - i))), (0, .ref h), (1, .int (nI z)), (2, .int y), (3, .int (a 38 z)), (4, .int (a 38 z + y)), (5, .int w), (6, .int (nI i))]) hx hb dX9_comesBack_47 hl (by decide) rfl (fun ls hl => ?_)
        refine lv_aload_n hx hb dX9_comesBack_49 rfl (lv_at hl 1 rfl) ?_
        refine mg_41 hx hb hts hown hK hP dX9_comesBack_50 ?_
        refine lv_bipush (v := 6) hx hb dX9_comesBack_53 (by decide) ?_
        refine lv_iload_n hx hb dX9_comesBack_55 rfl (lv_at hl 2 rfl) ?_
        refine lv_imul hx hb dX9_comesBack_56 ?_
        refine rw_topi (y := nI (6 * z)) (pk_mul _ _) ?_
        refine lv_iload hx hb dX9_comesBack_57 (lv_at hl 0 rfl) ?_
        refine lv_iadd hx hb dX9_comesBack_59 ?_
        refine rw_topi (y := nI ((6 * z) + (6 - i))) (nI_add _ _) ?_
        refine ml_41 (x := (a 41) ((6 * z) + (6 - i))) hx hb hK hP ((6 * z) + (6 - i)) rfl (by omega) rfl dX9_comesBack_60 ?_
        refine lv_istore (lv' := [(8, .int ((a 41) ((6 * z) + (6 - i)))), (7, .int (nI (6 - i))), (0, .ref h), (1, .int (nI z)), (2, .int y), (3, .int (a 38 z)), (4, .int (a 38 z + y)), (5, .int w), (6, .int (nI i))]) hx hb dX9_comesBack_61 hl (by decide) rfl (fun ls hl => ?_)
        refine lv_iload_n hx hb dX9_comesBack_63 rfl (lv_at hl 5 rfl) ?_
        refine lv_iload hx hb dX9_comesBack_64 (lv_at hl 7 rfl) ?_
        refine lv_icmp_le (tgt := 73) hx hb dX9_comesBack_66 (by decide) (fun c66 => ?_) (fun c66 => ?_)
        · refine lv_iload hx hb dX9_comesBack_73 (lv_at hl 7 rfl) ?_
          refine lv_istore (lv' := [(9, .int w), (8, .int ((a 41) ((6 * z) + (6 - i)))), (7, .int (nI (6 - i))), (0, .ref h), (1, .int (nI z)), (2, .int y), (3, .int (a 38 z)), (4, .int (a 38 z + y)), (5, .int w), (6, .int (nI i))]) hx hb dX9_comesBack_75 hl (by decide) rfl (fun ls hl => ?_)
          refine lv_iload hx hb dX9_comesBack_77 (lv_at hl 7 rfl) ?_
          refine lv_iload hx hb dX9_comesBack_79 (lv_at hl 8 rfl) ?_
          refine lv_iload hx hb dX9_comesBack_81 (lv_at hl 1 rfl) ?_
          refine lv_iadd hx hb dX9_comesBack_83 ?_
          refine lv_icmp_ge (tgt := 92) hx hb dX9_comesBack_84 (by decide) (fun c84 => ?_) (fun c84 => ?_)
          · refine lv_iload hx hb dX9_comesBack_92 (lv_at hl 8 rfl) ?_
            refine lv_iload hx hb dX9_comesBack_94 (lv_at hl 1 rfl) ?_
            refine lv_iadd hx hb dX9_comesBack_96 ?_
            refine lv_istore (lv' := [(10, .int (w + ((a 41) ((6 * z) + (6 - i))))), (9, .int w), (8, .int ((a 41) ((6 * z) + (6 - i)))), (7, .int (nI (6 - i))), (0, .ref h), (1, .int (nI z)), (2, .int y), (3, .int (a 38 z)), (4, .int (a 38 z + y)), (5, .int w), (6, .int (nI i))]) hx hb dX9_comesBack_97 hl (by decide) rfl (fun ls hl => ?_)
            refine lv_iload hx hb dX9_comesBack_99 (lv_at hl 0 rfl) ?_
            refine lv_iload hx hb dX9_comesBack_101 (lv_at hl 1 rfl) ?_
            refine lv_icmp_le (tgt := 121) hx hb dX9_comesBack_103 (by decide) (fun c103 => ?_) (fun c103 => ?_)
            · refine lv_iload hx hb dX9_comesBack_121 (lv_at hl 9 rfl) ?_
              refine lv_iload hx hb dX9_comesBack_123 (lv_at hl 2 rfl) ?_
              refine lv_iadd hx hb dX9_comesBack_125 ?_
              refine lv_istore (lv' := [(5, .int (w + ((a 41) ((6 * z) + (6 - i))))), (10, .int (w + ((a 41) ((6 * z) + (6 - i))))), (9, .int w), (8, .int ((a 41) ((6 * z) + (6 - i)))), (7, .int (nI (6 - i))), (0, .ref h), (1, .int (nI z)), (2, .int y), (3, .int (a 38 z)), (4, .int (a 38 z + y)), (6, .int (nI i))]) hx hb dX9_comesBack_126 hl (by decide) rfl (fun ls hl => ?_)
              refine lv_iinc (v := nI (i + 1)) (lv' := [(6, .int (nI (i + 1))), (5, .int (w + ((a 41) ((6 * z) + (6 - i))))), (10, .int (w + ((a 41) ((6 * z) + (6 - i))))), (9, .int w), (8, .int ((a 41) ((6 * z) + (6 - i)))), (7, .int (nI (6 - i))), (0, .ref h), (1, .int (nI z)), (2, .int y), (3, .int (a 38 z)), (4, .int (a 38 z + y))]) hx hb dX9_comesBack_128 hl (k := 10) rfl (nI_1 _) (by decide) rfl (fun ls hl => ?_)
              refine lv_goto (tgt := 26) hx hb dX9_comesBack_131 (by decide) ?_
              exact ih (i + 1) f (w + ((a 41) ((6 * z) + (6 - i)))) H locs (by omega) (by rw [← he]; simp only [lp, cbStep, fI, if_neg c35, if_pos c66, if_pos c84, if_pos c103]) hP hD hS ls (lv_sub hl [6, 7, 8, 9, 10, 1, 0] rfl)
            · refine lv_aload_n hx hb dX9_comesBack_106 rfl (lv_at hl 4 rfl) ?_
              refine mg_19 hx hb hts hown hK hP dX9_comesBack_107 ?_
              refine lv_iload hx hb dX9_comesBack_110 (lv_at hl 3 rfl) ?_
              refine lv_dup2_11 hx hb dX9_comesBack_112 rfl rfl ?_
              refine ml_19 (x := f (6 - i)) hx hb hK hP (6 - i) rfl (by omega) rfl dX9_comesBack_113 ?_
              refine lv_iload hx hb dX9_comesBack_114 (lv_at hl 0 rfl) ?_
              refine lv_iload hx hb dX9_comesBack_116 (lv_at hl 1 rfl) ?_
              refine lv_isub hx hb dX9_comesBack_118 ?_
              refine lv_iadd hx hb dX9_comesBack_119 ?_
              refine mt_19 (f := f) hx hb hK hP hD hS (6 - i) rfl (by omega) rfl dX9_comesBack_120 (fun H locs hP hD hS => ?_)
              rw [up_up] at hP hD
              refine lv_iload hx hb dX9_comesBack_121 (lv_at hl 9 rfl) ?_
              refine lv_iload hx hb dX9_comesBack_123 (lv_at hl 2 rfl) ?_
              refine lv_iadd hx hb dX9_comesBack_125 ?_
              refine lv_istore (lv' := [(5, .int (w + ((a 41) ((6 * z) + (6 - i))))), (10, .int (w + ((a 41) ((6 * z) + (6 - i))))), (9, .int w), (8, .int ((a 41) ((6 * z) + (6 - i)))), (7, .int (nI (6 - i))), (0, .ref h), (1, .int (nI z)), (2, .int y), (3, .int (a 38 z)), (4, .int (a 38 z + y)), (6, .int (nI i))]) hx hb dX9_comesBack_126 hl (by decide) rfl (fun ls hl => ?_)
              refine lv_iinc (v := nI (i + 1)) (lv' := [(6, .int (nI (i + 1))), (5, .int (w + ((a 41) ((6 * z) + (6 - i))))), (10, .int (w + ((a 41) ((6 * z) + (6 - i))))), (9, .int w), (8, .int ((a 41) ((6 * z) + (6 - i)))), (7, .int (nI (6 - i))), (0, .ref h), (1, .int (nI z)), (2, .int y), (3, .int (a 38 z)), (4, .int (a 38 z + y))]) hx hb dX9_comesBack_128 hl (k := 10) rfl (nI_1 _) (by decide) rfl (fun ls hl => ?_)
              refine lv_goto (tgt := 26) hx hb dX9_comesBack_131 (by decide) ?_
              exact ih (i + 1) (upd f (6 - i) ((f (6 - i)) + ((w + ((a 41) ((6 * z) + (6 - i)))) - w))) (w + ((a 41) ((6 * z) + (6 - i)))) H locs (by omega) (by rw [← he]; simp only [lp, cbStep, fI, if_neg c35, if_pos c66, if_pos c84, if_neg c103]) hP hD hS ls (lv_sub hl [6, 7, 8, 9, 10, 1, 0] rfl)
          · refine lv_iload hx hb dX9_comesBack_87 (lv_at hl 7 rfl) ?_
            refine lv_goto (tgt := 97) hx hb dX9_comesBack_89 (by decide) ?_
            refine lv_istore (lv' := [(10, .int (a 38 z + y)), (9, .int w), (8, .int ((a 41) ((6 * z) + (6 - i)))), (7, .int (nI (6 - i))), (0, .ref h), (1, .int (nI z)), (2, .int y), (3, .int (a 38 z)), (4, .int (a 38 z + y)), (5, .int w), (6, .int (nI i))]) hx hb dX9_comesBack_97 hl (by decide) rfl (fun ls hl => ?_)
            refine lv_iload hx hb dX9_comesBack_99 (lv_at hl 0 rfl) ?_
            refine lv_iload hx hb dX9_comesBack_101 (lv_at hl 1 rfl) ?_
            refine lv_icmp_le (tgt := 121) hx hb dX9_comesBack_103 (by decide) (fun c103 => ?_) (fun c103 => ?_)
            · refine lv_iload hx hb dX9_comesBack_121 (lv_at hl 9 rfl) ?_
              refine lv_iload hx hb dX9_comesBack_123 (lv_at hl 2 rfl) ?_
              refine lv_iadd hx hb dX9_comesBack_125 ?_
              refine lv_istore (lv' := [(5, .int (w + ((a 41) ((6 * z) + (6 - i))))), (10, .int (a 38 z + y)), (9, .int w), (8, .int ((a 41) ((6 * z) + (6 - i)))), (7, .int (nI (6 - i))), (0, .ref h), (1, .int (nI z)), (2, .int y), (3, .int (a 38 z)), (4, .int (a 38 z + y)), (6, .int (nI i))]) hx hb dX9_comesBack_126 hl (by decide) rfl (fun ls hl => ?_)
              refine lv_iinc (v := nI (i + 1)) (lv' := [(6, .int (nI (i + 1))), (5, .int (w + ((a 41) ((6 * z) + (6 - i))))), (10, .int (a 38 z + y)), (9, .int w), (8, .int ((a 41) ((6 * z) + (6 - i)))), (7, .int (nI (6 - i))), (0, .ref h), (1, .int (nI z)), (2, .int y), (3, .int (a 38 z)), (4, .int (a 38 z + y))]) hx hb dX9_comesBack_128 hl (k := 10) rfl (nI_1 _) (by decide) rfl (fun ls hl => ?_)
              refine lv_goto (tgt := 26) hx hb dX9_comesBack_131 (by decide) ?_
              exact ih (i + 1) f (w + ((a 41) ((6 * z) + (6 - i)))) H locs (by omega) (by rw [← he]; simp only [lp, cbStep, fI, if_neg c35, if_pos c66, if_neg c84, if_pos c103]) hP hD hS ls (lv_sub hl [6, 7, 8, 9, 10, 1, 0] rfl)
            · refine lv_aload_n hx hb dX9_comesBack_106 rfl (lv_at hl 4 rfl) ?_
              refine mg_19 hx hb hts hown hK hP dX9_comesBack_107 ?_
              refine lv_iload hx hb dX9_comesBack_110 (lv_at hl 3 rfl) ?_
              refine lv_dup2_11 hx hb dX9_comesBack_112 rfl rfl ?_
              refine ml_19 (x := f (6 - i)) hx hb hK hP (6 - i) rfl (by omega) rfl dX9_comesBack_113 ?_
              refine lv_iload hx hb dX9_comesBack_114 (lv_at hl 0 rfl) ?_
              refine lv_iload hx hb dX9_comesBack_116 (lv_at hl 1 rfl) ?_
              refine lv_isub hx hb dX9_comesBack_118 ?_
              refine lv_iadd hx hb dX9_comesBack_119 ?_
              refine mt_19 (f := f) hx hb hK hP hD hS (6 - i) rfl (by omega) rfl dX9_comesBack_120 (fun H locs hP hD hS => ?_)
              rw [up_up] at hP hD
              refine lv_iload hx hb dX9_comesBack_121 (lv_at hl 9 rfl) ?_
              refine lv_iload hx hb dX9_comesBack_123 (lv_at hl 2 rfl) ?_
              refine lv_iadd hx hb dX9_comesBack_125 ?_
              refine lv_istore (lv' := [(5, .int (w + ((a 41) ((6 * z) + (6 - i))))), (10, .int (a 38 z + y)), (9, .int w), (8, .int ((a 41) ((6 * z) + (6 - i)))), (7, .int (nI (6 - i))), (0, .ref h), (1, .int (nI z)), (2, .int y), (3, .int (a 38 z)), (4, .int (a 38 z + y)), (6, .int (nI i))]) hx hb dX9_comesBack_126 hl (by decide) rfl (fun ls hl => ?_)
              refine lv_iinc (v := nI (i + 1)) (lv' := [(6, .int (nI (i + 1))), (5, .int (w + ((a 41) ((6 * z) + (6 - i))))), (10, .int (a 38 z + y)), (9, .int w), (8, .int ((a 41) ((6 * z) + (6 - i)))), (7, .int (nI (6 - i))), (0, .ref h), (1, .int (nI z)), (2, .int y), (3, .int (a 38 z)), (4, .int (a 38 z + y))]) hx hb dX9_comesBack_128 hl (k := 10) rfl (nI_1 _) (by decide) rfl (fun ls hl => ?_)
              refine lv_goto (tgt := 26) hx hb dX9_comesBack_131 (by decide) ?_
              exact ih (i + 1) (upd f (6 - i) ((f (6 - i)) + ((a 38 z + y) - w))) (w + ((a 41) ((6 * z) + (6 - i)))) H locs (by omega) (by rw [← he]; simp only [lp, cbStep, fI, if_neg c35, if_pos c66, if_neg c84, if_neg c103]) hP hD hS ls (lv_sub hl [6, 7, 8, 9, 10, 1, 0] rfl)
        · refine lv_iload_n hx hb dX9_comesBack_69 rfl (lv_at hl 5 rfl) ?_
          refine lv_goto (tgt := 75) hx hb dX9_comesBack_70 (by decide) ?_
          refine lv_istore (lv' := [(9, .int (a 38 z)), (8, .int ((a 41) ((6 * z) + (6 - i)))), (7, .int (nI (6 - i))), (0, .ref h), (1, .int (nI z)), (2, .int y), (3, .int (a 38 z)), (4, .int (a 38 z + y)), (5, .int w), (6, .int (nI i))]) hx hb dX9_comesBack_75 hl (by decide) rfl (fun ls hl => ?_)
          refine lv_iload hx hb dX9_comesBack_77 (lv_at hl 7 rfl) ?_
          refine lv_iload hx hb dX9_comesBack_79 (lv_at hl 8 rfl) ?_
          refine lv_iload hx hb dX9_comesBack_81 (lv_at hl 1 rfl) ?_
          refine lv_iadd hx hb dX9_comesBack_83 ?_
          refine lv_icmp_ge (tgt := 92) hx hb dX9_comesBack_84 (by decide) (fun c84 => ?_) (fun c84 => ?_)
          · refine lv_iload hx hb dX9_comesBack_92 (lv_at hl 8 rfl) ?_
            refine lv_iload hx hb dX9_comesBack_94 (lv_at hl 1 rfl) ?_
            refine lv_iadd hx hb dX9_comesBack_96 ?_
            refine lv_istore (lv' := [(10, .int (w + ((a 41) ((6 * z) + (6 - i))))), (9, .int (a 38 z)), (8, .int ((a 41) ((6 * z) + (6 - i)))), (7, .int (nI (6 - i))), (0, .ref h), (1, .int (nI z)), (2, .int y), (3, .int (a 38 z)), (4, .int (a 38 z + y)), (5, .int w), (6, .int (nI i))]) hx hb dX9_comesBack_97 hl (by decide) rfl (fun ls hl => ?_)
            refine lv_iload hx hb dX9_comesBack_99 (lv_at hl 0 rfl) ?_
            refine lv_iload hx hb dX9_comesBack_101 (lv_at hl 1 rfl) ?_
            refine lv_icmp_le (tgt := 121) hx hb dX9_comesBack_103 (by decide) (fun c103 => ?_) (fun c103 => ?_)
            · refine lv_iload hx hb dX9_comesBack_121 (lv_at hl 9 rfl) ?_
              refine lv_iload hx hb dX9_comesBack_123 (lv_at hl 2 rfl) ?_
              refine lv_iadd hx hb dX9_comesBack_125 ?_
              refine lv_istore (lv' := [(5, .int (w + ((a 41) ((6 * z) + (6 - i))))), (10, .int (w + ((a 41) ((6 * z) + (6 - i))))), (9, .int (a 38 z)), (8, .int ((a 41) ((6 * z) + (6 - i)))), (7, .int (nI (6 - i))), (0, .ref h), (1, .int (nI z)), (2, .int y), (3, .int (a 38 z)), (4, .int (a 38 z + y)), (6, .int (nI i))]) hx hb dX9_comesBack_126 hl (by decide) rfl (fun ls hl => ?_)
              refine lv_iinc (v := nI (i + 1)) (lv' := [(6, .int (nI (i + 1))), (5, .int (w + ((a 41) ((6 * z) + (6 - i))))), (10, .int (w + ((a 41) ((6 * z) + (6 - i))))), (9, .int (a 38 z)), (8, .int ((a 41) ((6 * z) + (6 - i)))), (7, .int (nI (6 - i))), (0, .ref h), (1, .int (nI z)), (2, .int y), (3, .int (a 38 z)), (4, .int (a 38 z + y))]) hx hb dX9_comesBack_128 hl (k := 10) rfl (nI_1 _) (by decide) rfl (fun ls hl => ?_)
              refine lv_goto (tgt := 26) hx hb dX9_comesBack_131 (by decide) ?_
              exact ih (i + 1) f (w + ((a 41) ((6 * z) + (6 - i)))) H locs (by omega) (by rw [← he]; simp only [lp, cbStep, fI, if_neg c35, if_neg c66, if_pos c84, if_pos c103]) hP hD hS ls (lv_sub hl [6, 7, 8, 9, 10, 1, 0] rfl)
            · refine lv_aload_n hx hb dX9_comesBack_106 rfl (lv_at hl 4 rfl) ?_
              refine mg_19 hx hb hts hown hK hP dX9_comesBack_107 ?_
              refine lv_iload hx hb dX9_comesBack_110 (lv_at hl 3 rfl) ?_
              refine lv_dup2_11 hx hb dX9_comesBack_112 rfl rfl ?_
              refine ml_19 (x := f (6 - i)) hx hb hK hP (6 - i) rfl (by omega) rfl dX9_comesBack_113 ?_
              refine lv_iload hx hb dX9_comesBack_114 (lv_at hl 0 rfl) ?_
              refine lv_iload hx hb dX9_comesBack_116 (lv_at hl 1 rfl) ?_
              refine lv_isub hx hb dX9_comesBack_118 ?_
              refine lv_iadd hx hb dX9_comesBack_119 ?_
              refine mt_19 (f := f) hx hb hK hP hD hS (6 - i) rfl (by omega) rfl dX9_comesBack_120 (fun H locs hP hD hS => ?_)
              rw [up_up] at hP hD
              refine lv_iload hx hb dX9_comesBack_121 (lv_at hl 9 rfl) ?_
              refine lv_iload hx hb dX9_comesBack_123 (lv_at hl 2 rfl) ?_
              refine lv_iadd hx hb dX9_comesBack_125 ?_
              refine lv_istore (lv' := [(5, .int (w + ((a 41) ((6 * z) + (6 - i))))), (10, .int (w + ((a 41) ((6 * z) + (6 - i))))), (9, .int (a 38 z)), (8, .int ((a 41) ((6 * z) + (6 - i)))), (7, .int (nI (6 - i))), (0, .ref h), (1, .int (nI z)), (2, .int y), (3, .int (a 38 z)), (4, .int (a 38 z + y)), (6, .int (nI i))]) hx hb dX9_comesBack_126 hl (by decide) rfl (fun ls hl => ?_)
              refine lv_iinc (v := nI (i + 1)) (lv' := [(6, .int (nI (i + 1))), (5, .int (w + ((a 41) ((6 * z) + (6 - i))))), (10, .int (w + ((a 41) ((6 * z) + (6 - i))))), (9, .int (a 38 z)), (8, .int ((a 41) ((6 * z) + (6 - i)))), (7, .int (nI (6 - i))), (0, .ref h), (1, .int (nI z)), (2, .int y), (3, .int (a 38 z)), (4, .int (a 38 z + y))]) hx hb dX9_comesBack_128 hl (k := 10) rfl (nI_1 _) (by decide) rfl (fun ls hl => ?_)
              refine lv_goto (tgt := 26) hx hb dX9_comesBack_131 (by decide) ?_
              exact ih (i + 1) (upd f (6 - i) ((f (6 - i)) + ((w + ((a 41) ((6 * z) + (6 - i)))) - (a 38 z)))) (w + ((a 41) ((6 * z) + (6 - i)))) H locs (by omega) (by rw [← he]; simp only [lp, cbStep, fI, if_neg c35, if_neg c66, if_pos c84, if_neg c103]) hP hD hS ls (lv_sub hl [6, 7, 8, 9, 10, 1, 0] rfl)
          · refine lv_iload hx hb dX9_comesBack_87 (lv_at hl 7 rfl) ?_
            refine lv_goto (tgt := 97) hx hb dX9_comesBack_89 (by decide) ?_
            refine lv_istore (lv' := [(10, .int (a 38 z + y)), (9, .int (a 38 z)), (8, .int ((a 41) ((6 * z) + (6 - i)))), (7, .int (nI (6 - i))), (0, .ref h), (1, .int (nI z)), (2, .int y), (3, .int (a 38 z)), (4, .int (a 38 z + y)), (5, .int w), (6, .int (nI i))]) hx hb dX9_comesBack_97 hl (by decide) rfl (fun ls hl => ?_)
            refine lv_iload hx hb dX9_comesBack_99 (lv_at hl 0 rfl) ?_
            refine lv_iload hx hb dX9_comesBack_101 (lv_at hl 1 rfl) ?_
            refine lv_icmp_le (tgt := 121) hx hb dX9_comesBack_103 (by decide) (fun c103 => ?_) (fun c103 => ?_)
            · refine lv_iload hx hb dX9_comesBack_121 (lv_at hl 9 rfl) ?_
              refine lv_iload hx hb dX9_comesBack_123 (lv_at hl 2 rfl) ?_
              refine lv_iadd hx hb dX9_comesBack_125 ?_
              refine lv_istore (lv' := [(5, .int (w + ((a 41) ((6 * z) + (6 - i))))), (10, .int (a 38 z + y)), (9, .int (a 38 z)), (8, .int ((a 41) ((6 * z) + (6 - i)))), (7, .int (nI (6 - i))), (0, .ref h), (1, .int (nI z)), (2, .int y), (3, .int (a 38 z)), (4, .int (a 38 z + y)), (6, .int (nI i))]) hx hb dX9_comesBack_126 hl (by decide) rfl (fun ls hl => ?_)
              refine lv_iinc (v := nI (i + 1)) (lv' := [(6, .int (nI (i + 1))), (5, .int (w + ((a 41) ((6 * z) + (6 - i))))), (10, .int (a 38 z + y)), (9, .int (a 38 z)), (8, .int ((a 41) ((6 * z) + (6 - i)))), (7, .int (nI (6 - i))), (0, .ref h), (1, .int (nI z)), (2, .int y), (3, .int (a 38 z)), (4, .int (a 38 z + y))]) hx hb dX9_comesBack_128 hl (k := 10) rfl (nI_1 _) (by decide) rfl (fun ls hl => ?_)
              refine lv_goto (tgt := 26) hx hb dX9_comesBack_131 (by decide) ?_
              exact ih (i + 1) f (w + ((a 41) ((6 * z) + (6 - i)))) H locs (by omega) (by rw [← he]; simp only [lp, cbStep, fI, if_neg c35, if_neg c66, if_neg c84, if_pos c103]) hP hD hS ls (lv_sub hl [6, 7, 8, 9, 10, 1, 0] rfl)
            · refine lv_aload_n hx hb dX9_comesBack_106 rfl (lv_at hl 4 rfl) ?_
              refine mg_19 hx hb hts hown hK hP dX9_comesBack_107 ?_
              refine lv_iload hx hb dX9_comesBack_110 (lv_at hl 3 rfl) ?_
              refine lv_dup2_11 hx hb dX9_comesBack_112 rfl rfl ?_
              refine ml_19 (x := f (6 - i)) hx hb hK hP (6 - i) rfl (by omega) rfl dX9_comesBack_113 ?_
              refine lv_iload hx hb dX9_comesBack_114 (lv_at hl 0 rfl) ?_
              refine lv_iload hx hb dX9_comesBack_116 (lv_at hl 1 rfl) ?_
              refine lv_isub hx hb dX9_comesBack_118 ?_
              refine lv_iadd hx hb dX9_comesBack_119 ?_
              refine mt_19 (f := f) hx hb hK hP hD hS (6 - i) rfl (by omega) rfl dX9_comesBack_120 (fun H locs hP hD hS => ?_)
              rw [up_up] at hP hD
              refine lv_iload hx hb dX9_comesBack_121 (lv_at hl 9 rfl) ?_
              refine lv_iload hx hb dX9_comesBack_123 (lv_at hl 2 rfl) ?_
              refine lv_iadd hx hb dX9_comesBack_125 ?_
              refine lv_istore (lv' := [(5, .int (w + ((a 41) ((6 * z) + (6 - i))))), (10, .int (a 38 z + y)), (9, .int (a 38 z)), (8, .int ((a 41) ((6 * z) + (6 - i)))), (7, .int (nI (6 - i))), (0, .ref h), (1, .int (nI z)), (2, .int y), (3, .int (a 38 z)), (4, .int (a 38 z + y)), (6, .int (nI i))]) hx hb dX9_comesBack_126 hl (by decide) rfl (fun ls hl => ?_)
              refine lv_iinc (v := nI (i + 1)) (lv' := [(6, .int (nI (i + 1))), (5, .int (w + ((a 41) ((6 * z) + (6 - i))))), (10, .int (a 38 z + y)), (9, .int (a 38 z)), (8, .int ((a 41) ((6 * z) + (6 - i)))), (7, .int (nI (6 - i))), (0, .ref h), (1, .int (nI z)), (2, .int y), (3, .int (a 38 z)), (4, .int (a 38 z + y))]) hx hb dX9_comesBack_128 hl (k := 10) rfl (nI_1 _) (by decide) rfl (fun ls hl => ?_)
              refine lv_goto (tgt := 26) hx hb dX9_comesBack_131 (by decide) ?_
              exact ih (i + 1) (upd f (6 - i) ((f (6 - i)) + ((a 38 z + y) - (a 38 z)))) (w + ((a 41) ((6 * z) + (6 - i)))) H locs (by omega) (by rw [← he]; simp only [lp, cbStep, fI, if_neg c35, if_neg c66, if_neg c84, if_neg c103]) hP hD hS ls (lv_sub hl [6, 7, 8, 9, 10, 1, 0] rfl)
      · replace c35 : i = 0 := (nI_eq (a := i) (b := 0) (by omega) (by omega)).mp c35
        refine lv_iconst (v := 0) hx hb dX9_comesBack_38 (by decide) ?_
        refine lv_goto (tgt := 47) hx hb dX9_comesBack_39 (by decide) ?_
        refine lv_istore (lv' := [(7, .int 0), (0, .ref h), (1, .int (nI z)), (2, .int y), (3, .int (a 38 z)), (4, .int (a 38 z + y)), (5, .int w), (6, .int (nI i))]) hx hb dX9_comesBack_47 hl (by decide) rfl (fun ls hl => ?_)
        refine lv_aload_n hx hb dX9_comesBack_49 rfl (lv_at hl 1 rfl) ?_
        refine mg_41 hx hb hts hown hK hP dX9_comesBack_50 ?_
        refine lv_bipush (v := 6) hx hb dX9_comesBack_53 (by decide) ?_
        refine lv_iload_n hx hb dX9_comesBack_55 rfl (lv_at hl 2 rfl) ?_
        refine lv_imul hx hb dX9_comesBack_56 ?_
        refine rw_topi (y := nI (6 * z)) (pk_mul _ _) ?_
        refine lv_iload hx hb dX9_comesBack_57 (lv_at hl 0 rfl) ?_
        refine lv_iadd hx hb dX9_comesBack_59 ?_
        refine rw_topi (y := nI ((6 * z) + 0)) (nI_add _ _) ?_
        refine ml_41 (x := (a 41) ((6 * z) + 0)) hx hb hK hP ((6 * z) + 0) rfl (by omega) rfl dX9_comesBack_60 ?_
        refine lv_istore (lv' := [(8, .int ((a 41) ((6 * z) + 0))), (7, .int 0), (0, .ref h), (1, .int (nI z)), (2, .int y), (3, .int (a 38 z)), (4, .int (a 38 z + y)), (5, .int w), (6, .int (nI i))]) hx hb dX9_comesBack_61 hl (by decide) rfl (fun ls hl => ?_)
        refine lv_iload_n hx hb dX9_comesBack_63 rfl (lv_at hl 5 rfl) ?_
        refine lv_iload hx hb dX9_comesBack_64 (lv_at hl 7 rfl) ?_
        refine lv_icmp_le (tgt := 73) hx hb dX9_comesBack_66 (by decide) (fun c66 => ?_) (fun c66 => ?_)
        · refine lv_iload hx hb dX9_comesBack_73 (lv_at hl 7 rfl) ?_
          refine lv_istore (lv' := [(9, .int w), (8, .int ((a 41) ((6 * z) + 0))), (7, .int 0), (0, .ref h), (1, .int (nI z)), (2, .int y), (3, .int (a 38 z)), (4, .int (a 38 z + y)), (5, .int w), (6, .int (nI i))]) hx hb dX9_comesBack_75 hl (by decide) rfl (fun ls hl => ?_)
          refine lv_iload hx hb dX9_comesBack_77 (lv_at hl 7 rfl) ?_
          refine lv_iload hx hb dX9_comesBack_79 (lv_at hl 8 rfl) ?_
          refine lv_iload hx hb dX9_comesBack_81 (lv_at hl 1 rfl) ?_
          refine lv_iadd hx hb dX9_comesBack_83 ?_
          refine lv_icmp_ge (tgt := 92) hx hb dX9_comesBack_84 (by decide) (fun c84 => ?_) (fun c84 => ?_)
          · refine lv_iload hx hb dX9_comesBack_92 (lv_at hl 8 rfl) ?_
            refine lv_iload hx hb dX9_comesBack_94 (lv_at hl 1 rfl) ?_
            refine lv_iadd hx hb dX9_comesBack_96 ?_
            refine lv_istore (lv' := [(10, .int (w + ((a 41) ((6 * z) + 0)))), (9, .int w), (8, .int ((a 41) ((6 * z) + 0))), (7, .int 0), (0, .ref h), (1, .int (nI z)), (2, .int y), (3, .int (a 38 z)), (4, .int (a 38 z + y)), (5, .int w), (6, .int (nI i))]) hx hb dX9_comesBack_97 hl (by decide) rfl (fun ls hl => ?_)
            refine lv_iload hx hb dX9_comesBack_99 (lv_at hl 0 rfl) ?_
            refine lv_iload hx hb dX9_comesBack_101 (lv_at hl 1 rfl) ?_
            refine lv_icmp_le (tgt := 121) hx hb dX9_comesBack_103 (by decide) (fun c103 => ?_) (fun c103 => ?_)
            · refine lv_iload hx hb dX9_comesBack_121 (lv_at hl 9 rfl) ?_
              refine lv_iload hx hb dX9_comesBack_123 (lv_at hl 2 rfl) ?_
              refine lv_iadd hx hb dX9_comesBack_125 ?_
              refine lv_istore (lv' := [(5, .int (w + ((a 41) ((6 * z) + 0)))), (10, .int (w + ((a 41) ((6 * z) + 0)))), (9, .int w), (8, .int ((a 41) ((6 * z) + 0))), (7, .int 0), (0, .ref h), (1, .int (nI z)), (2, .int y), (3, .int (a 38 z)), (4, .int (a 38 z + y)), (6, .int (nI i))]) hx hb dX9_comesBack_126 hl (by decide) rfl (fun ls hl => ?_)
              refine lv_iinc (v := nI (i + 1)) (lv' := [(6, .int (nI (i + 1))), (5, .int (w + ((a 41) ((6 * z) + 0)))), (10, .int (w + ((a 41) ((6 * z) + 0)))), (9, .int w), (8, .int ((a 41) ((6 * z) + 0))), (7, .int 0), (0, .ref h), (1, .int (nI z)), (2, .int y), (3, .int (a 38 z)), (4, .int (a 38 z + y))]) hx hb dX9_comesBack_128 hl (k := 10) rfl (nI_1 _) (by decide) rfl (fun ls hl => ?_)
              refine lv_goto (tgt := 26) hx hb dX9_comesBack_131 (by decide) ?_
              exact ih (i + 1) f (w + ((a 41) ((6 * z) + 0))) H locs (by omega) (by rw [← he]; simp only [lp, cbStep, fI, if_pos c35, if_pos c66, if_pos c84, if_pos c103]) hP hD hS ls (lv_sub hl [6, 7, 8, 9, 10, 1, 0] rfl)
            · refine lv_aload_n hx hb dX9_comesBack_106 rfl (lv_at hl 4 rfl) ?_
              refine mg_19 hx hb hts hown hK hP dX9_comesBack_107 ?_
              refine lv_iload hx hb dX9_comesBack_110 (lv_at hl 3 rfl) ?_
              refine lv_dup2_11 hx hb dX9_comesBack_112 rfl rfl ?_
              refine ml_19 (x := f 0) hx hb hK hP 0 rfl (by omega) rfl dX9_comesBack_113 ?_
              refine lv_iload hx hb dX9_comesBack_114 (lv_at hl 0 rfl) ?_
              refine lv_iload hx hb dX9_comesBack_116 (lv_at hl 1 rfl) ?_
              refine lv_isub hx hb dX9_comesBack_118 ?_
              refine lv_iadd hx hb dX9_comesBack_119 ?_
              refine mt_19 (f := f) hx hb hK hP hD hS 0 rfl (by omega) rfl dX9_comesBack_120 (fun H locs hP hD hS => ?_)
              rw [up_up] at hP hD
              refine lv_iload hx hb dX9_comesBack_121 (lv_at hl 9 rfl) ?_
              refine lv_iload hx hb dX9_comesBack_123 (lv_at hl 2 rfl) ?_
              refine lv_iadd hx hb dX9_comesBack_125 ?_
              refine lv_istore (lv' := [(5, .int (w + ((a 41) ((6 * z) + 0)))), (10, .int (w + ((a 41) ((6 * z) + 0)))), (9, .int w), (8, .int ((a 41) ((6 * z) + 0))), (7, .int 0), (0, .ref h), (1, .int (nI z)), (2, .int y), (3, .int (a 38 z)), (4, .int (a 38 z + y)), (6, .int (nI i))]) hx hb dX9_comesBack_126 hl (by decide) rfl (fun ls hl => ?_)
              refine lv_iinc (v := nI (i + 1)) (lv' := [(6, .int (nI (i + 1))), (5, .int (w + ((a 41) ((6 * z) + 0)))), (10, .int (w + ((a 41) ((6 * z) + 0)))), (9, .int w), (8, .int ((a 41) ((6 * z) + 0))), (7, .int 0), (0, .ref h), (1, .int (nI z)), (2, .int y), (3, .int (a 38 z)), (4, .int (a 38 z + y))]) hx hb dX9_comesBack_128 hl (k := 10) rfl (nI_1 _) (by decide) rfl (fun ls hl => ?_)
              refine lv_goto (tgt := 26) hx hb dX9_comesBack_131 (by decide) ?_
              exact ih (i + 1) (upd f 0 ((f 0) + ((w + ((a 41) ((6 * z) + 0))) - w))) (w + ((a 41) ((6 * z) + 0))) H locs (by omega) (by rw [← he]; simp only [lp, cbStep, fI, if_pos c35, if_pos c66, if_pos c84, if_neg c103]) hP hD hS ls (lv_sub hl [6, 7, 8, 9, 10, 1, 0] rfl)
          · refine lv_iload hx hb dX9_comesBack_87 (lv_at hl 7 rfl) ?_
            refine lv_goto (tgt := 97) hx hb dX9_comesBack_89 (by decide) ?_
            refine lv_istore (lv' := [(10, .int (a 38 z + y)), (9, .int w), (8, .int ((a 41) ((6 * z) + 0))), (7, .int 0), (0, .ref h), (1, .int (nI z)), (2, .int y), (3, .int (a 38 z)), (4, .int (a 38 z + y)), (5, .int w), (6, .int (nI i))]) hx hb dX9_comesBack_97 hl (by decide) rfl (fun ls hl => ?_)
            refine lv_iload hx hb dX9_comesBack_99 (lv_at hl 0 rfl) ?_
            refine lv_iload hx hb dX9_comesBack_101 (lv_at hl 1 rfl) ?_
            refine lv_icmp_le (tgt := 121) hx hb dX9_comesBack_103 (by decide) (fun c103 => ?_) (fun c103 => ?_)
            · refine lv_iload hx hb dX9_comesBack_121 (lv_at hl 9 rfl) ?_
              refine lv_iload hx hb dX9_comesBack_123 (lv_at hl 2 rfl) ?_
              refine lv_iadd hx hb dX9_comesBack_125 ?_
              refine lv_istore (lv' := [(5, .int (w + ((a 41) ((6 * z) + 0)))), (10, .int (a 38 z + y)), (9, .int w), (8, .int ((a 41) ((6 * z) + 0))), (7, .int 0), (0, .ref h), (1, .int (nI z)), (2, .int y), (3, .int (a 38 z)), (4, .int (a 38 z + y)), (6, .int (nI i))]) hx hb dX9_comesBack_126 hl (by decide) rfl (fun ls hl => ?_)
              refine lv_iinc (v := nI (i + 1)) (lv' := [(6, .int (nI (i + 1))), (5, .int (w + ((a 41) ((6 * z) + 0)))), (10, .int (a 38 z + y)), (9, .int w), (8, .int ((a 41) ((6 * z) + 0))), (7, .int 0), (0, .ref h), (1, .int (nI z)), (2, .int y), (3, .int (a 38 z)), (4, .int (a 38 z + y))]) hx hb dX9_comesBack_128 hl (k := 10) rfl (nI_1 _) (by decide) rfl (fun ls hl => ?_)
              refine lv_goto (tgt := 26) hx hb dX9_comesBack_131 (by decide) ?_
              exact ih (i + 1) f (w + ((a 41) ((6 * z) + 0))) H locs (by omega) (by rw [← he]; simp only [lp, cbStep, fI, if_pos c35, if_pos c66, if_neg c84, if_pos c103]) hP hD hS ls (lv_sub hl [6, 7, 8, 9, 10, 1, 0] rfl)
            · refine lv_aload_n hx hb dX9_comesBack_106 rfl (lv_at hl 4 rfl) ?_
              refine mg_19 hx hb hts hown hK hP dX9_comesBack_107 ?_
              refine lv_iload hx hb dX9_comesBack_110 (lv_at hl 3 rfl) ?_
              refine lv_dup2_11 hx hb dX9_comesBack_112 rfl rfl ?_
              refine ml_19 (x := f 0) hx hb hK hP 0 rfl (by omega) rfl dX9_comesBack_113 ?_
              refine lv_iload hx hb dX9_comesBack_114 (lv_at hl 0 rfl) ?_
              refine lv_iload hx hb dX9_comesBack_116 (lv_at hl 1 rfl) ?_
              refine lv_isub hx hb dX9_comesBack_118 ?_
              refine lv_iadd hx hb dX9_comesBack_119 ?_
              refine mt_19 (f := f) hx hb hK hP hD hS 0 rfl (by omega) rfl dX9_comesBack_120 (fun H locs hP hD hS => ?_)
              rw [up_up] at hP hD
              refine lv_iload hx hb dX9_comesBack_121 (lv_at hl 9 rfl) ?_
              refine lv_iload hx hb dX9_comesBack_123 (lv_at hl 2 rfl) ?_
              refine lv_iadd hx hb dX9_comesBack_125 ?_
              refine lv_istore (lv' := [(5, .int (w + ((a 41) ((6 * z) + 0)))), (10, .int (a 38 z + y)), (9, .int w), (8, .int ((a 41) ((6 * z) + 0))), (7, .int 0), (0, .ref h), (1, .int (nI z)), (2, .int y), (3, .int (a 38 z)), (4, .int (a 38 z + y)), (6, .int (nI i))]) hx hb dX9_comesBack_126 hl (by decide) rfl (fun ls hl => ?_)
              refine lv_iinc (v := nI (i + 1)) (lv' := [(6, .int (nI (i + 1))), (5, .int (w + ((a 41) ((6 * z) + 0)))), (10, .int (a 38 z + y)), (9, .int w), (8, .int ((a 41) ((6 * z) + 0))), (7, .int 0), (0, .ref h), (1, .int (nI z)), (2, .int y), (3, .int (a 38 z)), (4, .int (a 38 z + y))]) hx hb dX9_comesBack_128 hl (k := 10) rfl (nI_1 _) (by decide) rfl (fun ls hl => ?_)
              refine lv_goto (tgt := 26) hx hb dX9_comesBack_131 (by decide) ?_
              exact ih (i + 1) (upd f 0 ((f 0) + ((a 38 z + y) - w))) (w + ((a 41) ((6 * z) + 0))) H locs (by omega) (by rw [← he]; simp only [lp, cbStep, fI, if_pos c35, if_pos c66, if_neg c84, if_neg c103]) hP hD hS ls (lv_sub hl [6, 7, 8, 9, 10, 1, 0] rfl)
        · refine lv_iload_n hx hb dX9_comesBack_69 rfl (lv_at hl 5 rfl) ?_
          refine lv_goto (tgt := 75) hx hb dX9_comesBack_70 (by decide) ?_
          refine lv_istore (lv' := [(9, .int (a 38 z)), (8, .int ((a 41) ((6 * z) + 0))), (7, .int 0), (0, .ref h), (1, .int (nI z)), (2, .int y), (3, .int (a 38 z)), (4, .int (a 38 z + y)), (5, .int w), (6, .int (nI i))]) hx hb dX9_comesBack_75 hl (by decide) rfl (fun ls hl => ?_)
          refine lv_iload hx hb dX9_comesBack_77 (lv_at hl 7 rfl) ?_
          refine lv_iload hx hb dX9_comesBack_79 (lv_at hl 8 rfl) ?_
          refine lv_iload hx hb dX9_comesBack_81 (lv_at hl 1 rfl) ?_
          refine lv_iadd hx hb dX9_comesBack_83 ?_
          refine lv_icmp_ge (tgt := 92) hx hb dX9_comesBack_84 (by decide) (fun c84 => ?_) (fun c84 => ?_)
          · refine lv_iload hx hb dX9_comesBack_92 (lv_at hl 8 rfl) ?_
            refine lv_iload hx hb dX9_comesBack_94 (lv_at hl 1 rfl) ?_
            refine lv_iadd hx hb dX9_comesBack_96 ?_
            refine lv_istore (lv' := [(10, .int (w + ((a 41) ((6 * z) + 0)))), (9, .int (a 38 z)), (8, .int ((a 41) ((6 * z) + 0))), (7, .int 0), (0, .ref h), (1, .int (nI z)), (2, .int y), (3, .int (a 38 z)), (4, .int (a 38 z + y)), (5, .int w), (6, .int (nI i))]) hx hb dX9_comesBack_97 hl (by decide) rfl (fun ls hl => ?_)
            refine lv_iload hx hb dX9_comesBack_99 (lv_at hl 0 rfl) ?_
            refine lv_iload hx hb dX9_comesBack_101 (lv_at hl 1 rfl) ?_
            refine lv_icmp_le (tgt := 121) hx hb dX9_comesBack_103 (by decide) (fun c103 => ?_) (fun c103 => ?_)
            · refine lv_iload hx hb dX9_comesBack_121 (lv_at hl 9 rfl) ?_
              refine lv_iload hx hb dX9_comesBack_123 (lv_at hl 2 rfl) ?_
              refine lv_iadd hx hb dX9_comesBack_125 ?_
              refine lv_istore (lv' := [(5, .int (w + ((a 41) ((6 * z) + 0)))), (10, .int (w + ((a 41) ((6 * z) + 0)))), (9, .int (a 38 z)), (8, .int ((a 41) ((6 * z) + 0))), (7, .int 0), (0, .ref h), (1, .int (nI z)), (2, .int y), (3, .int (a 38 z)), (4, .int (a 38 z + y)), (6, .int (nI i))]) hx hb dX9_comesBack_126 hl (by decide) rfl (fun ls hl => ?_)
              refine lv_iinc (v := nI (i + 1)) (lv' := [(6, .int (nI (i + 1))), (5, .int (w + ((a 41) ((6 * z) + 0)))), (10, .int (w + ((a 41) ((6 * z) + 0)))), (9, .int (a 38 z)), (8, .int ((a 41) ((6 * z) + 0))), (7, .int 0), (0, .ref h), (1, .int (nI z)), (2, .int y), (3, .int (a 38 z)), (4, .int (a 38 z + y))]) hx hb dX9_comesBack_128 hl (k := 10) rfl (nI_1 _) (by decide) rfl (fun ls hl => ?_)
              refine lv_goto (tgt := 26) hx hb dX9_comesBack_131 (by decide) ?_
              exact ih (i + 1) f (w + ((a 41) ((6 * z) + 0))) H locs (by omega) (by rw [← he]; simp only [lp, cbStep, fI, if_pos c35, if_neg c66, if_pos c84, if_pos c103]) hP hD hS ls (lv_sub hl [6, 7, 8, 9, 10, 1, 0] rfl)
            · refine lv_aload_n hx hb dX9_comesBack_106 rfl (lv_at hl 4 rfl) ?_
              refine mg_19 hx hb hts hown hK hP dX9_comesBack_107 ?_
              refine lv_iload hx hb dX9_comesBack_110 (lv_at hl 3 rfl) ?_
              refine lv_dup2_11 hx hb dX9_comesBack_112 rfl rfl ?_
              refine ml_19 (x := f 0) hx hb hK hP 0 rfl (by omega) rfl dX9_comesBack_113 ?_
              refine lv_iload hx hb dX9_comesBack_114 (lv_at hl 0 rfl) ?_
              refine lv_iload hx hb dX9_comesBack_116 (lv_at hl 1 rfl) ?_
              refine lv_isub hx hb dX9_comesBack_118 ?_
              refine lv_iadd hx hb dX9_comesBack_119 ?_
              refine mt_19 (f := f) hx hb hK hP hD hS 0 rfl (by omega) rfl dX9_comesBack_120 (fun H locs hP hD hS => ?_)
              rw [up_up] at hP hD
              refine lv_iload hx hb dX9_comesBack_121 (lv_at hl 9 rfl) ?_
              refine lv_iload hx hb dX9_comesBack_123 (lv_at hl 2 rfl) ?_
              refine lv_iadd hx hb dX9_comesBack_125 ?_
              refine lv_istore (lv' := [(5, .int (w + ((a 41) ((6 * z) + 0)))), (10, .int (w + ((a 41) ((6 * z) + 0)))), (9, .int (a 38 z)), (8, .int ((a 41) ((6 * z) + 0))), (7, .int 0), (0, .ref h), (1, .int (nI z)), (2, .int y), (3, .int (a 38 z)), (4, .int (a 38 z + y)), (6, .int (nI i))]) hx hb dX9_comesBack_126 hl (by decide) rfl (fun ls hl => ?_)
              refine lv_iinc (v := nI (i + 1)) (lv' := [(6, .int (nI (i + 1))), (5, .int (w + ((a 41) ((6 * z) + 0)))), (10, .int (w + ((a 41) ((6 * z) + 0)))), (9, .int (a 38 z)), (8, .int ((a 41) ((6 * z) + 0))), (7, .int 0), (0, .ref h), (1, .int (nI z)), (2, .int y), (3, .int (a 38 z)), (4, .int (a 38 z + y))]) hx hb dX9_comesBack_128 hl (k := 10) rfl (nI_1 _) (by decide) rfl (fun ls hl => ?_)
              refine lv_goto (tgt := 26) hx hb dX9_comesBack_131 (by decide) ?_
              exact ih (i + 1) (upd f 0 ((f 0) + ((w + ((a 41) ((6 * z) + 0))) - (a 38 z)))) (w + ((a 41) ((6 * z) + 0))) H locs (by omega) (by rw [← he]; simp only [lp, cbStep, fI, if_pos c35, if_neg c66, if_pos c84, if_neg c103]) hP hD hS ls (lv_sub hl [6, 7, 8, 9, 10, 1, 0] rfl)
          · refine lv_iload hx hb dX9_comesBack_87 (lv_at hl 7 rfl) ?_
            refine lv_goto (tgt := 97) hx hb dX9_comesBack_89 (by decide) ?_
            refine lv_istore (lv' := [(10, .int (a 38 z + y)), (9, .int (a 38 z)), (8, .int ((a 41) ((6 * z) + 0))), (7, .int 0), (0, .ref h), (1, .int (nI z)), (2, .int y), (3, .int (a 38 z)), (4, .int (a 38 z + y)), (5, .int w), (6, .int (nI i))]) hx hb dX9_comesBack_97 hl (by decide) rfl (fun ls hl => ?_)
            refine lv_iload hx hb dX9_comesBack_99 (lv_at hl 0 rfl) ?_
            refine lv_iload hx hb dX9_comesBack_101 (lv_at hl 1 rfl) ?_
            refine lv_icmp_le (tgt := 121) hx hb dX9_comesBack_103 (by decide) (fun c103 => ?_) (fun c103 => ?_)
            · refine lv_iload hx hb dX9_comesBack_121 (lv_at hl 9 rfl) ?_
              refine lv_iload hx hb dX9_comesBack_123 (lv_at hl 2 rfl) ?_
              refine lv_iadd hx hb dX9_comesBack_125 ?_
              refine lv_istore (lv' := [(5, .int (w + ((a 41) ((6 * z) + 0)))), (10, .int (a 38 z + y)), (9, .int (a 38 z)), (8, .int ((a 41) ((6 * z) + 0))), (7, .int 0), (0, .ref h), (1, .int (nI z)), (2, .int y), (3, .int (a 38 z)), (4, .int (a 38 z + y)), (6, .int (nI i))]) hx hb dX9_comesBack_126 hl (by decide) rfl (fun ls hl => ?_)
              refine lv_iinc (v := nI (i + 1)) (lv' := [(6, .int (nI (i + 1))), (5, .int (w + ((a 41) ((6 * z) + 0)))), (10, .int (a 38 z + y)), (9, .int (a 38 z)), (8, .int ((a 41) ((6 * z) + 0))), (7, .int 0), (0, .ref h), (1, .int (nI z)), (2, .int y), (3, .int (a 38 z)), (4, .int (a 38 z + y))]) hx hb dX9_comesBack_128 hl (k := 10) rfl (nI_1 _) (by decide) rfl (fun ls hl => ?_)
              refine lv_goto (tgt := 26) hx hb dX9_comesBack_131 (by decide) ?_
              exact ih (i + 1) f (w + ((a 41) ((6 * z) + 0))) H locs (by omega) (by rw [← he]; simp only [lp, cbStep, fI, if_pos c35, if_neg c66, if_neg c84, if_pos c103]) hP hD hS ls (lv_sub hl [6, 7, 8, 9, 10, 1, 0] rfl)
            · refine lv_aload_n hx hb dX9_comesBack_106 rfl (lv_at hl 4 rfl) ?_
              refine mg_19 hx hb hts hown hK hP dX9_comesBack_107 ?_
              refine lv_iload hx hb dX9_comesBack_110 (lv_at hl 3 rfl) ?_
              refine lv_dup2_11 hx hb dX9_comesBack_112 rfl rfl ?_
              refine ml_19 (x := f 0) hx hb hK hP 0 rfl (by omega) rfl dX9_comesBack_113 ?_
              refine lv_iload hx hb dX9_comesBack_114 (lv_at hl 0 rfl) ?_
              refine lv_iload hx hb dX9_comesBack_116 (lv_at hl 1 rfl) ?_
              refine lv_isub hx hb dX9_comesBack_118 ?_
              refine lv_iadd hx hb dX9_comesBack_119 ?_
              refine mt_19 (f := f) hx hb hK hP hD hS 0 rfl (by omega) rfl dX9_comesBack_120 (fun H locs hP hD hS => ?_)
              rw [up_up] at hP hD
              refine lv_iload hx hb dX9_comesBack_121 (lv_at hl 9 rfl) ?_
              refine lv_iload hx hb dX9_comesBack_123 (lv_at hl 2 rfl) ?_
              refine lv_iadd hx hb dX9_comesBack_125 ?_
              refine lv_istore (lv' := [(5, .int (w + ((a 41) ((6 * z) + 0)))), (10, .int (a 38 z + y)), (9, .int (a 38 z)), (8, .int ((a 41) ((6 * z) + 0))), (7, .int 0), (0, .ref h), (1, .int (nI z)), (2, .int y), (3, .int (a 38 z)), (4, .int (a 38 z + y)), (6, .int (nI i))]) hx hb dX9_comesBack_126 hl (by decide) rfl (fun ls hl => ?_)
              refine lv_iinc (v := nI (i + 1)) (lv' := [(6, .int (nI (i + 1))), (5, .int (w + ((a 41) ((6 * z) + 0)))), (10, .int (a 38 z + y)), (9, .int (a 38 z)), (8, .int ((a 41) ((6 * z) + 0))), (7, .int 0), (0, .ref h), (1, .int (nI z)), (2, .int y), (3, .int (a 38 z)), (4, .int (a 38 z + y))]) hx hb dX9_comesBack_128 hl (k := 10) rfl (nI_1 _) (by decide) rfl (fun ls hl => ?_)
              refine lv_goto (tgt := 26) hx hb dX9_comesBack_131 (by decide) ?_
              exact ih (i + 1) (upd f 0 ((f 0) + ((a 38 z + y) - (a 38 z)))) (w + ((a 41) ((6 * z) + 0))) H locs (by omega) (by rw [← he]; simp only [lp, cbStep, fI, if_pos c35, if_neg c66, if_neg c84, if_neg c103]) hP hD hS ls (lv_sub hl [6, 7, 8, 9, 10, 1, 0] rfl)
  refine lv_aload_n hx hb dX9_comesBack_0 rfl (lv_at hl 0 rfl) ?_
  refine mg_38 hx hb hts hown hK hP dX9_comesBack_1 ?_
  refine lv_iload_n hx hb dX9_comesBack_4 rfl (lv_at hl 1 rfl) ?_
  refine ml_38 (x := (a 38) z) hx hb hK hP z rfl (by omega) rfl dX9_comesBack_5 ?_
  refine lv_istore_n (lv' := [(3, .int ((a 38) z)), (0, .ref h), (1, .int (nI z)), (2, .int y)]) hx hb dX9_comesBack_6 rfl hl (by decide) rfl (fun ls hl => ?_)
  refine lv_iload_n hx hb dX9_comesBack_7 rfl (lv_at hl 0 rfl) ?_
  refine lv_iload_n hx hb dX9_comesBack_8 rfl (lv_at hl 3 rfl) ?_
  refine lv_iadd hx hb dX9_comesBack_9 ?_
  refine lv_istore (lv' := [(4, .int (((a 38) z) + y)), (3, .int ((a 38) z)), (0, .ref h), (1, .int (nI z)), (2, .int y)]) hx hb dX9_comesBack_10 hl (by decide) rfl (fun ls hl => ?_)
  refine lv_aload_n hx hb dX9_comesBack_12 rfl (lv_at hl 2 rfl) ?_
  refine mg_38 hx hb hts hown hK hP dX9_comesBack_13 ?_
  refine lv_iload_n hx hb dX9_comesBack_16 rfl (lv_at hl 3 rfl) ?_
  refine lv_iload hx hb dX9_comesBack_17 (lv_at hl 0 rfl) ?_
  refine mt_38 (f := a 38) hx hb hK hP hD hS z rfl (by omega) rfl dX9_comesBack_19 (fun H locs hP hD hS => ?_)
  refine lv_iconst (v := 0) hx hb dX9_comesBack_20 (by decide) ?_
  refine lv_istore (lv' := [(5, .int 0), (4, .int (((a 38) z) + y)), (3, .int ((a 38) z)), (0, .ref h), (1, .int (nI z)), (2, .int y)]) hx hb dX9_comesBack_21 hl (by decide) rfl (fun ls hl => ?_)
  refine lv_iconst (v := 0) hx hb dX9_comesBack_23 (by decide) ?_
  refine lv_istore (lv' := [(6, .int 0), (5, .int 0), (4, .int (((a 38) z) + y)), (3, .int ((a 38) z)), (0, .ref h), (1, .int (nI z)), (2, .int y)]) hx hb dX9_comesBack_24 hl (by decide) rfl (fun ls hl => ?_)
  exact L 6 0 (a 19) 0 H locs (by omega) (rfl) hP hD hS ls (lv_sub hl [4, 5, 6, 3, 2, 1, 0] rfl)
def fRest (z : Nat) (u : MSt) : Int32 := u.2.2.2 27 z - u.2.2.2 32 z + (u.2.2.2 33 z + u.2.2.2 30 z) - u.2.2.2 34 z
def mLateA (z : Nat) (u : MSt) : Nat → Nat → Int32 := up (up (up u.2.2.2 35 (upd (u.2.2.2 35) z (u.2.2.2 35 z + 1))) 36 (upd (u.2.2.2 36) z (u.2.2.2 36 z + 1))) 33 (upd (u.2.2.2 33) z (u.2.2.2 33 z + u.2.2.2 30 z))
def mLateP (z n : Nat) (u : MSt) : Nat × (Nat → Int32) × (Nat → Int32) × (Nat → Int32) := lp (lateStep (u.2.2.2 40) z n (fRest z u)) n 0 (u.1 46, u.2.2.2 43, u.2.2.2 44, u.2.2.2 45)
def mLate (z n : Nat) (u : MSt) : MSt := if u.2.2.2 31 z ≤ u.2.2.2 36 z + 1 then (up u.1 46 (mLateP z n u).1, if n = 0 then up u.2.1 25 (u.2.1 25 + fRest z u) else u.2.1, u.2.2.1, up (up (up (up (mLateA z u) 37 (upd (u.2.2.2 37) z 2)) 43 (mLateP z n u).2.1) 44 (mLateP z n u).2.2.1) 45 (mLateP z n u).2.2.2) else (u.1, u.2.1, u.2.2.1, mLateA z u)
set_option maxHeartbeats 4000000 in
set_option maxRecDepth 100000 in
theorem c_X9_isLate (l : Launch) (D : va_G) (h : Nat) (q : Nat → Nat) (k : Nat → ClassId) (c : Nat → Nat) (v : Nat → Int32) (nm : Int64) (a : Nat → Nat → Int32) (z : Nat) (hz : z < 100) (n : Nat) (hsz : a 39 z = nI n ∧ n ≤ 3) (hc3 : c 46 + 3 ≤ 300) : Fs (S := MSt) l yX9_isLate cX9_isLate 5 none 0 0 0 D (TY k) G0 [.ref h, .int (nI z)] (Mw h q k c v nm a) (fun _ => none) (fun u => u = mLate z n (c, v, nm, a)) (fun u => MwU h q k u) := by
  refine fs_body (by decide +kernel) (Nat.le_of_ble_eq_true rfl) ?_
  intro p e s m args below meth c_ Q A hx hb hml hown hts hK hP hD hS hA hG hin hr hq hlocks ls hl
  replace hl : lv_has ls 5 [(0, .ref h), (1, .int (nI z))] := hl
  change s.vm.findClass RX9 = some m.cls at hown
  refine lv_aload_n hx hb dX9_isLate_0 rfl (lv_at hl 0 rfl) ?_
  refine mg_35 hx hb hts hown hK hP dX9_isLate_1 ?_
  refine lv_iload_n hx hb dX9_isLate_4 rfl (lv_at hl 1 rfl) ?_
  refine lv_dup2_11 hx hb dX9_isLate_5 rfl rfl ?_
  refine ml_35 (x := (a 35) z) hx hb hK hP z rfl (by omega) rfl dX9_isLate_6 ?_
  refine lv_iconst (v := 1) hx hb dX9_isLate_7 (by decide) ?_
  refine lv_iadd hx hb dX9_isLate_8 ?_
  refine mt_35 (f := a 35) hx hb hK hP hD hS z rfl (by omega) rfl dX9_isLate_9 (fun H locs hP hD hS => ?_)
  refine lv_aload_n hx hb dX9_isLate_10 rfl (lv_at hl 0 rfl) ?_
  refine mg_36 hx hb hts hown hK hP dX9_isLate_11 ?_
  refine lv_iload_n hx hb dX9_isLate_14 rfl (lv_at hl 1 rfl) ?_
  refine lv_dup2_11 hx hb dX9_isLate_15 rfl rfl ?_
  refine ml_36 (x := (a 36) z) hx hb hK hP z rfl (by omega) rfl dX9_isLate_16 ?_
  refine lv_iconst (v := 1) hx hb dX9_isLate_17 (by decide) ?_
  refine lv_iadd hx hb dX9_isLate_18 ?_
  refine mt_36 (f := a 36) hx hb hK hP hD hS z rfl (by omega) rfl dX9_isLate_19 (fun H locs hP hD hS => ?_)
  refine lv_aload_n hx hb dX9_isLate_20 rfl (lv_at hl 0 rfl) ?_
  refine mg_33 hx hb hts hown hK hP dX9_isLate_21 ?_
  refine lv_iload_n hx hb dX9_isLate_24 rfl (lv_at hl 1 rfl) ?_
  refine lv_dup2_11 hx hb dX9_isLate_25 rfl rfl ?_
  refine ml_33 (x := (a 33) z) hx hb hK hP z rfl (by omega) rfl dX9_isLate_26 ?_
  refine lv_aload_n hx hb dX9_isLate_27 rfl (lv_at hl 0 rfl) ?_
  refine mg_30 hx hb hts hown hK hP dX9_isLate_28 ?_
  refine lv_iload_n hx hb dX9_isLate_31 rfl (lv_at hl 1 rfl) ?_
  refine ml_30 (x := (a 30) z) hx hb hK hP z rfl (by omega) rfl dX9_isLate_32 ?_
  refine lv_iadd hx hb dX9_isLate_33 ?_
  refine mt_33 (f := a 33) hx hb hK hP hD hS z rfl (by omega) rfl dX9_isLate_34 (fun H locs hP hD hS => ?_)
  refine lv_aload_n hx hb dX9_isLate_35 rfl (lv_at hl 0 rfl) ?_
  refine mg_36 hx hb hts hown hK hP dX9_isLate_36 ?_
  refine lv_iload_n hx hb dX9_isLate_39 rfl (lv_at hl 1 rfl) ?_
  refine ml_36 (x := (upd (a 36) z (((a 36) z) + 1)) z) hx hb hK hP z rfl (by omega) rfl dX9_isLate_40 ?_
  refine rw_topi (y := a 36 z + 1) (upd_eq _ _ _) ?_
  refine lv_aload_n hx hb dX9_isLate_41 rfl (lv_at hl 0 rfl) ?_
  refine mg_31 hx hb hts hown hK hP dX9_isLate_42 ?_
  refine lv_iload_n hx hb dX9_isLate_45 rfl (lv_at hl 1 rfl) ?_
  refine ml_31 (x := (a 31) z) hx hb hK hP z rfl (by omega) rfl dX9_isLate_46 ?_
  refine lv_icmp_ge (tgt := 51) hx hb dX9_isLate_47 (by decide) (fun c47 => ?_) (fun c47 => ?_)
  · refine lv_aload_n hx hb dX9_isLate_51 rfl (lv_at hl 0 rfl) ?_
    refine mg_37 hx hb hts hown hK hP dX9_isLate_52 ?_
    refine lv_iload_n hx hb dX9_isLate_55 rfl (lv_at hl 1 rfl) ?_
    refine lv_iconst (v := 2) hx hb dX9_isLate_56 (by decide) ?_
    refine mt_37 (f := a 37) hx hb hK hP hD hS z rfl (by omega) rfl dX9_isLate_57 (fun H locs hP hD hS => ?_)
    refine lv_aload_n hx hb dX9_isLate_58 rfl (lv_at hl 0 rfl) ?_
    refine mg_27 hx hb hts hown hK hP dX9_isLate_59 ?_
    refine lv_iload_n hx hb dX9_isLate_62 rfl (lv_at hl 1 rfl) ?_
    refine ml_27 (x := (a 27) z) hx hb hK hP z rfl (by omega) rfl dX9_isLate_63 ?_
    refine lv_aload_n hx hb dX9_isLate_64 rfl (lv_at hl 0 rfl) ?_
    refine mg_32 hx hb hts hown hK hP dX9_isLate_65 ?_
    refine lv_iload_n hx hb dX9_isLate_68 rfl (lv_at hl 1 rfl) ?_
    refine ml_32 (x := (a 32) z) hx hb hK hP z rfl (by omega) rfl dX9_isLate_69 ?_
    refine lv_isub hx hb dX9_isLate_70 ?_
    refine lv_aload_n hx hb dX9_isLate_71 rfl (lv_at hl 0 rfl) ?_
    refine mg_33 hx hb hts hown hK hP dX9_isLate_72 ?_
    refine lv_iload_n hx hb dX9_isLate_75 rfl (lv_at hl 1 rfl) ?_
    refine ml_33 (x := (upd (a 33) z (((a 33) z) + ((a 30) z))) z) hx hb hK hP z rfl (by omega) rfl dX9_isLate_76 ?_
    refine rw_topi (y := a 33 z + a 30 z) (upd_eq _ _ _) ?_
    refine lv_iadd hx hb dX9_isLate_77 ?_
    refine lv_aload_n hx hb dX9_isLate_78 rfl (lv_at hl 0 rfl) ?_
    refine mg_34 hx hb hts hown hK hP dX9_isLate_79 ?_
    refine lv_iload_n hx hb dX9_isLate_82 rfl (lv_at hl 1 rfl) ?_
    refine ml_34 (x := (a 34) z) hx hb hK hP z rfl (by omega) rfl dX9_isLate_83 ?_
    refine lv_isub hx hb dX9_isLate_84 ?_
    refine lv_istore_n (lv' := [(2, .int (((((a 27) z) - ((a 32) z)) + (a 33 z + a 30 z)) - ((a 34) z))), (0, .ref h), (1, .int (nI z))]) hx hb dX9_isLate_85 rfl hl (by decide) rfl (fun ls hl => ?_)
    refine lv_aload_n hx hb dX9_isLate_86 rfl (lv_at hl 1 rfl) ?_
    refine mg_39 hx hb hts hown hK hP dX9_isLate_87 ?_
    refine lv_iload_n hx hb dX9_isLate_90 rfl (lv_at hl 2 rfl) ?_
    refine ml_39 (x := (a 39) z) hx hb hK hP z rfl (by omega) rfl dX9_isLate_91 ?_
    refine rw_topi (y := nI n) (hsz.1) ?_
    refine lv_if_ne (tgt := 105) hx hb dX9_isLate_92 (by decide) (fun c92 => ?_) (fun c92 => ?_)
    · replace c92 : ¬ (n = 0) := fun z => c92 ((nI_eq (a := n) (b := 0) (by omega) (by omega)).mpr z)
      have L : ∀ (r i : Nat) (m_ : Nat) (f3 : Nat → Int32) (f4 : Nat → Int32) (f5 : Nat → Int32) (H : Heap) (locs : List Loc), i + r = n → m_ ≤ c 46 + i → lp (lateStep (a 40) z n (a 27 z - a 32 z + (a 33 z + a 30 z) - a 34 z)) r i (m_, f3, f4, f5) = lp (lateStep (a 40) z n (a 27 z - a 32 z + (a 33 z + a 30 z) - a 34 z)) n 0 (c 46, a 43, a 44, a 45) → va_P D vwCl (Mw h q k (up c 46 m_) v nm (up (up (up (up (up (up (up a 35 (upd (a 35) z (((a 35) z) + 1))) 36 (upd (a 36) z (((a 36) z) + 1))) 33 (upd (a 33) z (((a 33) z) + ((a 30) z)))) 37 (upd (a 37) z 2)) 43 f3) 44 f4) 45 f5)) H → va_D A (Mw h q k (up c 46 m_) v nm (up (up (up (up (up (up (up a 35 (upd (a 35) z (((a 35) z) + 1))) 36 (upd (a 36) z (((a 36) z) + 1))) 33 (upd (a 33) z (((a 33) z) + ((a 30) z)))) 37 (upd (a 37) z 2)) 43 f3) 44 f4) 45 f5)) → va_S A s.heap H locs → ∀ (ls : Array Slot), lv_has ls 5 [(0, .ref h), (1, .int (nI z)), (2, .int (a 27 z - a 32 z + (a 33 z + a 30 z) - a 34 z)), (3, .int (nI i))] → W p l e (rmd 0 0 0) s m args below meth c_ H locs 0 0 Q (F0 m 107 ls []) := by
        intro r
        induction r with
        | zero =>
          intro i m_ f3 f4 f5 H locs hi hm he hP hD hS ls hl
          refine lv_iload_n hx hb dX9_isLate_107 rfl (lv_at hl 3 rfl) ?_
          refine lv_aload_n hx hb dX9_isLate_108 rfl (lv_at hl 0 rfl) ?_
          refine mg_39 hx hb hts hown hK hP dX9_isLate_109 ?_
          refine lv_iload_n hx hb dX9_isLate_112 rfl (lv_at hl 1 rfl) ?_
          refine ml_39 (x := (a 39) z) hx hb hK hP z rfl (by omega) rfl dX9_isLate_113 ?_
          refine rw_topi (y := nI n) (hsz.1) ?_
          refine lv_icmp_ge (tgt := 209) hx hb dX9_isLate_114 (by decide) (fun c114 => ?_) (fun c114 => absurd (nI_le (by omega) (by omega)) c114)
          exact fs_v hx hb hr hlocks hq (up c 46 m_, v, nm, up (up (up (up (up (up (up a 35 (upd (a 35) z (((a 35) z) + 1))) 36 (upd (a 36) z (((a 36) z) + 1))) 33 (upd (a 33) z (((a 33) z) + ((a 30) z)))) 37 (upd (a 37) z 2)) 43 f3) 44 f4) 45 f5) (by simp only [mLate, if_pos c47, if_neg c92]; simp only [mLateP, fRest]; rw [← he]; rfl) hP hD hS dX9_isLate_209 rfl
        | succ r ih =>
          intro i m_ f3 f4 f5 H locs hi hm he hP hD hS ls hl
          refine lv_iload_n hx hb dX9_isLate_107 rfl (lv_at hl 3 rfl) ?_
          refine lv_aload_n hx hb dX9_isLate_108 rfl (lv_at hl 0 rfl) ?_
          refine mg_39 hx hb hts hown hK hP dX9_isLate_109 ?_
          refine lv_iload_n hx hb dX9_isLate_112 rfl (lv_at hl 1 rfl) ?_
          refine ml_39 (x := (a 39) z) hx hb hK hP z rfl (by omega) rfl dX9_isLate_113 ?_
          refine rw_topi (y := nI n) (hsz.1) ?_
          refine lv_icmp_ge (tgt := 209) hx hb dX9_isLate_114 (by decide) (fun c114 => absurd c114 (nI_ge (by omega) (by omega))) (fun c114 => ?_)
          refine lv_iload_n hx hb dX9_isLate_117 rfl (lv_at hl 2 rfl) ?_
          refine lv_aload_n hx hb dX9_isLate_118 rfl (lv_at hl 0 rfl) ?_
          refine mg_39 hx hb hts hown hK hP dX9_isLate_119 ?_
          refine lv_iload_n hx hb dX9_isLate_122 rfl (lv_at hl 1 rfl) ?_
          refine ml_39 (x := (a 39) z) hx hb hK hP z rfl (by omega) rfl dX9_isLate_123 ?_
          refine rw_topi (y := nI n) (hsz.1) ?_
          refine lv_idiv hx hb dX9_isLate_124 (nI_ne0 (by omega) (by omega)) ?_
          refine lv_iload_n hx hb dX9_isLate_125 rfl (lv_at hl 3 rfl) ?_
          refine lv_iload_n hx hb dX9_isLate_126 rfl (lv_at hl 2 rfl) ?_
          refine lv_aload_n hx hb dX9_isLate_127 rfl (lv_at hl 0 rfl) ?_
          refine mg_39 hx hb hts hown hK hP dX9_isLate_128 ?_
          refine lv_iload_n hx hb dX9_isLate_131 rfl (lv_at hl 1 rfl) ?_
          refine ml_39 (x := (a 39) z) hx hb hK hP z rfl (by omega) rfl dX9_isLate_132 ?_
          refine rw_topi (y := nI n) (hsz.1) ?_
          refine lv_irem hx hb dX9_isLate_133 (nI_ne0 (by omega) (by omega)) ?_
          refine lv_icmp_ge (tgt := 141) hx hb dX9_isLate_134 (by decide) (fun c134 => ?_) (fun c134 => ?_)
          · refine lv_iconst (v := 0) hx hb dX9_isLate_141 (by decide) ?_
            refine lv_iadd hx hb dX9_isLate_142 ?_
            refine lv_istore (lv' := [(4, .int (((a 27 z - a 32 z + (a 33 z + a 30 z) - a 34 z) / (nI n)) + 0)), (0, .ref h), (1, .int (nI z)), (2, .int (a 27 z - a 32 z + (a 33 z + a 30 z) - a 34 z)), (3, .int (nI i))]) hx hb dX9_isLate_143 hl (by decide) rfl (fun ls hl => ?_)
            refine lv_iload hx hb dX9_isLate_145 (lv_at hl 0 rfl) ?_
            refine lv_if_ne (tgt := 153) hx hb dX9_isLate_147 (by decide) (fun c147 => ?_) (fun c147 => ?_)
            · refine lv_aload_n hx hb dX9_isLate_153 rfl (lv_at hl 1 rfl) ?_
              refine mg_43 hx hb hts hown hK hP dX9_isLate_154 ?_
              refine lv_aload_n hx hb dX9_isLate_157 rfl (lv_at hl 1 rfl) ?_
              refine mg_46 (x := nI m_) hx hb hts hown hK hP rfl dX9_isLate_158 ?_
              refine lv_aload_n hx hb dX9_isLate_161 rfl (lv_at hl 1 rfl) ?_
              refine mg_40 hx hb hts hown hK hP dX9_isLate_162 ?_
              refine lv_iconst (v := 3) hx hb dX9_isLate_165 (by decide) ?_
              refine lv_iload_n hx hb dX9_isLate_166 rfl (lv_at hl 2 rfl) ?_
              refine lv_imul hx hb dX9_isLate_167 ?_
              refine rw_topi (y := nI (3 * z)) (pk_mul _ _) ?_
              refine lv_iload_n hx hb dX9_isLate_168 rfl (lv_at hl 4 rfl) ?_
              refine lv_iadd hx hb dX9_isLate_169 ?_
              refine rw_topi (y := nI ((3 * z) + i)) (nI_add _ _) ?_
              refine ml_40 (x := (a 40) ((3 * z) + i)) hx hb hK hP ((3 * z) + i) rfl (by omega) rfl dX9_isLate_170 ?_
              refine mt_43 (f := f3) hx hb hK hP hD hS m_ rfl (by omega) rfl dX9_isLate_171 (fun H locs hP hD hS => ?_)
              refine lv_aload_n hx hb dX9_isLate_172 rfl (lv_at hl 1 rfl) ?_
              refine mg_44 hx hb hts hown hK hP dX9_isLate_173 ?_
              refine lv_aload_n hx hb dX9_isLate_176 rfl (lv_at hl 1 rfl) ?_
              refine mg_46 (x := nI m_) hx hb hts hown hK hP rfl dX9_isLate_177 ?_
              refine lv_iload_n hx hb dX9_isLate_180 rfl (lv_at hl 2 rfl) ?_
              refine mt_44 (f := f4) hx hb hK hP hD hS m_ rfl (by omega) rfl dX9_isLate_181 (fun H locs hP hD hS => ?_)
              refine lv_aload_n hx hb dX9_isLate_182 rfl (lv_at hl 1 rfl) ?_
              refine mg_45 hx hb hts hown hK hP dX9_isLate_183 ?_
              refine lv_aload_n hx hb dX9_isLate_186 rfl (lv_at hl 1 rfl) ?_
              refine mg_46 (x := nI m_) hx hb hts hown hK hP rfl dX9_isLate_187 ?_
              refine lv_iload hx hb dX9_isLate_190 (lv_at hl 0 rfl) ?_
              refine mt_45 (f := f5) hx hb hK hP hD hS m_ rfl (by omega) rfl dX9_isLate_192 (fun H locs hP hD hS => ?_)
              refine lv_aload_n hx hb dX9_isLate_193 rfl (lv_at hl 1 rfl) ?_
              refine lv_dup hx hb dX9_isLate_194 rfl ?_
              refine mg_46 (x := nI m_) hx hb hts hown hK hP rfl dX9_isLate_195 ?_
              refine lv_iconst (v := 1) hx hb dX9_isLate_198 (by decide) ?_
              refine lv_iadd hx hb dX9_isLate_199 ?_
              refine rw_topi (y := nI (m_ + 1)) (nI_add _ _) ?_
              refine mp_46 hx hb hts hown hK hP hD hS (m_ + 1) rfl dX9_isLate_200 (fun H locs hP hD hS => ?_)
              rw [up_up] at hP hD
              refine lv_iinc (v := nI (i + 1)) (lv' := [(3, .int (nI (i + 1))), (4, .int (((a 27 z - a 32 z + (a 33 z + a 30 z) - a 34 z) / (nI n)) + 0)), (0, .ref h), (1, .int (nI z)), (2, .int (a 27 z - a 32 z + (a 33 z + a 30 z) - a 34 z))]) hx hb dX9_isLate_203 hl (k := 4) rfl (nI_1 _) (by decide) rfl (fun ls hl => ?_)
              refine lv_goto (tgt := 107) hx hb dX9_isLate_206 (by decide) ?_
              exact ih (i + 1) (m_ + 1) (upd f3 m_ ((a 40) ((3 * z) + i))) (upd f4 m_ (nI z)) (upd f5 m_ (((a 27 z - a 32 z + (a 33 z + a 30 z) - a 34 z) / (nI n)) + 0)) H locs (by omega) (by omega) (by rw [← he]; simp only [lp, lateStep, lateV, if_pos c134, if_neg c147]) hP hD hS ls (lv_sub hl [2, 3, 4, 0] rfl)
            · refine lv_goto (tgt := 203) hx hb dX9_isLate_150 (by decide) ?_
              refine lv_iinc (v := nI (i + 1)) (lv' := [(3, .int (nI (i + 1))), (4, .int (((a 27 z - a 32 z + (a 33 z + a 30 z) - a 34 z) / (nI n)) + 0)), (0, .ref h), (1, .int (nI z)), (2, .int (a 27 z - a 32 z + (a 33 z + a 30 z) - a 34 z))]) hx hb dX9_isLate_203 hl (k := 4) rfl (nI_1 _) (by decide) rfl (fun ls hl => ?_)
              refine lv_goto (tgt := 107) hx hb dX9_isLate_206 (by decide) ?_
              exact ih (i + 1) m_ f3 f4 f5 H locs (by omega) (by omega) (by rw [← he]; simp only [lp, lateStep, lateV, if_pos c134, if_pos c147]) hP hD hS ls (lv_sub hl [2, 3, 4, 0] rfl)
          · refine lv_iconst (v := 1) hx hb dX9_isLate_137 (by decide) ?_
            refine lv_goto (tgt := 142) hx hb dX9_isLate_138 (by decide) ?_
            refine lv_iadd hx hb dX9_isLate_142 ?_
            refine lv_istore (lv' := [(4, .int (((a 27 z - a 32 z + (a 33 z + a 30 z) - a 34 z) / (nI n)) + 1)), (0, .ref h), (1, .int (nI z)), (2, .int (a 27 z - a 32 z + (a 33 z + a 30 z) - a 34 z)), (3, .int (nI i))]) hx hb dX9_isLate_143 hl (by decide) rfl (fun ls hl => ?_)
            refine lv_iload hx hb dX9_isLate_145 (lv_at hl 0 rfl) ?_
            refine lv_if_ne (tgt := 153) hx hb dX9_isLate_147 (by decide) (fun c147 => ?_) (fun c147 => ?_)
            · refine lv_aload_n hx hb dX9_isLate_153 rfl (lv_at hl 1 rfl) ?_
              refine mg_43 hx hb hts hown hK hP dX9_isLate_154 ?_
              refine lv_aload_n hx hb dX9_isLate_157 rfl (lv_at hl 1 rfl) ?_
              refine mg_46 (x := nI m_) hx hb hts hown hK hP rfl dX9_isLate_158 ?_
              refine lv_aload_n hx hb dX9_isLate_161 rfl (lv_at hl 1 rfl) ?_
              refine mg_40 hx hb hts hown hK hP dX9_isLate_162 ?_
              refine lv_iconst (v := 3) hx hb dX9_isLate_165 (by decide) ?_
              refine lv_iload_n hx hb dX9_isLate_166 rfl (lv_at hl 2 rfl) ?_
              refine lv_imul hx hb dX9_isLate_167 ?_
              refine rw_topi (y := nI (3 * z)) (pk_mul _ _) ?_
              refine lv_iload_n hx hb dX9_isLate_168 rfl (lv_at hl 4 rfl) ?_
              refine lv_iadd hx hb dX9_isLate_169 ?_
              refine rw_topi (y := nI ((3 * z) + i)) (nI_add _ _) ?_
              refine ml_40 (x := (a 40) ((3 * z) + i)) hx hb hK hP ((3 * z) + i) rfl (by omega) rfl dX9_isLate_170 ?_
              refine mt_43 (f := f3) hx hb hK hP hD hS m_ rfl (by omega) rfl dX9_isLate_171 (fun H locs hP hD hS => ?_)
              refine lv_aload_n hx hb dX9_isLate_172 rfl (lv_at hl 1 rfl) ?_
              refine mg_44 hx hb hts hown hK hP dX9_isLate_173 ?_
              refine lv_aload_n hx hb dX9_isLate_176 rfl (lv_at hl 1 rfl) ?_
              refine mg_46 (x := nI m_) hx hb hts hown hK hP rfl dX9_isLate_177 ?_
              refine lv_iload_n hx hb dX9_isLate_180 rfl (lv_at hl 2 rfl) ?_
              refine mt_44 (f := f4) hx hb hK hP hD hS m_ rfl (by omega) rfl dX9_isLate_181 (fun H locs hP hD hS => ?_)
              refine lv_aload_n hx hb dX9_isLate_182 rfl (lv_at hl 1 rfl) ?_
              refine mg_45 hx hb hts hown hK hP dX9_isLate_183 ?_
              refine lv_aload_n hx hb dX9_isLate_186 rfl (lv_at hl 1 rfl) ?_
              refine mg_46 (x := nI m_) hx hb hts hown hK hP rfl dX9_isLate_187 ?_
              refine lv_iload hx hb dX9_isLate_190 (lv_at hl 0 rfl) ?_
              refine mt_45 (f := f5) hx hb hK hP hD hS m_ rfl (by omega) rfl dX9_isLate_192 (fun H locs hP hD hS => ?_)
              refine lv_aload_n hx hb dX9_isLate_193 rfl (lv_at hl 1 rfl) ?_
              refine lv_dup hx hb dX9_isLate_194 rfl ?_
              refine mg_46 (x := nI m_) hx hb hts hown hK hP rfl dX9_isLate_195 ?_
              refine lv_iconst (v := 1) hx hb dX9_isLate_198 (by decide) ?_
              refine lv_iadd hx hb dX9_isLate_199 ?_
              refine rw_topi (y := nI (m_ + 1)) (nI_add _ _) ?_
              refine mp_46 hx hb hts hown hK hP hD hS (m_ + 1) rfl dX9_isLate_200 (fun H locs hP hD hS => ?_)
              rw [up_up] at hP hD
              refine lv_iinc (v := nI (i + 1)) (lv' := [(3, .int (nI (i + 1))), (4, .int (((a 27 z - a 32 z + (a 33 z + a 30 z) - a 34 z) / (nI n)) + 1)), (0, .ref h), (1, .int (nI z)), (2, .int (a 27 z - a 32 z + (a 33 z + a 30 z) - a 34 z))]) hx hb dX9_isLate_203 hl (k := 4) rfl (nI_1 _) (by decide) rfl (fun ls hl => ?_)
              refine lv_goto (tgt := 107) hx hb dX9_isLate_206 (by decide) ?_
              exact ih (i + 1) (m_ + 1) (upd f3 m_ ((a 40) ((3 * z) + i))) (upd f4 m_ (nI z)) (upd f5 m_ (((a 27 z - a 32 z + (a 33 z + a 30 z) - a 34 z) / (nI n)) + 1)) H locs (by omega) (by omega) (by rw [← he]; simp only [lp, lateStep, lateV, if_neg c134, if_neg c147]) hP hD hS ls (lv_sub hl [2, 3, 4, 0] rfl)
            · refine lv_goto (tgt := 203) hx hb dX9_isLate_150 (by decide) ?_
              refine lv_iinc (v := nI (i + 1)) (lv' := [(3, .int (nI (i + 1))), (4, .int (((a 27 z - a 32 z + (a 33 z + a 30 z) - a 34 z) / (nI n)) + 1)), (0, .ref h), (1, .int (nI z)), (2, .int (a 27 z - a 32 z + (a 33 z + a 30 z) - a 34 z))]) hx hb dX9_isLate_203 hl (k := 4) rfl (nI_1 _) (by decide) rfl (fun ls hl => ?_)
              refine lv_goto (tgt := 107) hx hb dX9_isLate_206 (by decide) ?_
              exact ih (i + 1) m_ f3 f4 f5 H locs (by omega) (by omega) (by rw [← he]; simp only [lp, lateStep, lateV, if_neg c134, if_pos c147]) hP hD hS ls (lv_sub hl [2, 3, 4, 0] rfl)
      refine lv_iconst (v := 0) hx hb dX9_isLate_105 (by decide) ?_
      refine lv_istore_n (lv' := [(3, .int 0), (2, .int (((((a 27) z) - ((a 32) z)) + (a 33 z + a 30 z)) - ((a 34) z))), (0, .ref h), (1, .int (nI z))]) hx hb dX9_isLate_106 rfl hl (by decide) rfl (fun ls hl => ?_)
      exact L n 0 (c 46) (a 43) (a 44) (a 45) H locs (by omega) (by omega) (rfl) hP hD hS ls (lv_sub hl [2, 3, 1, 0] rfl)
    · replace c92 : n = 0 := (nI_eq (a := n) (b := 0) (by omega) (by omega)).mp c92
      refine lv_aload_n hx hb dX9_isLate_95 rfl (lv_at hl 1 rfl) ?_
      refine lv_dup hx hb dX9_isLate_96 rfl ?_
      refine mg_25 (x := v 25) hx hb hts hown hK hP rfl dX9_isLate_97 ?_
      refine lv_iload_n hx hb dX9_isLate_100 rfl (lv_at hl 0 rfl) ?_
      refine lv_iadd hx hb dX9_isLate_101 ?_
      refine mp_25 hx hb hts hown hK hP hD hS ((v 25) + (((((a 27) z) - ((a 32) z)) + (a 33 z + a 30 z)) - ((a 34) z))) dX9_isLate_102 (fun H locs hP hD hS => ?_)
      have L : ∀ (r i : Nat) (m_ : Nat) (f3 : Nat → Int32) (f4 : Nat → Int32) (f5 : Nat → Int32) (H : Heap) (locs : List Loc), i + r = n → m_ ≤ c 46 + i → lp (lateStep (a 40) z n (a 27 z - a 32 z + (a 33 z + a 30 z) - a 34 z)) r i (m_, f3, f4, f5) = lp (lateStep (a 40) z n (a 27 z - a 32 z + (a 33 z + a 30 z) - a 34 z)) n 0 (c 46, a 43, a 44, a 45) → va_P D vwCl (Mw h q k (up c 46 m_) (up v 25 ((v 25) + (((((a 27) z) - ((a 32) z)) + (a 33 z + a 30 z)) - ((a 34) z)))) nm (up (up (up (up (up (up (up a 35 (upd (a 35) z (((a 35) z) + 1))) 36 (upd (a 36) z (((a 36) z) + 1))) 33 (upd (a 33) z (((a 33) z) + ((a 30) z)))) 37 (upd (a 37) z 2)) 43 f3) 44 f4) 45 f5)) H → va_D A (Mw h q k (up c 46 m_) (up v 25 ((v 25) + (((((a 27) z) - ((a 32) z)) + (a 33 z + a 30 z)) - ((a 34) z)))) nm (up (up (up (up (up (up (up a 35 (upd (a 35) z (((a 35) z) + 1))) 36 (upd (a 36) z (((a 36) z) + 1))) 33 (upd (a 33) z (((a 33) z) + ((a 30) z)))) 37 (upd (a 37) z 2)) 43 f3) 44 f4) 45 f5)) → va_S A s.heap H locs → ∀ (ls : Array Slot), lv_has ls 5 [(0, .ref h), (1, .int (nI z)), (2, .int (a 27 z - a 32 z + (a 33 z + a 30 z) - a 34 z)), (3, .int (nI i))] → W p l e (rmd 0 0 0) s m args below meth c_ H locs 0 0 Q (F0 m 107 ls []) := by
        intro r
        induction r with
        | zero =>
          intro i m_ f3 f4 f5 H locs hi hm he hP hD hS ls hl
          refine lv_iload_n hx hb dX9_isLate_107 rfl (lv_at hl 3 rfl) ?_
          refine lv_aload_n hx hb dX9_isLate_108 rfl (lv_at hl 0 rfl) ?_
          refine mg_39 hx hb hts hown hK hP dX9_isLate_109 ?_
          refine lv_iload_n hx hb dX9_isLate_112 rfl (lv_at hl 1 rfl) ?_
          refine ml_39 (x := (a 39) z) hx hb hK hP z rfl (by omega) rfl dX9_isLate_113 ?_
          refine rw_topi (y := nI n) (hsz.1) ?_
          refine lv_icmp_ge (tgt := 209) hx hb dX9_isLate_114 (by decide) (fun c114 => ?_) (fun c114 => absurd (nI_le (by omega) (by omega)) c114)
          exact fs_v hx hb hr hlocks hq (up c 46 m_, up v 25 ((v 25) + (((((a 27) z) - ((a 32) z)) + (a 33 z + a 30 z)) - ((a 34) z))), nm, up (up (up (up (up (up (up a 35 (upd (a 35) z (((a 35) z) + 1))) 36 (upd (a 36) z (((a 36) z) + 1))) 33 (upd (a 33) z (((a 33) z) + ((a 30) z)))) 37 (upd (a 37) z 2)) 43 f3) 44 f4) 45 f5) (by simp only [mLate, if_pos c47, if_pos c92]; simp only [mLateP, fRest]; rw [← he]; rfl) hP hD hS dX9_isLate_209 rfl
        | succ r ih =>
          intro i m_ f3 f4 f5 H locs hi hm he hP hD hS ls hl
          refine lv_iload_n hx hb dX9_isLate_107 rfl (lv_at hl 3 rfl) ?_
          refine lv_aload_n hx hb dX9_isLate_108 rfl (lv_at hl 0 rfl) ?_
          refine mg_39 hx hb hts hown hK hP dX9_isLate_109 ?_
          refine lv_iload_n hx hb dX9_isLate_112 rfl (lv_at hl 1 rfl) ?_
          refine ml_39 (x := (a 39) z) hx hb hK hP z rfl (by omega) rfl dX9_isLate_113 ?_
          refine rw_topi (y := nI n) (hsz.1) ?_
          refine lv_icmp_ge (tgt := 209) hx hb dX9_isLate_114 (by decide) (fun c114 => absurd c114 (nI_ge (by omega) (by omega))) (fun c114 => ?_)
          refine lv_iload_n hx hb dX9_isLate_117 rfl (lv_at hl 2 rfl) ?_
          refine lv_aload_n hx hb dX9_isLate_118 rfl (lv_at hl 0 rfl) ?_
          refine mg_39 hx hb hts hown hK hP dX9_isLate_119 ?_
          refine lv_iload_n hx hb dX9_isLate_122 rfl (lv_at hl 1 rfl) ?_
          refine ml_39 (x := (a 39) z) hx hb hK hP z rfl (by omega) rfl dX9_isLate_123 ?_
          refine rw_topi (y := nI n) (hsz.1) ?_
          refine lv_idiv hx hb dX9_isLate_124 (nI_ne0 (by omega) (by omega)) ?_
          refine lv_iload_n hx hb dX9_isLate_125 rfl (lv_at hl 3 rfl) ?_
          refine lv_iload_n hx hb dX9_isLate_126 rfl (lv_at hl 2 rfl) ?_
          refine lv_aload_n hx hb dX9_isLate_127 rfl (lv_at hl 0 rfl) ?_
          refine mg_39 hx hb hts hown hK hP dX9_isLate_128 ?_
          refine lv_iload_n hx hb dX9_isLate_131 rfl (lv_at hl 1 rfl) ?_
          refine ml_39 (x := (a 39) z) hx hb hK hP z rfl (by omega) rfl dX9_isLate_132 ?_
          refine rw_topi (y := nI n) (hsz.1) ?_
          refine lv_irem hx hb dX9_isLate_133 (nI_ne0 (by omega) (by omega)) ?_
          refine lv_icmp_ge (tgt := 141) hx hb dX9_isLate_134 (by decide) (fun c134 => ?_) (fun c134 => ?_)
          · refine lv_iconst (v := 0) hx hb dX9_isLate_141 (by decide) ?_
            refine lv_iadd hx hb dX9_isLate_142 ?_
            refine lv_istore (lv' := [(4, .int (((a 27 z - a 32 z + (a 33 z + a 30 z) - a 34 z) / (nI n)) + 0)), (0, .ref h), (1, .int (nI z)), (2, .int (a 27 z - a 32 z + (a 33 z + a 30 z) - a 34 z)), (3, .int (nI i))]) hx hb dX9_isLate_143 hl (by decide) rfl (fun ls hl => ?_)
            refine lv_iload hx hb dX9_isLate_145 (lv_at hl 0 rfl) ?_
            refine lv_if_ne (tgt := 153) hx hb dX9_isLate_147 (by decide) (fun c147 => ?_) (fun c147 => ?_)
            · refine lv_aload_n hx hb dX9_isLate_153 rfl (lv_at hl 1 rfl) ?_
              refine mg_43 hx hb hts hown hK hP dX9_isLate_154 ?_
              refine lv_aload_n hx hb dX9_isLate_157 rfl (lv_at hl 1 rfl) ?_
              refine mg_46 (x := nI m_) hx hb hts hown hK hP rfl dX9_isLate_158 ?_
              refine lv_aload_n hx hb dX9_isLate_161 rfl (lv_at hl 1 rfl) ?_
              refine mg_40 hx hb hts hown hK hP dX9_isLate_162 ?_
              refine lv_iconst (v := 3) hx hb dX9_isLate_165 (by decide) ?_
              refine lv_iload_n hx hb dX9_isLate_166 rfl (lv_at hl 2 rfl) ?_
              refine lv_imul hx hb dX9_isLate_167 ?_
              refine rw_topi (y := nI (3 * z)) (pk_mul _ _) ?_
              refine lv_iload_n hx hb dX9_isLate_168 rfl (lv_at hl 4 rfl) ?_
              refine lv_iadd hx hb dX9_isLate_169 ?_
              refine rw_topi (y := nI ((3 * z) + i)) (nI_add _ _) ?_
              refine ml_40 (x := (a 40) ((3 * z) + i)) hx hb hK hP ((3 * z) + i) rfl (by omega) rfl dX9_isLate_170 ?_
              refine mt_43 (f := f3) hx hb hK hP hD hS m_ rfl (by omega) rfl dX9_isLate_171 (fun H locs hP hD hS => ?_)
              refine lv_aload_n hx hb dX9_isLate_172 rfl (lv_at hl 1 rfl) ?_
              refine mg_44 hx hb hts hown hK hP dX9_isLate_173 ?_
              refine lv_aload_n hx hb dX9_isLate_176 rfl (lv_at hl 1 rfl) ?_
              refine mg_46 (x := nI m_) hx hb hts hown hK hP rfl dX9_isLate_177 ?_
              refine lv_iload_n hx hb dX9_isLate_180 rfl (lv_at hl 2 rfl) ?_
              refine mt_44 (f := f4) hx hb hK hP hD hS m_ rfl (by omega) rfl dX9_isLate_181 (fun H locs hP hD hS => ?_)
              refine lv_aload_n hx hb dX9_isLate_182 rfl (lv_at hl 1 rfl) ?_
              refine mg_45 hx hb hts hown hK hP dX9_isLate_183 ?_
              refine lv_aload_n hx hb dX9_isLate_186 rfl (lv_at hl 1 rfl) ?_
              refine mg_46 (x := nI m_) hx hb hts hown hK hP rfl dX9_isLate_187 ?_
              refine lv_iload hx hb dX9_isLate_190 (lv_at hl 0 rfl) ?_
              refine mt_45 (f := f5) hx hb hK hP hD hS m_ rfl (by omega) rfl dX9_isLate_192 (fun H locs hP hD hS => ?_)
              refine lv_aload_n hx hb dX9_isLate_193 rfl (lv_at hl 1 rfl) ?_
              refine lv_dup hx hb dX9_isLate_194 rfl ?_
              refine mg_46 (x := nI m_) hx hb hts hown hK hP rfl dX9_isLate_195 ?_
              refine lv_iconst (v := 1) hx hb dX9_isLate_198 (by decide) ?_
              refine lv_iadd hx hb dX9_isLate_199 ?_
              refine rw_topi (y := nI (m_ + 1)) (nI_add _ _) ?_
              refine mp_46 hx hb hts hown hK hP hD hS (m_ + 1) rfl dX9_isLate_200 (fun H locs hP hD hS => ?_)
              rw [up_up] at hP hD
              refine lv_iinc (v := nI (i + 1)) (lv' := [(3, .int (nI (i + 1))), (4, .int (((a 27 z - a 32 z + (a 33 z + a 30 z) - a 34 z) / (nI n)) + 0)), (0, .ref h), (1, .int (nI z)), (2, .int (a 27 z - a 32 z + (a 33 z + a 30 z) - a 34 z))]) hx hb dX9_isLate_203 hl (k := 4) rfl (nI_1 _) (by decide) rfl (fun ls hl => ?_)
              refine lv_goto (tgt := 107) hx hb dX9_isLate_206 (by decide) ?_
              exact ih (i + 1) (m_ + 1) (upd f3 m_ ((a 40) ((3 * z) + i))) (upd f4 m_ (nI z)) (upd f5 m_ (((a 27 z - a 32 z + (a 33 z + a 30 z) - a 34 z) / (nI n)) + 0)) H locs (by omega) (by omega) (by rw [← he]; simp only [lp, lateStep, lateV, if_pos c134, if_neg c147]) hP hD hS ls (lv_sub hl [2, 3, 4, 0] rfl)
            · refine lv_goto (tgt := 203) hx hb dX9_isLate_150 (by decide) ?_
              refine lv_iinc (v := nI (i + 1)) (lv' := [(3, .int (nI (i + 1))), (4, .int (((a 27 z - a 32 z + (a 33 z + a 30 z) - a 34 z) / (nI n)) + 0)), (0, .ref h), (1, .int (nI z)), (2, .int (a 27 z - a 32 z + (a 33 z + a 30 z) - a 34 z))]) hx hb dX9_isLate_203 hl (k := 4) rfl (nI_1 _) (by decide) rfl (fun ls hl => ?_)
              refine lv_goto (tgt := 107) hx hb dX9_isLate_206 (by decide) ?_
              exact ih (i + 1) m_ f3 f4 f5 H locs (by omega) (by omega) (by rw [← he]; simp only [lp, lateStep, lateV, if_pos c134, if_pos c147]) hP hD hS ls (lv_sub hl [2, 3, 4, 0] rfl)
          · refine lv_iconst (v := 1) hx hb dX9_isLate_137 (by decide) ?_
            refine lv_goto (tgt := 142) hx hb dX9_isLate_138 (by decide) ?_
            refine lv_iadd hx hb dX9_isLate_142 ?_
            refine lv_istore (lv' := [(4, .int (((a 27 z - a 32 z + (a 33 z + a 30 z) - a 34 z) / (nI n)) + 1)), (0, .ref h), (1, .int (nI z)), (2, .int (a 27 z - a 32 z + (a 33 z + a 30 z) - a 34 z)), (3, .int (nI i))]) hx hb dX9_isLate_143 hl (by decide) rfl (fun ls hl => ?_)
            refine lv_iload hx hb dX9_isLate_145 (lv_at hl 0 rfl) ?_
            refine lv_if_ne (tgt := 153) hx hb dX9_isLate_147 (by decide) (fun c147 => ?_) (fun c147 => ?_)
            · refine lv_aload_n hx hb dX9_isLate_153 rfl (lv_at hl 1 rfl) ?_
              refine mg_43 hx hb hts hown hK hP dX9_isLate_154 ?_
              refine lv_aload_n hx hb dX9_isLate_157 rfl (lv_at hl 1 rfl) ?_
              refine mg_46 (x := nI m_) hx hb hts hown hK hP rfl dX9_isLate_158 ?_
              refine lv_aload_n hx hb dX9_isLate_161 rfl (lv_at hl 1 rfl) ?_
              refine mg_40 hx hb hts hown hK hP dX9_isLate_162 ?_
              refine lv_iconst (v := 3) hx hb dX9_isLate_165 (by decide) ?_
              refine lv_iload_n hx hb dX9_isLate_166 rfl (lv_at hl 2 rfl) ?_
              refine lv_imul hx hb dX9_isLate_167 ?_
              refine rw_topi (y := nI (3 * z)) (pk_mul _ _) ?_
              refine lv_iload_n hx hb dX9_isLate_168 rfl (lv_at hl 4 rfl) ?_
              refine lv_iadd hx hb dX9_isLate_169 ?_
              refine rw_topi (y := nI ((3 * z) + i)) (nI_add _ _) ?_
              refine ml_40 (x := (a 40) ((3 * z) + i)) hx hb hK hP ((3 * z) + i) rfl (by omega) rfl dX9_isLate_170 ?_
              refine mt_43 (f := f3) hx hb hK hP hD hS m_ rfl (by omega) rfl dX9_isLate_171 (fun H locs hP hD hS => ?_)
              refine lv_aload_n hx hb dX9_isLate_172 rfl (lv_at hl 1 rfl) ?_
              refine mg_44 hx hb hts hown hK hP dX9_isLate_173 ?_
              refine lv_aload_n hx hb dX9_isLate_176 rfl (lv_at hl 1 rfl) ?_
              refine mg_46 (x := nI m_) hx hb hts hown hK hP rfl dX9_isLate_177 ?_
              refine lv_iload_n hx hb dX9_isLate_180 rfl (lv_at hl 2 rfl) ?_
              refine mt_44 (f := f4) hx hb hK hP hD hS m_ rfl (by omega) rfl dX9_isLate_181 (fun H locs hP hD hS => ?_)
              refine lv_aload_n hx hb dX9_isLate_182 rfl (lv_at hl 1 rfl) ?_
              refine mg_45 hx hb hts hown hK hP dX9_isLate_183 ?_
              refine lv_aload_n hx hb dX9_isLate_186 rfl (lv_at hl 1 rfl) ?_
              refine mg_46 (x := nI m_) hx hb hts hown hK hP rfl dX9_isLate_187 ?_
              refine lv_iload hx hb dX9_isLate_190 (lv_at hl 0 rfl) ?_
              refine mt_45 (f := f5) hx hb hK hP hD hS m_ rfl (by omega) rfl dX9_isLate_192 (fun H locs hP hD hS => ?_)
              refine lv_aload_n hx hb dX9_isLate_193 rfl (lv_at hl 1 rfl) ?_
              refine lv_dup hx hb dX9_isLate_194 rfl ?_
              refine mg_46 (x := nI m_) hx hb hts hown hK hP rfl dX9_isLate_195 ?_
              refine lv_iconst (v := 1) hx hb dX9_isLate_198 (by decide) ?_
              refine lv_iadd hx hb dX9_isLate_199 ?_
              refine rw_topi (y := nI (m_ + 1)) (nI_add _ _) ?_
              refine mp_46 hx hb hts hown hK hP hD hS (m_ + 1) rfl dX9_isLate_200 (fun H locs hP hD hS => ?_)
              rw [up_up] at hP hD
              refine lv_iinc (v := nI (i + 1)) (lv' := [(3, .int (nI (i + 1))), (4, .int (((a 27 z - a 32 z + (a 33 z + a 30 z) - a 34 z) / (nI n)) + 1)), (0, .ref h), (1, .int (nI z)), (2, .int (a 27 z - a 32 z + (a 33 z + a 30 z) - a 34 z))]) hx hb dX9_isLate_203 hl (k := 4) rfl (nI_1 _) (by decide) rfl (fun ls hl => ?_)
              refine lv_goto (tgt := 107) hx hb dX9_isLate_206 (by decide) ?_
              exact ih (i + 1) (m_ + 1) (upd f3 m_ ((a 40) ((3 * z) + i))) (upd f4 m_ (nI z)) (upd f5 m_ (((a 27 z - a 32 z + (a 33 z + a 30 z) - a 34 z) / (nI n)) + 1)) H locs (by omega) (by omega) (by rw [← he]; simp only [lp, lateStep, lateV, if_neg c134, if_neg c147]) hP hD hS ls (lv_sub hl [2, 3, 4, 0] rfl)
            · refine lv_goto (tgt := 203) hx hb dX9_isLate_150 (by decide) ?_
              refine lv_iinc (v := nI (i + 1)) (lv' := [(3, .int (nI (i + 1))), (4, .int (((a 27 z - a 32 z + (a 33 z + a 30 z) - a 34 z) / (nI n)) + 1)), (0, .ref h), (1, .int (nI z)), (2, .int (a 27 z - a 32 z + (a 33 z + a 30 z) - a 34 z))]) hx hb dX9_isLate_203 hl (k := 4) rfl (nI_1 _) (by decide) rfl (fun ls hl => ?_)
              refine lv_goto (tgt := 107) hx hb dX9_isLate_206 (by decide) ?_
              exact ih (i + 1) m_ f3 f4 f5 H locs (by omega) (by omega) (by rw [← he]; simp only [lp, lateStep, lateV, if_neg c134, if_pos c147]) hP hD hS ls (lv_sub hl [2, 3, 4, 0] rfl)
      refine lv_iconst (v := 0) hx hb dX9_isLate_105 (by decide) ?_
      refine lv_istore_n (lv' := [(3, .int 0), (2, .int (((((a 27) z) - ((a 32) z)) + (a 33 z + a 30 z)) - ((a 34) z))), (0, .ref h), (1, .int (nI z))]) hx hb dX9_isLate_106 rfl hl (by decide) rfl (fun ls hl => ?_)
      exact L n 0 (c 46) (a 43) (a 44) (a 45) H locs (by omega) (by omega) (rfl) hP hD hS ls (lv_sub hl [2, 3, 1, 0] rfl)
  · exact fs_v hx hb hr hlocks hq (c, v, nm, up (up (up a 35 (upd (a 35) z (((a 35) z) + 1))) 36 (upd (a 36) z (((a 36) z) + 1))) 33 (upd (a 33) z (((a 33) z) + ((a 30) z)))) (by simp only [mLate, if_neg c47]; rfl) hP hD hS dX9_isLate_50 rfl
end
section
/-! ===== the end of a WEEK, loan by loan ===== -/
def fDue (i w : Nat) (u : MSt) : Int32 := (u.2.2.2 27 i * (if u.2.2.2 29 i ≤ nI w - u.2.2.2 28 i then u.2.2.2 29 i else nI w - u.2.2.2 28 i) + u.2.2.2 29 i - 1) / u.2.2.2 29 i
def nextStep (sn : Nat → Nat) (i : Nat) (u : MSt) : MSt := if u.2.2.2 37 i = 0 then (if u.2.2.2 28 i < nI (u.1 23) then (if fDue i (u.1 23) u ≤ u.2.2.2 32 i then (u.1, u.2.1, u.2.2.1, up u.2.2.2 36 (upd (u.2.2.2 36) i 0)) else mLate i (sn i) u) else u) else u
def NI (n w : Nat) (sn : Nat → Nat) (u : MSt) : Prop := u.1 42 = n ∧ u.1 23 = w ∧ u.1 22 ≤ 6 ∧ u.1 46 ≤ 3 * ncl (u.2.2.2 37) n ∧ (∀ k, k < n → u.2.2.2 39 k = nI (sn k) ∧ sn k ≤ 3) ∧ (∀ k, k < n → ¬ u.2.2.2 29 k = 0)
theorem ne_02 : ¬ (0 : Int32) = 2 := by decide
theorem NI_step {n w : Nat} {sn : Nat → Nat} {u : MSt} (h : NI n w sn u) {i : Nat} (hi : i < n) : NI n w sn (nextStep sn i u) := by
  obtain ⟨c, v, nm, a⟩ := u
  obtain ⟨h1, h2, h3, h4, h5, h6⟩ := h
  unfold nextStep
  split
  · rename_i ho
    split
    · split
      · exact ⟨h1, h2, h3, h4, h5, h6⟩
      · unfold mLate
        split
        · refine ⟨h1, h2, h3, ?_, h5, h6⟩
          show (mLateP i (sn i) (c, v, nm, a)).1 ≤ 3 * ncl (upd (a 37) i 2) n
          have hn : ¬ a 37 i = 2 := by
            have : a 37 i = 0 := ho
            rw [this]; exact ne_02
          rw [ncl_upd hn hi]
          have q1 := lateStep_le (sur := a 40) (z := i) (n := sn i) (y := fRest i (c, v, nm, a)) (sn i) 0 (c 46, a 43, a 44, a 45)
          have q2 := (h5 i hi).2
          have q3 : (mLateP i (sn i) (c, v, nm, a)).1 ≤ c 46 + sn i := q1
          have q4 : c 46 ≤ 3 * ncl (a 37) n := h4
          omega
        · exact ⟨h1, h2, h3, h4, h5, h6⟩
    · exact ⟨h1, h2, h3, h4, h5, h6⟩
  · exact ⟨h1, h2, h3, h4, h5, h6⟩
theorem NI_room {n w : Nat} {sn : Nat → Nat} {u : MSt} (h : NI n w sn u) {i : Nat} (hi : i < n) (hn : n ≤ 100) (ho : u.2.2.2 37 i = 0) : u.1 46 + 3 ≤ 300 := by
  have h1 := h.2.2.2.1
  have h2 := ncl_lt (f := u.2.2.2 37) (i := i) (by rw [ho]; exact ne_02) hi
  omega
def mNextU (sn : Nat → Nat) (u : MSt) : MSt := lp (nextStep sn) (u.1 42) 0 (mT0 u)
def mNextB (u : MSt) : Int32 × MSt := (nI (u.1 23 + 1), (up u.1 23 (u.1 23 + 1), u.2.1, u.2.2.1, up u.2.2.2 20 (fBook (u.1 23) (u.1 22) (u.2.2.2 19) (u.2.2.2 20))))
def mNext (sn : Nat → Nat) (u : MSt) : Int32 × MSt := if u.1 23 = 400 then (-1, mT0 u) else mNextB (mNextU sn u)
end
section
set_option maxHeartbeats 4000000 in
set_option maxRecDepth 100000 in
theorem c_X9_next (l : Launch) (D : va_G) (h : Nat) (q : Nat → Nat) (k : Nat → ClassId) (c : Nat → Nat) (v : Nat → Int32) (nm : Int64) (a : Nat → Nat → Int32) (hn : c 42 ≤ 100) (hwk : c 23 ≤ 400) (sn : Nat → Nat) (hNI : NI (c 42) (c 23) sn (c, v, nm, a)) : Fs (S := Int32 × MSt) l yX9_next cX9_next 4 (some .int) 1 0 0 D (TY k) G0 [.ref h] (Mw h q k c v nm a) (fun u => some (.int u.1)) (fun u => u = mNext sn (c, v, nm, a)) (fun u => MwU h q k u.2) := by
  refine fs_body (by decide +kernel) (Nat.le_of_ble_eq_true rfl) ?_
  intro p e s m args below meth c_ Q A hx hb hml hown hts hK hP hD hS hA hG hin hr hq hlocks ls hl
  replace hl : lv_has ls 4 [(0, .ref h)] := hl
  change s.vm.findClass RX9 = some m.cls at hown
  refine lv_aload_n hx hb dX9_next_0 rfl (lv_at hl 0 rfl) ?_
  refine lv_iconst (v := 0) hx hb dX9_next_1 (by decide) ?_
  refine mp_0 hx hb hts hown hK hP hD hS 0 dX9_next_2 (fun H locs hP hD hS => ?_)
  refine lv_aload_n hx hb dX9_next_5 rfl (lv_at hl 0 rfl) ?_
  refine mg_23 (x := nI (c 23)) hx hb hts hown hK hP rfl dX9_next_6 ?_
  refine lv_sipush (v := 400) hx hb dX9_next_9 (by decide) ?_
  refine lv_icmp_ne (tgt := 17) hx hb dX9_next_12 (by decide) (fun c12 => ?_) (fun c12 => ?_)
  · replace c12 : ¬ ((c 23) = 400) := fun z => c12 ((nI_eq (a := c 23) (b := 400) (by omega) (by omega)).mpr z)
    have L : ∀ (r i : Nat) (c1 : Nat → Nat) (v1 : Nat → Int32) (nm1 : Int64) (a1 : Nat → Nat → Int32) (H : Heap) (locs : List Loc), i + r = c 42 → NI (c 42) (c 23) sn (c1, v1, nm1, a1) → lp (nextStep sn) r i (c1, v1, nm1, a1) = lp (nextStep sn) (c 42) 0 (mT0 (c, v, nm, a)) → va_P D vwCl (Mw h q k c1 v1 nm1 a1) H → va_D A (Mw h q k c1 v1 nm1 a1) → va_S A s.heap H locs → ∀ (ls : Array Slot), lv_has ls 4 [(0, .ref h), (1, .int (nI i))] → W p l e (rmd 1 0 0) s m args below meth c_ H locs 0 0 Q (F0 m 19 ls []) := by
      intro r
      induction r with
      | zero =>
        intro i c1 v1 nm1 a1 H locs hi hNI he hP hD hS ls hl
        obtain ⟨g1, g2, g3, g4, g5, g6⟩ := id hNI
        replace g1 : c1 42 = c 42 := g1
        replace g2 : c1 23 = c 23 := g2
        replace g3 : c1 22 ≤ 6 := g3
        refine lv_iload_n hx hb dX9_next_19 rfl (lv_at hl 1 rfl) ?_
        refine lv_aload_n hx hb dX9_next_20 rfl (lv_at hl 0 rfl) ?_
        refine mg_42 (x := nI (c1 42)) hx hb hts hown hK hP rfl dX9_next_21 ?_
        refine lv_icmp_ge (tgt := 149) hx hb dX9_next_24 (by decide) (fun c24 => ?_) (fun c24 => absurd (nI_le (by omega) (by omega)) c24)
        have L2 : ∀ (r2 j : Nat) (f : Nat → Int32) (H : Heap) (locs : List Loc), j + r2 = 6 → lp (fun f b => upd b (6 * c1 23 + f) (if c1 22 ≤ f then -1 else a1 19 f)) r2 j f = fBook (c1 23) (c1 22) (a1 19) (a1 20) → va_P D vwCl (Mw h q k c1 v1 nm1 (up a1 20 f)) H → va_D A (Mw h q k c1 v1 nm1 (up a1 20 f)) → va_S A s.heap H locs → ∀ (ls : Array Slot), lv_has ls 4 [(0, .ref h), (1, .int (nI j))] → W p l e (rmd 1 0 0) s m args below meth c_ H locs 0 0 Q (F0 m 151 ls []) := by
          intro r2
          induction r2 with
          | zero =>
            intro j f H locs hi2 he2 hP hD hS ls hl
            refine lv_iload_n hx hb dX9_next_151 rfl (lv_at hl 1 rfl) ?_
            refine lv_bipush (v := 6) hx hb dX9_next_152 (by decide) ?_
            refine lv_icmp_ge (tgt := 195) hx hb dX9_next_154 (by decide) (fun c154 => ?_) (fun c154 => absurd (nI_le (a := 6) (by omega) (by omega)) c154)
            refine lv_aload_n hx hb dX9_next_195 rfl (lv_at hl 0 rfl) ?_
            refine lv_dup hx hb dX9_next_196 rfl ?_
            refine mg_23 (x := nI (c1 23)) hx hb hts hown hK hP rfl dX9_next_197 ?_
            refine lv_iconst (v := 1) hx hb dX9_next_200 (by decide) ?_
            refine lv_iadd hx hb dX9_next_201 ?_
            refine rw_topi (y := nI ((c1 23) + 1)) (nI_add _ _) ?_
            refine mp_23 hx hb hts hown hK hP hD hS ((c1 23) + 1) rfl dX9_next_202 (fun H locs hP hD hS => ?_)
            refine lv_aload_n hx hb dX9_next_205 rfl (lv_at hl 0 rfl) ?_
            refine mg_23 (x := nI ((c1 23) + 1)) hx hb hts hown hK hP rfl dX9_next_206 ?_
            exact fs_i hx hb hr hlocks hq (nI ((c1 23) + 1), (up c1 23 ((c1 23) + 1), v1, nm1, up a1 20 f)) (by rw [mNext, if_neg c12, mNextU, ← he, mNextB]; simp only [lp]; rw [← he2]; rfl) hP hD hS dX9_next_209 rfl
          | succ r2 ih2 =>
            intro j f H locs hi2 he2 hP hD hS ls hl
            refine lv_iload_n hx hb dX9_next_151 rfl (lv_at hl 1 rfl) ?_
            refine lv_bipush (v := 6) hx hb dX9_next_152 (by decide) ?_
            refine lv_icmp_ge (tgt := 195) hx hb dX9_next_154 (by decide) (fun c154 => absurd c154 (nI_ge (b := 6) (by omega) (by omega))) (fun c154 => ?_)
            refine lv_aload_n hx hb dX9_next_157 rfl (lv_at hl 0 rfl) ?_
            refine mg_20 hx hb hts hown hK hP dX9_next_158 ?_
            refine lv_bipush (v := 6) hx hb dX9_next_161 (by decide) ?_
            refine lv_aload_n hx hb dX9_next_163 rfl (lv_at hl 0 rfl) ?_
            refine mg_23 (x := nI (c1 23)) hx hb hts hown hK hP rfl dX9_next_164 ?_
            refine lv_imul hx hb dX9_next_167 ?_
            refine rw_topi (y := nI (6 * (c1 23))) (pk_mul _ _) ?_
            refine lv_iload_n hx hb dX9_next_168 rfl (lv_at hl 1 rfl) ?_
            refine lv_iadd hx hb dX9_next_169 ?_
            refine rw_topi (y := nI ((6 * (c1 23)) + j)) (nI_add _ _) ?_
            refine lv_iload_n hx hb dX9_next_170 rfl (lv_at hl 1 rfl) ?_
            refine lv_aload_n hx hb dX9_next_171 rfl (lv_at hl 0 rfl) ?_
            refine mg_22 (x := nI (c1 22)) hx hb hts hown hK hP rfl dX9_next_172 ?_
            refine lv_icmp_ge (tgt := 187) hx hb dX9_next_175 (by decide) (fun c175 => ?_) (fun c175 => ?_)
            · replace c175 : (c1 22) ≤ j := (nI_leI (a := c1 22) (b := j) (by omega) (by omega)).mp c175
              refine lv_iconst (v := (-1)) hx hb dX9_next_187 (by decide) ?_
              refine mt_20 (f := f) hx hb hK hP hD hS ((6 * (c1 23)) + j) rfl (by omega) rfl dX9_next_188 (fun H locs hP hD hS => ?_)
              rw [up_up] at hP hD
              refine lv_iinc (v := nI (j + 1)) (lv' := [(1, .int (nI (j + 1))), (0, .ref h)]) hx hb dX9_next_189 hl (k := 1) rfl (nI_1 _) (by decide) rfl (fun ls hl => ?_)
              refine lv_goto (tgt := 151) hx hb dX9_next_192 (by decide) ?_
              exact ih2 (j + 1) (upd f ((6 * (c1 23)) + j) (-1)) H locs (by omega) (by rw [← he2]; simp only [lp, if_pos c175]) hP hD hS ls (lv_sub hl [1, 0] rfl)
            · replace c175 : ¬ ((c1 22) ≤ j) := fun z => c175 ((nI_leI (a := c1 22) (b := j) (by omega) (by omega)).mpr z)
              refine lv_aload_n hx hb dX9_next_178 rfl (lv_at hl 0 rfl) ?_
              refine mg_19 hx hb hts hown hK hP dX9_next_179 ?_
              refine lv_iload_n hx hb dX9_next_182 rfl (lv_at hl 1 rfl) ?_
              refine ml_19 (x := (a1 19) j) hx hb hK hP j rfl (by omega) rfl dX9_next_183 ?_
              refine lv_goto (tgt := 188) hx hb dX9_next_184 (by decide) ?_
              refine mt_20 (f := f) hx hb hK hP hD hS ((6 * (c1 23)) + j) rfl (by omega) rfl dX9_next_188 (fun H locs hP hD hS => ?_)
              rw [up_up] at hP hD
              refine lv_iinc (v := nI (j + 1)) (lv' := [(1, .int (nI (j + 1))), (0, .ref h)]) hx hb dX9_next_189 hl (k := 1) rfl (nI_1 _) (by decide) rfl (fun ls hl => ?_)
              refine lv_goto (tgt := 151) hx hb dX9_next_192 (by decide) ?_
              exact ih2 (j + 1) (upd f ((6 * (c1 23)) + j) ((a1 19) j)) H locs (by omega) (by rw [← he2]; simp only [lp, if_neg c175]) hP hD hS ls (lv_sub hl [1, 0] rfl)
        refine lv_iconst (v := 0) hx hb dX9_next_149 (by decide) ?_
        refine lv_istore_n (lv' := [(1, .int 0), (0, .ref h)]) hx hb dX9_next_150 rfl hl (by decide) rfl (fun ls hl => ?_)
        exact L2 6 0 (a1 20) H locs (by omega) (rfl) hP hD hS ls (lv_sub hl [1, 0] rfl)
      | succ r ih =>
        intro i c1 v1 nm1 a1 H locs hi hNI he hP hD hS ls hl
        obtain ⟨g1, g2, g3, g4, g5, g6⟩ := id hNI
        replace g1 : c1 42 = c 42 := g1
        replace g2 : c1 23 = c 23 := g2
        replace g3 : c1 22 ≤ 6 := g3
        refine lv_iload_n hx hb dX9_next_19 rfl (lv_at hl 1 rfl) ?_
        refine lv_aload_n hx hb dX9_next_20 rfl (lv_at hl 0 rfl) ?_
        refine mg_42 (x := nI (c1 42)) hx hb hts hown hK hP rfl dX9_next_21 ?_
        refine lv_icmp_ge (tgt := 149) hx hb dX9_next_24 (by decide) (fun c24 => absurd c24 (nI_ge (by omega) (by omega))) (fun c24 => ?_)
        refine lv_aload_n hx hb dX9_next_27 rfl (lv_at hl 0 rfl) ?_
        refine mg_37 hx hb hts hown hK hP dX9_next_28 ?_
        refine lv_iload_n hx hb dX9_next_31 rfl (lv_at hl 1 rfl) ?_
        refine ml_37 (x := (a1 37) i) hx hb hK hP i rfl (by omega) rfl dX9_next_32 ?_
        refine lv_if_ne (tgt := 143) hx hb dX9_next_33 (by decide) (fun c33 => ?_) (fun c33 => ?_)
        · refine lv_iinc (v := nI (i + 1)) (lv' := [(1, .int (nI (i + 1))), (0, .ref h)]) hx hb dX9_next_143 hl (k := 1) rfl (nI_1 _) (by decide) rfl (fun ls hl => ?_)
          refine lv_goto (tgt := 19) hx hb dX9_next_146 (by decide) ?_
          have e9 : (c1, v1, nm1, a1) = nextStep sn i (c1, v1, nm1, a1) := by simp only [nextStep, fDue, if_neg c33] <;> rfl
          have hN9 := NI_step hNI (i := i) (by omega)
          rw [← e9] at hN9
          exact ih (i + 1) c1 v1 nm1 a1 H locs (by omega) hN9 (by rw [e9]; exact he) hP hD hS ls (lv_sub hl [1, 0] rfl)
        · refine lv_aload_n hx hb dX9_next_36 rfl (lv_at hl 0 rfl) ?_
          refine mg_28 hx hb hts hown hK hP dX9_next_37 ?_
          refine lv_iload_n hx hb dX9_next_40 rfl (lv_at hl 1 rfl) ?_
          refine ml_28 (x := (a1 28) i) hx hb hK hP i rfl (by omega) rfl dX9_next_41 ?_
          refine lv_aload_n hx hb dX9_next_42 rfl (lv_at hl 0 rfl) ?_
          refine mg_23 (x := nI (c1 23)) hx hb hts hown hK hP rfl dX9_next_43 ?_
          refine lv_icmp_lt (tgt := 52) hx hb dX9_next_46 (by decide) (fun c46 => ?_) (fun c46 => ?_)
          · refine lv_aload_n hx hb dX9_next_52 rfl (lv_at hl 0 rfl) ?_
            refine mg_23 (x := nI (c1 23)) hx hb hts hown hK hP rfl dX9_next_53 ?_
            refine lv_aload_n hx hb dX9_next_56 rfl (lv_at hl 0 rfl) ?_
            refine mg_28 hx hb hts hown hK hP dX9_next_57 ?_
            refine lv_iload_n hx hb dX9_next_60 rfl (lv_at hl 1 rfl) ?_
            refine ml_28 (x := (a1 28) i) hx hb hK hP i rfl (by omega) rfl dX9_next_61 ?_
            refine lv_isub hx hb dX9_next_62 ?_
            refine lv_aload_n hx hb dX9_next_63 rfl (lv_at hl 0 rfl) ?_
            refine mg_29 hx hb hts hown hK hP dX9_next_64 ?_
            refine lv_iload_n hx hb dX9_next_67 rfl (lv_at hl 1 rfl) ?_
            refine ml_29 (x := (a1 29) i) hx hb hK hP i rfl (by omega) rfl dX9_next_68 ?_
            refine lv_icmp_ge (tgt := 86) hx hb dX9_next_69 (by decide) (fun c69 => ?_) (fun c69 => ?_)
            · refine lv_aload_n hx hb dX9_next_86 rfl (lv_at hl 0 rfl) ?_
              refine mg_29 hx hb hts hown hK hP dX9_next_87 ?_
              refine lv_iload_n hx hb dX9_next_90 rfl (lv_at hl 1 rfl) ?_
              refine ml_29 (x := (a1 29) i) hx hb hK hP i rfl (by omega) rfl dX9_next_91 ?_
              refine lv_istore_n (lv' := [(2, .int ((a1 29) i)), (0, .ref h), (1, .int (nI i))]) hx hb dX9_next_92 rfl hl (by decide) rfl (fun ls hl => ?_)
              refine lv_aload_n hx hb dX9_next_93 rfl (lv_at hl 1 rfl) ?_
              refine mg_27 hx hb hts hown hK hP dX9_next_94 ?_
              refine lv_iload_n hx hb dX9_next_97 rfl (lv_at hl 2 rfl) ?_
              refine ml_27 (x := (a1 27) i) hx hb hK hP i rfl (by omega) rfl dX9_next_98 ?_
              refine lv_iload_n hx hb dX9_next_99 rfl (lv_at hl 0 rfl) ?_
              refine lv_imul hx hb dX9_next_100 ?_
              refine lv_aload_n hx hb dX9_next_101 rfl (lv_at hl 1 rfl) ?_
              refine mg_29 hx hb hts hown hK hP dX9_next_102 ?_
              refine lv_iload_n hx hb dX9_next_105 rfl (lv_at hl 2 rfl) ?_
              refine ml_29 (x := (a1 29) i) hx hb hK hP i rfl (by omega) rfl dX9_next_106 ?_
              refine lv_iadd hx hb dX9_next_107 ?_
              refine lv_iconst (v := 1) hx hb dX9_next_108 (by decide) ?_
              refine lv_isub hx hb dX9_next_109 ?_
              refine lv_aload_n hx hb dX9_next_110 rfl (lv_at hl 1 rfl) ?_
              refine mg_29 hx hb hts hown hK hP dX9_next_111 ?_
              refine lv_iload_n hx hb dX9_next_114 rfl (lv_at hl 2 rfl) ?_
              refine ml_29 (x := (a1 29) i) hx hb hK hP i rfl (by omega) rfl dX9_next_115 ?_
              refine lv_idiv hx hb dX9_next_116 (g6 i (by omega)) ?_
              refine lv_istore_n (lv' := [(3, .int ((((((a1 27) i) * ((a1 29) i)) + ((a1 29) i)) - 1) / ((a1 29) i))), (2, .int ((a1 29) i)), (0, .ref h), (1, .int (nI i))]) hx hb dX9_next_117 rfl hl (by decide) rfl (fun ls hl => ?_)
              refine lv_aload_n hx hb dX9_next_118 rfl (lv_at hl 2 rfl) ?_
              refine mg_32 hx hb hts hown hK hP dX9_next_119 ?_
              refine lv_iload_n hx hb dX9_next_122 rfl (lv_at hl 3 rfl) ?_
              refine ml_32 (x := (a1 32) i) hx hb hK hP i rfl (by omega) rfl dX9_next_123 ?_
              refine lv_iload_n hx hb dX9_next_124 rfl (lv_at hl 0 rfl) ?_
              refine lv_icmp_ge (tgt := 136) hx hb dX9_next_125 (by decide) (fun c125 => ?_) (fun c125 => ?_)
              · refine lv_aload_n hx hb dX9_next_136 rfl (lv_at hl 2 rfl) ?_
                refine mg_36 hx hb hts hown hK hP dX9_next_137 ?_
                refine lv_iload_n hx hb dX9_next_140 rfl (lv_at hl 3 rfl) ?_
                refine lv_iconst (v := 0) hx hb dX9_next_141 (by decide) ?_
                refine mt_36 (f := a1 36) hx hb hK hP hD hS i rfl (by omega) rfl dX9_next_142 (fun H locs hP hD hS => ?_)
                refine lv_iinc (v := nI (i + 1)) (lv' := [(1, .int (nI (i + 1))), (3, .int ((((((a1 27) i) * ((a1 29) i)) + ((a1 29) i)) - 1) / ((a1 29) i))), (2, .int ((a1 29) i)), (0, .ref h)]) hx hb dX9_next_143 hl (k := 3) rfl (nI_1 _) (by decide) rfl (fun ls hl => ?_)
                refine lv_goto (tgt := 19) hx hb dX9_next_146 (by decide) ?_
                have e9 : (c1, v1, nm1, up a1 36 (upd (a1 36) i 0)) = nextStep sn i (c1, v1, nm1, a1) := by simp only [nextStep, fDue, if_pos c33, if_pos c46, if_pos c69, if_pos c125] <;> rfl
                have hN9 := NI_step hNI (i := i) (by omega)
                rw [← e9] at hN9
                exact ih (i + 1) c1 v1 nm1 (up a1 36 (upd (a1 36) i 0)) H locs (by omega) hN9 (by rw [e9]; exact he) hP hD hS ls (lv_sub hl [3, 0] rfl)
              · refine lv_aload_n hx hb dX9_next_128 rfl (lv_at hl 2 rfl) ?_
                refine lv_iload_n hx hb dX9_next_129 rfl (lv_at hl 3 rfl) ?_
                refine fs_Vw (rest := []) (As := [.int (nI i)]) ⟨hx, hb, hml, hown, hts⟩ Gd0 trivial hS hA hK (hP) (hD) (c_X9_isLate l D h q k c1 v1 nm1 a1 i (by omega) (sn i) (hNI.2.2.2.2.1 i (by omega)) (NI_room hNI (by omega) hn c33)) mi_X9_isLate wd_6_9 wp_3_13 wd_6_7 ⟨Nat.le_of_ble_eq_true rfl, Nat.le_of_ble_eq_true rfl⟩ 0 rfl rfl rfl hl.1 rfl (Nat.le_of_ble_eq_true rfl) ⟨Nat.le_of_ble_eq_true rfl, Nat.le_of_ble_eq_true rfl⟩ dX9_next_130 (fun u_1 H locs hu_2 hP hD hS => ?_)
                subst hu_2
                replace hP : va_P D vwCl (Mw h q k ((mLate i (sn i) (c1, v1, nm1, a1)).1) ((mLate i (sn i) (c1, v1, nm1, a1)).2.1) ((mLate i (sn i) (c1, v1, nm1, a1)).2.2.1) ((mLate i (sn i) (c1, v1, nm1, a1)).2.2.2)) H := hP
                replace hD : va_D A (Mw h q k ((mLate i (sn i) (c1, v1, nm1, a1)).1) ((mLate i (sn i) (c1, v1, nm1, a1)).2.1) ((mLate i (sn i) (c1, v1, nm1, a1)).2.2.1) ((mLate i (sn i) (c1, v1, nm1, a1)).2.2.2)) := hD
                refine W.eq (g2 := F0 m 133 ls []) rfl ?_
                refine lv_goto (tgt := 143) hx hb dX9_next_133 (by decide) ?_
                refine lv_iinc (v := nI (i + 1)) (lv' := [(1, .int (nI (i + 1))), (3, .int ((((((a1 27) i) * ((a1 29) i)) + ((a1 29) i)) - 1) / ((a1 29) i))), (2, .int ((a1 29) i)), (0, .ref h)]) hx hb dX9_next_143 hl (k := 3) rfl (nI_1 _) (by decide) rfl (fun ls hl => ?_)
                refine lv_goto (tgt := 19) hx hb dX9_next_146 (by decide) ?_
                have e9 : ((mLate i (sn i) (c1, v1, nm1, a1)).1, (mLate i (sn i) (c1, v1, nm1, a1)).2.1, (mLate i (sn i) (c1, v1, nm1, a1)).2.2.1, (mLate i (sn i) (c1, v1, nm1, a1)).2.2.2) = nextStep sn i (c1, v1, nm1, a1) := by simp only [nextStep, fDue, if_pos c33, if_pos c46, if_pos c69, if_neg c125] <;> rfl
                have hN9 := NI_step hNI (i := i) (by omega)
                rw [← e9] at hN9
                exact ih (i + 1) ((mLate i (sn i) (c1, v1, nm1, a1)).1) ((mLate i (sn i) (c1, v1, nm1, a1)).2.1) ((mLate i (sn i) (c1, v1, nm1, a1)).2.2.1) ((mLate i (sn i) (c1, v1, nm1, a1)).2.2.2) H locs (by omega) hN9 (by rw [e9]; exact he) hP hD hS ls (lv_sub hl [3, 0] rfl)
            · refine lv_aload_n hx hb dX9_next_72 rfl (lv_at hl 0 rfl) ?_
              refine mg_23 (x := nI (c1 23)) hx hb hts hown hK hP rfl dX9_next_73 ?_
              refine lv_aload_n hx hb dX9_next_76 rfl (lv_at hl 0 rfl) ?_
              refine mg_28 hx hb hts hown hK hP dX9_next_77 ?_
              refine lv_iload_n hx hb dX9_next_80 rfl (lv_at hl 1 rfl) ?_
              refine ml_28 (x := (a1 28) i) hx hb hK hP i rfl (by omega) rfl dX9_next_81 ?_
              refine lv_isub hx hb dX9_next_82 ?_
              refine lv_goto (tgt := 92) hx hb dX9_next_83 (by decide) ?_
              refine lv_istore_n (lv' := [(2, .int ((nI (c1 23)) - ((a1 28) i))), (0, .ref h), (1, .int (nI i))]) hx hb dX9_next_92 rfl hl (by decide) rfl (fun ls hl => ?_)
              refine lv_aload_n hx hb dX9_next_93 rfl (lv_at hl 1 rfl) ?_
              refine mg_27 hx hb hts hown hK hP dX9_next_94 ?_
              refine lv_iload_n hx hb dX9_next_97 rfl (lv_at hl 2 rfl) ?_
              refine ml_27 (x := (a1 27) i) hx hb hK hP i rfl (by omega) rfl dX9_next_98 ?_
              refine lv_iload_n hx hb dX9_next_99 rfl (lv_at hl 0 rfl) ?_
              refine lv_imul hx hb dX9_next_100 ?_
              refine lv_aload_n hx hb dX9_next_101 rfl (lv_at hl 1 rfl) ?_
              refine mg_29 hx hb hts hown hK hP dX9_next_102 ?_
              refine lv_iload_n hx hb dX9_next_105 rfl (lv_at hl 2 rfl) ?_
              refine ml_29 (x := (a1 29) i) hx hb hK hP i rfl (by omega) rfl dX9_next_106 ?_
              refine lv_iadd hx hb dX9_next_107 ?_
              refine lv_iconst (v := 1) hx hb dX9_next_108 (by decide) ?_
              refine lv_isub hx hb dX9_next_109 ?_
              refine lv_aload_n hx hb dX9_next_110 rfl (lv_at hl 1 rfl) ?_
              refine mg_29 hx hb hts hown hK hP dX9_next_111 ?_
              refine lv_iload_n hx hb dX9_next_114 rfl (lv_at hl 2 rfl) ?_
              refine ml_29 (x := (a1 29) i) hx hb hK hP i rfl (by omega) rfl dX9_next_115 ?_
              refine lv_idiv hx hb dX9_next_116 (g6 i (by omega)) ?_
              refine lv_istore_n (lv' := [(3, .int ((((((a1 27) i) * ((nI (c1 23)) - ((a1 28) i))) + ((a1 29) i)) - 1) / ((a1 29) i))), (2, .int ((nI (c1 23)) - ((a1 28) i))), (0, .ref h), (1, .int (nI i))]) hx hb dX9_next_117 rfl hl (by decide) rfl (fun ls hl => ?_)
              refine lv_aload_n hx hb dX9_next_118 rfl (lv_at hl 2 rfl) ?_
              refine mg_32 hx hb hts hown hK hP dX9_next_119 ?_
              refine lv_iload_n hx hb dX9_next_122 rfl (lv_at hl 3 rfl) ?_
              refine ml_32 (x := (a1 32) i) hx hb hK hP i rfl (by omega) rfl dX9_next_123 ?_
              refine lv_iload_n hx hb dX9_next_124 rfl (lv_at hl 0 rfl) ?_
              refine lv_icmp_ge (tgt := 136) hx hb dX9_next_125 (by decide) (fun c125 => ?_) (fun c125 => ?_)
              · refine lv_aload_n hx hb dX9_next_136 rfl (lv_at hl 2 rfl) ?_
                refine mg_36 hx hb hts hown hK hP dX9_next_137 ?_
                refine lv_iload_n hx hb dX9_next_140 rfl (lv_at hl 3 rfl) ?_
                refine lv_iconst (v := 0) hx hb dX9_next_141 (by decide) ?_
                refine mt_36 (f := a1 36) hx hb hK hP hD hS i rfl (by omega) rfl dX9_next_142 (fun H locs hP hD hS => ?_)
                refine lv_iinc (v := nI (i + 1)) (lv' := [(1, .int (nI (i + 1))), (3, .int ((((((a1 27) i) * ((nI (c1 23)) - ((a1 28) i))) + ((a1 29) i)) - 1) / ((a1 29) i))), (2, .int ((nI (c1 23)) - ((a1 28) i))), (0, .ref h)]) hx hb dX9_next_143 hl (k := 3) rfl (nI_1 _) (by decide) rfl (fun ls hl => ?_)
                refine lv_goto (tgt := 19) hx hb dX9_next_146 (by decide) ?_
                have e9 : (c1, v1, nm1, up a1 36 (upd (a1 36) i 0)) = nextStep sn i (c1, v1, nm1, a1) := by simp only [nextStep, fDue, if_pos c33, if_pos c46, if_neg c69, if_pos c125] <;> rfl
                have hN9 := NI_step hNI (i := i) (by omega)
                rw [← e9] at hN9
                exact ih (i + 1) c1 v1 nm1 (up a1 36 (upd (a1 36) i 0)) H locs (by omega) hN9 (by rw [e9]; exact he) hP hD hS ls (lv_sub hl [3, 0] rfl)
              · refine lv_aload_n hx hb dX9_next_128 rfl (lv_at hl 2 rfl) ?_
                refine lv_iload_n hx hb dX9_next_129 rfl (lv_at hl 3 rfl) ?_
                refine fs_Vw (rest := []) (As := [.int (nI i)]) ⟨hx, hb, hml, hown, hts⟩ Gd0 trivial hS hA hK (hP) (hD) (c_X9_isLate l D h q k c1 v1 nm1 a1 i (by omega) (sn i) (hNI.2.2.2.2.1 i (by omega)) (NI_room hNI (by omega) hn c33)) mi_X9_isLate wd_6_9 wp_3_13 wd_6_7 ⟨Nat.le_of_ble_eq_true rfl, Nat.le_of_ble_eq_true rfl⟩ 0 rfl rfl rfl hl.1 rfl (Nat.le_of_ble_eq_true rfl) ⟨Nat.le_of_ble_eq_true rfl, Nat.le_of_ble_eq_true rfl⟩ dX9_next_130 (fun u_3 H locs hu_4 hP hD hS => ?_)
                subst hu_4
                replace hP : va_P D vwCl (Mw h q k ((mLate i (sn i) (c1, v1, nm1, a1)).1) ((mLate i (sn i) (c1, v1, nm1, a1)).2.1) ((mLate i (sn i) (c1, v1, nm1, a1)).2.2.1) ((mLate i (sn i) (c1, v1, nm1, a1)).2.2.2)) H := hP
                replace hD : va_D A (Mw h q k ((mLate i (sn i) (c1, v1, nm1, a1)).1) ((mLate i (sn i) (c1, v1, nm1, a1)).2.1) ((mLate i (sn i) (c1, v1, nm1, a1)).2.2.1) ((mLate i (sn i) (c1, v1, nm1, a1)).2.2.2)) := hD
                refine W.eq (g2 := F0 m 133 ls []) rfl ?_
                refine lv_goto (tgt := 143) hx hb dX9_next_133 (by decide) ?_
                refine lv_iinc (v := nI (i + 1)) (lv' := [(1, .int (nI (i + 1))), (3, .int ((((((a1 27) i) * ((nI (c1 23)) - ((a1 28) i))) + ((a1 29) i)) - 1) / ((a1 29) i))), (2, .int ((nI (c1 23)) - ((a1 28) i))), (0, .ref h)]) hx hb dX9_next_143 hl (k := 3) rfl (nI_1 _) (by decide) rfl (fun ls hl => ?_)
                refine lv_goto (tgt := 19) hx hb dX9_next_146 (by decide) ?_
                have e9 : ((mLate i (sn i) (c1, v1, nm1, a1)).1, (mLate i (sn i) (c1, v1, nm1, a1)).2.1, (mLate i (sn i) (c1, v1, nm1, a1)).2.2.1, (mLate i (sn i) (c1, v1, nm1, a1)).2.2.2) = nextStep sn i (c1, v1, nm1, a1) := by simp only [nextStep, fDue, if_pos c33, if_pos c46, if_neg c69, if_neg c125] <;> rfl
                have hN9 := NI_step hNI (i := i) (by omega)
                rw [← e9] at hN9
                exact ih (i + 1) ((mLate i (sn i) (c1, v1, nm1, a1)).1) ((mLate i (sn i) (c1, v1, nm1, a1)).2.1) ((mLate i (sn i) (c1, v1, nm1, a1)).2.2.1) ((mLate i (sn i) (c1, v1, nm1, a1)).2.2.2) H locs (by omega) hN9 (by rw [e9]; exact he) hP hD hS ls (lv_sub hl [3, 0] rfl)
          · refine lv_goto (tgt := 143) hx hb dX9_next_49 (by decide) ?_
            refine lv_iinc (v := nI (i + 1)) (lv' := [(1, .int (nI (i + 1))), (0, .ref h)]) hx hb dX9_next_143 hl (k := 1) rfl (nI_1 _) (by decide) rfl (fun ls hl => ?_)
            refine lv_goto (tgt := 19) hx hb dX9_next_146 (by decide) ?_
            have e9 : (c1, v1, nm1, a1) = nextStep sn i (c1, v1, nm1, a1) := by simp only [nextStep, fDue, if_pos c33, if_neg c46] <;> rfl
            have hN9 := NI_step hNI (i := i) (by omega)
            rw [← e9] at hN9
            exact ih (i + 1) c1 v1 nm1 a1 H locs (by omega) hN9 (by rw [e9]; exact he) hP hD hS ls (lv_sub hl [1, 0] rfl)
    refine lv_iconst (v := 0) hx hb dX9_next_17 (by decide) ?_
    refine lv_istore_n (lv' := [(1, .int 0), (0, .ref h)]) hx hb dX9_next_18 rfl hl (by decide) rfl (fun ls hl => ?_)
    exact L (c 42) 0 c (up v 0 0) nm a H locs (by omega) hNI (rfl) hP hD hS ls (lv_sub hl [1, 0] rfl)
  · replace c12 : (c 23) = 400 := (nI_eq (a := c 23) (b := 400) (by omega) (by omega)).mp c12
    refine lv_iconst (v := (-1)) hx hb dX9_next_15 (by decide) ?_
    exact fs_i hx hb hr hlocks hq ((-1), (c, up v 0 0, nm, a)) (by rw [mNext, if_pos c12]; rfl) hP hD hS dX9_next_16 rfl
end
section
/-! ===== one PAYS: call by call, then the OPEN LOAN ===== -/
theorem lp_fix {σ : Type} {f : Nat → σ → σ} {s : σ} (h : ∀ j, f j s = s) : ∀ (r i : Nat), lp f r i s = s
  | 0, _ => rfl
  | r + 1, i => by
    show lp f r (i + 1) (f i s) = s
    rw [h i]
    exact lp_fix h r (i + 1)
abbrev PayS : Type := Int32 × (Nat → Int32) × (Nat → Int32) × (Nat → Int32)
def payX (i : Nat) (p : PayS) : Int32 := if p.2.1 i ≤ p.1 then p.2.1 i else p.1
def payO (am : Nat → Int32) (z i : Nat) (p : PayS) : Int32 := if payX i p ≤ am z - p.2.2.1 z then payX i p else am z - p.2.2.1 z
def payDo (am tk : Nat → Int32) (z i : Nat) (p : PayS) : PayS :=
  (p.1 - payX i p, upd p.2.1 i (p.2.1 i - payX i p), upd p.2.2.1 z (p.2.2.1 z + payO am z i p), upd (fBack tk z (p.2.2.1 z) (p.2.2.1 z + payO am z i p) p.2.2.2) 0 (fBack tk z (p.2.2.1 z) (p.2.2.1 z + payO am z i p) p.2.2.2 0 + (payX i p - payO am z i p)))
def payStep (cwho ln am tk : Nat → Int32) (x : Int32) (i : Nat) (p : PayS) : PayS := if p.1 ≤ 0 then p else if cwho i = x then payDo am tk (ln i).toNatClampNeg i p else p
def payQ (k : Nat) (w : Int32) (u : MSt) : Int32 := if u.2.2.2 33 k - u.2.2.2 34 k ≤ w then u.2.2.2 33 k - u.2.2.2 34 k else w
def payA (k : Nat) (p : PayS) (u : MSt) : Nat → Nat → Int32 := up (up (up (up (up (up (up (up u.2.2.2 45 p.2.1) 38 p.2.2.1) 19 p.2.2.2) 34 (upd (u.2.2.2 34) k (u.2.2.2 34 k + payQ k p.1 u))) 19 (upd p.2.2.2 0 (p.2.2.2 0 + payQ k p.1 u))) 32 (upd (u.2.2.2 32) k (u.2.2.2 32 k + (p.1 - payQ k p.1 u)))) 38 (upd p.2.2.1 k (p.2.2.1 k + (p.1 - payQ k p.1 u)))) 19 (fBack (u.2.2.2 41) k (p.2.2.1 k) (p.2.2.1 k + (p.1 - payQ k p.1 u)) (upd p.2.2.2 0 (p.2.2.2 0 + payQ k p.1 u)))
def mPayTail (x : Int32) (u : MSt) (p : PayS) : Int32 × MSt := match fOpen (u.2.2.2 26) (u.2.2.2 37) x (u.1 42) with
  | none => (1, (u.1, u.2.1, u.2.2.1, up (up (up u.2.2.2 45 p.2.1) 38 p.2.2.1) 19 p.2.2.2))
  | some k => (1, (u.1, u.2.1, u.2.2.1, if u.2.2.2 32 k + (p.1 - payQ k p.1 u) = u.2.2.2 27 k then (if u.2.2.2 34 k + payQ k p.1 u = u.2.2.2 33 k then up (payA k p u) 37 (upd (u.2.2.2 37) k 1) else payA k p u) else payA k p u))
def mPayP (x y : Int32) (u : MSt) : PayS := lp (payStep (u.2.2.2 43) (u.2.2.2 44) (u.2.2.2 27) (u.2.2.2 41) x) (u.1 46) 0 (y, u.2.2.2 45, u.2.2.2 38, u.2.2.2 19)
def mPay (x y : Int32) (u : MSt) : Int32 × MSt := if isIn x (u.1 21) = false then (0, mT0 u) else if y < 1 then (0, mT0 u) else if y ≤ fOwed x (mT0 u) then mPayTail x (mT0 u) (mPayP x y u) else (0, mT0 u)
end
section
set_option maxHeartbeats 4000000 in
set_option maxRecDepth 100000 in
theorem c_X9_pay (l : Launch) (D : va_G) (h : Nat) (q : Nat → Nat) (k : Nat → ClassId) (c : Nat → Nat) (v : Nat → Int32) (nm : Int64) (a : Nat → Nat → Int32) (x : Int32) (y : Int32) (hp : c 21 ≤ 40) (hn : c 42 ≤ 100) (hc : c 46 ≤ 300) (hln : ∀ i, i < c 46 → isIn (a 44 i) 100 = true) : Fs (S := Int32 × MSt) l yX9_pay cX9_pay 8 (some .boolean) 2 0 0 D (TY k) G0 [.ref h, .int x, .int y] (Mw h q k c v nm a) (fun u => some (.int u.1)) (fun u => u = mPay x y (c, v, nm, a)) (fun u => MwU h q k u.2) := by
  refine fs_body (by decide +kernel) (Nat.le_of_ble_eq_true rfl) ?_
  intro p e s m args below meth c_ Q A hx hb hml hown hts hK hP hD hS hA hG hin hr hq hlocks ls hl
  replace hl : lv_has ls 8 [(0, .ref h), (1, .int x), (2, .int y)] := hl
  change s.vm.findClass RX9 = some m.cls at hown
  refine lv_aload_n hx hb dX9_pay_0 rfl (lv_at hl 0 rfl) ?_
  refine lv_iconst (v := 0) hx hb dX9_pay_1 (by decide) ?_
  refine mp_0 hx hb hts hown hK hP hD hS 0 dX9_pay_2 (fun H locs hP hD hS => ?_)
  refine lv_aload_n hx hb dX9_pay_5 rfl (lv_at hl 0 rfl) ?_
  refine lv_iload_n hx hb dX9_pay_6 rfl (lv_at hl 1 rfl) ?_
  refine ro_V (rest := []) (st1 := [.int (bI (isIn x (c 21)))]) (As := [.int x]) ⟨hx, hb, hml, hown, hts⟩ Gd0 trivial hS hK (c_X9_isPerson l D h q k c (up v 0 0) nm a x ) mi_X9_isPerson wd_5_171 wp_3_0 wd_5_169 ⟨Nat.le_of_ble_eq_true rfl, Nat.le_of_ble_eq_true rfl⟩ (hP) 0 rfl rfl rfl hl.1 rfl (Nat.le_of_ble_eq_true rfl) rfl ⟨Nat.le_of_ble_eq_true rfl, Nat.le_of_ble_eq_true rfl⟩ dX9_pay_7 ?_
  refine lv_if_eq (tgt := 27) hx hb dX9_pay_10 (by decide) (fun c10 => ?_) (fun c10 => ?_)
  · replace c10 : (isIn x (c 21)) = false := bI_0.mp c10
    refine lv_iconst (v := 0) hx hb dX9_pay_27 (by decide) ?_
    exact fs_z hx hb hr hlocks hq (0, (c, up v 0 0, nm, a)) (by rw [mPay, if_pos c10]; rfl) hP hD hS (rfl) dX9_pay_28 rfl
  · replace c10 : (isIn x (c 21)) = true := bI_n.mp c10
    refine lv_iload_n hx hb dX9_pay_13 rfl (lv_at hl 2 rfl) ?_
    refine lv_iconst (v := 1) hx hb dX9_pay_14 (by decide) ?_
    refine lv_icmp_lt (tgt := 27) hx hb dX9_pay_15 (by decide) (fun c15 => ?_) (fun c15 => ?_)
    · refine lv_iconst (v := 0) hx hb dX9_pay_27 (by decide) ?_
      exact fs_z hx hb hr hlocks hq (0, (c, up v 0 0, nm, a)) (by rw [mPay, if_neg (show ¬ (isIn x (c 21) = false) by rw [c10]; decide), if_pos c15]; rfl) hP hD hS (rfl) dX9_pay_28 rfl
    · refine lv_iload_n hx hb dX9_pay_18 rfl (lv_at hl 2 rfl) ?_
      refine lv_aload_n hx hb dX9_pay_19 rfl (lv_at hl 0 rfl) ?_
      refine lv_iload_n hx hb dX9_pay_20 rfl (lv_at hl 1 rfl) ?_
      refine ro_V (rest := [.int y]) (st1 := [.int (fOwed x (c, up v 0 0, nm, a)), .int y]) (As := [.int x]) ⟨hx, hb, hml, hown, hts⟩ Gd0 trivial hS hK (c_X9_owed l D h q k c (up v 0 0) nm a x hn hc) mi_X9_owed wd_5_229 wp_3_10 wd_5_227 ⟨Nat.le_of_ble_eq_true rfl, Nat.le_of_ble_eq_true rfl⟩ (hP) 0 rfl rfl rfl hl.1 rfl (Nat.le_of_ble_eq_true rfl) rfl ⟨Nat.le_of_ble_eq_true rfl, Nat.le_of_ble_eq_true rfl⟩ dX9_pay_21 ?_
      refine lv_icmp_le (tgt := 29) hx hb dX9_pay_24 (by decide) (fun c24 => ?_) (fun c24 => ?_)
      · have J : ∀ (w : Int32) (f5 : Nat → Int32) (f8 : Nat → Int32) (f9 : Nat → Int32) (H : Heap) (locs : List Loc), (w, f5, f8, f9) = lp (payStep (a 43) (a 44) (a 27) (a 41) x) (c 46) 0 (y, a 45, a 38, a 19) → va_P D vwCl (Mw h q k c (up v 0 0) nm (up (up (up a 45 f5) 38 f8) 19 f9)) H → va_D A (Mw h q k c (up v 0 0) nm (up (up (up a 45 f5) 38 f8) 19 f9)) → va_S A s.heap H locs → ∀ (ls : Array Slot), lv_has ls 8 [(0, .ref h), (1, .int x), (2, .int y), (3, .int w)] → W p l e (rmd 2 0 0) s m args below meth c_ H locs 0 0 Q (F0 m 181 ls []) := by
          intro w f5 f8 f9 H locs he hP hD hS ls hl
          refine lv_aload_n hx hb dX9_pay_181 rfl (lv_at hl 0 rfl) ?_
          refine lv_iload_n hx hb dX9_pay_182 rfl (lv_at hl 1 rfl) ?_
          refine ro_V (rest := []) (st1 := [.int (oI (fOpen (a 26) (a 37) x (c 42)))]) (As := [.int x]) ⟨hx, hb, hml, hown, hts⟩ Gd0 trivial hS hK (c_X9_openOf l D h q k c (up v 0 0) nm (up (up (up a 45 f5) 38 f8) 19 f9) x hn) mi_X9_openOf wd_5_197 wp_3_3 wd_5_195 ⟨Nat.le_of_ble_eq_true rfl, Nat.le_of_ble_eq_true rfl⟩ (hP) 0 rfl rfl rfl hl.1 rfl (Nat.le_of_ble_eq_true rfl) rfl ⟨Nat.le_of_ble_eq_true rfl, Nat.le_of_ble_eq_true rfl⟩ dX9_pay_183 ?_
          refine lv_istore (lv' := [(4, .int (oI (fOpen (a 26) (a 37) x (c 42)))), (0, .ref h), (1, .int x), (2, .int y), (3, .int w)]) hx hb dX9_pay_186 hl (by decide) rfl (fun ls hl => ?_)
          refine lv_iload hx hb dX9_pay_188 (lv_at hl 0 rfl) ?_
          refine lv_iconst (v := (-1)) hx hb dX9_pay_190 (by decide) ?_
          refine lv_icmp_ne (tgt := 196) hx hb dX9_pay_191 (by decide) (fun c191 => ?_) (fun c191 => ?_)
          · obtain ⟨j, ej, eo⟩ := oI_some c191
            have hjn := fOpen_lt ej
            refine lv_iload_n hx hb dX9_pay_196 rfl (lv_at hl 4 rfl) ?_
            refine lv_aload_n hx hb dX9_pay_197 rfl (lv_at hl 1 rfl) ?_
            refine mg_33 hx hb hts hown hK hP dX9_pay_198 ?_
            refine lv_iload hx hb dX9_pay_201 (lv_at hl 0 rfl) ?_
            refine rw_topi (y := nI j) (eo) ?_
            refine ml_33 (x := (a 33) j) hx hb hK hP j rfl (by omega) rfl dX9_pay_203 ?_
            refine lv_aload_n hx hb dX9_pay_204 rfl (lv_at hl 1 rfl) ?_
            refine mg_34 hx hb hts hown hK hP dX9_pay_205 ?_
            refine lv_iload hx hb dX9_pay_208 (lv_at hl 0 rfl) ?_
            refine rw_topi (y := nI j) (eo) ?_
            refine ml_34 (x := (a 34) j) hx hb hK hP j rfl (by omega) rfl dX9_pay_210 ?_
            refine lv_isub hx hb dX9_pay_211 ?_
            refine lv_icmp_ge (tgt := 219) hx hb dX9_pay_212 (by decide) (fun c212 => ?_) (fun c212 => ?_)
            · refine lv_aload_n hx hb dX9_pay_219 rfl (lv_at hl 1 rfl) ?_
              refine mg_33 hx hb hts hown hK hP dX9_pay_220 ?_
              refine lv_iload hx hb dX9_pay_223 (lv_at hl 0 rfl) ?_
              refine rw_topi (y := nI j) (eo) ?_
              refine ml_33 (x := (a 33) j) hx hb hK hP j rfl (by omega) rfl dX9_pay_225 ?_
              refine lv_aload_n hx hb dX9_pay_226 rfl (lv_at hl 1 rfl) ?_
              refine mg_34 hx hb hts hown hK hP dX9_pay_227 ?_
              refine lv_iload hx hb dX9_pay_230 (lv_at hl 0 rfl) ?_
              refine rw_topi (y := nI j) (eo) ?_
              refine ml_34 (x := (a 34) j) hx hb hK hP j rfl (by omega) rfl dX9_pay_232 ?_
              refine lv_isub hx hb dX9_pay_233 ?_
              refine lv_istore (lv' := [(5, .int (((a 33) j) - ((a 34) j))), (4, .int (oI (fOpen (a 26) (a 37) x (c 42)))), (0, .ref h), (1, .int x), (2, .int y), (3, .int w)]) hx hb dX9_pay_234 hl (by decide) rfl (fun ls hl => ?_)
              refine lv_aload_n hx hb dX9_pay_236 rfl (lv_at hl 2 rfl) ?_
              refine mg_34 hx hb hts hown hK hP dX9_pay_237 ?_
              refine lv_iload hx hb dX9_pay_240 (lv_at hl 1 rfl) ?_
              refine rw_topi (y := nI j) (eo) ?_
              refine lv_dup2_11 hx hb dX9_pay_242 rfl rfl ?_
              refine ml_34 (x := (a 34) j) hx hb hK hP j rfl (by omega) rfl dX9_pay_243 ?_
              refine lv_iload hx hb dX9_pay_244 (lv_at hl 0 rfl) ?_
              refine lv_iadd hx hb dX9_pay_246 ?_
              refine mt_34 (f := a 34) hx hb hK hP hD hS j rfl (by omega) rfl dX9_pay_247 (fun H locs hP hD hS => ?_)
              refine lv_aload_n hx hb dX9_pay_248 rfl (lv_at hl 2 rfl) ?_
              refine mg_19 hx hb hts hown hK hP dX9_pay_249 ?_
              refine lv_iconst (v := 0) hx hb dX9_pay_252 (by decide) ?_
              refine lv_dup2_11 hx hb dX9_pay_253 rfl rfl ?_
              refine ml_19 (x := f9 0) hx hb hK hP 0 rfl (by omega) rfl dX9_pay_254 ?_
              refine lv_iload hx hb dX9_pay_255 (lv_at hl 0 rfl) ?_
              refine lv_iadd hx hb dX9_pay_257 ?_
              refine mt_19 (f := f9) hx hb hK hP hD hS 0 rfl (by omega) rfl dX9_pay_258 (fun H locs hP hD hS => ?_)
              refine lv_iload_n hx hb dX9_pay_259 rfl (lv_at hl 5 rfl) ?_
              refine lv_iload hx hb dX9_pay_260 (lv_at hl 0 rfl) ?_
              refine lv_isub hx hb dX9_pay_262 ?_
              refine lv_istore_n (lv' := [(3, .int (w - (((a 33) j) - ((a 34) j)))), (5, .int (((a 33) j) - ((a 34) j))), (4, .int (oI (fOpen (a 26) (a 37) x (c 42)))), (0, .ref h), (1, .int x), (2, .int y)]) hx hb dX9_pay_263 rfl hl (by decide) rfl (fun ls hl => ?_)
              refine lv_aload_n hx hb dX9_pay_264 rfl (lv_at hl 3 rfl) ?_
              refine mg_32 hx hb hts hown hK hP dX9_pay_265 ?_
              refine lv_iload hx hb dX9_pay_268 (lv_at hl 2 rfl) ?_
              refine rw_topi (y := nI j) (eo) ?_
              refine lv_dup2_11 hx hb dX9_pay_270 rfl rfl ?_
              refine ml_32 (x := (a 32) j) hx hb hK hP j rfl (by omega) rfl dX9_pay_271 ?_
              refine lv_iload_n hx hb dX9_pay_272 rfl (lv_at hl 0 rfl) ?_
              refine lv_iadd hx hb dX9_pay_273 ?_
              refine mt_32 (f := a 32) hx hb hK hP hD hS j rfl (by omega) rfl dX9_pay_274 (fun H locs hP hD hS => ?_)
              refine lv_aload_n hx hb dX9_pay_275 rfl (lv_at hl 3 rfl) ?_
              refine lv_iload hx hb dX9_pay_276 (lv_at hl 2 rfl) ?_
              refine rw_topi (y := nI j) (eo) ?_
              refine lv_iload_n hx hb dX9_pay_278 rfl (lv_at hl 0 rfl) ?_
              refine fs_Vw (rest := []) (As := [.int (nI j), .int (w - (((a 33) j) - ((a 34) j)))]) ⟨hx, hb, hml, hown, hts⟩ Gd0 trivial hS hA hK (hP) (hD) (c_X9_comesBack l D h q k c (up v 0 0) nm (up (up (up (up (up (up a 45 f5) 38 f8) 19 f9) 34 (upd (a 34) j (((a 34) j) + (((a 33) j) - ((a 34) j))))) 19 (upd f9 0 ((f9 0) + (((a 33) j) - ((a 34) j))))) 32 (upd (a 32) j (((a 32) j) + (w - (((a 33) j) - ((a 34) j)))))) j (w - (((a 33) j) - ((a 34) j))) (by omega)) mi_X9_comesBack wd_6_1 wp_3_12 wd_5_239 ⟨Nat.le_of_ble_eq_true rfl, Nat.le_of_ble_eq_true rfl⟩ 0 rfl rfl rfl hl.1 rfl (Nat.le_of_ble_eq_true rfl) ⟨Nat.le_of_ble_eq_true rfl, Nat.le_of_ble_eq_true rfl⟩ dX9_pay_279 (fun u_1 H locs hu_2 hP hD hS => ?_)
              subst hu_2
              replace hP : va_P D vwCl (Mw h q k c (up v 0 0) nm (up (up (up (up (up (up (up (up a 45 f5) 38 f8) 19 f9) 34 (upd (a 34) j (((a 34) j) + (((a 33) j) - ((a 34) j))))) 19 (upd f9 0 ((f9 0) + (((a 33) j) - ((a 34) j))))) 32 (upd (a 32) j (((a 32) j) + (w - (((a 33) j) - ((a 34) j)))))) 38 (upd f8 j (f8 j + (w - (((a 33) j) - ((a 34) j)))))) 19 (fBack (a 41) j (f8 j) (f8 j + (w - (((a 33) j) - ((a 34) j)))) (upd f9 0 ((f9 0) + (((a 33) j) - ((a 34) j))))))) H := hP
              replace hD : va_D A (Mw h q k c (up v 0 0) nm (up (up (up (up (up (up (up (up a 45 f5) 38 f8) 19 f9) 34 (upd (a 34) j (((a 34) j) + (((a 33) j) - ((a 34) j))))) 19 (upd f9 0 ((f9 0) + (((a 33) j) - ((a 34) j))))) 32 (upd (a 32) j (((a 32) j) + (w - (((a 33) j) - ((a 34) j)))))) 38 (upd f8 j (f8 j + (w - (((a 33) j) - ((a 34) j)))))) 19 (fBack (a 41) j (f8 j) (f8 j + (w - (((a 33) j) - ((a 34) j)))) (upd f9 0 ((f9 0) + (((a 33) j) - ((a 34) j))))))) := hD
              refine W.eq (g2 := F0 m 282 ls []) rfl ?_
              refine lv_aload_n hx hb dX9_pay_282 rfl (lv_at hl 3 rfl) ?_
              refine mg_32 hx hb hts hown hK hP dX9_pay_283 ?_
              refine lv_iload hx hb dX9_pay_286 (lv_at hl 2 rfl) ?_
              refine rw_topi (y := nI j) (eo) ?_
              refine ml_32 (x := (upd (a 32) j (((a 32) j) + (w - (((a 33) j) - ((a 34) j))))) j) hx hb hK hP j rfl (by omega) rfl dX9_pay_288 ?_
              refine rw_topi (y := ((a 32) j) + (w - (((a 33) j) - ((a 34) j)))) (upd_eq _ _ _) ?_
              refine lv_aload_n hx hb dX9_pay_289 rfl (lv_at hl 3 rfl) ?_
              refine mg_27 hx hb hts hown hK hP dX9_pay_290 ?_
              refine lv_iload hx hb dX9_pay_293 (lv_at hl 2 rfl) ?_
              refine rw_topi (y := nI j) (eo) ?_
              refine ml_27 (x := (a 27) j) hx hb hK hP j rfl (by omega) rfl dX9_pay_295 ?_
              refine lv_icmp_ne (tgt := 324) hx hb dX9_pay_296 (by decide) (fun c296 => ?_) (fun c296 => ?_)
              · refine lv_iconst (v := 1) hx hb dX9_pay_324 (by decide) ?_
                exact fs_z hx hb hr hlocks hq (1, (c, up v 0 0, nm, up (up (up (up (up (up (up (up a 45 f5) 38 f8) 19 f9) 34 (upd (a 34) j (((a 34) j) + (((a 33) j) - ((a 34) j))))) 19 (upd f9 0 ((f9 0) + (((a 33) j) - ((a 34) j))))) 32 (upd (a 32) j (((a 32) j) + (w - (((a 33) j) - ((a 34) j)))))) 38 (upd f8 j (f8 j + (w - (((a 33) j) - ((a 34) j)))))) 19 (fBack (a 41) j (f8 j) (f8 j + (w - (((a 33) j) - ((a 34) j)))) (upd f9 0 ((f9 0) + (((a 33) j) - ((a 34) j))))))) (by
                  have e1 : mPay x y (c, v, nm, a) = mPayTail x (c, up v 0 0, nm, a) (w, f5, f8, f9) := by
                    rw [mPay, if_neg (show ¬ (isIn x (c 21) = false) by rw [c10]; decide), if_neg c15, if_pos (show y ≤ fOwed x (mT0 (c, v, nm, a)) from c24), he]
                    rfl
                  rw [e1]
                  simp only [mPayTail, ej, payA]
                  rw [show payQ j w (c, up v 0 0, nm, a) = a 33 j - a 34 j from if_pos c212, if_neg c296]) hP hD hS (rfl) dX9_pay_325 rfl
              · refine lv_aload_n hx hb dX9_pay_299 rfl (lv_at hl 3 rfl) ?_
                refine mg_34 hx hb hts hown hK hP dX9_pay_300 ?_
                refine lv_iload hx hb dX9_pay_303 (lv_at hl 2 rfl) ?_
                refine rw_topi (y := nI j) (eo) ?_
                refine ml_34 (x := (upd (a 34) j (((a 34) j) + (((a 33) j) - ((a 34) j)))) j) hx hb hK hP j rfl (by omega) rfl dX9_pay_305 ?_
                refine rw_topi (y := ((a 34) j) + (((a 33) j) - ((a 34) j))) (upd_eq _ _ _) ?_
                refine lv_aload_n hx hb dX9_pay_306 rfl (lv_at hl 3 rfl) ?_
                refine mg_33 hx hb hts hown hK hP dX9_pay_307 ?_
                refine lv_iload hx hb dX9_pay_310 (lv_at hl 2 rfl) ?_
                refine rw_topi (y := nI j) (eo) ?_
                refine ml_33 (x := (a 33) j) hx hb hK hP j rfl (by omega) rfl dX9_pay_312 ?_
                refine lv_icmp_ne (tgt := 324) hx hb dX9_pay_313 (by decide) (fun c313 => ?_) (fun c313 => ?_)
                · refine lv_iconst (v := 1) hx hb dX9_pay_324 (by decide) ?_
                  exact fs_z hx hb hr hlocks hq (1, (c, up v 0 0, nm, up (up (up (up (up (up (up (up a 45 f5) 38 f8) 19 f9) 34 (upd (a 34) j (((a 34) j) + (((a 33) j) - ((a 34) j))))) 19 (upd f9 0 ((f9 0) + (((a 33) j) - ((a 34) j))))) 32 (upd (a 32) j (((a 32) j) + (w - (((a 33) j) - ((a 34) j)))))) 38 (upd f8 j (f8 j + (w - (((a 33) j) - ((a 34) j)))))) 19 (fBack (a 41) j (f8 j) (f8 j + (w - (((a 33) j) - ((a 34) j)))) (upd f9 0 ((f9 0) + (((a 33) j) - ((a 34) j))))))) (by
                  have e1 : mPay x y (c, v, nm, a) = mPayTail x (c, up v 0 0, nm, a) (w, f5, f8, f9) := by
                    rw [mPay, if_neg (show ¬ (isIn x (c 21) = false) by rw [c10]; decide), if_neg c15, if_pos (show y ≤ fOwed x (mT0 (c, v, nm, a)) from c24), he]
                    rfl
                  rw [e1]
                  simp only [mPayTail, ej, payA]
                  rw [show payQ j w (c, up v 0 0, nm, a) = a 33 j - a 34 j from if_pos c212, if_pos c296, if_neg c313]) hP hD hS (rfl) dX9_pay_325 rfl
                · refine lv_aload_n hx hb dX9_pay_316 rfl (lv_at hl 3 rfl) ?_
                  refine mg_37 hx hb hts hown hK hP dX9_pay_317 ?_
                  refine lv_iload hx hb dX9_pay_320 (lv_at hl 2 rfl) ?_
                  refine rw_topi (y := nI j) (eo) ?_
                  refine lv_iconst (v := 1) hx hb dX9_pay_322 (by decide) ?_
                  refine mt_37 (f := a 37) hx hb hK hP hD hS j rfl (by omega) rfl dX9_pay_323 (fun H locs hP hD hS => ?_)
                  refine lv_iconst (v := 1) hx hb dX9_pay_324 (by decide) ?_
                  exact fs_z hx hb hr hlocks hq (1, (c, up v 0 0, nm, up (up (up (up (up (up (up (up (up a 45 f5) 38 f8) 19 f9) 34 (upd (a 34) j (((a 34) j) + (((a 33) j) - ((a 34) j))))) 19 (upd f9 0 ((f9 0) + (((a 33) j) - ((a 34) j))))) 32 (upd (a 32) j (((a 32) j) + (w - (((a 33) j) - ((a 34) j)))))) 38 (upd f8 j (f8 j + (w - (((a 33) j) - ((a 34) j)))))) 19 (fBack (a 41) j (f8 j) (f8 j + (w - (((a 33) j) - ((a 34) j)))) (upd f9 0 ((f9 0) + (((a 33) j) - ((a 34) j)))))) 37 (upd (a 37) j 1))) (by
                  have e1 : mPay x y (c, v, nm, a) = mPayTail x (c, up v 0 0, nm, a) (w, f5, f8, f9) := by
                    rw [mPay, if_neg (show ¬ (isIn x (c 21) = false) by rw [c10]; decide), if_neg c15, if_pos (show y ≤ fOwed x (mT0 (c, v, nm, a)) from c24), he]
                    rfl
                  rw [e1]
                  simp only [mPayTail, ej, payA]
                  rw [show payQ j w (c, up v 0 0, nm, a) = a 33 j - a 34 j from if_pos c212, if_pos c296, if_pos c313]) hP hD hS (rfl) dX9_pay_325 rfl
            · refine lv_iload_n hx hb dX9_pay_215 rfl (lv_at hl 4 rfl) ?_
              refine lv_goto (tgt := 234) hx hb dX9_pay_216 (by decide) ?_
              refine lv_istore (lv' := [(5, .int w), (4, .int (oI (fOpen (a 26) (a 37) x (c 42)))), (0, .ref h), (1, .int x), (2, .int y), (3, .int w)]) hx hb dX9_pay_234 hl (by decide) rfl (fun ls hl => ?_)
              refine lv_aload_n hx hb dX9_pay_236 rfl (lv_at hl 2 rfl) ?_
              refine mg_34 hx hb hts hown hK hP dX9_pay_237 ?_
              refine lv_iload hx hb dX9_pay_240 (lv_at hl 1 rfl) ?_
              refine rw_topi (y := nI j) (eo) ?_
              refine lv_dup2_11 hx hb dX9_pay_242 rfl rfl ?_
              refine ml_34 (x := (a 34) j) hx hb hK hP j rfl (by omega) rfl dX9_pay_243 ?_
              refine lv_iload hx hb dX9_pay_244 (lv_at hl 0 rfl) ?_
              refine lv_iadd hx hb dX9_pay_246 ?_
              refine mt_34 (f := a 34) hx hb hK hP hD hS j rfl (by omega) rfl dX9_pay_247 (fun H locs hP hD hS => ?_)
              refine lv_aload_n hx hb dX9_pay_248 rfl (lv_at hl 2 rfl) ?_
              refine mg_19 hx hb hts hown hK hP dX9_pay_249 ?_
              refine lv_iconst (v := 0) hx hb dX9_pay_252 (by decide) ?_
              refine lv_dup2_11 hx hb dX9_pay_253 rfl rfl ?_
              refine ml_19 (x := f9 0) hx hb hK hP 0 rfl (by omega) rfl dX9_pay_254 ?_
              refine lv_iload hx hb dX9_pay_255 (lv_at hl 0 rfl) ?_
              refine lv_iadd hx hb dX9_pay_257 ?_
              refine mt_19 (f := f9) hx hb hK hP hD hS 0 rfl (by omega) rfl dX9_pay_258 (fun H locs hP hD hS => ?_)
              refine lv_iload_n hx hb dX9_pay_259 rfl (lv_at hl 5 rfl) ?_
              refine lv_iload hx hb dX9_pay_260 (lv_at hl 0 rfl) ?_
              refine lv_isub hx hb dX9_pay_262 ?_
              refine lv_istore_n (lv' := [(3, .int (w - w)), (5, .int w), (4, .int (oI (fOpen (a 26) (a 37) x (c 42)))), (0, .ref h), (1, .int x), (2, .int y)]) hx hb dX9_pay_263 rfl hl (by decide) rfl (fun ls hl => ?_)
              refine lv_aload_n hx hb dX9_pay_264 rfl (lv_at hl 3 rfl) ?_
              refine mg_32 hx hb hts hown hK hP dX9_pay_265 ?_
              refine lv_iload hx hb dX9_pay_268 (lv_at hl 2 rfl) ?_
              refine rw_topi (y := nI j) (eo) ?_
              refine lv_dup2_11 hx hb dX9_pay_270 rfl rfl ?_
              refine ml_32 (x := (a 32) j) hx hb hK hP j rfl (by omega) rfl dX9_pay_271 ?_
              refine lv_iload_n hx hb dX9_pay_272 rfl (lv_at hl 0 rfl) ?_
              refine lv_iadd hx hb dX9_pay_273 ?_
              refine mt_32 (f := a 32) hx hb hK hP hD hS j rfl (by omega) rfl dX9_pay_274 (fun H locs hP hD hS => ?_)
              refine lv_aload_n hx hb dX9_pay_275 rfl (lv_at hl 3 rfl) ?_
              refine lv_iload hx hb dX9_pay_276 (lv_at hl 2 rfl) ?_
              refine rw_topi (y := nI j) (eo) ?_
              refine lv_iload_n hx hb dX9_pay_278 rfl (lv_at hl 0 rfl) ?_
              refine fs_Vw (rest := []) (As := [.int (nI j), .int (w - w)]) ⟨hx, hb, hml, hown, hts⟩ Gd0 trivial hS hA hK (hP) (hD) (c_X9_comesBack l D h q k c (up v 0 0) nm (up (up (up (up (up (up a 45 f5) 38 f8) 19 f9) 34 (upd (a 34) j (((a 34) j) + w))) 19 (upd f9 0 ((f9 0) + w))) 32 (upd (a 32) j (((a 32) j) + (w - w)))) j (w - w) (by omega)) mi_X9_comesBack wd_6_1 wp_3_12 wd_5_239 ⟨Nat.le_of_ble_eq_true rfl, Nat.le_of_ble_eq_true rfl⟩ 0 rfl rfl rfl hl.1 rfl (Nat.le_of_ble_eq_true rfl) ⟨Nat.le_of_ble_eq_true rfl, Nat.le_of_ble_eq_true rfl⟩ dX9_pay_279 (fun u_3 H locs hu_4 hP hD hS => ?_)
              subst hu_4
              replace hP : va_P D vwCl (Mw h q k c (up v 0 0) nm (up (up (up (up (up (up (up (up a 45 f5) 38 f8) 19 f9) 34 (upd (a 34) j (((a 34) j) + w))) 19 (upd f9 0 ((f9 0) + w))) 32 (upd (a 32) j (((a 32) j) + (w - w)))) 38 (upd f8 j (f8 j + (w - w)))) 19 (fBack (a 41) j (f8 j) (f8 j + (w - w)) (upd f9 0 ((f9 0) + w))))) H := hP
              replace hD : va_D A (Mw h q k c (up v 0 0) nm (up (up (up (up (up (up (up (up a 45 f5) 38 f8) 19 f9) 34 (upd (a 34) j (((a 34) j) + w))) 19 (upd f9 0 ((f9 0) + w))) 32 (upd (a 32) j (((a 32) j) + (w - w)))) 38 (upd f8 j (f8 j + (w - w)))) 19 (fBack (a 41) j (f8 j) (f8 j + (w - w)) (upd f9 0 ((f9 0) + w))))) := hD
              refine W.eq (g2 := F0 m 282 ls []) rfl ?_
              refine lv_aload_n hx hb dX9_pay_282 rfl (lv_at hl 3 rfl) ?_
              refine mg_32 hx hb hts hown hK hP dX9_pay_283 ?_
              refine lv_iload hx hb dX9_pay_286 (lv_at hl 2 rfl) ?_
              refine rw_topi (y := nI j) (eo) ?_
              refine ml_32 (x := (upd (a 32) j (((a 32) j) + (w - w))) j) hx hb hK hP j rfl (by omega) rfl dX9_pay_288 ?_
              refine rw_topi (y := ((a 32) j) + (w - w)) (upd_eq _ _ _) ?_
              refine lv_aload_n hx hb dX9_pay_289 rfl (lv_at hl 3 rfl) ?_
              refine mg_27 hx hb hts hown hK hP dX9_pay_290 ?_
              refine lv_iload hx hb dX9_pay_293 (lv_at hl 2 rfl) ?_
              refine rw_topi (y := nI j) (eo) ?_
              refine ml_27 (x := (a 27) j) hx hb hK hP j rfl (by omega) rfl dX9_pay_295 ?_
              refine lv_icmp_ne (tgt := 324) hx hb dX9_pay_296 (by decide) (fun c296 => ?_) (fun c296 => ?_)
              · refine lv_iconst (v := 1) hx hb dX9_pay_324 (by decide) ?_
                exact fs_z hx hb hr hlocks hq (1, (c, up v 0 0, nm, up (up (up (up (up (up (up (up a 45 f5) 38 f8) 19 f9) 34 (upd (a 34) j (((a 34) j) + w))) 19 (upd f9 0 ((f9 0) + w))) 32 (upd (a 32) j (((a 32) j) + (w - w)))) 38 (upd f8 j (f8 j + (w - w)))) 19 (fBack (a 41) j (f8 j) (f8 j + (w - w)) (upd f9 0 ((f9 0) + w))))) (by
                  have e1 : mPay x y (c, v, nm, a) = mPayTail x (c, up v 0 0, nm, a) (w, f5, f8, f9) := by
                    rw [mPay, if_neg (show ¬ (isIn x (c 21) = false) by rw [c10]; decide), if_neg c15, if_pos (show y ≤ fOwed x (mT0 (c, v, nm, a)) from c24), he]
                    rfl
                  rw [e1]
                  simp only [mPayTail, ej, payA]
                  rw [show payQ j w (c, up v 0 0, nm, a) = w from if_neg c212, if_neg c296]) hP hD hS (rfl) dX9_pay_325 rfl
              · refine lv_aload_n hx hb dX9_pay_299 rfl (lv_at hl 3 rfl) ?_
                refine mg_34 hx hb hts hown hK hP dX9_pay_300 ?_
                refine lv_iload hx hb dX9_pay_303 (lv_at hl 2 rfl) ?_
                refine rw_topi (y := nI j) (eo) ?_
                refine ml_34 (x := (upd (a 34) j (((a 34) j) + w)) j) hx hb hK hP j rfl (by omega) rfl dX9_pay_305 ?_
                refine rw_topi (y := ((a 34) j) + w) (upd_eq _ _ _) ?_
                refine lv_aload_n hx hb dX9_pay_306 rfl (lv_at hl 3 rfl) ?_
                refine mg_33 hx hb hts hown hK hP dX9_pay_307 ?_
                refine lv_iload hx hb dX9_pay_310 (lv_at hl 2 rfl) ?_
                refine rw_topi (y := nI j) (eo) ?_
                refine ml_33 (x := (a 33) j) hx hb hK hP j rfl (by omega) rfl dX9_pay_312 ?_
                refine lv_icmp_ne (tgt := 324) hx hb dX9_pay_313 (by decide) (fun c313 => ?_) (fun c313 => ?_)
                · refine lv_iconst (v := 1) hx hb dX9_pay_324 (by decide) ?_
                  exact fs_z hx hb hr hlocks hq (1, (c, up v 0 0, nm, up (up (up (up (up (up (up (up a 45 f5) 38 f8) 19 f9) 34 (upd (a 34) j (((a 34) j) + w))) 19 (upd f9 0 ((f9 0) + w))) 32 (upd (a 32) j (((a 32) j) + (w - w)))) 38 (upd f8 j (f8 j + (w - w)))) 19 (fBack (a 41) j (f8 j) (f8 j + (w - w)) (upd f9 0 ((f9 0) + w))))) (by
                  have e1 : mPay x y (c, v, nm, a) = mPayTail x (c, up v 0 0, nm, a) (w, f5, f8, f9) := by
                    rw [mPay, if_neg (show ¬ (isIn x (c 21) = false) by rw [c10]; decide), if_neg c15, if_pos (show y ≤ fOwed x (mT0 (c, v, nm, a)) from c24), he]
                    rfl
                  rw [e1]
                  simp only [mPayTail, ej, payA]
                  rw [show payQ j w (c, up v 0 0, nm, a) = w from if_neg c212, if_pos c296, if_neg c313]) hP hD hS (rfl) dX9_pay_325 rfl
                · refine lv_aload_n hx hb dX9_pay_316 rfl (lv_at hl 3 rfl) ?_
                  refine mg_37 hx hb hts hown hK hP dX9_pay_317 ?_
                  refine lv_iload hx hb dX9_pay_320 (lv_at hl 2 rfl) ?_
                  refine rw_topi (y := nI j) (eo) ?_
                  refine lv_iconst (v := 1) hx hb dX9_pay_322 (by decide) ?_
                  refine mt_37 (f := a 37) hx hb hK hP hD hS j rfl (by omega) rfl dX9_pay_323 (fun H locs hP hD hS => ?_)
                  refine lv_iconst (v := 1) hx hb dX9_pay_324 (by decide) ?_
                  exact fs_z hx hb hr hlocks hq (1, (c, up v 0 0, nm, up (up (up (up (up (up (up (up (up a 45 f5) 38 f8) 19 f9) 34 (upd (a 34) j (((a 34) j) + w))) 19 (upd f9 0 ((f9 0) + w))) 32 (upd (a 32) j (((a 32) j) + (w - w)))) 38 (upd f8 j (f8 j + (w - w)))) 19 (fBack (a 41) j (f8 j) (f8 j + (w - w)) (upd f9 0 ((f9 0) + w)))) 37 (upd (a 37) j 1))) (by
                  have e1 : mPay x y (c, v, nm, a) = mPayTail x (c, up v 0 0, nm, a) (w, f5, f8, f9) := by
                    rw [mPay, if_neg (show ¬ (isIn x (c 21) = false) by rw [c10]; decide), if_neg c15, if_pos (show y ≤ fOwed x (mT0 (c, v, nm, a)) from c24), he]
                    rfl
                  rw [e1]
                  simp only [mPayTail, ej, payA]
                  rw [show payQ j w (c, up v 0 0, nm, a) = w from if_neg c212, if_pos c296, if_pos c313]) hP hD hS (rfl) dX9_pay_325 rfl
          · have en := oI_none c191 (fun j hj => by have := fOpen_lt hj; omega)
            refine lv_iconst (v := 1) hx hb dX9_pay_194 (by decide) ?_
            exact fs_z hx hb hr hlocks hq (1, (c, up v 0 0, nm, up (up (up a 45 f5) 38 f8) 19 f9)) (by
                  have e1 : mPay x y (c, v, nm, a) = mPayTail x (c, up v 0 0, nm, a) (w, f5, f8, f9) := by
                    rw [mPay, if_neg (show ¬ (isIn x (c 21) = false) by rw [c10]; decide), if_neg c15, if_pos (show y ≤ fOwed x (mT0 (c, v, nm, a)) from c24), he]
                    rfl
                  rw [e1]
                  simp only [mPayTail, en]) hP hD hS (rfl) dX9_pay_195 rfl
        have L : ∀ (r i : Nat) (w : Int32) (f5 : Nat → Int32) (f8 : Nat → Int32) (f9 : Nat → Int32) (H : Heap) (locs : List Loc), i + r = c 46 → lp (payStep (a 43) (a 44) (a 27) (a 41) x) r i (w, f5, f8, f9) = lp (payStep (a 43) (a 44) (a 27) (a 41) x) (c 46) 0 (y, a 45, a 38, a 19) → va_P D vwCl (Mw h q k c (up v 0 0) nm (up (up (up a 45 f5) 38 f8) 19 f9)) H → va_D A (Mw h q k c (up v 0 0) nm (up (up (up a 45 f5) 38 f8) 19 f9)) → va_S A s.heap H locs → ∀ (ls : Array Slot), lv_has ls 8 [(0, .ref h), (1, .int x), (2, .int y), (3, .int w), (4, .int (nI i))] → W p l e (rmd 2 0 0) s m args below meth c_ H locs 0 0 Q (F0 m 34 ls []) := by
          intro r
          induction r with
          | zero =>
            intro i w f5 f8 f9 H locs hi he hP hD hS ls hl
            refine lv_iload hx hb dX9_pay_34 (lv_at hl 4 rfl) ?_
            refine lv_aload_n hx hb dX9_pay_36 rfl (lv_at hl 0 rfl) ?_
            refine mg_46 (x := nI (c 46)) hx hb hts hown hK hP rfl dX9_pay_37 ?_
            refine lv_icmp_ge (tgt := 181) hx hb dX9_pay_40 (by decide) (fun c40 => ?_) (fun c40 => absurd (nI_le (by omega) (by omega)) c40)
            exact J w f5 f8 f9 H locs (he) hP hD hS ls (lv_sub hl [0, 1, 2, 3] rfl)
          | succ r ih =>
            intro i w f5 f8 f9 H locs hi he hP hD hS ls hl
            refine lv_iload hx hb dX9_pay_34 (lv_at hl 4 rfl) ?_
            refine lv_aload_n hx hb dX9_pay_36 rfl (lv_at hl 0 rfl) ?_
            refine mg_46 (x := nI (c 46)) hx hb hts hown hK hP rfl dX9_pay_37 ?_
            refine lv_icmp_ge (tgt := 181) hx hb dX9_pay_40 (by decide) (fun c40 => absurd c40 (nI_ge (by omega) (by omega))) (fun c40 => ?_)
            refine lv_iload_n hx hb dX9_pay_43 rfl (lv_at hl 3 rfl) ?_
            refine lv_if_le (tgt := 181) hx hb dX9_pay_44 (by decide) (fun c44 => ?_) (fun c44 => ?_)
            · exact J w f5 f8 f9 H locs (by rw [← he]; exact (lp_fix (fun j => by simp only [payStep, if_pos c44]) _ _).symm) hP hD hS ls (lv_sub hl [0, 1, 2, 3] rfl)
            · refine lv_aload_n hx hb dX9_pay_47 rfl (lv_at hl 0 rfl) ?_
              refine mg_43 hx hb hts hown hK hP dX9_pay_48 ?_
              refine lv_iload hx hb dX9_pay_51 (lv_at hl 4 rfl) ?_
              refine ml_43 (x := (a 43) i) hx hb hK hP i rfl (by omega) rfl dX9_pay_53 ?_
              refine lv_iload_n hx hb dX9_pay_54 rfl (lv_at hl 1 rfl) ?_
              refine lv_icmp_eq (tgt := 61) hx hb dX9_pay_55 (by decide) (fun c55 => ?_) (fun c55 => ?_)
              · refine lv_iload_n hx hb dX9_pay_61 rfl (lv_at hl 3 rfl) ?_
                refine lv_aload_n hx hb dX9_pay_62 rfl (lv_at hl 0 rfl) ?_
                refine mg_45 hx hb hts hown hK hP dX9_pay_63 ?_
                refine lv_iload hx hb dX9_pay_66 (lv_at hl 4 rfl) ?_
                refine ml_45 (x := f5 i) hx hb hK hP i rfl (by omega) rfl dX9_pay_68 ?_
                refine lv_icmp_ge (tgt := 76) hx hb dX9_pay_69 (by decide) (fun c69 => ?_) (fun c69 => ?_)
                · refine lv_aload_n hx hb dX9_pay_76 rfl (lv_at hl 0 rfl) ?_
                  refine mg_45 hx hb hts hown hK hP dX9_pay_77 ?_
                  refine lv_iload hx hb dX9_pay_80 (lv_at hl 4 rfl) ?_
                  refine ml_45 (x := f5 i) hx hb hK hP i rfl (by omega) rfl dX9_pay_82 ?_
                  refine lv_istore (lv' := [(5, .int (f5 i)), (0, .ref h), (1, .int x), (2, .int y), (3, .int w), (4, .int (nI i))]) hx hb dX9_pay_83 hl (by decide) rfl (fun ls hl => ?_)
                  refine lv_aload_n hx hb dX9_pay_85 rfl (lv_at hl 1 rfl) ?_
                  refine mg_45 hx hb hts hown hK hP dX9_pay_86 ?_
                  refine lv_iload hx hb dX9_pay_89 (lv_at hl 5 rfl) ?_
                  refine lv_dup2_11 hx hb dX9_pay_91 rfl rfl ?_
                  refine ml_45 (x := f5 i) hx hb hK hP i rfl (by omega) rfl dX9_pay_92 ?_
                  refine lv_iload hx hb dX9_pay_93 (lv_at hl 0 rfl) ?_
                  refine lv_isub hx hb dX9_pay_95 ?_
                  refine mt_45 (f := f5) hx hb hK hP hD hS i rfl (by omega) rfl dX9_pay_96 (fun H locs hP hD hS => ?_)
                  refine lv_iload_n hx hb dX9_pay_97 rfl (lv_at hl 4 rfl) ?_
                  refine lv_iload hx hb dX9_pay_98 (lv_at hl 0 rfl) ?_
                  refine lv_isub hx hb dX9_pay_100 ?_
                  refine lv_istore_n (lv' := [(3, .int (w - (f5 i))), (5, .int (f5 i)), (0, .ref h), (1, .int x), (2, .int y), (4, .int (nI i))]) hx hb dX9_pay_101 rfl hl (by decide) rfl (fun ls hl => ?_)
                  have hz9 := (isIn_spec (hln i (by omega)) (by decide)).2
                  refine lv_aload_n hx hb dX9_pay_102 rfl (lv_at hl 2 rfl) ?_
                  refine mg_44 hx hb hts hown hK hP dX9_pay_103 ?_
                  refine lv_iload hx hb dX9_pay_106 (lv_at hl 5 rfl) ?_
                  refine ml_44 (x := (a 44) i) hx hb hK hP i rfl (by omega) rfl dX9_pay_108 ?_
                  refine rw_topi (y := nI ((a 44 i).toNatClampNeg)) ((isIn_spec (hln i (by omega)) (by decide)).1) ?_
                  refine lv_istore (lv' := [(6, .int (nI ((a 44 i).toNatClampNeg))), (3, .int (w - (f5 i))), (5, .int (f5 i)), (0, .ref h), (1, .int x), (2, .int y), (4, .int (nI i))]) hx hb dX9_pay_109 hl (by decide) rfl (fun ls hl => ?_)
                  refine lv_aload_n hx hb dX9_pay_111 rfl (lv_at hl 3 rfl) ?_
                  refine mg_27 hx hb hts hown hK hP dX9_pay_112 ?_
                  refine lv_iload hx hb dX9_pay_115 (lv_at hl 0 rfl) ?_
                  refine ml_27 (x := (a 27) ((a 44 i).toNatClampNeg)) hx hb hK hP ((a 44 i).toNatClampNeg) rfl (by omega) rfl dX9_pay_117 ?_
                  refine lv_aload_n hx hb dX9_pay_118 rfl (lv_at hl 3 rfl) ?_
                  refine mg_38 hx hb hts hown hK hP dX9_pay_119 ?_
                  refine lv_iload hx hb dX9_pay_122 (lv_at hl 0 rfl) ?_
                  refine ml_38 (x := f8 ((a 44 i).toNatClampNeg)) hx hb hK hP ((a 44 i).toNatClampNeg) rfl (by omega) rfl dX9_pay_124 ?_
                  refine lv_isub hx hb dX9_pay_125 ?_
                  refine lv_iload hx hb dX9_pay_126 (lv_at hl 2 rfl) ?_
                  refine lv_icmp_ge (tgt := 149) hx hb dX9_pay_128 (by decide) (fun c128 => ?_) (fun c128 => ?_)
                  · refine lv_iload hx hb dX9_pay_149 (lv_at hl 2 rfl) ?_
                    refine lv_istore (lv' := [(7, .int (f5 i)), (6, .int (nI ((a 44 i).toNatClampNeg))), (3, .int (w - (f5 i))), (5, .int (f5 i)), (0, .ref h), (1, .int x), (2, .int y), (4, .int (nI i))]) hx hb dX9_pay_151 hl (by decide) rfl (fun ls hl => ?_)
                    refine lv_aload_n hx hb dX9_pay_153 rfl (lv_at hl 4 rfl) ?_
                    refine lv_iload hx hb dX9_pay_154 (lv_at hl 1 rfl) ?_
                    refine lv_iload hx hb dX9_pay_156 (lv_at hl 0 rfl) ?_
                    refine fs_Vw (rest := []) (As := [.int (nI ((a 44 i).toNatClampNeg)), .int (f5 i)]) ⟨hx, hb, hml, hown, hts⟩ Gd0 trivial hS hA hK (hP) (hD) (c_X9_comesBack l D h q k c (up v 0 0) nm (up (up (up (up a 45 f5) 38 f8) 19 f9) 45 (upd f5 i ((f5 i) - (f5 i)))) ((a 44 i).toNatClampNeg) (f5 i) (by omega)) mi_X9_comesBack wd_6_1 wp_3_12 wd_5_239 ⟨Nat.le_of_ble_eq_true rfl, Nat.le_of_ble_eq_true rfl⟩ 0 rfl rfl rfl hl.1 rfl (Nat.le_of_ble_eq_true rfl) ⟨Nat.le_of_ble_eq_true rfl, Nat.le_of_ble_eq_true rfl⟩ dX9_pay_158 (fun u_1 H locs hu_2 hP hD hS => ?_)
                    subst hu_2
                    replace hP : va_P D vwCl (Mw h q k c (up v 0 0) nm (up (up (up (up (up (up a 45 f5) 38 f8) 19 f9) 45 (upd f5 i ((f5 i) - (f5 i)))) 38 (upd f8 ((a 44 i).toNatClampNeg) (f8 ((a 44 i).toNatClampNeg) + (f5 i)))) 19 (fBack (a 41) ((a 44 i).toNatClampNeg) (f8 ((a 44 i).toNatClampNeg)) (f8 ((a 44 i).toNatClampNeg) + (f5 i)) f9))) H := hP
                    replace hD : va_D A (Mw h q k c (up v 0 0) nm (up (up (up (up (up (up a 45 f5) 38 f8) 19 f9) 45 (upd f5 i ((f5 i) - (f5 i)))) 38 (upd f8 ((a 44 i).toNatClampNeg) (f8 ((a 44 i).toNatClampNeg) + (f5 i)))) 19 (fBack (a 41) ((a 44 i).toNatClampNeg) (f8 ((a 44 i).toNatClampNeg)) (f8 ((a 44 i).toNatClampNeg) + (f5 i)) f9))) := hD
                    refine W.eq (g2 := F0 m 161 ls []) rfl ?_
                    refine lv_aload_n hx hb dX9_pay_161 rfl (lv_at hl 4 rfl) ?_
                    refine mg_19 hx hb hts hown hK hP dX9_pay_162 ?_
                    refine lv_iconst (v := 0) hx hb dX9_pay_165 (by decide) ?_
                    refine lv_dup2_11 hx hb dX9_pay_166 rfl rfl ?_
                    refine ml_19 (x := (fBack (a 41) ((a 44 i).toNatClampNeg) (f8 ((a 44 i).toNatClampNeg)) (f8 ((a 44 i).toNatClampNeg) + (f5 i)) f9) 0) hx hb hK hP 0 rfl (by omega) rfl dX9_pay_167 ?_
                    refine lv_iload hx hb dX9_pay_168 (lv_at hl 3 rfl) ?_
                    refine lv_iload hx hb dX9_pay_170 (lv_at hl 0 rfl) ?_
                    refine lv_isub hx hb dX9_pay_172 ?_
                    refine lv_iadd hx hb dX9_pay_173 ?_
                    refine mt_19 (f := fBack (a 41) ((a 44 i).toNatClampNeg) (f8 ((a 44 i).toNatClampNeg)) (f8 ((a 44 i).toNatClampNeg) + (f5 i)) f9) hx hb hK hP hD hS 0 rfl (by omega) rfl dX9_pay_174 (fun H locs hP hD hS => ?_)
                    rw [up_up] at hP hD
                    refine lv_iinc (v := nI (i + 1)) (lv' := [(4, .int (nI (i + 1))), (7, .int (f5 i)), (6, .int (nI ((a 44 i).toNatClampNeg))), (3, .int (w - (f5 i))), (5, .int (f5 i)), (0, .ref h), (1, .int x), (2, .int y)]) hx hb dX9_pay_175 hl (k := 7) rfl (nI_1 _) (by decide) rfl (fun ls hl => ?_)
                    refine lv_goto (tgt := 34) hx hb dX9_pay_178 (by decide) ?_
                    exact ih (i + 1) (w - (f5 i)) (upd f5 i ((f5 i) - (f5 i))) (upd f8 ((a 44 i).toNatClampNeg) (f8 ((a 44 i).toNatClampNeg) + (f5 i))) (upd (fBack (a 41) ((a 44 i).toNatClampNeg) (f8 ((a 44 i).toNatClampNeg)) (f8 ((a 44 i).toNatClampNeg) + (f5 i)) f9) 0 (((fBack (a 41) ((a 44 i).toNatClampNeg) (f8 ((a 44 i).toNatClampNeg)) (f8 ((a 44 i).toNatClampNeg) + (f5 i)) f9) 0) + ((f5 i) - (f5 i)))) H locs (by omega) (by rw [← he]; simp only [lp, payStep, payDo, payO, payX, if_neg c44, if_pos c55, if_pos c69, if_pos c128]) hP hD hS ls (lv_sub hl [5, 6, 7, 3, 0] rfl)
                  · refine lv_aload_n hx hb dX9_pay_131 rfl (lv_at hl 3 rfl) ?_
                    refine mg_27 hx hb hts hown hK hP dX9_pay_132 ?_
                    refine lv_iload hx hb dX9_pay_135 (lv_at hl 0 rfl) ?_
                    refine ml_27 (x := (a 27) ((a 44 i).toNatClampNeg)) hx hb hK hP ((a 44 i).toNatClampNeg) rfl (by omega) rfl dX9_pay_137 ?_
                    refine lv_aload_n hx hb dX9_pay_138 rfl (lv_at hl 3 rfl) ?_
                    refine mg_38 hx hb hts hown hK hP dX9_pay_139 ?_
                    refine lv_iload hx hb dX9_pay_142 (lv_at hl 0 rfl) ?_
                    refine ml_38 (x := f8 ((a 44 i).toNatClampNeg)) hx hb hK hP ((a 44 i).toNatClampNeg) rfl (by omega) rfl dX9_pay_144 ?_
                    refine lv_isub hx hb dX9_pay_145 ?_
                    refine lv_goto (tgt := 151) hx hb dX9_pay_146 (by decide) ?_
                    refine lv_istore (lv' := [(7, .int (((a 27) ((a 44 i).toNatClampNeg)) - (f8 ((a 44 i).toNatClampNeg)))), (6, .int (nI ((a 44 i).toNatClampNeg))), (3, .int (w - (f5 i))), (5, .int (f5 i)), (0, .ref h), (1, .int x), (2, .int y), (4, .int (nI i))]) hx hb dX9_pay_151 hl (by decide) rfl (fun ls hl => ?_)
                    refine lv_aload_n hx hb dX9_pay_153 rfl (lv_at hl 4 rfl) ?_
                    refine lv_iload hx hb dX9_pay_154 (lv_at hl 1 rfl) ?_
                    refine lv_iload hx hb dX9_pay_156 (lv_at hl 0 rfl) ?_
                    refine fs_Vw (rest := []) (As := [.int (nI ((a 44 i).toNatClampNeg)), .int (((a 27) ((a 44 i).toNatClampNeg)) - (f8 ((a 44 i).toNatClampNeg)))]) ⟨hx, hb, hml, hown, hts⟩ Gd0 trivial hS hA hK (hP) (hD) (c_X9_comesBack l D h q k c (up v 0 0) nm (up (up (up (up a 45 f5) 38 f8) 19 f9) 45 (upd f5 i ((f5 i) - (f5 i)))) ((a 44 i).toNatClampNeg) (((a 27) ((a 44 i).toNatClampNeg)) - (f8 ((a 44 i).toNatClampNeg))) (by omega)) mi_X9_comesBack wd_6_1 wp_3_12 wd_5_239 ⟨Nat.le_of_ble_eq_true rfl, Nat.le_of_ble_eq_true rfl⟩ 0 rfl rfl rfl hl.1 rfl (Nat.le_of_ble_eq_true rfl) ⟨Nat.le_of_ble_eq_true rfl, Nat.le_of_ble_eq_true rfl⟩ dX9_pay_158 (fun u_3 H locs hu_4 hP hD hS => ?_)
                    subst hu_4
                    replace hP : va_P D vwCl (Mw h q k c (up v 0 0) nm (up (up (up (up (up (up a 45 f5) 38 f8) 19 f9) 45 (upd f5 i ((f5 i) - (f5 i)))) 38 (upd f8 ((a 44 i).toNatClampNeg) (f8 ((a 44 i).toNatClampNeg) + (((a 27) ((a 44 i).toNatClampNeg)) - (f8 ((a 44 i).toNatClampNeg)))))) 19 (fBack (a 41) ((a 44 i).toNatClampNeg) (f8 ((a 44 i).toNatClampNeg)) (f8 ((a 44 i).toNatClampNeg) + (((a 27) ((a 44 i).toNatClampNeg)) - (f8 ((a 44 i).toNatClampNeg)))) f9))) H := hP
                    replace hD : va_D A (Mw h q k c (up v 0 0) nm (up (up (up (up (up (up a 45 f5) 38 f8) 19 f9) 45 (upd f5 i ((f5 i) - (f5 i)))) 38 (upd f8 ((a 44 i).toNatClampNeg) (f8 ((a 44 i).toNatClampNeg) + (((a 27) ((a 44 i).toNatClampNeg)) - (f8 ((a 44 i).toNatClampNeg)))))) 19 (fBack (a 41) ((a 44 i).toNatClampNeg) (f8 ((a 44 i).toNatClampNeg)) (f8 ((a 44 i).toNatClampNeg) + (((a 27) ((a 44 i).toNatClampNeg)) - (f8 ((a 44 i).toNatClampNeg)))) f9))) := hD
                    refine W.eq (g2 := F0 m 161 ls []) rfl ?_
                    refine lv_aload_n hx hb dX9_pay_161 rfl (lv_at hl 4 rfl) ?_
                    refine mg_19 hx hb hts hown hK hP dX9_pay_162 ?_
                    refine lv_iconst (v := 0) hx hb dX9_pay_165 (by decide) ?_
                    refine lv_dup2_11 hx hb dX9_pay_166 rfl rfl ?_
                    refine ml_19 (x := (fBack (a 41) ((a 44 i).toNatClampNeg) (f8 ((a 44 i).toNatClampNeg)) (f8 ((a 44 i).toNatClampNeg) + (((a 27) ((a 44 i).toNatClampNeg)) - (f8 ((a 44 i).toNatClampNeg)))) f9) 0) hx hb hK hP 0 rfl (by omega) rfl dX9_pay_167 ?_
                    refine lv_iload hx hb dX9_pay_168 (lv_at hl 3 rfl) ?_
                    refine lv_iload hx hb dX9_pay_170 (lv_at hl 0 rfl) ?_
                    refine lv_isub hx hb dX9_pay_172 ?_
                    refine lv_iadd hx hb dX9_pay_173 ?_
                    refine mt_19 (f := fBack (a 41) ((a 44 i).toNatClampNeg) (f8 ((a 44 i).toNatClampNeg)) (f8 ((a 44 i).toNatClampNeg) + (((a 27) ((a 44 i).toNatClampNeg)) - (f8 ((a 44 i).toNatClampNeg)))) f9) hx hb hK hP hD hS 0 rfl (by omega) rfl dX9_pay_174 (fun H locs hP hD hS => ?_)
                    rw [up_up] at hP hD
                    refine lv_iinc (v := nI (i + 1)) (lv' := [(4, .int (nI (i + 1))), (7, .int (((a 27) ((a 44 i).toNatClampNeg)) - (f8 ((a 44 i).toNatClampNeg)))), (6, .int (nI ((a 44 i).toNatClampNeg))), (3, .int (w - (f5 i))), (5, .int (f5 i)), (0, .ref h), (1, .int x), (2, .int y)]) hx hb dX9_pay_175 hl (k := 7) rfl (nI_1 _) (by decide) rfl (fun ls hl => ?_)
                    refine lv_goto (tgt := 34) hx hb dX9_pay_178 (by decide) ?_
                    exact ih (i + 1) (w - (f5 i)) (upd f5 i ((f5 i) - (f5 i))) (upd f8 ((a 44 i).toNatClampNeg) (f8 ((a 44 i).toNatClampNeg) + (((a 27) ((a 44 i).toNatClampNeg)) - (f8 ((a 44 i).toNatClampNeg))))) (upd (fBack (a 41) ((a 44 i).toNatClampNeg) (f8 ((a 44 i).toNatClampNeg)) (f8 ((a 44 i).toNatClampNeg) + (((a 27) ((a 44 i).toNatClampNeg)) - (f8 ((a 44 i).toNatClampNeg)))) f9) 0 (((fBack (a 41) ((a 44 i).toNatClampNeg) (f8 ((a 44 i).toNatClampNeg)) (f8 ((a 44 i).toNatClampNeg) + (((a 27) ((a 44 i).toNatClampNeg)) - (f8 ((a 44 i).toNatClampNeg)))) f9) 0) + ((f5 i) - (((a 27) ((a 44 i).toNatClampNeg)) - (f8 ((a 44 i).toNatClampNeg)))))) H locs (by omega) (by rw [← he]; simp only [lp, payStep, payDo, payO, payX, if_neg c44, if_pos c55, if_pos c69, if_neg c128]) hP hD hS ls (lv_sub hl [5, 6, 7, 3, 0] rfl)
                · refine lv_iload_n hx hb dX9_pay_72 rfl (lv_at hl 3 rfl) ?_
                  refine lv_goto (tgt := 83) hx hb dX9_pay_73 (by decide) ?_
                  refine lv_istore (lv' := [(5, .int w), (0, .ref h), (1, .int x), (2, .int y), (3, .int w), (4, .int (nI i))]) hx hb dX9_pay_83 hl (by decide) rfl (fun ls hl => ?_)
                  refine lv_aload_n hx hb dX9_pay_85 rfl (lv_at hl 1 rfl) ?_
                  refine mg_45 hx hb hts hown hK hP dX9_pay_86 ?_
                  refine lv_iload hx hb dX9_pay_89 (lv_at hl 5 rfl) ?_
                  refine lv_dup2_11 hx hb dX9_pay_91 rfl rfl ?_
                  refine ml_45 (x := f5 i) hx hb hK hP i rfl (by omega) rfl dX9_pay_92 ?_
                  refine lv_iload hx hb dX9_pay_93 (lv_at hl 0 rfl) ?_
                  refine lv_isub hx hb dX9_pay_95 ?_
                  refine mt_45 (f := f5) hx hb hK hP hD hS i rfl (by omega) rfl dX9_pay_96 (fun H locs hP hD hS => ?_)
                  refine lv_iload_n hx hb dX9_pay_97 rfl (lv_at hl 4 rfl) ?_
                  refine lv_iload hx hb dX9_pay_98 (lv_at hl 0 rfl) ?_
                  refine lv_isub hx hb dX9_pay_100 ?_
                  refine lv_istore_n (lv' := [(3, .int (w - w)), (5, .int w), (0, .ref h), (1, .int x), (2, .int y), (4, .int (nI i))]) hx hb dX9_pay_101 rfl hl (by decide) rfl (fun ls hl => ?_)
                  have hz9 := (isIn_spec (hln i (by omega)) (by decide)).2
                  refine lv_aload_n hx hb dX9_pay_102 rfl (lv_at hl 2 rfl) ?_
                  refine mg_44 hx hb hts hown hK hP dX9_pay_103 ?_
                  refine lv_iload hx hb dX9_pay_106 (lv_at hl 5 rfl) ?_
                  refine ml_44 (x := (a 44) i) hx hb hK hP i rfl (by omega) rfl dX9_pay_108 ?_
                  refine rw_topi (y := nI ((a 44 i).toNatClampNeg)) ((isIn_spec (hln i (by omega)) (by decide)).1) ?_
                  refine lv_istore (lv' := [(6, .int (nI ((a 44 i).toNatClampNeg))), (3, .int (w - w)), (5, .int w), (0, .ref h), (1, .int x), (2, .int y), (4, .int (nI i))]) hx hb dX9_pay_109 hl (by decide) rfl (fun ls hl => ?_)
                  refine lv_aload_n hx hb dX9_pay_111 rfl (lv_at hl 3 rfl) ?_
                  refine mg_27 hx hb hts hown hK hP dX9_pay_112 ?_
                  refine lv_iload hx hb dX9_pay_115 (lv_at hl 0 rfl) ?_
                  refine ml_27 (x := (a 27) ((a 44 i).toNatClampNeg)) hx hb hK hP ((a 44 i).toNatClampNeg) rfl (by omega) rfl dX9_pay_117 ?_
                  refine lv_aload_n hx hb dX9_pay_118 rfl (lv_at hl 3 rfl) ?_
                  refine mg_38 hx hb hts hown hK hP dX9_pay_119 ?_
                  refine lv_iload hx hb dX9_pay_122 (lv_at hl 0 rfl) ?_
                  refine ml_38 (x := f8 ((a 44 i).toNatClampNeg)) hx hb hK hP ((a 44 i).toNatClampNeg) rfl (by omega) rfl dX9_pay_124 ?_
                  refine lv_isub hx hb dX9_pay_125 ?_
                  refine lv_iload hx hb dX9_pay_126 (lv_at hl 2 rfl) ?_
                  refine lv_icmp_ge (tgt := 149) hx hb dX9_pay_128 (by decide) (fun c128 => ?_) (fun c128 => ?_)
                  · refine lv_iload hx hb dX9_pay_149 (lv_at hl 2 rfl) ?_
                    refine lv_istore (lv' := [(7, .int w), (6, .int (nI ((a 44 i).toNatClampNeg))), (3, .int (w - w)), (5, .int w), (0, .ref h), (1, .int x), (2, .int y), (4, .int (nI i))]) hx hb dX9_pay_151 hl (by decide) rfl (fun ls hl => ?_)
                    refine lv_aload_n hx hb dX9_pay_153 rfl (lv_at hl 4 rfl) ?_
                    refine lv_iload hx hb dX9_pay_154 (lv_at hl 1 rfl) ?_
                    refine lv_iload hx hb dX9_pay_156 (lv_at hl 0 rfl) ?_
                    refine fs_Vw (rest := []) (As := [.int (nI ((a 44 i).toNatClampNeg)), .int w]) ⟨hx, hb, hml, hown, hts⟩ Gd0 trivial hS hA hK (hP) (hD) (c_X9_comesBack l D h q k c (up v 0 0) nm (up (up (up (up a 45 f5) 38 f8) 19 f9) 45 (upd f5 i ((f5 i) - w))) ((a 44 i).toNatClampNeg) w (by omega)) mi_X9_comesBack wd_6_1 wp_3_12 wd_5_239 ⟨Nat.le_of_ble_eq_true rfl, Nat.le_of_ble_eq_true rfl⟩ 0 rfl rfl rfl hl.1 rfl (Nat.le_of_ble_eq_true rfl) ⟨Nat.le_of_ble_eq_true rfl, Nat.le_of_ble_eq_true rfl⟩ dX9_pay_158 (fun u_5 H locs hu_6 hP hD hS => ?_)
                    subst hu_6
                    replace hP : va_P D vwCl (Mw h q k c (up v 0 0) nm (up (up (up (up (up (up a 45 f5) 38 f8) 19 f9) 45 (upd f5 i ((f5 i) - w))) 38 (upd f8 ((a 44 i).toNatClampNeg) (f8 ((a 44 i).toNatClampNeg) + w))) 19 (fBack (a 41) ((a 44 i).toNatClampNeg) (f8 ((a 44 i).toNatClampNeg)) (f8 ((a 44 i).toNatClampNeg) + w) f9))) H := hP
                    replace hD : va_D A (Mw h q k c (up v 0 0) nm (up (up (up (up (up (up a 45 f5) 38 f8) 19 f9) 45 (upd f5 i ((f5 i) - w))) 38 (upd f8 ((a 44 i).toNatClampNeg) (f8 ((a 44 i).toNatClampNeg) + w))) 19 (fBack (a 41) ((a 44 i).toNatClampNeg) (f8 ((a 44 i).toNatClampNeg)) (f8 ((a 44 i).toNatClampNeg) + w) f9))) := hD
                    refine W.eq (g2 := F0 m 161 ls []) rfl ?_
                    refine lv_aload_n hx hb dX9_pay_161 rfl (lv_at hl 4 rfl) ?_
                    refine mg_19 hx hb hts hown hK hP dX9_pay_162 ?_
                    refine lv_iconst (v := 0) hx hb dX9_pay_165 (by decide) ?_
                    refine lv_dup2_11 hx hb dX9_pay_166 rfl rfl ?_
                    refine ml_19 (x := (fBack (a 41) ((a 44 i).toNatClampNeg) (f8 ((a 44 i).toNatClampNeg)) (f8 ((a 44 i).toNatClampNeg) + w) f9) 0) hx hb hK hP 0 rfl (by omega) rfl dX9_pay_167 ?_
                    refine lv_iload hx hb dX9_pay_168 (lv_at hl 3 rfl) ?_
                    refine lv_iload hx hb dX9_pay_170 (lv_at hl 0 rfl) ?_
                    refine lv_isub hx hb dX9_pay_172 ?_
                    refine lv_iadd hx hb dX9_pay_173 ?_
                    refine mt_19 (f := fBack (a 41) ((a 44 i).toNatClampNeg) (f8 ((a 44 i).toNatClampNeg)) (f8 ((a 44 i).toNatClampNeg) + w) f9) hx hb hK hP hD hS 0 rfl (by omega) rfl dX9_pay_174 (fun H locs hP hD hS => ?_)
                    rw [up_up] at hP hD
                    refine lv_iinc (v := nI (i + 1)) (lv' := [(4, .int (nI (i + 1))), (7, .int w), (6, .int (nI ((a 44 i).toNatClampNeg))), (3, .int (w - w)), (5, .int w), (0, .ref h), (1, .int x), (2, .int y)]) hx hb dX9_pay_175 hl (k := 7) rfl (nI_1 _) (by decide) rfl (fun ls hl => ?_)
                    refine lv_goto (tgt := 34) hx hb dX9_pay_178 (by decide) ?_
                    exact ih (i + 1) (w - w) (upd f5 i ((f5 i) - w)) (upd f8 ((a 44 i).toNatClampNeg) (f8 ((a 44 i).toNatClampNeg) + w)) (upd (fBack (a 41) ((a 44 i).toNatClampNeg) (f8 ((a 44 i).toNatClampNeg)) (f8 ((a 44 i).toNatClampNeg) + w) f9) 0 (((fBack (a 41) ((a 44 i).toNatClampNeg) (f8 ((a 44 i).toNatClampNeg)) (f8 ((a 44 i).toNatClampNeg) + w) f9) 0) + (w - w))) H locs (by omega) (by rw [← he]; simp only [lp, payStep, payDo, payO, payX, if_neg c44, if_pos c55, if_neg c69, if_pos c128]) hP hD hS ls (lv_sub hl [5, 6, 7, 3, 0] rfl)
                  · refine lv_aload_n hx hb dX9_pay_131 rfl (lv_at hl 3 rfl) ?_
                    refine mg_27 hx hb hts hown hK hP dX9_pay_132 ?_
                    refine lv_iload hx hb dX9_pay_135 (lv_at hl 0 rfl) ?_
                    refine ml_27 (x := (a 27) ((a 44 i).toNatClampNeg)) hx hb hK hP ((a 44 i).toNatClampNeg) rfl (by omega) rfl dX9_pay_137 ?_
                    refine lv_aload_n hx hb dX9_pay_138 rfl (lv_at hl 3 rfl) ?_
                    refine mg_38 hx hb hts hown hK hP dX9_pay_139 ?_
                    refine lv_iload hx hb dX9_pay_142 (lv_at hl 0 rfl) ?_
                    refine ml_38 (x := f8 ((a 44 i).toNatClampNeg)) hx hb hK hP ((a 44 i).toNatClampNeg) rfl (by omega) rfl dX9_pay_144 ?_
                    refine lv_isub hx hb dX9_pay_145 ?_
                    refine lv_goto (tgt := 151) hx hb dX9_pay_146 (by decide) ?_
                    refine lv_istore (lv' := [(7, .int (((a 27) ((a 44 i).toNatClampNeg)) - (f8 ((a 44 i).toNatClampNeg)))), (6, .int (nI ((a 44 i).toNatClampNeg))), (3, .int (w - w)), (5, .int w), (0, .ref h), (1, .int x), (2, .int y), (4, .int (nI i))]) hx hb dX9_pay_151 hl (by decide) rfl (fun ls hl => ?_)
                    refine lv_aload_n hx hb dX9_pay_153 rfl (lv_at hl 4 rfl) ?_
                    refine lv_iload hx hb dX9_pay_154 (lv_at hl 1 rfl) ?_
                    refine lv_iload hx hb dX9_pay_156 (lv_at hl 0 rfl) ?_
                    refine fs_Vw (rest := []) (As := [.int (nI ((a 44 i).toNatClampNeg)), .int (((a 27) ((a 44 i).toNatClampNeg)) - (f8 ((a 44 i).toNatClampNeg)))]) ⟨hx, hb, hml, hown, hts⟩ Gd0 trivial hS hA hK (hP) (hD) (c_X9_comesBack l D h q k c (up v 0 0) nm (up (up (up (up a 45 f5) 38 f8) 19 f9) 45 (upd f5 i ((f5 i) - w))) ((a 44 i).toNatClampNeg) (((a 27) ((a 44 i).toNatClampNeg)) - (f8 ((a 44 i).toNatClampNeg))) (by omega)) mi_X9_comesBack wd_6_1 wp_3_12 wd_5_239 ⟨Nat.le_of_ble_eq_true rfl, Nat.le_of_ble_eq_true rfl⟩ 0 rfl rfl rfl hl.1 rfl (Nat.le_of_ble_eq_true rfl) ⟨Nat.le_of_ble_eq_true rfl, Nat.le_of_ble_eq_true rfl⟩ dX9_pay_158 (fun u_7 H locs hu_8 hP hD hS => ?_)
                    subst hu_8
                    replace hP : va_P D vwCl (Mw h q k c (up v 0 0) nm (up (up (up (up (up (up a 45 f5) 38 f8) 19 f9) 45 (upd f5 i ((f5 i) - w))) 38 (upd f8 ((a 44 i).toNatClampNeg) (f8 ((a 44 i).toNatClampNeg) + (((a 27) ((a 44 i).toNatClampNeg)) - (f8 ((a 44 i).toNatClampNeg)))))) 19 (fBack (a 41) ((a 44 i).toNatClampNeg) (f8 ((a 44 i).toNatClampNeg)) (f8 ((a 44 i).toNatClampNeg) + (((a 27) ((a 44 i).toNatClampNeg)) - (f8 ((a 44 i).toNatClampNeg)))) f9))) H := hP
                    replace hD : va_D A (Mw h q k c (up v 0 0) nm (up (up (up (up (up (up a 45 f5) 38 f8) 19 f9) 45 (upd f5 i ((f5 i) - w))) 38 (upd f8 ((a 44 i).toNatClampNeg) (f8 ((a 44 i).toNatClampNeg) + (((a 27) ((a 44 i).toNatClampNeg)) - (f8 ((a 44 i).toNatClampNeg)))))) 19 (fBack (a 41) ((a 44 i).toNatClampNeg) (f8 ((a 44 i).toNatClampNeg)) (f8 ((a 44 i).toNatClampNeg) + (((a 27) ((a 44 i).toNatClampNeg)) - (f8 ((a 44 i).toNatClampNeg)))) f9))) := hD
                    refine W.eq (g2 := F0 m 161 ls []) rfl ?_
                    refine lv_aload_n hx hb dX9_pay_161 rfl (lv_at hl 4 rfl) ?_
                    refine mg_19 hx hb hts hown hK hP dX9_pay_162 ?_
                    refine lv_iconst (v := 0) hx hb dX9_pay_165 (by decide) ?_
                    refine lv_dup2_11 hx hb dX9_pay_166 rfl rfl ?_
                    refine ml_19 (x := (fBack (a 41) ((a 44 i).toNatClampNeg) (f8 ((a 44 i).toNatClampNeg)) (f8 ((a 44 i).toNatClampNeg) + (((a 27) ((a 44 i).toNatClampNeg)) - (f8 ((a 44 i).toNatClampNeg)))) f9) 0) hx hb hK hP 0 rfl (by omega) rfl dX9_pay_167 ?_
                    refine lv_iload hx hb dX9_pay_168 (lv_at hl 3 rfl) ?_
                    refine lv_iload hx hb dX9_pay_170 (lv_at hl 0 rfl) ?_
                    refine lv_isub hx hb dX9_pay_172 ?_
                    refine lv_iadd hx hb dX9_pay_173 ?_
                    refine mt_19 (f := fBack (a 41) ((a 44 i).toNatClampNeg) (f8 ((a 44 i).toNatClampNeg)) (f8 ((a 44 i).toNatClampNeg) + (((a 27) ((a 44 i).toNatClampNeg)) - (f8 ((a 44 i).toNatClampNeg)))) f9) hx hb hK hP hD hS 0 rfl (by omega) rfl dX9_pay_174 (fun H locs hP hD hS => ?_)
                    rw [up_up] at hP hD
                    refine lv_iinc (v := nI (i + 1)) (lv' := [(4, .int (nI (i + 1))), (7, .int (((a 27) ((a 44 i).toNatClampNeg)) - (f8 ((a 44 i).toNatClampNeg)))), (6, .int (nI ((a 44 i).toNatClampNeg))), (3, .int (w - w)), (5, .int w), (0, .ref h), (1, .int x), (2, .int y)]) hx hb dX9_pay_175 hl (k := 7) rfl (nI_1 _) (by decide) rfl (fun ls hl => ?_)
                    refine lv_goto (tgt := 34) hx hb dX9_pay_178 (by decide) ?_
                    exact ih (i + 1) (w - w) (upd f5 i ((f5 i) - w)) (upd f8 ((a 44 i).toNatClampNeg) (f8 ((a 44 i).toNatClampNeg) + (((a 27) ((a 44 i).toNatClampNeg)) - (f8 ((a 44 i).toNatClampNeg))))) (upd (fBack (a 41) ((a 44 i).toNatClampNeg) (f8 ((a 44 i).toNatClampNeg)) (f8 ((a 44 i).toNatClampNeg) + (((a 27) ((a 44 i).toNatClampNeg)) - (f8 ((a 44 i).toNatClampNeg)))) f9) 0 (((fBack (a 41) ((a 44 i).toNatClampNeg) (f8 ((a 44 i).toNatClampNeg)) (f8 ((a 44 i).toNatClampNeg) + (((a 27) ((a 44 i).toNatClampNeg)) - (f8 ((a 44 i).toNatClampNeg)))) f9) 0) + (w - (((a 27) ((a 44 i).toNatClampNeg)) - (f8 ((a 44 i).toNatClampNeg)))))) H locs (by omega) (by rw [← he]; simp only [lp, payStep, payDo, payO, payX, if_neg c44, if_pos c55, if_neg c69, if_neg c128]) hP hD hS ls (lv_sub hl [5, 6, 7, 3, 0] rfl)
              · refine lv_goto (tgt := 175) hx hb dX9_pay_58 (by decide) ?_
                refine lv_iinc (v := nI (i + 1)) (lv' := [(4, .int (nI (i + 1))), (0, .ref h), (1, .int x), (2, .int y), (3, .int w)]) hx hb dX9_pay_175 hl (k := 4) rfl (nI_1 _) (by decide) rfl (fun ls hl => ?_)
                refine lv_goto (tgt := 34) hx hb dX9_pay_178 (by decide) ?_
                exact ih (i + 1) w f5 f8 f9 H locs (by omega) (by rw [← he]; simp only [lp, payStep, payDo, payO, payX, if_neg c44, if_neg c55]) hP hD hS ls (lv_sub hl [1, 2, 3, 4, 0] rfl)
        refine lv_iload_n hx hb dX9_pay_29 rfl (lv_at hl 2 rfl) ?_
        refine lv_istore_n (lv' := [(3, .int y), (0, .ref h), (1, .int x), (2, .int y)]) hx hb dX9_pay_30 rfl hl (by decide) rfl (fun ls hl => ?_)
        refine lv_iconst (v := 0) hx hb dX9_pay_31 (by decide) ?_
        refine lv_istore (lv' := [(4, .int 0), (3, .int y), (0, .ref h), (1, .int x), (2, .int y)]) hx hb dX9_pay_32 hl (by decide) rfl (fun ls hl => ?_)
        exact L (c 46) 0 y (a 45) (a 38) (a 19) H locs (by omega) (rfl) hP hD hS ls (lv_sub hl [2, 3, 4, 1, 0] rfl)
      · refine lv_iconst (v := 0) hx hb dX9_pay_27 (by decide) ?_
        exact fs_z hx hb hr hlocks hq (0, (c, up v 0 0, nm, a)) (by rw [mPay, if_neg (show ¬ (isIn x (c 21) = false) by rw [c10]; decide), if_neg c15, if_neg (show ¬ (y ≤ fOwed x (mT0 (c, v, nm, a))) from c24)]; rfl) hP hD hS (rfl) dX9_pay_28 rfl
end
section
/-! ===== why a LOAN is REFUSED ===== -/
def fBad6 (tp : Nat → Int32) (np : Nat) (x : Int32) (t : Nat) : Bool := (fnd (fun i => !isIn (tp i) np || decide (tp i = x) || fTwice tp i) t 0).isSome
def fBad7 (t : Nat) (u : MSt) : Bool := (fnd (fun i => fBarred (u.2.2.2 43) (u.2.2.2 45) (u.2.2.2 26) (u.2.2.2 37) (u.2.2.2 3 8) (u.2.2.2 1 i) (u.1 46) (u.1 42)) t 0).isSome
def fBad8 (t : Nat) (sn : Nat → Nat) (u : MSt) : Bool := (fnd (fun i => !decide (fStands (u.2.2.2 37) (u.2.2.2 40) sn (u.2.2.2 1 i) (u.1 42) < u.2.2.2 3 3)) t 0).isSome
def fSeedT (tp : Nat → Int32) (t : Nat) (f : Nat → Int32) : Nat → Int32 := lp (fun i f => upd f (tp i).toNatClampNeg 1) t 0 f
def fHas0 (u : MSt) : Int32 := if u.2.2.2 19 0 ≤ u.2.2.2 3 6 then 0 else u.2.2.2 19 0 - u.2.2.2 3 6
def hasStep (tg : Int32) (ft pe : Nat → Int32) (f : Nat) (s : Int32) : Int32 := if (tg >>> (ft f &&& 31)) &&& 1 = 1 then s + pe f else s
def fHas (x : Int32) (u : MSt) : Int32 := lp (hasStep (u.2.2.2 17 x.toNatClampNeg) (u.2.2.2 18) (u.2.2.2 19)) (u.1 22 - 1) 1 (fHas0 u)
def whyG (t : Nat) (sn : Nat → Nat) (u : MSt) : Nat → Int32 := fSpread (u.2.2.2 26) (u.2.2.2 37) (u.2.2.2 40) sn (u.1 42) 41 1 (fSeedT (u.2.2.2 1) t (fClear (u.2.2.2 47)))
def whyS (t : Nat) (sn : Nat → Nat) (u : MSt) : MSt := (u.1, u.2.1, u.2.2.1, up u.2.2.2 47 (whyG t sn u))
def why10 (x y : Int32) (t : Nat) (sn : Nat → Nat) (u : MSt) : Int32 × MSt := (if y ≤ fHas x u then 0 else 10, whyS t sn u)
def why9 (x y : Int32) (t : Nat) (sn : Nat → Nat) (u : MSt) : Int32 × MSt := if whyG t sn u x.toNatClampNeg = -1 then why10 x y t sn u else if u.2.2.2 3 7 < whyG t sn u x.toNatClampNeg then why10 x y t sn u else (9, whyS t sn u)
def why8 (x y : Int32) (t : Nat) (sn : Nat → Nat) (u : MSt) : Int32 × MSt := if fBad8 t sn u = true then (8, u) else why9 x y t sn u
def why7 (x y : Int32) (t : Nat) (sn : Nat → Nat) (u : MSt) : Int32 × MSt := if fBad7 t u = true then (7, u) else why8 x y t sn u
def why6 (x y : Int32) (t : Nat) (sn : Nat → Nat) (u : MSt) : Int32 × MSt := if fBad6 (u.2.2.2 1) (u.1 21) x t = true then (6, u) else why7 x y t sn u
def mWhy (x y : Int32) (t : Nat) (sn : Nat → Nat) (u : MSt) : Int32 × MSt :=
  if isIn x (u.1 21) = true then (if y < 1 then (2, u) else if u.2.2.2 3 0 < y then (2, u) else if u.1 42 = 100 then (2, u) else
    if oI (fOpen (u.2.2.2 26) (u.2.2.2 37) x (u.1 42)) = -1 then (if fBarred (u.2.2.2 43) (u.2.2.2 45) (u.2.2.2 26) (u.2.2.2 37) (u.2.2.2 3 8) x (u.1 46) (u.1 42) = false then (if nI t = u.2.2.2 3 2 then why6 x y t sn u else (5, u)) else (4, u)) else (3, u)) else (1, u)
end
section
set_option maxHeartbeats 4000000 in
set_option maxRecDepth 100000 in
theorem c_X9_why (l : Launch) (D : va_G) (h : Nat) (q : Nat → Nat) (k : Nat → ClassId) (c : Nat → Nat) (v : Nat → Int32) (nm : Int64) (a : Nat → Nat → Int32) (x : Int32) (y : Int32) (t : Nat) (ht : t ≤ 320) (hp : c 21 ≤ 40) (hf1 : 1 ≤ c 22) (hf : c 22 ≤ 6) (hn : c 42 ≤ 100) (hc : c 46 ≤ 300) (sn : Nat → Nat) (hs : ∀ k, k < c 42 → a 39 k = nI (sn k) ∧ sn k ≤ 3) (hw : ∀ k, k < c 42 → isIn (a 26 k) 40 = true) (hu : ∀ k i, k < c 42 → i < sn k → isIn (a 40 (3 * k + i)) 40 = true) : Fs (S := Int32 × MSt) l yX9_why cX9_why 6 (some .int) 2 0 0 D (TY k) G0 [.ref h, .int x, .int y, .int (nI t)] (Mw h q k c v nm a) (fun u => some (.int u.1)) (fun u => u = mWhy x y t sn (c, v, nm, a)) (fun u => MwU h q k u.2) := by
  refine fs_body (by decide +kernel) (Nat.le_of_ble_eq_true rfl) ?_
  intro p e s m args below meth c_ Q A hx hb hml hown hts hK hP hD hS hA hG hin hr hq hlocks ls hl
  replace hl : lv_has ls 6 [(0, .ref h), (1, .int x), (2, .int y), (3, .int (nI t))] := hl
  change s.vm.findClass RX9 = some m.cls at hown
  refine lv_aload_n hx hb dX9_why_0 rfl (lv_at hl 0 rfl) ?_
  refine lv_iload_n hx hb dX9_why_1 rfl (lv_at hl 1 rfl) ?_
  refine ro_V (rest := []) (st1 := [.int (bI (isIn x (c 21)))]) (As := [.int x]) ⟨hx, hb, hml, hown, hts⟩ Gd0 trivial hS hK (c_X9_isPerson l D h q k c v nm a x ) mi_X9_isPerson wd_5_171 wp_3_0 wd_5_169 ⟨Nat.le_of_ble_eq_true rfl, Nat.le_of_ble_eq_true rfl⟩ (hP) 0 rfl rfl rfl hl.1 rfl (Nat.le_of_ble_eq_true rfl) rfl ⟨Nat.le_of_ble_eq_true rfl, Nat.le_of_ble_eq_true rfl⟩ dX9_why_2 ?_
  refine lv_if_ne (tgt := 10) hx hb dX9_why_5 (by decide) (fun c5 => ?_) (fun c5 => ?_)
  · replace c5 : (isIn x (c 21)) = true := bI_n.mp c5
    obtain ⟨ex, hjx⟩ := isIn_spec c5 (by omega)
    refine lv_iload_n hx hb dX9_why_10 rfl (lv_at hl 2 rfl) ?_
    refine lv_iconst (v := 1) hx hb dX9_why_11 (by decide) ?_
    refine lv_icmp_lt (tgt := 34) hx hb dX9_why_12 (by decide) (fun c12 => ?_) (fun c12 => ?_)
    · refine lv_iconst (v := 2) hx hb dX9_why_34 (by decide) ?_
      exact fs_i hx hb hr hlocks hq (2, (c, v, nm, a)) (by rw [mWhy, if_pos c5, if_pos c12]) hP hD hS dX9_why_35 rfl
    · refine lv_iload_n hx hb dX9_why_15 rfl (lv_at hl 2 rfl) ?_
      refine lv_aload_n hx hb dX9_why_16 rfl (lv_at hl 0 rfl) ?_
      refine mg_3 hx hb hts hown hK hP dX9_why_17 ?_
      refine lv_iconst (v := 0) hx hb dX9_why_20 (by decide) ?_
      refine ml_3 (x := (a 3) 0) hx hb hK hP 0 rfl (by omega) rfl dX9_why_21 ?_
      refine lv_icmp_gt (tgt := 34) hx hb dX9_why_22 (by decide) (fun c22 => ?_) (fun c22 => ?_)
      · refine lv_iconst (v := 2) hx hb dX9_why_34 (by decide) ?_
        exact fs_i hx hb hr hlocks hq (2, (c, v, nm, a)) (by rw [mWhy, if_pos c5, if_neg c12, if_pos c22]) hP hD hS dX9_why_35 rfl
      · refine lv_aload_n hx hb dX9_why_25 rfl (lv_at hl 0 rfl) ?_
        refine mg_42 (x := nI (c 42)) hx hb hts hown hK hP rfl dX9_why_26 ?_
        refine lv_bipush (v := 100) hx hb dX9_why_29 (by decide) ?_
        refine lv_icmp_ne (tgt := 36) hx hb dX9_why_31 (by decide) (fun c31 => ?_) (fun c31 => ?_)
        · replace c31 : ¬ ((c 42) = 100) := fun z => c31 ((nI_eq (a := c 42) (b := 100) (by omega) (by omega)).mpr z)
          refine lv_aload_n hx hb dX9_why_36 rfl (lv_at hl 0 rfl) ?_
          refine lv_iload_n hx hb dX9_why_37 rfl (lv_at hl 1 rfl) ?_
          refine ro_V (rest := []) (st1 := [.int (oI (fOpen (a 26) (a 37) x (c 42)))]) (As := [.int x]) ⟨hx, hb, hml, hown, hts⟩ Gd0 trivial hS hK (c_X9_openOf l D h q k c v nm a x hn) mi_X9_openOf wd_5_197 wp_3_3 wd_5_195 ⟨Nat.le_of_ble_eq_true rfl, Nat.le_of_ble_eq_true rfl⟩ (hP) 0 rfl rfl rfl hl.1 rfl (Nat.le_of_ble_eq_true rfl) rfl ⟨Nat.le_of_ble_eq_true rfl, Nat.le_of_ble_eq_true rfl⟩ dX9_why_38 ?_
          refine lv_iconst (v := (-1)) hx hb dX9_why_41 (by decide) ?_
          refine lv_icmp_eq (tgt := 47) hx hb dX9_why_42 (by decide) (fun c42 => ?_) (fun c42 => ?_)
          · refine lv_aload_n hx hb dX9_why_47 rfl (lv_at hl 0 rfl) ?_
            refine lv_iload_n hx hb dX9_why_48 rfl (lv_at hl 1 rfl) ?_
            refine ro_V (rest := []) (st1 := [.int (bI (fBarred (a 43) (a 45) (a 26) (a 37) ((a 3) 8) x (c 46) (c 42)))]) (As := [.int x]) ⟨hx, hb, hml, hown, hts⟩ Gd0 trivial hS hK (c_X9_isBarred l D h q k c v nm a x hc hn) mi_X9_isBarred wd_5_201 wp_3_4 wd_5_199 ⟨Nat.le_of_ble_eq_true rfl, Nat.le_of_ble_eq_true rfl⟩ (hP) 0 rfl rfl rfl hl.1 rfl (Nat.le_of_ble_eq_true rfl) rfl ⟨Nat.le_of_ble_eq_true rfl, Nat.le_of_ble_eq_true rfl⟩ dX9_why_49 ?_
            refine lv_if_eq (tgt := 57) hx hb dX9_why_52 (by decide) (fun c52 => ?_) (fun c52 => ?_)
            · replace c52 : (fBarred (a 43) (a 45) (a 26) (a 37) ((a 3) 8) x (c 46) (c 42)) = false := bI_0.mp c52
              refine lv_iload_n hx hb dX9_why_57 rfl (lv_at hl 3 rfl) ?_
              refine lv_aload_n hx hb dX9_why_58 rfl (lv_at hl 0 rfl) ?_
              refine mg_3 hx hb hts hown hK hP dX9_why_59 ?_
              refine lv_iconst (v := 2) hx hb dX9_why_62 (by decide) ?_
              refine ml_3 (x := (a 3) 2) hx hb hK hP 2 rfl (by omega) rfl dX9_why_63 ?_
              refine lv_icmp_eq (tgt := 69) hx hb dX9_why_64 (by decide) (fun c64 => ?_) (fun c64 => ?_)
              · have L10 : ∀ (r i : Nat) (w : Int32) (H : Heap) (locs : List Loc), i + r = c 22 → (if y ≤ lp (hasStep (a 17 x.toNatClampNeg) (a 18) (a 19)) r i w then 0 else 10, whyS t sn (c, v, nm, a)) = mWhy x y t sn (c, v, nm, a) → va_P D vwCl (Mw h q k c v nm (up a 47 (whyG t sn (c, v, nm, a)))) H → va_D A (Mw h q k c v nm (up a 47 (whyG t sn (c, v, nm, a)))) → va_S A s.heap H locs → ∀ (ls : Array Slot), lv_has ls 6 [(0, .ref h), (1, .int x), (2, .int y), (3, .int (nI t)), (4, .int w), (5, .int (nI i))] → W p l e (rmd 2 0 0) s m args below meth c_ H locs 0 0 Q (F0 m 296 ls []) := by
                  intro r
                  induction r with
                  | zero =>
                    intro i w H locs hi he hP hD hS ls hl
                    refine lv_iload hx hb dX9_why_296 (lv_at hl 5 rfl) ?_
                    refine lv_aload_n hx hb dX9_why_298 rfl (lv_at hl 0 rfl) ?_
                    refine mg_22 (x := nI (c 22)) hx hb hts hown hK hP rfl dX9_why_299 ?_
                    refine lv_icmp_ge (tgt := 343) hx hb dX9_why_302 (by decide) (fun c302 => ?_) (fun c302 => absurd (nI_le (by omega) (by omega)) c302)
                    refine lv_iload hx hb dX9_why_343 (lv_at hl 4 rfl) ?_
                    refine lv_iload_n hx hb dX9_why_345 rfl (lv_at hl 2 rfl) ?_
                    refine lv_icmp_ge (tgt := 354) hx hb dX9_why_346 (by decide) (fun c346 => ?_) (fun c346 => ?_)
                    · refine lv_iconst (v := 0) hx hb dX9_why_354 (by decide) ?_
                      exact fs_i hx hb hr hlocks hq (0, (c, v, nm, up a 47 (whyG t sn (c, v, nm, a)))) (by rw [← he, if_pos (show y ≤ lp (hasStep (a 17 x.toNatClampNeg) (a 18) (a 19)) 0 i w from c346)]; rfl) hP hD hS dX9_why_355 rfl
                    · refine lv_bipush (v := 10) hx hb dX9_why_349 (by decide) ?_
                      refine lv_goto (tgt := 355) hx hb dX9_why_351 (by decide) ?_
                      exact fs_i hx hb hr hlocks hq (10, (c, v, nm, up a 47 (whyG t sn (c, v, nm, a)))) (by rw [← he, if_neg (show ¬ (y ≤ lp (hasStep (a 17 x.toNatClampNeg) (a 18) (a 19)) 0 i w) from c346)]; rfl) hP hD hS dX9_why_355 rfl
                  | succ r ih =>
                    intro i w H locs hi he hP hD hS ls hl
                    refine lv_iload hx hb dX9_why_296 (lv_at hl 5 rfl) ?_
                    refine lv_aload_n hx hb dX9_why_298 rfl (lv_at hl 0 rfl) ?_
                    refine mg_22 (x := nI (c 22)) hx hb hts hown hK hP rfl dX9_why_299 ?_
                    refine lv_icmp_ge (tgt := 343) hx hb dX9_why_302 (by decide) (fun c302 => absurd c302 (nI_ge (by omega) (by omega))) (fun c302 => ?_)
                    refine lv_aload_n hx hb dX9_why_305 rfl (lv_at hl 0 rfl) ?_
                    refine mg_17 hx hb hts hown hK hP dX9_why_306 ?_
                    refine lv_iload_n hx hb dX9_why_309 rfl (lv_at hl 1 rfl) ?_
                    refine ml_17 (x := (a 17) x.toNatClampNeg) hx hb hK hP x.toNatClampNeg ex (by omega) rfl dX9_why_310 ?_
                    refine lv_aload_n hx hb dX9_why_311 rfl (lv_at hl 0 rfl) ?_
                    refine mg_18 hx hb hts hown hK hP dX9_why_312 ?_
                    refine lv_iload hx hb dX9_why_315 (lv_at hl 5 rfl) ?_
                    refine ml_18 (x := (a 18) i) hx hb hK hP i rfl (by omega) rfl dX9_why_317 ?_
                    refine lv_ishr hx hb dX9_why_318 ?_
                    refine lv_iconst (v := 1) hx hb dX9_why_319 (by decide) ?_
                    refine lv_iand hx hb dX9_why_320 ?_
                    refine lv_iconst (v := 1) hx hb dX9_why_321 (by decide) ?_
                    refine lv_icmp_ne (tgt := 337) hx hb dX9_why_322 (by decide) (fun c322 => ?_) (fun c322 => ?_)
                    · refine lv_iinc (v := nI (i + 1)) (lv' := [(5, .int (nI (i + 1))), (0, .ref h), (1, .int x), (2, .int y), (3, .int (nI t)), (4, .int w)]) hx hb dX9_why_337 hl (k := 5) rfl (nI_1 _) (by decide) rfl (fun ls hl => ?_)
                      refine lv_goto (tgt := 296) hx hb dX9_why_340 (by decide) ?_
                      exact ih (i + 1) w H locs (by omega) (by rw [← he]; show _ = (if y ≤ lp (hasStep (a 17 x.toNatClampNeg) (a 18) (a 19)) r (i + 1) (hasStep (a 17 x.toNatClampNeg) (a 18) (a 19) i w) then (0 : Int32) else 10, _); rw [hasStep, if_neg c322]) hP hD hS ls (lv_sub hl [1, 2, 3, 4, 5, 0] rfl)
                    · refine lv_iload hx hb dX9_why_325 (lv_at hl 4 rfl) ?_
                      refine lv_aload_n hx hb dX9_why_327 rfl (lv_at hl 0 rfl) ?_
                      refine mg_19 hx hb hts hown hK hP dX9_why_328 ?_
                      refine lv_iload hx hb dX9_why_331 (lv_at hl 5 rfl) ?_
                      refine ml_19 (x := (a 19) i) hx hb hK hP i rfl (by omega) rfl dX9_why_333 ?_
                      refine lv_iadd hx hb dX9_why_334 ?_
                      refine lv_istore (lv' := [(4, .int (w + ((a 19) i))), (0, .ref h), (1, .int x), (2, .int y), (3, .int (nI t)), (5, .int (nI i))]) hx hb dX9_why_335 hl (by decide) rfl (fun ls hl => ?_)
                      refine lv_iinc (v := nI (i + 1)) (lv' := [(5, .int (nI (i + 1))), (4, .int (w + ((a 19) i))), (0, .ref h), (1, .int x), (2, .int y), (3, .int (nI t))]) hx hb dX9_why_337 hl (k := 5) rfl (nI_1 _) (by decide) rfl (fun ls hl => ?_)
                      refine lv_goto (tgt := 296) hx hb dX9_why_340 (by decide) ?_
                      exact ih (i + 1) (w + ((a 19) i)) H locs (by omega) (by rw [← he]; show _ = (if y ≤ lp (hasStep (a 17 x.toNatClampNeg) (a 18) (a 19)) r (i + 1) (hasStep (a 17 x.toNatClampNeg) (a 18) (a 19) i w) then (0 : Int32) else 10, _); rw [hasStep, if_pos c322]) hP hD hS ls (lv_sub hl [2, 3, 4, 5, 1, 0] rfl)
                have J : ∀ (H : Heap) (locs : List Loc), why10 x y t sn (c, v, nm, a) = mWhy x y t sn (c, v, nm, a) → va_P D vwCl (Mw h q k c v nm (up a 47 (whyG t sn (c, v, nm, a)))) H → va_D A (Mw h q k c v nm (up a 47 (whyG t sn (c, v, nm, a)))) → va_S A s.heap H locs → ∀ (ls : Array Slot), lv_has ls 6 [(0, .ref h), (1, .int x), (2, .int y), (3, .int (nI t))] → W p l e (rmd 2 0 0) s m args below meth c_ H locs 0 0 Q (F0 m 257 ls []) := by
                  intro  H locs he hP hD hS ls hl
                  refine lv_aload_n hx hb dX9_why_257 rfl (lv_at hl 0 rfl) ?_
                  refine mg_19 hx hb hts hown hK hP dX9_why_258 ?_
                  refine lv_iconst (v := 0) hx hb dX9_why_261 (by decide) ?_
                  refine ml_19 (x := (a 19) 0) hx hb hK hP 0 rfl (by omega) rfl dX9_why_262 ?_
                  refine lv_aload_n hx hb dX9_why_263 rfl (lv_at hl 0 rfl) ?_
                  refine mg_3 hx hb hts hown hK hP dX9_why_264 ?_
                  refine lv_bipush (v := 6) hx hb dX9_why_267 (by decide) ?_
                  refine ml_3 (x := (a 3) 6) hx hb hK hP 6 rfl (by omega) rfl dX9_why_269 ?_
                  refine lv_icmp_le (tgt := 290) hx hb dX9_why_270 (by decide) (fun c270 => ?_) (fun c270 => ?_)
                  · refine lv_iconst (v := 0) hx hb dX9_why_290 (by decide) ?_
                    refine lv_istore (lv' := [(4, .int 0), (0, .ref h), (1, .int x), (2, .int y), (3, .int (nI t))]) hx hb dX9_why_291 hl (by decide) rfl (fun ls hl => ?_)
                    refine lv_iconst (v := 1) hx hb dX9_why_293 (by decide) ?_
                    refine lv_istore (lv' := [(5, .int 1), (4, .int 0), (0, .ref h), (1, .int x), (2, .int y), (3, .int (nI t))]) hx hb dX9_why_294 hl (by decide) rfl (fun ls hl => ?_)
                    exact L10 (c 22 - 1) 1 0 H locs (by omega) (by rw [← he, why10, fHas, fHas0, if_pos c270]) hP hD hS ls (lv_sub hl [2, 3, 4, 5, 1, 0] rfl)
                  · refine lv_aload_n hx hb dX9_why_273 rfl (lv_at hl 0 rfl) ?_
                    refine mg_19 hx hb hts hown hK hP dX9_why_274 ?_
                    refine lv_iconst (v := 0) hx hb dX9_why_277 (by decide) ?_
                    refine ml_19 (x := (a 19) 0) hx hb hK hP 0 rfl (by omega) rfl dX9_why_278 ?_
                    refine lv_aload_n hx hb dX9_why_279 rfl (lv_at hl 0 rfl) ?_
                    refine mg_3 hx hb hts hown hK hP dX9_why_280 ?_
                    refine lv_bipush (v := 6) hx hb dX9_why_283 (by decide) ?_
                    refine ml_3 (x := (a 3) 6) hx hb hK hP 6 rfl (by omega) rfl dX9_why_285 ?_
                    refine lv_isub hx hb dX9_why_286 ?_
                    refine lv_goto (tgt := 291) hx hb dX9_why_287 (by decide) ?_
                    refine lv_istore (lv' := [(4, .int (((a 19) 0) - ((a 3) 6))), (0, .ref h), (1, .int x), (2, .int y), (3, .int (nI t))]) hx hb dX9_why_291 hl (by decide) rfl (fun ls hl => ?_)
                    refine lv_iconst (v := 1) hx hb dX9_why_293 (by decide) ?_
                    refine lv_istore (lv' := [(5, .int 1), (4, .int (((a 19) 0) - ((a 3) 6))), (0, .ref h), (1, .int x), (2, .int y), (3, .int (nI t))]) hx hb dX9_why_294 hl (by decide) rfl (fun ls hl => ?_)
                    exact L10 (c 22 - 1) 1 (((a 19) 0) - ((a 3) 6)) H locs (by omega) (by rw [← he, why10, fHas, fHas0, if_neg c270]) hP hD hS ls (lv_sub hl [2, 3, 4, 5, 1, 0] rfl)
                have L9 : ∀ (r i : Nat) (f : Nat → Int32) (H : Heap) (locs : List Loc), i + r = t → (∀ k, k < t → isIn (a 1 k) (c 21) = true) → why9 x y t sn (c, v, nm, a) = mWhy x y t sn (c, v, nm, a) → lp (fun i f => upd f (a 1 i).toNatClampNeg 1) r i f = fSeedT (a 1) t (fClear (a 47)) → va_P D vwCl (Mw h q k c v nm (up a 47 f)) H → va_D A (Mw h q k c v nm (up a 47 f)) → va_S A s.heap H locs → ∀ (ls : Array Slot), lv_has ls 6 [(0, .ref h), (1, .int x), (2, .int y), (3, .int (nI t)), (4, .int (nI i))] → W p l e (rmd 2 0 0) s m args below meth c_ H locs 0 0 Q (F0 m 199 ls []) := by
                  intro r
                  induction r with
                  | zero =>
                    intro i f H locs hi h6 he9 he hP hD hS ls hl
                    refine lv_iload hx hb dX9_why_199 (lv_at hl 4 rfl) ?_
                    refine lv_iload_n hx hb dX9_why_201 rfl (lv_at hl 3 rfl) ?_
                    refine lv_icmp_ge (tgt := 224) hx hb dX9_why_202 (by decide) (fun c202 => ?_) (fun c202 => absurd (nI_le (by omega) (by omega)) c202)
                    refine lv_aload_n hx hb dX9_why_224 rfl (lv_at hl 0 rfl) ?_
                    refine fs_Vw (rest := []) (As := []) ⟨hx, hb, hml, hown, hts⟩ Gd0 trivial hS hA hK (hP) (hD) (c_X9_spread l D h q k c v nm (up a 47 f)  hn sn hs hw hu) mi_X9_spread wd_5_217 wp_3_8 wd_5_215 ⟨Nat.le_of_ble_eq_true rfl, Nat.le_of_ble_eq_true rfl⟩ 0 rfl rfl rfl hl.1 rfl (Nat.le_of_ble_eq_true rfl) ⟨Nat.le_of_ble_eq_true rfl, Nat.le_of_ble_eq_true rfl⟩ dX9_why_225 (fun u_1 H locs hu_2 hP hD hS => ?_)
                    subst hu_2
                    replace hP : va_P D vwCl (Mw h q k c v nm (up a 47 (fSpread (a 26) (a 37) (a 40) sn (c 42) 41 1 f))) H := hP
                    replace hD : va_D A (Mw h q k c v nm (up a 47 (fSpread (a 26) (a 37) (a 40) sn (c 42) 41 1 f))) := hD
                    refine W.eq (g2 := F0 m 228 ls []) rfl ?_
                    rw [show f = fSeedT (a 1) t (fClear (a 47)) from he] at hP hD
                    replace hP : va_P D vwCl (Mw h q k c v nm (up a 47 (whyG t sn (c, v, nm, a)))) H := hP
                    replace hD : va_D A (Mw h q k c v nm (up a 47 (whyG t sn (c, v, nm, a)))) := hD
                    refine lv_aload_n hx hb dX9_why_228 rfl (lv_at hl 0 rfl) ?_
                    refine mg_47 hx hb hts hown hK hP dX9_why_229 ?_
                    refine lv_iload_n hx hb dX9_why_232 rfl (lv_at hl 1 rfl) ?_
                    refine ml_47 (x := (whyG t sn (c, v, nm, a)) x.toNatClampNeg) hx hb hK hP x.toNatClampNeg ex (by omega) rfl dX9_why_233 ?_
                    refine lv_iconst (v := (-1)) hx hb dX9_why_234 (by decide) ?_
                    refine lv_icmp_eq (tgt := 257) hx hb dX9_why_235 (by decide) (fun c235 => ?_) (fun c235 => ?_)
                    · exact J H locs (by rw [← he9]; simp only [why9, if_pos c235]) hP hD hS ls (lv_sub hl [0, 1, 2, 3] rfl)
                    · refine lv_aload_n hx hb dX9_why_238 rfl (lv_at hl 0 rfl) ?_
                      refine mg_47 hx hb hts hown hK hP dX9_why_239 ?_
                      refine lv_iload_n hx hb dX9_why_242 rfl (lv_at hl 1 rfl) ?_
                      refine ml_47 (x := (whyG t sn (c, v, nm, a)) x.toNatClampNeg) hx hb hK hP x.toNatClampNeg ex (by omega) rfl dX9_why_243 ?_
                      refine lv_aload_n hx hb dX9_why_244 rfl (lv_at hl 0 rfl) ?_
                      refine mg_3 hx hb hts hown hK hP dX9_why_245 ?_
                      refine lv_bipush (v := 7) hx hb dX9_why_248 (by decide) ?_
                      refine ml_3 (x := (a 3) 7) hx hb hK hP 7 rfl (by omega) rfl dX9_why_250 ?_
                      refine lv_icmp_gt (tgt := 257) hx hb dX9_why_251 (by decide) (fun c251 => ?_) (fun c251 => ?_)
                      · exact J H locs (by rw [← he9]; simp only [why9, if_neg c235, if_pos c251]) hP hD hS ls (lv_sub hl [0, 1, 2, 3] rfl)
                      · refine lv_bipush (v := 9) hx hb dX9_why_254 (by decide) ?_
                        exact fs_i hx hb hr hlocks hq (9, (c, v, nm, up a 47 (whyG t sn (c, v, nm, a)))) (by rw [← he9]; simp only [why9, if_neg c235, if_neg c251]; rfl) hP hD hS dX9_why_256 rfl
                  | succ r ih =>
                    intro i f H locs hi h6 he9 he hP hD hS ls hl
                    refine lv_iload hx hb dX9_why_199 (lv_at hl 4 rfl) ?_
                    refine lv_iload_n hx hb dX9_why_201 rfl (lv_at hl 3 rfl) ?_
                    refine lv_icmp_ge (tgt := 224) hx hb dX9_why_202 (by decide) (fun c202 => absurd c202 (nI_ge (by omega) (by omega))) (fun c202 => ?_)
                    refine lv_aload_n hx hb dX9_why_205 rfl (lv_at hl 0 rfl) ?_
                    refine mg_47 hx hb hts hown hK hP dX9_why_206 ?_
                    refine lv_aload_n hx hb dX9_why_209 rfl (lv_at hl 0 rfl) ?_
                    refine mg_1 hx hb hts hown hK hP dX9_why_210 ?_
                    refine lv_iload hx hb dX9_why_213 (lv_at hl 4 rfl) ?_
                    refine ml_1 (x := (a 1) i) hx hb hK hP i rfl (by omega) rfl dX9_why_215 ?_
                    refine lv_iconst (v := 1) hx hb dX9_why_216 (by decide) ?_
                    refine mt_47 (f := f) hx hb hK hP hD hS ((a 1 i).toNatClampNeg) ((isIn_spec (h6 i (by omega)) (by omega)).1) (by have := (isIn_spec (h6 i (by omega)) (by omega)).2; omega) rfl dX9_why_217 (fun H locs hP hD hS => ?_)
                    rw [up_up] at hP hD
                    refine lv_iinc (v := nI (i + 1)) (lv' := [(4, .int (nI (i + 1))), (0, .ref h), (1, .int x), (2, .int y), (3, .int (nI t))]) hx hb dX9_why_218 hl (k := 4) rfl (nI_1 _) (by decide) rfl (fun ls hl => ?_)
                    refine lv_goto (tgt := 199) hx hb dX9_why_221 (by decide) ?_
                    exact ih (i + 1) (upd f ((a 1 i).toNatClampNeg) 1) H locs (by omega) h6 he9 (by rw [← he]; rfl) hP hD hS ls (lv_sub hl [1, 2, 3, 4, 0] rfl)
                have L8 : ∀ (r i : Nat), i + r = t → (∀ k, k < t → isIn (a 1 k) (c 21) = true) → (if (fnd (fun i => !decide (fStands (a 37) (a 40) sn (a 1 i) (c 42) < a 3 3)) r i).isSome = true then (8, (c, v, nm, a)) else why9 x y t sn (c, v, nm, a)) = mWhy x y t sn (c, v, nm, a) → ∀ (ls : Array Slot), lv_has ls 6 [(0, .ref h), (1, .int x), (2, .int y), (3, .int (nI t)), (4, .int (nI i))] → W p l e (rmd 2 0 0) s m args below meth c_ s.heap [] 0 0 Q (F0 m 157 ls []) := by
                  intro r
                  induction r with
                  | zero =>
                    intro i hi h6 he ls hl
                    refine lv_iload hx hb dX9_why_157 (lv_at hl 4 rfl) ?_
                    refine lv_iload_n hx hb dX9_why_159 rfl (lv_at hl 3 rfl) ?_
                    refine lv_icmp_ge (tgt := 192) hx hb dX9_why_160 (by decide) (fun c160 => ?_) (fun c160 => absurd (nI_le (by omega) (by omega)) c160)
                    refine lv_aload_n hx hb dX9_why_192 rfl (lv_at hl 0 rfl) ?_
                    refine fs_Vw (rest := []) (As := []) ⟨hx, hb, hml, hown, hts⟩ Gd0 trivial hS hA hK (hP) (hD) (c_X9_clear l D h q k c v nm a  ) mi_X9_clear wd_5_213 wp_3_7 wd_5_211 ⟨Nat.le_of_ble_eq_true rfl, Nat.le_of_ble_eq_true rfl⟩ 0 rfl rfl rfl hl.1 rfl (Nat.le_of_ble_eq_true rfl) ⟨Nat.le_of_ble_eq_true rfl, Nat.le_of_ble_eq_true rfl⟩ dX9_why_193 (fun u_1 H locs hu_2 hP hD hS => ?_)
                    subst hu_2
                    replace hP : va_P D vwCl (Mw h q k c v nm (up a 47 (fClear (a 47)))) H := hP
                    replace hD : va_D A (Mw h q k c v nm (up a 47 (fClear (a 47)))) := hD
                    refine W.eq (g2 := F0 m 196 ls []) rfl ?_
                    refine lv_iconst (v := 0) hx hb dX9_why_196 (by decide) ?_
                    refine lv_istore (lv' := [(4, .int 0), (0, .ref h), (1, .int x), (2, .int y), (3, .int (nI t))]) hx hb dX9_why_197 hl (by decide) rfl (fun ls hl => ?_)
                    exact L9 t 0 (fClear (a 47)) H locs (by omega) h6 (by rw [← he]; rfl) rfl hP hD hS ls (lv_sub hl [1, 2, 3, 4, 0] rfl)
                  | succ r ih =>
                    intro i hi h6 he ls hl
                    refine lv_iload hx hb dX9_why_157 (lv_at hl 4 rfl) ?_
                    refine lv_iload_n hx hb dX9_why_159 rfl (lv_at hl 3 rfl) ?_
                    refine lv_icmp_ge (tgt := 192) hx hb dX9_why_160 (by decide) (fun c160 => absurd c160 (nI_ge (by omega) (by omega))) (fun c160 => ?_)
                    refine lv_aload_n hx hb dX9_why_163 rfl (lv_at hl 0 rfl) ?_
                    refine lv_aload_n hx hb dX9_why_164 rfl (lv_at hl 0 rfl) ?_
                    refine mg_1 hx hb hts hown hK hP dX9_why_165 ?_
                    refine lv_iload hx hb dX9_why_168 (lv_at hl 4 rfl) ?_
                    refine ml_1 (x := (a 1) i) hx hb hK hP i rfl (by omega) rfl dX9_why_170 ?_
                    refine ro_V (rest := []) (st1 := [.int (fStands (a 37) (a 40) sn ((a 1) i) (c 42))]) (As := [.int ((a 1) i)]) ⟨hx, hb, hml, hown, hts⟩ Gd0 trivial hS hK (c_X9_standsFor l D h q k c v nm a ((a 1) i) hn sn hs) mi_X9_standsFor wd_5_209 wp_3_6 wd_5_207 ⟨Nat.le_of_ble_eq_true rfl, Nat.le_of_ble_eq_true rfl⟩ (hP) 0 rfl rfl rfl hl.1 rfl (Nat.le_of_ble_eq_true rfl) rfl ⟨Nat.le_of_ble_eq_true rfl, Nat.le_of_ble_eq_true rfl⟩ dX9_why_171 ?_
                    refine lv_aload_n hx hb dX9_why_174 rfl (lv_at hl 0 rfl) ?_
                    refine mg_3 hx hb hts hown hK hP dX9_why_175 ?_
                    refine lv_iconst (v := 3) hx hb dX9_why_178 (by decide) ?_
                    refine ml_3 (x := (a 3) 3) hx hb hK hP 3 rfl (by omega) rfl dX9_why_179 ?_
                    refine lv_icmp_lt (tgt := 186) hx hb dX9_why_180 (by decide) (fun c180 => ?_) (fun c180 => ?_)
                    · refine lv_iinc (v := nI (i + 1)) (lv' := [(4, .int (nI (i + 1))), (0, .ref h), (1, .int x), (2, .int y), (3, .int (nI t))]) hx hb dX9_why_186 hl (k := 4) rfl (nI_1 _) (by decide) rfl (fun ls hl => ?_)
                      refine lv_goto (tgt := 157) hx hb dX9_why_189 (by decide) ?_
                      exact ih (i + 1)  (by omega) h6 (by rw [← he]; simp only [fnd]; simp [c180]) ls (lv_sub hl [1, 2, 3, 4, 0] rfl)
                    · refine lv_bipush (v := 8) hx hb dX9_why_183 (by decide) ?_
                      exact fs_i hx hb hr hlocks hq (8, (c, v, nm, a)) (by rw [← he]; simp only [fnd]; simp [c180]) hP hD hS dX9_why_185 rfl
                have L7 : ∀ (r i : Nat), i + r = t → (∀ k, k < t → isIn (a 1 k) (c 21) = true) → (if (fnd (fun i => fBarred (a 43) (a 45) (a 26) (a 37) (a 3 8) (a 1 i) (c 46) (c 42)) r i).isSome = true then (7, (c, v, nm, a)) else why8 x y t sn (c, v, nm, a)) = mWhy x y t sn (c, v, nm, a) → ∀ (ls : Array Slot), lv_has ls 6 [(0, .ref h), (1, .int x), (2, .int y), (3, .int (nI t)), (4, .int (nI i))] → W p l e (rmd 2 0 0) s m args below meth c_ s.heap [] 0 0 Q (F0 m 125 ls []) := by
                  intro r
                  induction r with
                  | zero =>
                    intro i hi h6 he ls hl
                    refine lv_iload hx hb dX9_why_125 (lv_at hl 4 rfl) ?_
                    refine lv_iload_n hx hb dX9_why_127 rfl (lv_at hl 3 rfl) ?_
                    refine lv_icmp_ge (tgt := 154) hx hb dX9_why_128 (by decide) (fun c128 => ?_) (fun c128 => absurd (nI_le (by omega) (by omega)) c128)
                    refine lv_iconst (v := 0) hx hb dX9_why_154 (by decide) ?_
                    refine lv_istore (lv' := [(4, .int 0), (0, .ref h), (1, .int x), (2, .int y), (3, .int (nI t))]) hx hb dX9_why_155 hl (by decide) rfl (fun ls hl => ?_)
                    exact L8 t 0 (by omega) h6 (by rw [← he]; rfl) ls (lv_sub hl [1, 2, 3, 4, 0] rfl)
                  | succ r ih =>
                    intro i hi h6 he ls hl
                    refine lv_iload hx hb dX9_why_125 (lv_at hl 4 rfl) ?_
                    refine lv_iload_n hx hb dX9_why_127 rfl (lv_at hl 3 rfl) ?_
                    refine lv_icmp_ge (tgt := 154) hx hb dX9_why_128 (by decide) (fun c128 => absurd c128 (nI_ge (by omega) (by omega))) (fun c128 => ?_)
                    refine lv_aload_n hx hb dX9_why_131 rfl (lv_at hl 0 rfl) ?_
                    refine lv_aload_n hx hb dX9_why_132 rfl (lv_at hl 0 rfl) ?_
                    refine mg_1 hx hb hts hown hK hP dX9_why_133 ?_
                    refine lv_iload hx hb dX9_why_136 (lv_at hl 4 rfl) ?_
                    refine ml_1 (x := (a 1) i) hx hb hK hP i rfl (by omega) rfl dX9_why_138 ?_
                    refine ro_V (rest := []) (st1 := [.int (bI (fBarred (a 43) (a 45) (a 26) (a 37) ((a 3) 8) ((a 1) i) (c 46) (c 42)))]) (As := [.int ((a 1) i)]) ⟨hx, hb, hml, hown, hts⟩ Gd0 trivial hS hK (c_X9_isBarred l D h q k c v nm a ((a 1) i) hc hn) mi_X9_isBarred wd_5_201 wp_3_4 wd_5_199 ⟨Nat.le_of_ble_eq_true rfl, Nat.le_of_ble_eq_true rfl⟩ (hP) 0 rfl rfl rfl hl.1 rfl (Nat.le_of_ble_eq_true rfl) rfl ⟨Nat.le_of_ble_eq_true rfl, Nat.le_of_ble_eq_true rfl⟩ dX9_why_139 ?_
                    refine lv_if_eq (tgt := 148) hx hb dX9_why_142 (by decide) (fun c142 => ?_) (fun c142 => ?_)
                    · replace c142 : (fBarred (a 43) (a 45) (a 26) (a 37) ((a 3) 8) ((a 1) i) (c 46) (c 42)) = false := bI_0.mp c142
                      refine lv_iinc (v := nI (i + 1)) (lv' := [(4, .int (nI (i + 1))), (0, .ref h), (1, .int x), (2, .int y), (3, .int (nI t))]) hx hb dX9_why_148 hl (k := 4) rfl (nI_1 _) (by decide) rfl (fun ls hl => ?_)
                      refine lv_goto (tgt := 125) hx hb dX9_why_151 (by decide) ?_
                      exact ih (i + 1)  (by omega) h6 (by rw [← he]; simp only [fnd]; simp [c142]) ls (lv_sub hl [1, 2, 3, 4, 0] rfl)
                    · replace c142 : (fBarred (a 43) (a 45) (a 26) (a 37) ((a 3) 8) ((a 1) i) (c 46) (c 42)) = true := bI_n.mp c142
                      refine lv_bipush (v := 7) hx hb dX9_why_145 (by decide) ?_
                      exact fs_i hx hb hr hlocks hq (7, (c, v, nm, a)) (by rw [← he]; simp only [fnd]; simp [c142]) hP hD hS dX9_why_147 rfl
                have L6 : ∀ (r i : Nat), i + r = t → (∀ k, k < i → isIn (a 1 k) (c 21) = true) → (if (fnd (fun i => !isIn (a 1 i) (c 21) || decide (a 1 i = x) || fTwice (a 1) i) r i).isSome = true then (6, (c, v, nm, a)) else why7 x y t sn (c, v, nm, a)) = mWhy x y t sn (c, v, nm, a) → ∀ (ls : Array Slot), lv_has ls 6 [(0, .ref h), (1, .int x), (2, .int y), (3, .int (nI t)), (4, .int (nI i))] → W p l e (rmd 2 0 0) s m args below meth c_ s.heap [] 0 0 Q (F0 m 72 ls []) := by
                  intro r
                  induction r with
                  | zero =>
                    intro i hi h6 he ls hl
                    refine lv_iload hx hb dX9_why_72 (lv_at hl 4 rfl) ?_
                    refine lv_iload_n hx hb dX9_why_74 rfl (lv_at hl 3 rfl) ?_
                    refine lv_icmp_ge (tgt := 122) hx hb dX9_why_75 (by decide) (fun c75 => ?_) (fun c75 => absurd (nI_le (by omega) (by omega)) c75)
                    refine lv_iconst (v := 0) hx hb dX9_why_122 (by decide) ?_
                    refine lv_istore (lv' := [(4, .int 0), (0, .ref h), (1, .int x), (2, .int y), (3, .int (nI t))]) hx hb dX9_why_123 hl (by decide) rfl (fun ls hl => ?_)
                    exact L7 t 0 (by omega) (fun k hk => h6 k (by omega)) (by rw [← he]; rfl) ls (lv_sub hl [1, 2, 3, 4, 0] rfl)
                  | succ r ih =>
                    intro i hi h6 he ls hl
                    refine lv_iload hx hb dX9_why_72 (lv_at hl 4 rfl) ?_
                    refine lv_iload_n hx hb dX9_why_74 rfl (lv_at hl 3 rfl) ?_
                    refine lv_icmp_ge (tgt := 122) hx hb dX9_why_75 (by decide) (fun c75 => absurd c75 (nI_ge (by omega) (by omega))) (fun c75 => ?_)
                    refine lv_aload_n hx hb dX9_why_78 rfl (lv_at hl 0 rfl) ?_
                    refine lv_aload_n hx hb dX9_why_79 rfl (lv_at hl 0 rfl) ?_
                    refine mg_1 hx hb hts hown hK hP dX9_why_80 ?_
                    refine lv_iload hx hb dX9_why_83 (lv_at hl 4 rfl) ?_
                    refine ml_1 (x := (a 1) i) hx hb hK hP i rfl (by omega) rfl dX9_why_85 ?_
                    refine ro_V (rest := []) (st1 := [.int (bI (isIn ((a 1) i) (c 21)))]) (As := [.int ((a 1) i)]) ⟨hx, hb, hml, hown, hts⟩ Gd0 trivial hS hK (c_X9_isPerson l D h q k c v nm a ((a 1) i) ) mi_X9_isPerson wd_5_171 wp_3_0 wd_5_169 ⟨Nat.le_of_ble_eq_true rfl, Nat.le_of_ble_eq_true rfl⟩ (hP) 0 rfl rfl rfl hl.1 rfl (Nat.le_of_ble_eq_true rfl) rfl ⟨Nat.le_of_ble_eq_true rfl, Nat.le_of_ble_eq_true rfl⟩ dX9_why_86 ?_
                    refine lv_if_eq (tgt := 113) hx hb dX9_why_89 (by decide) (fun c89 => ?_) (fun c89 => ?_)
                    · replace c89 : (isIn ((a 1) i) (c 21)) = false := bI_0.mp c89
                      refine lv_bipush (v := 6) hx hb dX9_why_113 (by decide) ?_
                      exact fs_i hx hb hr hlocks hq (6, (c, v, nm, a)) (by rw [← he]; simp only [fnd]; simp [c89]) hP hD hS dX9_why_115 rfl
                    · replace c89 : (isIn ((a 1) i) (c 21)) = true := bI_n.mp c89
                      refine lv_aload_n hx hb dX9_why_92 rfl (lv_at hl 0 rfl) ?_
                      refine mg_1 hx hb hts hown hK hP dX9_why_93 ?_
                      refine lv_iload hx hb dX9_why_96 (lv_at hl 4 rfl) ?_
                      refine ml_1 (x := (a 1) i) hx hb hK hP i rfl (by omega) rfl dX9_why_98 ?_
                      refine lv_iload_n hx hb dX9_why_99 rfl (lv_at hl 1 rfl) ?_
                      refine lv_icmp_eq (tgt := 113) hx hb dX9_why_100 (by decide) (fun c100 => ?_) (fun c100 => ?_)
                      · refine lv_bipush (v := 6) hx hb dX9_why_113 (by decide) ?_
                        exact fs_i hx hb hr hlocks hq (6, (c, v, nm, a)) (by rw [← he]; simp only [fnd]; simp [c89, c100]) hP hD hS dX9_why_115 rfl
                      · refine lv_aload_n hx hb dX9_why_103 rfl (lv_at hl 0 rfl) ?_
                        refine lv_iload_n hx hb dX9_why_104 rfl (lv_at hl 3 rfl) ?_
                        refine lv_iload hx hb dX9_why_105 (lv_at hl 4 rfl) ?_
                        refine ro_V (rest := []) (st1 := [.int (bI (fTwice (a 1) i))]) (As := [.int (nI t), .int (nI i)]) ⟨hx, hb, hml, hown, hts⟩ Gd0 trivial hS hK (c_X9_isTwice l D h q k c v nm a (nI t) i (by omega)) mi_X9_isTwice wd_5_205 wp_3_5 wd_5_203 ⟨Nat.le_of_ble_eq_true rfl, Nat.le_of_ble_eq_true rfl⟩ (hP) 0 rfl rfl rfl hl.1 rfl (Nat.le_of_ble_eq_true rfl) rfl ⟨Nat.le_of_ble_eq_true rfl, Nat.le_of_ble_eq_true rfl⟩ dX9_why_107 ?_
                        refine lv_if_eq (tgt := 116) hx hb dX9_why_110 (by decide) (fun c110 => ?_) (fun c110 => ?_)
                        · replace c110 : (fTwice (a 1) i) = false := bI_0.mp c110
                          refine lv_iinc (v := nI (i + 1)) (lv' := [(4, .int (nI (i + 1))), (0, .ref h), (1, .int x), (2, .int y), (3, .int (nI t))]) hx hb dX9_why_116 hl (k := 4) rfl (nI_1 _) (by decide) rfl (fun ls hl => ?_)
                          refine lv_goto (tgt := 72) hx hb dX9_why_119 (by decide) ?_
                          exact ih (i + 1)  (by omega) (fun k hk => by rcases Nat.lt_succ_iff_lt_or_eq.mp hk with q9 | q9; exact h6 k q9; rw [q9]; exact c89) (by rw [← he]; simp only [fnd]; simp [c89, c100, c110]) ls (lv_sub hl [1, 2, 3, 4, 0] rfl)
                        · replace c110 : (fTwice (a 1) i) = true := bI_n.mp c110
                          refine lv_bipush (v := 6) hx hb dX9_why_113 (by decide) ?_
                          exact fs_i hx hb hr hlocks hq (6, (c, v, nm, a)) (by rw [← he]; simp only [fnd]; simp [c89, c100, c110]) hP hD hS dX9_why_115 rfl
                refine lv_iconst (v := 0) hx hb dX9_why_69 (by decide) ?_
                refine lv_istore (lv' := [(4, .int 0), (0, .ref h), (1, .int x), (2, .int y), (3, .int (nI t))]) hx hb dX9_why_70 hl (by decide) rfl (fun ls hl => ?_)
                exact L6 t 0 (by omega) (fun k hk => absurd hk (Nat.not_lt_zero _)) (by symm; rw [mWhy, if_pos c5, if_neg c12, if_neg c22, if_neg c31, if_pos c42, if_pos c52, if_pos c64]; rfl) ls (lv_sub hl [1, 2, 3, 4, 0] rfl)
              · refine lv_iconst (v := 5) hx hb dX9_why_67 (by decide) ?_
                exact fs_i hx hb hr hlocks hq (5, (c, v, nm, a)) (by rw [mWhy, if_pos c5, if_neg c12, if_neg c22, if_neg c31, if_pos c42, if_pos c52, if_neg c64]) hP hD hS dX9_why_68 rfl
            · replace c52 : (fBarred (a 43) (a 45) (a 26) (a 37) ((a 3) 8) x (c 46) (c 42)) = true := bI_n.mp c52
              refine lv_iconst (v := 4) hx hb dX9_why_55 (by decide) ?_
              exact fs_i hx hb hr hlocks hq (4, (c, v, nm, a)) (by rw [mWhy, if_pos c5, if_neg c12, if_neg c22, if_neg c31, if_pos c42, if_neg (show ¬ (fBarred (a 43) (a 45) (a 26) (a 37) (a 3 8) x (c 46) (c 42) = false) by rw [c52]; decide)]) hP hD hS dX9_why_56 rfl
          · refine lv_iconst (v := 3) hx hb dX9_why_45 (by decide) ?_
            exact fs_i hx hb hr hlocks hq (3, (c, v, nm, a)) (by rw [mWhy, if_pos c5, if_neg c12, if_neg c22, if_neg c31, if_neg c42]) hP hD hS dX9_why_46 rfl
        · replace c31 : (c 42) = 100 := (nI_eq (a := c 42) (b := 100) (by omega) (by omega)).mp c31
          refine lv_iconst (v := 2) hx hb dX9_why_34 (by decide) ?_
          exact fs_i hx hb hr hlocks hq (2, (c, v, nm, a)) (by rw [mWhy, if_pos c5, if_neg c12, if_neg c22, if_pos c31]) hP hD hS dX9_why_35 rfl
  · replace c5 : (isIn x (c 21)) = false := bI_0.mp c5
    refine lv_iconst (v := 1) hx hb dX9_why_8 (by decide) ?_
    exact fs_i hx hb hr hlocks hq (1, (c, v, nm, a)) (by rw [mWhy, if_neg (show ¬ (isIn x (c 21) = true) by rw [c5]; decide)]) hP hD hS dX9_why_9 rfl
end
