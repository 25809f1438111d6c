def RX0 : String := "LoanChest$Call"
def TX0 : u_T := fun k => match k with
  | 0 => ("LoanChest$Call", "person", "I", true)
  | 1 => ("LoanChest$Call", "loan", "LLoanChest$Loan;", true)
  | 2 => ("LoanChest$Call", "sum", "I", true)
  | _ => ("LoanChest$Call", "paid", "I", false)
def tyX0 : Nat → FieldType := fun k => match k with
  | 0 => .int
  | 1 => .object "LoanChest$Loan"
  | 2 => .int
  | _ => .int
abbrev wsX00 : List Cond := u_ws RX0 TX0 4
theorem nmX0 : ∀ a, a < 4 → ∀ b, b < 4 → a ≠ b → (TX0 a).2.1 ≠ (TX0 b).2.1 := by decide +kernel
theorem tyX0_ok : ∀ k, k < 4 → parseFieldDescriptor (TX0 k).2.2.1 = some (tyX0 k) := by decide +kernel
abbrev cX0_init : ByteArray := prog_2_method_1_code
def yX0_init : MethodName := ⟨RX0, "<init>", "(ILLoanChest$Loan;I)V"⟩
abbrev cX0_rest : ByteArray := prog_2_method_2_code
def yX0_rest : MethodName := ⟨RX0, "rest", "()I"⟩
abbrev cX0_receive : ByteArray := prog_2_method_3_code
def yX0_receive : MethodName := ⟨RX0, "receive", "(I)V"⟩
def RX1 : String := "LoanChest$Funds"
def TX1 : u_T := fun k => match k with
  | 0 => ("LoanChest$Funds", "pence", "[I", true)
  | 1 => ("LoanChest$Funds", "tagOf", "[I", true)
  | 2 => ("LoanChest$Funds", "madeIn", "[I", true)
  | 3 => ("LoanChest$Funds", "book", "[I", true)
  | 4 => ("LoanChest$Funds", "made", "I", false)
  | _ => ("LoanChest$Funds", "given", "I", false)
def tyX1 : Nat → FieldType := fun k => match k with
  | 0 => .array .int
  | 1 => .array .int
  | 2 => .array .int
  | 3 => .array .int
  | 4 => .int
  | _ => .int
abbrev wsX10 : List Cond := u_ws RX1 TX1 6
theorem nmX1 : ∀ a, a < 6 → ∀ b, b < 6 → a ≠ b → (TX1 a).2.1 ≠ (TX1 b).2.1 := by decide +kernel
theorem tyX1_ok : ∀ k, k < 6 → parseFieldDescriptor (TX1 k).2.2.1 = some (tyX1 k) := by decide +kernel
abbrev cX1_init : ByteArray := prog_3_method_1_code
def yX1_init : MethodName := ⟨RX1, "<init>", "()V"⟩
abbrev cX1_howMany : ByteArray := prog_3_method_2_code
def yX1_howMany : MethodName := ⟨RX1, "howMany", "()I"⟩
abbrev cX1_givenInAll : ByteArray := prog_3_method_3_code
def yX1_givenInAll : MethodName := ⟨RX1, "givenInAll", "()I"⟩
abbrev cX1_has : ByteArray := prog_3_method_4_code
def yX1_has : MethodName := ⟨RX1, "has", "(I)Z"⟩
abbrev cX1_penceNow : ByteArray := prog_3_method_5_code
def yX1_penceNow : MethodName := ⟨RX1, "penceNow", "(I)I"⟩
abbrev cX1_penceAtEnd : ByteArray := prog_3_method_6_code
def yX1_penceAtEnd : MethodName := ⟨RX1, "penceAtEnd", "(II)I"⟩
abbrev cX1_writeDown : ByteArray := prog_3_method_7_code
def yX1_writeDown : MethodName := ⟨RX1, "writeDown", "(I)V"⟩
abbrev cX1_found : ByteArray := prog_3_method_8_code
def yX1_found : MethodName := ⟨RX1, "found", "(III)I"⟩
abbrev cX1_give : ByteArray := prog_3_method_9_code
def yX1_give : MethodName := ⟨RX1, "give", "(II)I"⟩
abbrev cX1_canLend : ByteArray := prog_3_method_10_code
def yX1_canLend : MethodName := ⟨RX1, "canLend", "(II)I"⟩
abbrev cX1_lendTo : ByteArray := prog_3_method_11_code
def yX1_lendTo : MethodName := ⟨RX1, "lendTo", "(LLoanChest$Loan;II)V"⟩
abbrev cX1_bringBack : ByteArray := prog_3_method_12_code
def yX1_bringBack : MethodName := ⟨RX1, "bringBack", "(LLoanChest$Loan;I)V"⟩
abbrev cX1_addForAll : ByteArray := prog_3_method_13_code
def yX1_addForAll : MethodName := ⟨RX1, "addForAll", "(I)V"⟩
abbrev cX1_isFor : ByteArray := prog_3_method_14_code
def yX1_isFor : MethodName := ⟨RX1, "isFor", "(II)Z"⟩
abbrev cX1_aboveKeep : ByteArray := prog_3_method_15_code
def yX1_aboveKeep : MethodName := ⟨RX1, "aboveKeep", "(I)I"⟩
abbrev cX1_take : ByteArray := prog_3_method_16_code
def yX1_take : MethodName := ⟨RX1, "take", "(LLoanChest$Loan;II)I"⟩
abbrev cX1_putBack : ByteArray := prog_3_method_17_code
def yX1_putBack : MethodName := ⟨RX1, "putBack", "(LLoanChest$Loan;II)I"⟩
def RX2 : String := "LoanChest$Kind"
def TX2 : u_T := fun k => match k with
  | _ => ("", "", "", false)
def tyX2 : Nat → FieldType := fun k => match k with
  | _ => .int
abbrev wsX20 : List Cond := u_ws RX2 TX2 0
theorem nmX2 : ∀ a, a < 0 → ∀ b, b < 0 → a ≠ b → (TX2 a).2.1 ≠ (TX2 b).2.1 := by decide +kernel
theorem tyX2_ok : ∀ k, k < 0 → parseFieldDescriptor (TX2 k).2.2.1 = some (tyX2 k) := by decide +kernel
def RX3 : String := "LoanChest$Ledger"
def TX3 : u_T := fun k => match k with
  | 0 => ("LoanChest$Ledger", "loans", "Ljava/util/ArrayList;", true)
  | 1 => ("LoanChest$Ledger", "calls", "Ljava/util/ArrayList;", true)
  | _ => ("LoanChest$Ledger", "lost", "I", false)
def tyX3 : Nat → FieldType := fun k => match k with
  | 0 => .object "java/util/ArrayList"
  | 1 => .object "java/util/ArrayList"
  | _ => .int
abbrev wsX30 : List Cond := u_ws RX3 TX3 3
theorem nmX3 : ∀ a, a < 3 → ∀ b, b < 3 → a ≠ b → (TX3 a).2.1 ≠ (TX3 b).2.1 := by decide +kernel
theorem tyX3_ok : ∀ k, k < 3 → parseFieldDescriptor (TX3 k).2.2.1 = some (tyX3 k) := by decide +kernel
abbrev cX3_init : ByteArray := prog_5_method_1_code
def yX3_init : MethodName := ⟨RX3, "<init>", "()V"⟩
abbrev cX3_howManyLoans : ByteArray := prog_5_method_2_code
def yX3_howManyLoans : MethodName := ⟨RX3, "howManyLoans", "()I"⟩
abbrev cX3_lostPence : ByteArray := prog_5_method_3_code
def yX3_lostPence : MethodName := ⟨RX3, "lostPence", "()I"⟩
abbrev cX3_enter : ByteArray := prog_5_method_4_code
def yX3_enter : MethodName := ⟨RX3, "enter", "(LLoanChest$Loan;)V"⟩
abbrev cX3_loanAt : ByteArray := prog_5_method_5_code
def yX3_loanAt : MethodName := ⟨RX3, "loanAt", "(I)LLoanChest$Loan;"⟩
abbrev cX3_howManyOpen : ByteArray := prog_5_method_6_code
def yX3_howManyOpen : MethodName := ⟨RX3, "howManyOpen", "()I"⟩
abbrev cX3_openLoanOf : ByteArray := prog_5_method_7_code
def yX3_openLoanOf : MethodName := ⟨RX3, "openLoanOf", "(I)LLoanChest$Loan;"⟩
abbrev cX3_calledLoansOf : ByteArray := prog_5_method_8_code
def yX3_calledLoansOf : MethodName := ⟨RX3, "calledLoansOf", "(I)I"⟩
abbrev cX3_standsFor : ByteArray := prog_5_method_9_code
def yX3_standsFor : MethodName := ⟨RX3, "standsFor", "(I)I"⟩
abbrev cX3_characterOf : ByteArray := prog_5_method_10_code
def yX3_characterOf : MethodName := ⟨RX3, "characterOf", "(I)I"⟩
abbrev cX3_worthOf : ByteArray := prog_5_method_11_code
def yX3_worthOf : MethodName := ⟨RX3, "worthOf", "(LLoanChest$Loan;)I"⟩
abbrev cX3_unpaidCalls : ByteArray := prog_5_method_12_code
def yX3_unpaidCalls : MethodName := ⟨RX3, "unpaidCalls", "(I)I"⟩
abbrev cX3_owedByCalls : ByteArray := prog_5_method_13_code
def yX3_owedByCalls : MethodName := ⟨RX3, "owedByCalls", "(I)I"⟩
abbrev cX3_debtOf : ByteArray := prog_5_method_14_code
def yX3_debtOf : MethodName := ⟨RX3, "debtOf", "(I)I"⟩
abbrev cX3_shortestRing : ByteArray := prog_5_method_15_code
def yX3_shortestRing : MethodName := ⟨RX3, "shortestRing", "(IJ)I"⟩
abbrev cX3_suretiesOfAll : ByteArray := prog_5_method_16_code
def yX3_suretiesOfAll : MethodName := ⟨RX3, "suretiesOfAll", "(J)J"⟩
abbrev cX3_endWeek : ByteArray := prog_5_method_17_code
def yX3_endWeek : MethodName := ⟨RX3, "endWeek", "(I)V"⟩
abbrev cX3_callIn : ByteArray := prog_5_method_18_code
def yX3_callIn : MethodName := ⟨RX3, "callIn", "(LLoanChest$Loan;)V"⟩
abbrev cX3_takePayment : ByteArray := prog_5_method_19_code
def yX3_takePayment : MethodName := ⟨RX3, "takePayment", "(IILLoanChest$Funds;)V"⟩
abbrev cX3_payCall : ByteArray := prog_5_method_20_code
def yX3_payCall : MethodName := ⟨RX3, "payCall", "(LLoanChest$Call;ILLoanChest$Funds;)I"⟩
abbrev cX3_payLoan : ByteArray := prog_5_method_21_code
def yX3_payLoan : MethodName := ⟨RX3, "payLoan", "(LLoanChest$Loan;ILLoanChest$Funds;)V"⟩
def RX4 : String := "LoanChest$Loan"
def TX4 : u_T := fun k => match k with
  | 0 => ("LoanChest$Loan", "number", "I", true)
  | 1 => ("LoanChest$Loan", "borrower", "I", true)
  | 2 => ("LoanChest$Loan", "amount", "I", true)
  | 3 => ("LoanChest$Loan", "began", "I", true)
  | 4 => ("LoanChest$Loan", "sureties", "[I", true)
  | 5 => ("LoanChest$Loan", "suretyBits", "J", true)
  | 6 => ("LoanChest$Loan", "weeks", "I", true)
  | 7 => ("LoanChest$Loan", "late", "I", true)
  | 8 => ("LoanChest$Loan", "call", "I", true)
  | 9 => ("LoanChest$Loan", "takenFrom", "[I", true)
  | 10 => ("LoanChest$Loan", "stillAway", "[I", true)
  | 11 => ("LoanChest$Loan", "paid", "I", false)
  | 12 => ("LoanChest$Loan", "fines", "I", false)
  | 13 => ("LoanChest$Loan", "finesPaid", "I", false)
  | 14 => ("LoanChest$Loan", "timesLate", "I", false)
  | 15 => ("LoanChest$Loan", "lateInARow", "I", false)
  | 16 => ("LoanChest$Loan", "state", "I", false)
  | _ => ("LoanChest$Loan", "cameBack", "I", false)
def tyX4 : Nat → FieldType := fun k => match k with
  | 0 => .int
  | 1 => .int
  | 2 => .int
  | 3 => .int
  | 4 => .array .int
  | 5 => .long
  | 6 => .int
  | 7 => .int
  | 8 => .int
  | 9 => .array .int
  | 10 => .array .int
  | 11 => .int
  | 12 => .int
  | 13 => .int
  | 14 => .int
  | 15 => .int
  | 16 => .int
  | _ => .int
abbrev wsX40 : List Cond := u_ws RX4 TX4 18
theorem nmX4 : ∀ a, a < 18 → ∀ b, b < 18 → a ≠ b → (TX4 a).2.1 ≠ (TX4 b).2.1 := by decide +kernel
theorem tyX4_ok : ∀ k, k < 18 → parseFieldDescriptor (TX4 k).2.2.1 = some (tyX4 k) := by decide +kernel
abbrev cX4_init : ByteArray := prog_6_method_1_code
def yX4_init : MethodName := ⟨RX4, "<init>", "(IIII[IJLLoanChest$Rules;)V"⟩
abbrev cX4_isOpenOf : ByteArray := prog_6_method_2_code
def yX4_isOpenOf : MethodName := ⟨RX4, "isOpenOf", "(I)Z"⟩
abbrev cX4_isOpenWithSurety : ByteArray := prog_6_method_3_code
def yX4_isOpenWithSurety : MethodName := ⟨RX4, "isOpenWithSurety", "(I)Z"⟩
abbrev cX4_rest : ByteArray := prog_6_method_4_code
def yX4_rest : MethodName := ⟨RX4, "rest", "()I"⟩
abbrev cX4_dueAtEnd : ByteArray := prog_6_method_5_code
def yX4_dueAtEnd : MethodName := ⟨RX4, "dueAtEnd", "(I)I"⟩
abbrev cX4_isToBeCalledAtEnd : ByteArray := prog_6_method_6_code
def yX4_isToBeCalledAtEnd : MethodName := ⟨RX4, "isToBeCalledAtEnd", "(I)Z"⟩
def RX5 : String := "LoanChest$RuleReader"
def TX5 : u_T := fun k => match k with
  | 0 => ("LoanChest$RuleReader", "read", "[I", true)
  | 1 => ("LoanChest$RuleReader", "met", "[Z", true)
  | 2 => ("LoanChest$RuleReader", "form", "I", false)
  | 3 => ("LoanChest$RuleReader", "start", "I", false)
  | 4 => ("LoanChest$RuleReader", "behind", "I", false)
  | _ => ("LoanChest$RuleReader", "faultKind", "I", false)
def tyX5 : Nat → FieldType := fun k => match k with
  | 0 => .array .int
  | 1 => .array .boolean
  | 2 => .int
  | 3 => .int
  | 4 => .int
  | _ => .int
abbrev wsX50 : List Cond := u_ws RX5 TX5 6
theorem nmX5 : ∀ a, a < 6 → ∀ b, b < 6 → a ≠ b → (TX5 a).2.1 ≠ (TX5 b).2.1 := by decide +kernel
theorem tyX5_ok : ∀ k, k < 6 → parseFieldDescriptor (TX5 k).2.2.1 = some (tyX5 k) := by decide +kernel
abbrev cX5_init : ByteArray := prog_7_method_1_code
def yX5_init : MethodName := ⟨RX5, "<init>", "()V"⟩
abbrev cX5_faultKind : ByteArray := prog_7_method_2_code
def yX5_faultKind : MethodName := ⟨RX5, "faultKind", "()I"⟩
abbrev cX5_valueRead : ByteArray := prog_7_method_3_code
def yX5_valueRead : MethodName := ⟨RX5, "valueRead", "(LLoanChest$Kind;)I"⟩
abbrev cX5_readAll : ByteArray := prog_7_method_4_code
def yX5_readAll : MethodName := ⟨RX5, "readAll", "(LLoanChest$Tape;)I"⟩
abbrev cX5_startAgain : ByteArray := prog_7_method_5_code
def yX5_startAgain : MethodName := ⟨RX5, "startAgain", "()V"⟩
abbrev cX5_faultOfRule : ByteArray := prog_7_method_6_code
def yX5_faultOfRule : MethodName := ⟨RX5, "faultOfRule", "(LLoanChest$Tape;)I"⟩
abbrev cX5_step : ByteArray := prog_7_method_7_code
def yX5_step : MethodName := ⟨RX5, "step", "(LLoanChest$Tape;)V"⟩
abbrev cX5_readToken : ByteArray := prog_7_method_8_code
def yX5_readToken : MethodName := ⟨RX5, "readToken", "(LLoanChest$Tape;)V"⟩
abbrev cX5_kindOfWord : ByteArray := prog_7_method_9_code
def yX5_kindOfWord : MethodName := ⟨RX5, "kindOfWord", "(LLoanChest$Tape;)LLoanChest$Kind;"⟩
abbrev cX5_isWordRead : ByteArray := prog_7_method_10_code
def yX5_isWordRead : MethodName := ⟨RX5, "isWordRead", "(Ljava/lang/String;LLoanChest$Tape;)Z"⟩
abbrev cX5_numberRead : ByteArray := prog_7_method_11_code
def yX5_numberRead : MethodName := ⟨RX5, "numberRead", "(LLoanChest$Tape;)I"⟩
abbrev cX5_isBlank : ByteArray := prog_7_method_12_code
def yX5_isBlank : MethodName := ⟨RX5, "isBlank", "(I)Z"⟩
abbrev cX5_isDigit : ByteArray := prog_7_method_13_code
def yX5_isDigit : MethodName := ⟨RX5, "isDigit", "(I)Z"⟩
abbrev cX5_isLetterOrDigit : ByteArray := prog_7_method_14_code
def yX5_isLetterOrDigit : MethodName := ⟨RX5, "isLetterOrDigit", "(I)Z"⟩
def RX6 : String := "LoanChest$Rules"
def TX6 : u_T := fun k => match k with
  | _ => ("LoanChest$Rules", "values", "[I", true)
def tyX6 : Nat → FieldType := fun k => match k with
  | _ => .array .int
abbrev wsX60 : List Cond := u_ws RX6 TX6 1
theorem nmX6 : ∀ a, a < 1 → ∀ b, b < 1 → a ≠ b → (TX6 a).2.1 ≠ (TX6 b).2.1 := by decide +kernel
theorem tyX6_ok : ∀ k, k < 1 → parseFieldDescriptor (TX6 k).2.2.1 = some (tyX6 k) := by decide +kernel
abbrev cX6_init : ByteArray := prog_8_method_1_code
def yX6_init : MethodName := ⟨RX6, "<init>", "()V"⟩
abbrev cX6_current : ByteArray := prog_8_method_2_code
def yX6_current : MethodName := ⟨RX6, "current", "(LLoanChest$Kind;)I"⟩
abbrev cX6_takeOver : ByteArray := prog_8_method_3_code
def yX6_takeOver : MethodName := ⟨RX6, "takeOver", "(LLoanChest$RuleReader;)V"⟩
def RX7 : String := "LoanChest$Tape"
def TX7 : u_T := fun k => match k with
  | 0 => ("LoanChest$Tape", "bytes", "[I", true)
  | _ => ("LoanChest$Tape", "length", "I", false)
def tyX7 : Nat → FieldType := fun k => match k with
  | 0 => .array .int
  | _ => .int
abbrev wsX70 : List Cond := u_ws RX7 TX7 2
theorem nmX7 : ∀ a, a < 2 → ∀ b, b < 2 → a ≠ b → (TX7 a).2.1 ≠ (TX7 b).2.1 := by decide +kernel
theorem tyX7_ok : ∀ k, k < 2 → parseFieldDescriptor (TX7 k).2.2.1 = some (tyX7 k) := by decide +kernel
abbrev cX7_init : ByteArray := prog_9_method_1_code
def yX7_init : MethodName := ⟨RX7, "<init>", "()V"⟩
abbrev cX7_length : ByteArray := prog_9_method_2_code
def yX7_length : MethodName := ⟨RX7, "length", "()I"⟩
abbrev cX7_hasRoomForFive : ByteArray := prog_9_method_3_code
def yX7_hasRoomForFive : MethodName := ⟨RX7, "hasRoomForFive", "()Z"⟩
abbrev cX7_append : ByteArray := prog_9_method_4_code
def yX7_append : MethodName := ⟨RX7, "append", "(I)V"⟩
abbrev cX7_cutTo : ByteArray := prog_9_method_5_code
def yX7_cutTo : MethodName := ⟨RX7, "cutTo", "(I)Z"⟩
abbrev cX7_byteAt : ByteArray := prog_9_method_6_code
def yX7_byteAt : MethodName := ⟨RX7, "byteAt", "(I)I"⟩
abbrev cX7_copy : ByteArray := prog_9_method_7_code
def yX7_copy : MethodName := ⟨RX7, "copy", "()[I"⟩
def RX8 : String := "LoanChest"
def TX8 : u_T := fun k => match k with
  | 0 => ("LoanChest", "tape", "LLoanChest$Tape;", true)
  | 1 => ("LoanChest", "reader", "LLoanChest$RuleReader;", true)
  | 2 => ("LoanChest", "law", "LLoanChest$Rules;", true)
  | 3 => ("LoanChest", "purse", "LLoanChest$Funds;", true)
  | 4 => ("LoanChest", "ledger", "LLoanChest$Ledger;", true)
  | 5 => ("LoanChest", "tagsOf", "[I", true)
  | 6 => ("LoanChest", "people", "I", false)
  | _ => ("LoanChest", "week", "I", false)
def tyX8 : Nat → FieldType := fun k => match k with
  | 0 => .object "LoanChest$Tape"
  | 1 => .object "LoanChest$RuleReader"
  | 2 => .object "LoanChest$Rules"
  | 3 => .object "LoanChest$Funds"
  | 4 => .object "LoanChest$Ledger"
  | 5 => .array .int
  | 6 => .int
  | _ => .int
abbrev wsX80 : List Cond := u_ws RX8 TX8 8
theorem nmX8 : ∀ a, a < 8 → ∀ b, b < 8 → a ≠ b → (TX8 a).2.1 ≠ (TX8 b).2.1 := by decide +kernel
theorem tyX8_ok : ∀ k, k < 8 → parseFieldDescriptor (TX8 k).2.2.1 = some (tyX8 k) := by decide +kernel
abbrev cX8_init : ByteArray := prog_1_method_1_code
def yX8_init : MethodName := ⟨RX8, "<init>", "()V"⟩
abbrev cX8_feed : ByteArray := prog_1_method_2_code
def yX8_feed : MethodName := ⟨RX8, "feed", "(IIIII)I"⟩
abbrev cX8_end : ByteArray := prog_1_method_3_code
def yX8_end : MethodName := ⟨RX8, "end", "(I)Z"⟩
abbrev cX8_rules : ByteArray := prog_1_method_4_code
def yX8_rules : MethodName := ⟨RX8, "rules", "()I"⟩
abbrev cX8_fault : ByteArray := prog_1_method_5_code
def yX8_fault : MethodName := ⟨RX8, "fault", "()I"⟩
abbrev cX8_rule : ByteArray := prog_1_method_6_code
def yX8_rule : MethodName := ⟨RX8, "rule", "(I)I"⟩
abbrev cX8_person : ByteArray := prog_1_method_7_code
def yX8_person : MethodName := ⟨RX8, "person", "(I)I"⟩
abbrev cX8_tag : ByteArray := prog_1_method_8_code
def yX8_tag : MethodName := ⟨RX8, "tag", "(IIZ)Z"⟩
abbrev cX8_fund : ByteArray := prog_1_method_9_code
def yX8_fund : MethodName := ⟨RX8, "fund", "(II)I"⟩
abbrev cX8_gift : ByteArray := prog_1_method_10_code
def yX8_gift : MethodName := ⟨RX8, "gift", "(II)I"⟩
abbrev cX8_ask : ByteArray := prog_1_method_11_code
def yX8_ask : MethodName := ⟨RX8, "ask", "(II)I"⟩
abbrev cX8_pay : ByteArray := prog_1_method_12_code
def yX8_pay : MethodName := ⟨RX8, "pay", "(II)Z"⟩
abbrev cX8_owes : ByteArray := prog_1_method_13_code
def yX8_owes : MethodName := ⟨RX8, "owes", "(I)I"⟩
abbrev cX8_next : ByteArray := prog_1_method_14_code
def yX8_next : MethodName := ⟨RX8, "next", "()I"⟩
abbrev cX8_chest : ByteArray := prog_1_method_15_code
def yX8_chest : MethodName := ⟨RX8, "chest", "(II)I"⟩
abbrev cX8_loan : ByteArray := prog_1_method_16_code
def yX8_loan : MethodName := ⟨RX8, "loan", "(II)I"⟩
abbrev cX8_surety : ByteArray := prog_1_method_17_code
def yX8_surety : MethodName := ⟨RX8, "surety", "(II)I"⟩
abbrev cX8_taken : ByteArray := prog_1_method_18_code
def yX8_taken : MethodName := ⟨RX8, "taken", "(II)I"⟩
abbrev cX8_about : ByteArray := prog_1_method_19_code
def yX8_about : MethodName := ⟨RX8, "about", "(II)I"⟩
abbrev cX8_ring : ByteArray := prog_1_method_20_code
def yX8_ring : MethodName := ⟨RX8, "ring", "(I)I"⟩
abbrev cX8_count : ByteArray := prog_1_method_21_code
def yX8_count : MethodName := ⟨RX8, "count", "(I)I"⟩
abbrev cX8_isPerson : ByteArray := prog_1_method_22_code
def yX8_isPerson : MethodName := ⟨RX8, "isPerson", "(I)Z"⟩
abbrev cX8_isTag : ByteArray := prog_1_method_23_code
def yX8_isTag : MethodName := ⟨RX8, "isTag", "(I)Z"⟩
abbrev cX8_isBarred : ByteArray := prog_1_method_24_code
def yX8_isBarred : MethodName := ⟨RX8, "isBarred", "(I)Z"⟩
abbrev cX8_openLoanNumber : ByteArray := prog_1_method_25_code
def yX8_openLoanNumber : MethodName := ⟨RX8, "openLoanNumber", "(I)I"⟩
abbrev cX8_whyRefused : ByteArray := prog_1_method_26_code
def yX8_whyRefused : MethodName := ⟨RX8, "whyRefused", "(II)I"⟩
abbrev cX8_whyRefusedForBorrower : ByteArray := prog_1_method_27_code
def yX8_whyRefusedForBorrower : MethodName := ⟨RX8, "whyRefusedForBorrower", "(II)I"⟩
abbrev cX8_whyRefusedForSureties : ByteArray := prog_1_method_28_code
def yX8_whyRefusedForSureties : MethodName := ⟨RX8, "whyRefusedForSureties", "(I)I"⟩
abbrev cX8_areOthersAllDifferent : ByteArray := prog_1_method_29_code
def yX8_areOthersAllDifferent : MethodName := ⟨RX8, "areOthersAllDifferent", "(I)Z"⟩
abbrev cX8_bitsOnTape : ByteArray := prog_1_method_30_code
def yX8_bitsOnTape : MethodName := ⟨RX8, "bitsOnTape", "()J"⟩
abbrev cX8_lend : ByteArray := prog_1_method_31_code
def yX8_lend : MethodName := ⟨RX8, "lend", "(II)I"⟩
abbrev cX8_bitOf : ByteArray := prog_1_method_32_code
def yX8_bitOf : MethodName := ⟨RX8, "bitOf", "(I)J"⟩
def RX9 : String := "LoanChestModel"
def TX9 : u_T := fun k => match k with
  | 0 => ("LoanChestModel", "thrown", "I", false)
  | 1 => ("LoanChestModel", "tape", "[I", true)
  | 2 => ("LoanChestModel", "taped", "I", false)
  | 3 => ("LoanChestModel", "rule", "[I", true)
  | 4 => ("LoanChestModel", "usual", "[I", true)
  | 5 => ("LoanChestModel", "low", "[I", true)
  | 6 => ("LoanChestModel", "high", "[I", true)
  | 7 => ("LoanChestModel", "newRule", "[I", true)
  | 8 => ("LoanChestModel", "fault", "I", false)
  | 9 => ("LoanChestModel", "place", "I", false)
  | 10 => ("LoanChestModel", "size", "I", false)
  | 11 => ("LoanChestModel", "to", "I", false)
  | 12 => ("LoanChestModel", "from", "I", false)
  | 13 => ("LoanChestModel", "kind", "I", false)
  | 14 => ("LoanChestModel", "number", "I", false)
  | 15 => ("LoanChestModel", "name", "J", false)
  | 16 => ("LoanChestModel", "told", "I", false)
  | 17 => ("LoanChestModel", "tags", "[I", true)
  | 18 => ("LoanChestModel", "fundTag", "[I", true)
  | 19 => ("LoanChestModel", "pence", "[I", true)
  | 20 => ("LoanChestModel", "book", "[I", true)
  | 21 => ("LoanChestModel", "people", "I", false)
  | 22 => ("LoanChestModel", "funds", "I", false)
  | 23 => ("LoanChestModel", "week", "I", false)
  | 24 => ("LoanChestModel", "given", "I", false)
  | 25 => ("LoanChestModel", "lost", "I", false)
  | 26 => ("LoanChestModel", "who", "[I", true)
  | 27 => ("LoanChestModel", "amount", "[I", true)
  | 28 => ("LoanChestModel", "began", "[I", true)
  | 29 => ("LoanChestModel", "weeks", "[I", true)
  | 30 => ("LoanChestModel", "fine", "[I", true)
  | 31 => ("LoanChestModel", "callAt", "[I", true)
  | 32 => ("LoanChestModel", "paid", "[I", true)
  | 33 => ("LoanChestModel", "fines", "[I", true)
  | 34 => ("LoanChestModel", "finesPaid", "[I", true)
  | 35 => ("LoanChestModel", "late", "[I", true)
  | 36 => ("LoanChestModel", "lateRow", "[I", true)
  | 37 => ("LoanChestModel", "state", "[I", true)
  | 38 => ("LoanChestModel", "backAll", "[I", true)
  | 39 => ("LoanChestModel", "sureties", "[I", true)
  | 40 => ("LoanChestModel", "surety", "[I", true)
  | 41 => ("LoanChestModel", "taken", "[I", true)
  | 42 => ("LoanChestModel", "loans", "I", false)
  | 43 => ("LoanChestModel", "callWho", "[I", true)
  | 44 => ("LoanChestModel", "callLoan", "[I", true)
  | 45 => ("LoanChestModel", "callLeft", "[I", true)
  | 46 => ("LoanChestModel", "calls", "I", false)
  | _ => ("LoanChestModel", "far", "[I", true)
def tyX9 : Nat → FieldType := fun k => match k with
  | 0 => .int
  | 1 => .array .int
  | 2 => .int
  | 3 => .array .int
  | 4 => .array .int
  | 5 => .array .int
  | 6 => .array .int
  | 7 => .array .int
  | 8 => .int
  | 9 => .int
  | 10 => .int
  | 11 => .int
  | 12 => .int
  | 13 => .int
  | 14 => .int
  | 15 => .long
  | 16 => .int
  | 17 => .array .int
  | 18 => .array .int
  | 19 => .array .int
  | 20 => .array .int
  | 21 => .int
  | 22 => .int
  | 23 => .int
  | 24 => .int
  | 25 => .int
  | 26 => .array .int
  | 27 => .array .int
  | 28 => .array .int
  | 29 => .array .int
  | 30 => .array .int
  | 31 => .array .int
  | 32 => .array .int
  | 33 => .array .int
  | 34 => .array .int
  | 35 => .array .int
  | 36 => .array .int
  | 37 => .array .int
  | 38 => .array .int
  | 39 => .array .int
  | 40 => .array .int
  | 41 => .array .int
  | 42 => .int
  | 43 => .array .int
  | 44 => .array .int
  | 45 => .array .int
  | 46 => .int
  | _ => .array .int
abbrev wsX90 : List Cond := u_ws RX9 TX9 48
theorem nmX9 : ∀ a, a < 48 → ∀ b, b < 48 → a ≠ b → (TX9 a).2.1 ≠ (TX9 b).2.1 := by decide +kernel
theorem tyX9_ok : ∀ k, k < 48 → parseFieldDescriptor (TX9 k).2.2.1 = some (tyX9 k) := by decide +kernel
abbrev cX9_init : ByteArray := prog_11_method_1_code
def yX9_init : MethodName := ⟨RX9, "<init>", "()V"⟩
abbrev cX9_thrown : ByteArray := prog_11_method_2_code
def yX9_thrown : MethodName := ⟨RX9, "thrown", "()I"⟩
abbrev cX9_refuse : ByteArray := prog_11_method_3_code
def yX9_refuse : MethodName := ⟨RX9, "refuse", "()I"⟩
abbrev cX9_come : ByteArray := prog_11_method_4_code
def yX9_come : MethodName := ⟨RX9, "come", "(I)V"⟩
abbrev cX9_feed : ByteArray := prog_11_method_5_code
def yX9_feed : MethodName := ⟨RX9, "feed", "(IIIII)I"⟩
abbrev cX9_end : ByteArray := prog_11_method_6_code
def yX9_end : MethodName := ⟨RX9, "end", "(I)Z"⟩
abbrev cX9_at : ByteArray := prog_11_method_7_code
def yX9_at : MethodName := ⟨RX9, "at", "(I)I"⟩
abbrev cX9_isDigit : ByteArray := prog_11_method_8_code
def yX9_isDigit : MethodName := ⟨RX9, "isDigit", "(I)Z"⟩
abbrev cX9_isLetter : ByteArray := prog_11_method_9_code
def yX9_isLetter : MethodName := ⟨RX9, "isLetter", "(I)Z"⟩
abbrev cX9_go : ByteArray := prog_11_method_10_code
def yX9_go : MethodName := ⟨RX9, "go", "()V"⟩
abbrev cX9_spelt : ByteArray := prog_11_method_11_code
def yX9_spelt : MethodName := ⟨RX9, "spelt", "(IIIII)J"⟩
abbrev cX9_ruleAtHand : ByteArray := prog_11_method_12_code
def yX9_ruleAtHand : MethodName := ⟨RX9, "ruleAtHand", "()I"⟩
abbrev cX9_bad : ByteArray := prog_11_method_13_code
def yX9_bad : MethodName := ⟨RX9, "bad", "(I)Z"⟩
abbrev cX9_readRules : ByteArray := prog_11_method_14_code
def yX9_readRules : MethodName := ⟨RX9, "readRules", "()Z"⟩
abbrev cX9_rules : ByteArray := prog_11_method_15_code
def yX9_rules : MethodName := ⟨RX9, "rules", "()I"⟩
abbrev cX9_fault : ByteArray := prog_11_method_16_code
def yX9_fault : MethodName := ⟨RX9, "fault", "()I"⟩
abbrev cX9_rule : ByteArray := prog_11_method_17_code
def yX9_rule : MethodName := ⟨RX9, "rule", "(I)I"⟩
abbrev cX9_isPerson : ByteArray := prog_11_method_18_code
def yX9_isPerson : MethodName := ⟨RX9, "isPerson", "(I)Z"⟩
abbrev cX9_isFund : ByteArray := prog_11_method_19_code
def yX9_isFund : MethodName := ⟨RX9, "isFund", "(I)Z"⟩
abbrev cX9_person : ByteArray := prog_11_method_20_code
def yX9_person : MethodName := ⟨RX9, "person", "(I)I"⟩
abbrev cX9_tag : ByteArray := prog_11_method_21_code
def yX9_tag : MethodName := ⟨RX9, "tag", "(IIZ)Z"⟩
abbrev cX9_fund : ByteArray := prog_11_method_22_code
def yX9_fund : MethodName := ⟨RX9, "fund", "(II)I"⟩
abbrev cX9_gift : ByteArray := prog_11_method_23_code
def yX9_gift : MethodName := ⟨RX9, "gift", "(II)I"⟩
abbrev cX9_openOf : ByteArray := prog_11_method_24_code
def yX9_openOf : MethodName := ⟨RX9, "openOf", "(I)I"⟩
abbrev cX9_isBarred : ByteArray := prog_11_method_25_code
def yX9_isBarred : MethodName := ⟨RX9, "isBarred", "(I)Z"⟩
abbrev cX9_standsFor : ByteArray := prog_11_method_26_code
def yX9_standsFor : MethodName := ⟨RX9, "standsFor", "(I)I"⟩
abbrev cX9_steps : ByteArray := prog_11_method_27_code
def yX9_steps : MethodName := ⟨RX9, "steps", "(I)Z"⟩
abbrev cX9_spread : ByteArray := prog_11_method_28_code
def yX9_spread : MethodName := ⟨RX9, "spread", "()V"⟩
abbrev cX9_clear : ByteArray := prog_11_method_29_code
def yX9_clear : MethodName := ⟨RX9, "clear", "()V"⟩
abbrev cX9_isTwice : ByteArray := prog_11_method_30_code
def yX9_isTwice : MethodName := ⟨RX9, "isTwice", "(II)Z"⟩
abbrev cX9_why : ByteArray := prog_11_method_31_code
def yX9_why : MethodName := ⟨RX9, "why", "(III)I"⟩
abbrev cX9_ask : ByteArray := prog_11_method_32_code
def yX9_ask : MethodName := ⟨RX9, "ask", "(II)I"⟩
abbrev cX9_comesBack : ByteArray := prog_11_method_33_code
def yX9_comesBack : MethodName := ⟨RX9, "comesBack", "(II)V"⟩
abbrev cX9_callsOf : ByteArray := prog_11_method_34_code
def yX9_callsOf : MethodName := ⟨RX9, "callsOf", "(I)I"⟩
abbrev cX9_owed : ByteArray := prog_11_method_35_code
def yX9_owed : MethodName := ⟨RX9, "owed", "(I)I"⟩
abbrev cX9_owes : ByteArray := prog_11_method_36_code
def yX9_owes : MethodName := ⟨RX9, "owes", "(I)I"⟩
abbrev cX9_pay : ByteArray := prog_11_method_37_code
def yX9_pay : MethodName := ⟨RX9, "pay", "(II)Z"⟩
abbrev cX9_isLate : ByteArray := prog_11_method_38_code
def yX9_isLate : MethodName := ⟨RX9, "isLate", "(I)V"⟩
abbrev cX9_next : ByteArray := prog_11_method_39_code
def yX9_next : MethodName := ⟨RX9, "next", "()I"⟩
abbrev cX9_chest : ByteArray := prog_11_method_40_code
def yX9_chest : MethodName := ⟨RX9, "chest", "(II)I"⟩
abbrev cX9_isLoan : ByteArray := prog_11_method_41_code
def yX9_isLoan : MethodName := ⟨RX9, "isLoan", "(I)Z"⟩
abbrev cX9_loan : ByteArray := prog_11_method_42_code
def yX9_loan : MethodName := ⟨RX9, "loan", "(II)I"⟩
abbrev cX9_surety : ByteArray := prog_11_method_43_code
def yX9_surety : MethodName := ⟨RX9, "surety", "(II)I"⟩
abbrev cX9_taken : ByteArray := prog_11_method_44_code
def yX9_taken : MethodName := ⟨RX9, "taken", "(II)I"⟩
abbrev cX9_character : ByteArray := prog_11_method_45_code
def yX9_character : MethodName := ⟨RX9, "character", "(I)I"⟩
abbrev cX9_about : ByteArray := prog_11_method_46_code
def yX9_about : MethodName := ⟨RX9, "about", "(II)I"⟩
abbrev cX9_ring : ByteArray := prog_11_method_47_code
def yX9_ring : MethodName := ⟨RX9, "ring", "(I)I"⟩
abbrev cX9_count : ByteArray := prog_11_method_48_code
def yX9_count : MethodName := ⟨RX9, "count", "(I)I"⟩
def RJx145de : String := "java/io/Serializable"
def TJx145de : u_T := fun k => match k with
  | _ => ("", "", "", false)
def tyJx145de : Nat → FieldType := fun k => match k with
  | _ => .int
abbrev wsJx145de0 : List Cond := u_ws RJx145de TJx145de 0
theorem nmJx145de : ∀ a, a < 0 → ∀ b, b < 0 → a ≠ b → (TJx145de a).2.1 ≠ (TJx145de b).2.1 := by decide +kernel
theorem tyJx145de_ok : ∀ k, k < 0 → parseFieldDescriptor (TJx145de k).2.2.1 = some (tyJx145de k) := by decide +kernel
def RJx8e188 : String := "java/lang/Cloneable"
def TJx8e188 : u_T := fun k => match k with
  | _ => ("", "", "", false)
def tyJx8e188 : Nat → FieldType := fun k => match k with
  | _ => .int
abbrev wsJx8e1880 : List Cond := u_ws RJx8e188 TJx8e188 0
theorem nmJx8e188 : ∀ a, a < 0 → ∀ b, b < 0 → a ≠ b → (TJx8e188 a).2.1 ≠ (TJx8e188 b).2.1 := by decide +kernel
theorem tyJx8e188_ok : ∀ k, k < 0 → parseFieldDescriptor (TJx8e188 k).2.2.1 = some (tyJx8e188 k) := by decide +kernel
def RJx29ce0 : String := "java/lang/Enum"
def TJx29ce0 : u_T := fun k => match k with
  | _ => ("", "", "", false)
def tyJx29ce0 : Nat → FieldType := fun k => match k with
  | _ => .int
abbrev wsJx29ce00 : List Cond := u_ws RJx29ce0 TJx29ce0 0
theorem nmJx29ce0 : ∀ a, a < 0 → ∀ b, b < 0 → a ≠ b → (TJx29ce0 a).2.1 ≠ (TJx29ce0 b).2.1 := by decide +kernel
theorem tyJx29ce0_ok : ∀ k, k < 0 → parseFieldDescriptor (TJx29ce0 k).2.2.1 = some (tyJx29ce0 k) := by decide +kernel
def RJxab1ab : String := "java/lang/Iterable"
def TJxab1ab : u_T := fun k => match k with
  | _ => ("", "", "", false)
def tyJxab1ab : Nat → FieldType := fun k => match k with
  | _ => .int
abbrev wsJxab1ab0 : List Cond := u_ws RJxab1ab TJxab1ab 0
theorem nmJxab1ab : ∀ a, a < 0 → ∀ b, b < 0 → a ≠ b → (TJxab1ab a).2.1 ≠ (TJxab1ab b).2.1 := by decide +kernel
theorem tyJxab1ab_ok : ∀ k, k < 0 → parseFieldDescriptor (TJxab1ab k).2.2.1 = some (tyJxab1ab k) := by decide +kernel
def RJ9 : String := "java/lang/Math"
def TJ9 : u_T := fun k => match k with
  | _ => ("", "", "", false)
def tyJ9 : Nat → FieldType := fun k => match k with
  | _ => .int
abbrev wsJ90 : List Cond := u_ws RJ9 TJ9 0
theorem nmJ9 : ∀ a, a < 0 → ∀ b, b < 0 → a ≠ b → (TJ9 a).2.1 ≠ (TJ9 b).2.1 := by decide +kernel
theorem tyJ9_ok : ∀ k, k < 0 → parseFieldDescriptor (TJ9 k).2.2.1 = some (tyJ9 k) := by decide +kernel
abbrev cJ9_max_7cf53 : ByteArray := prog_17_method_65_code
def yJ9_max_7cf53 : MethodName := ⟨RJ9, "max", "(II)I"⟩
abbrev cJ9_min_7cf53 : ByteArray := prog_17_method_69_code
def yJ9_min_7cf53 : MethodName := ⟨RJ9, "min", "(II)I"⟩
def RJ0 : String := "java/lang/String"
def TJ0 : u_T := fun k => match k with
  | _ => ("", "", "", false)
def tyJ0 : Nat → FieldType := fun k => match k with
  | _ => .int
abbrev wsJ00 : List Cond := u_ws RJ0 TJ0 0
theorem nmJ0 : ∀ a, a < 0 → ∀ b, b < 0 → a ≠ b → (TJ0 a).2.1 ≠ (TJ0 b).2.1 := by decide +kernel
theorem tyJ0_ok : ∀ k, k < 0 → parseFieldDescriptor (TJ0 k).2.2.1 = some (tyJ0 k) := by decide +kernel
abbrev cJ0_length_8abf5 : ByteArray := prog_19_method_54_code
def yJ0_length_8abf5 : MethodName := ⟨RJ0, "length", "()I"⟩
abbrev cJ0_charAt_5068e : ByteArray := prog_19_method_56_code
def yJ0_charAt_5068e : MethodName := ⟨RJ0, "charAt", "(I)C"⟩
abbrev cJ0_coder_7d493 : ByteArray := prog_19_method_152_code
def yJ0_coder_7d493 : MethodName := ⟨RJ0, "coder", "()B"⟩
abbrev cJ0_isLatin1_aae02 : ByteArray := prog_19_method_154_code
def yJ0_isLatin1_aae02 : MethodName := ⟨RJ0, "isLatin1", "()Z"⟩
abbrev cJ0_checkIndex_df160 : ByteArray := prog_19_method_155_code
def yJ0_checkIndex_df160 : MethodName := ⟨RJ0, "checkIndex", "(II)V"⟩
def RJ1 : String := "java/lang/StringLatin1"
def TJ1 : u_T := fun k => match k with
  | _ => ("", "", "", false)
def tyJ1 : Nat → FieldType := fun k => match k with
  | _ => .int
abbrev wsJ10 : List Cond := u_ws RJ1 TJ1 0
theorem nmJ1 : ∀ a, a < 0 → ∀ b, b < 0 → a ≠ b → (TJ1 a).2.1 ≠ (TJ1 b).2.1 := by decide +kernel
theorem tyJ1_ok : ∀ k, k < 0 → parseFieldDescriptor (TJ1 k).2.2.1 = some (tyJ1 k) := by decide +kernel
abbrev cJ1_charAt_3b067 : ByteArray := prog_20_method_2_code
def yJ1_charAt_3b067 : MethodName := ⟨RJ1, "charAt", "([BI)C"⟩
def RJ2 : String := "java/lang/StringUTF16"
def TJ2 : u_T := fun k => match k with
  | _ => ("", "", "", false)
def tyJ2 : Nat → FieldType := fun k => match k with
  | _ => .int
abbrev wsJ20 : List Cond := u_ws RJ2 TJ2 0
theorem nmJ2 : ∀ a, a < 0 → ∀ b, b < 0 → a ≠ b → (TJ2 a).2.1 ≠ (TJ2 b).2.1 := by decide +kernel
theorem tyJ2_ok : ∀ k, k < 0 → parseFieldDescriptor (TJ2 k).2.2.1 = some (tyJ2 k) := by decide +kernel
abbrev cJ2_getChar_3b067 : ByteArray := prog_21_method_5_code
def yJ2_getChar_3b067 : MethodName := ⟨RJ2, "getChar", "([BI)C"⟩
abbrev cJ2_length_9d52b : ByteArray := prog_21_method_6_code
def yJ2_length_9d52b : MethodName := ⟨RJ2, "length", "([B)I"⟩
abbrev cJ2_charAt_3b067 : ByteArray := prog_21_method_83_code
def yJ2_charAt_3b067 : MethodName := ⟨RJ2, "charAt", "([BI)C"⟩
abbrev cJ2_checkIndex_2214a : ByteArray := prog_21_method_91_code
def yJ2_checkIndex_2214a : MethodName := ⟨RJ2, "checkIndex", "(I[B)V"⟩
def RJ10 : String := "java/lang/System"
def TJ10 : u_T := fun k => match k with
  | _ => ("", "", "", false)
def tyJ10 : Nat → FieldType := fun k => match k with
  | _ => .int
abbrev wsJ100 : List Cond := u_ws RJ10 TJ10 0
theorem nmJ10 : ∀ a, a < 0 → ∀ b, b < 0 → a ≠ b → (TJ10 a).2.1 ≠ (TJ10 b).2.1 := by decide +kernel
theorem tyJ10_ok : ∀ k, k < 0 → parseFieldDescriptor (TJ10 k).2.2.1 = some (tyJ10 k) := by decide +kernel
def RJxa1e45 : String := "java/util/AbstractCollection"
def TJxa1e45 : u_T := fun k => match k with
  | _ => ("", "", "", false)
def tyJxa1e45 : Nat → FieldType := fun k => match k with
  | _ => .int
abbrev wsJxa1e450 : List Cond := u_ws RJxa1e45 TJxa1e45 0
theorem nmJxa1e45 : ∀ a, a < 0 → ∀ b, b < 0 → a ≠ b → (TJxa1e45 a).2.1 ≠ (TJxa1e45 b).2.1 := by decide +kernel
theorem tyJxa1e45_ok : ∀ k, k < 0 → parseFieldDescriptor (TJxa1e45 k).2.2.1 = some (tyJxa1e45 k) := by decide +kernel
abbrev cJxa1e45_init_da8c8 : ByteArray := prog_24_method_1_code
def yJxa1e45_init_da8c8 : MethodName := ⟨RJxa1e45, "<init>", "()V"⟩
def RJxc12de : String := "java/util/AbstractList"
def TJxc12de : u_T := fun k => match k with
  | _ => ("", "", "", false)
def tyJxc12de : Nat → FieldType := fun k => match k with
  | _ => .int
abbrev wsJxc12de0 : List Cond := u_ws RJxc12de TJxc12de 0
theorem nmJxc12de : ∀ a, a < 0 → ∀ b, b < 0 → a ≠ b → (TJxc12de a).2.1 ≠ (TJxc12de b).2.1 := by decide +kernel
theorem tyJxc12de_ok : ∀ k, k < 0 → parseFieldDescriptor (TJxc12de k).2.2.1 = some (tyJxc12de k) := by decide +kernel
abbrev cJxc12de_init_da8c8 : ByteArray := prog_25_method_1_code
def yJxc12de_init_da8c8 : MethodName := ⟨RJxc12de, "<init>", "()V"⟩
def RJx4a65c : String := "java/util/ArrayList"
def TJx4a65c : u_T := fun k => match k with
  | 0 => ("java/util/AbstractList", "modCount", "I", false)
  | 1 => ("java/util/ArrayList", "elementData", "[Ljava/lang/Object;", false)
  | _ => ("java/util/ArrayList", "size", "I", false)
def tyJx4a65c : Nat → FieldType := fun k => match k with
  | 0 => .int
  | 1 => .array (.object "java/lang/Object")
  | _ => .int
abbrev wsJx4a65c0 : List Cond := u_ws RJx4a65c TJx4a65c 3
theorem nmJx4a65c : ∀ a, a < 3 → ∀ b, b < 3 → a ≠ b → (TJx4a65c a).2.1 ≠ (TJx4a65c b).2.1 := by decide +kernel
theorem tyJx4a65c_ok : ∀ k, k < 3 → parseFieldDescriptor (TJx4a65c k).2.2.1 = some (tyJx4a65c k) := by decide +kernel
abbrev cJx4a65c_init_da8c8 : ByteArray := prog_26_method_2_code
def yJx4a65c_init_da8c8 : MethodName := ⟨RJx4a65c, "<init>", "()V"⟩
abbrev cJx4a65c_grow_92f84 : ByteArray := prog_26_method_6_code
def yJx4a65c_grow_92f84 : MethodName := ⟨RJx4a65c, "grow", "(I)[Ljava/lang/Object;"⟩
abbrev cJx4a65c_grow_d5877 : ByteArray := prog_26_method_7_code
def yJx4a65c_grow_d5877 : MethodName := ⟨RJx4a65c, "grow", "()[Ljava/lang/Object;"⟩
abbrev cJx4a65c_size_8abf5 : ByteArray := prog_26_method_8_code
def yJx4a65c_size_8abf5 : MethodName := ⟨RJx4a65c, "size", "()I"⟩
abbrev cJx4a65c_elementData_915e3 : ByteArray := prog_26_method_18_code
def yJx4a65c_elementData_915e3 : MethodName := ⟨RJx4a65c, "elementData", "(I)Ljava/lang/Object;"⟩
abbrev cJx4a65c_get_915e3 : ByteArray := prog_26_method_20_code
def yJx4a65c_get_915e3 : MethodName := ⟨RJx4a65c, "get", "(I)Ljava/lang/Object;"⟩
abbrev cJx4a65c_add_72be8 : ByteArray := prog_26_method_24_code
def yJx4a65c_add_72be8 : MethodName := ⟨RJx4a65c, "add", "(Ljava/lang/Object;[Ljava/lang/Object;I)V"⟩
abbrev cJx4a65c_add_9ea2d : ByteArray := prog_26_method_25_code
def yJx4a65c_add_9ea2d : MethodName := ⟨RJx4a65c, "add", "(Ljava/lang/Object;)Z"⟩
def RJ7 : String := "java/util/Arrays"
def TJ7 : u_T := fun k => match k with
  | _ => ("", "", "", false)
def tyJ7 : Nat → FieldType := fun k => match k with
  | _ => .int
abbrev wsJ70 : List Cond := u_ws RJ7 TJ7 0
theorem nmJ7 : ∀ a, a < 0 → ∀ b, b < 0 → a ≠ b → (TJ7 a).2.1 ≠ (TJ7 b).2.1 := by decide +kernel
theorem tyJ7_ok : ∀ k, k < 0 → parseFieldDescriptor (TJ7 k).2.2.1 = some (tyJ7 k) := by decide +kernel
abbrev cJ7_copyOf_1904c : ByteArray := prog_27_method_119_code
def yJ7_copyOf_1904c : MethodName := ⟨RJ7, "copyOf", "([Ljava/lang/Object;I)[Ljava/lang/Object;"⟩
abbrev cJ7_copyOf_6403c : ByteArray := prog_27_method_120_code
def yJ7_copyOf_6403c : MethodName := ⟨RJ7, "copyOf", "([Ljava/lang/Object;ILjava/lang/Class;)[Ljava/lang/Object;"⟩
def RJx5ef63 : String := "java/util/Collection"
def TJx5ef63 : u_T := fun k => match k with
  | _ => ("", "", "", false)
def tyJx5ef63 : Nat → FieldType := fun k => match k with
  | _ => .int
abbrev wsJx5ef630 : List Cond := u_ws RJx5ef63 TJx5ef63 0
theorem nmJx5ef63 : ∀ a, a < 0 → ∀ b, b < 0 → a ≠ b → (TJx5ef63 a).2.1 ≠ (TJx5ef63 b).2.1 := by decide +kernel
theorem tyJx5ef63_ok : ∀ k, k < 0 → parseFieldDescriptor (TJx5ef63 k).2.2.1 = some (tyJx5ef63 k) := by decide +kernel
def RJxbd725 : String := "java/util/List"
def TJxbd725 : u_T := fun k => match k with
  | _ => ("", "", "", false)
def tyJxbd725 : Nat → FieldType := fun k => match k with
  | _ => .int
abbrev wsJxbd7250 : List Cond := u_ws RJxbd725 TJxbd725 0
theorem nmJxbd725 : ∀ a, a < 0 → ∀ b, b < 0 → a ≠ b → (TJxbd725 a).2.1 ≠ (TJxbd725 b).2.1 := by decide +kernel
theorem tyJxbd725_ok : ∀ k, k < 0 → parseFieldDescriptor (TJxbd725 k).2.2.1 = some (tyJxbd725 k) := by decide +kernel
def RJ15 : String := "java/util/Objects"
def TJ15 : u_T := fun k => match k with
  | _ => ("", "", "", false)
def tyJ15 : Nat → FieldType := fun k => match k with
  | _ => .int
abbrev wsJ150 : List Cond := u_ws RJ15 TJ15 0
theorem nmJ15 : ∀ a, a < 0 → ∀ b, b < 0 → a ≠ b → (TJ15 a).2.1 ≠ (TJ15 b).2.1 := by decide +kernel
theorem tyJ15_ok : ∀ k, k < 0 → parseFieldDescriptor (TJ15 k).2.2.1 = some (tyJ15 k) := by decide +kernel
abbrev cJ15_checkIndex_7cf53 : ByteArray := prog_31_method_17_code
def yJ15_checkIndex_7cf53 : MethodName := ⟨RJ15, "checkIndex", "(II)I"⟩
def RJxf0a74 : String := "java/util/RandomAccess"
def TJxf0a74 : u_T := fun k => match k with
  | _ => ("", "", "", false)
def tyJxf0a74 : Nat → FieldType := fun k => match k with
  | _ => .int
abbrev wsJxf0a740 : List Cond := u_ws RJxf0a74 TJxf0a74 0
theorem nmJxf0a74 : ∀ a, a < 0 → ∀ b, b < 0 → a ≠ b → (TJxf0a74 a).2.1 ≠ (TJxf0a74 b).2.1 := by decide +kernel
theorem tyJxf0a74_ok : ∀ k, k < 0 → parseFieldDescriptor (TJxf0a74 k).2.2.1 = some (tyJxf0a74 k) := by decide +kernel
def RJxa66e6 : String := "java/util/SequencedCollection"
def TJxa66e6 : u_T := fun k => match k with
  | _ => ("", "", "", false)
def tyJxa66e6 : Nat → FieldType := fun k => match k with
  | _ => .int
abbrev wsJxa66e60 : List Cond := u_ws RJxa66e6 TJxa66e6 0
theorem nmJxa66e6 : ∀ a, a < 0 → ∀ b, b < 0 → a ≠ b → (TJxa66e6 a).2.1 ≠ (TJxa66e6 b).2.1 := by decide +kernel
theorem tyJxa66e6_ok : ∀ k, k < 0 → parseFieldDescriptor (TJxa66e6 k).2.2.1 = some (tyJxa66e6 k) := by decide +kernel
def RJ8 : String := "jdk/internal/util/ArraysSupport"
def TJ8 : u_T := fun k => match k with
  | _ => ("", "", "", false)
def tyJ8 : Nat → FieldType := fun k => match k with
  | _ => .int
abbrev wsJ80 : List Cond := u_ws RJ8 TJ8 0
theorem nmJ8 : ∀ a, a < 0 → ∀ b, b < 0 → a ≠ b → (TJ8 a).2.1 ≠ (TJ8 b).2.1 := by decide +kernel
theorem tyJ8_ok : ∀ k, k < 0 → parseFieldDescriptor (TJ8 k).2.2.1 = some (tyJ8 k) := by decide +kernel
abbrev cJ8_newLength_cabcc : ByteArray := prog_34_method_27_code
def yJ8_newLength_cabcc : MethodName := ⟨RJ8, "newLength", "(III)I"⟩
abbrev cJ8_hugeLength_7cf53 : ByteArray := prog_34_method_28_code
def yJ8_hugeLength_7cf53 : MethodName := ⟨RJ8, "hugeLength", "(II)I"⟩
def RJ3 : String := "jdk/internal/util/Preconditions"
def TJ3 : u_T := fun k => match k with
  | _ => ("", "", "", false)
def tyJ3 : Nat → FieldType := fun k => match k with
  | _ => .int
abbrev wsJ30 : List Cond := u_ws RJ3 TJ3 0
theorem nmJ3 : ∀ a, a < 0 → ∀ b, b < 0 → a ≠ b → (TJ3 a).2.1 ≠ (TJ3 b).2.1 := by decide +kernel
theorem tyJ3_ok : ∀ k, k < 0 → parseFieldDescriptor (TJ3 k).2.2.1 = some (tyJ3 k) := by decide +kernel
abbrev cJ3_checkIndex_8e157 : ByteArray := prog_35_method_11_code
def yJ3_checkIndex_8e157 : MethodName := ⟨RJ3, "checkIndex", "(IILjava/util/function/BiFunction;)I"⟩
def RL : String := "LoanChestLaw"
abbrev cL_loan : ByteArray := method_3_code
def yL_loan : MethodName := ⟨RL, "loan", "(LLoanChest;II[J)I"⟩
abbrev cL_surety : ByteArray := method_4_code
def yL_surety : MethodName := ⟨RL, "surety", "(LLoanChest;II[J)I"⟩
abbrev cL_taken : ByteArray := method_5_code
def yL_taken : MethodName := ⟨RL, "taken", "(LLoanChest;II[J)I"⟩
abbrev cL_about : ByteArray := method_6_code
def yL_about : MethodName := ⟨RL, "about", "(LLoanChest;II[J)I"⟩
abbrev cL_law : ByteArray := code
def yL_law : MethodName := ⟨RL, "law", "([I)Z"⟩
abbrev vwCl : List vw_C := [(RJx4a65c, TJx4a65c, 3), (RX0, TX0, 4), (RX1, TX1, 6), (RX3, TX3, 3), (RX4, TX4, 18), (RX5, TX5, 6), (RX6, TX6, 1), (RX7, TX7, 2), (RX8, TX8, 8), (RX9, TX9, 48)]
