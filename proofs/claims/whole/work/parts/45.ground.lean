/-! ===== what stands before the law begins: the RULES' kinds, their words, the empty list's row, the nest's words ===== -/
def kNum : List Int32 := [0, 1, 2, 3, 4, 5, 6, 7, 8]
def kLow : Nat → Int32 := fun i => [1, 1, 0, 1, 0, 1, 0, 0, 1].getD i 0
def kHigh : Nat → Int32 := fun i => [9999, 60, 3, 9, 99, 20, 99999, 9, 9].getD i 0
def kUsual : Nat → Int32 := fun i => [100, 20, 2, 2, 1, 4, 0, 2, 3].getD i 0
def kName : Nat → String := fun i => ["MOST", "WEEKS", "SURETIES", "STANDS", "LATE", "CALL", "KEEP", "RING", "BAR"].getD i ""
def kLen : List Nat := [4, 5, 8, 6, 4, 4, 4, 4, 3]
def kByt : List (List Int32) := [[109, 111, 115, 116], [119, 101, 101, 107, 115], [115, 117, 114, 101, 116, 105, 101, 115], [115, 116, 97, 110, 100, 115], [108, 97, 116, 101], [99, 97, 108, 108], [107, 101, 101, 112], [114, 105, 110, 103], [98, 97, 114]]
/-- the kinds at ke, their array at kz, their words' texts at sK, sV -/
def GK (kz : Nat) (ke sK sV : Nat → Nat) : Gr := fun A U H =>
  va_Z "LoanChest" "KINDS" "[LLoanChest$Kind;" (.ref kz) A U H ∧ va_T (.object "LoanChest$Kind") kz 9 (fun j => .ref (ke j)) A U H ∧
  va_Ef 9 "LoanChest$Kind" "number" "I" (fun i => .int (nI i)) ke A U H ∧ va_Ef 9 "LoanChest$Kind" "word" "Ljava/lang/String;" (fun i => .ref (sK i)) ke A U H ∧ va_Ef 9 "LoanChest$Kind" "least" "I" (fun i => .int (kLow i)) ke A U H ∧ va_Ef 9 "LoanChest$Kind" "highest" "I" (fun i => .int (kHigh i)) ke A U H ∧ va_Ef 9 "LoanChest$Kind" "usual" "I" (fun i => .int (kUsual i)) ke A U H ∧
  vk_S 9 kLen kByt sK sV A U H ∧ (∀ i, i < 9 → va_Z "LoanChest$Kind" (kName i) "LLoanChest$Kind;" (.ref (ke i)) A U H) ∧ va_Z "java/lang/String" "COMPACT_STRINGS" "Z" (.int 1) A U H ∧
  va_Nw (.fieldLinkNest "LoanChest$RuleReader" 7 "LoanChest" "KINDS" "[LLoanChest$Kind;" "LoanChest") U ∧ va_Nw (.fieldLinkNest "LoanChest$Rules" 7 "LoanChest" "KINDS" "[LLoanChest$Kind;" "LoanChest") U ∧
  va_Nw (.methodLinkNest "LoanChest" 9 yX7_init "LoanChest") U ∧ va_Nw (.methodLinkNest "LoanChest" 18 yX5_init "LoanChest") U ∧ va_Nw (.methodLinkNest "LoanChest" 32 yX1_init "LoanChest") U ∧ va_Nw (.methodLinkNest "LoanChest" 39 yX3_init "LoanChest") U ∧ va_Nw (.methodLinkNest "LoanChest$Loan" 86 yX8_bitOf "LoanChest") U ∧ va_Nw (.methodLinkNest "LoanChest$Ledger" 85 yX8_bitOf "LoanChest") U ∧ va_Zq "jdk/internal/util/Preconditions" "SIOOBE_FORMATTER" "Ljava/util/function/BiFunction;" A U H
theorem GdK {kz : Nat} {ke sK sV : Nat → Nat} : Gd (GK kz ke sK sV) := by
  refine ⟨fun A u U H hW h => ?_, fun A U H H1 hk h => ?_, fun A B U H hn h => ?_⟩
  · obtain ⟨h1, h2, h3, h4, h5, h6, h7, h8, h9, h10, n1, n2, n3, n4, n5, n6, n7, n8, z1⟩ := h
    exact ⟨va_Z.moved hW.alike h1, va_T.moved hW.alike h2, va_Ef.moved hW.alike h3, va_Ef.moved hW.alike h4, va_Ef.moved hW.alike h5, va_Ef.moved hW.alike h6, va_Ef.moved hW.alike h7, vk_S.moved hW.alike h8, fun i hi => va_Z.moved hW.alike (h9 i hi), va_Z.moved hW.alike h10, va_Nw.warmF hW n1, va_Nw.warmF hW n2, va_Nw.warmM hW n3, va_Nw.warmM hW n4, va_Nw.warmM hW n5, va_Nw.warmM hW n6, va_Nw.warmM hW n7, va_Nw.warmM hW n8, va_Zq.moved hW.alike z1⟩
  · obtain ⟨h1, h2, h3, h4, h5, h6, h7, h8, h9, h10, n1, n2, n3, n4, n5, n6, n7, n8, z1⟩ := h
    exact ⟨h1.kept hk, h2.kept hk, h3.kept hk, h4.kept hk, h5.kept hk, h6.kept hk, h7.kept hk, h8.kept hk, fun i hi => (h9 i hi).kept hk, h10.kept hk, n1, n2, n3, n4, n5, n6, n7, n8, z1.kept hk⟩
  · obtain ⟨h1, h2, h3, h4, h5, h6, h7, h8, h9, h10, n1, n2, n3, n4, n5, n6, n7, n8, z1⟩ := h
    exact ⟨h1.narrow hn, h2.narrow hn, h3.narrow hn, h4.narrow hn, h5.narrow hn, h6.narrow hn, h7.narrow hn, h8.narrow hn, fun i hi => (h9 i hi).narrow hn, h10.narrow hn, n1, n2, n3, n4, n5, n6, n7, n8, z1.narrow hn⟩
