/-! ===== what stands before the law begins, out of the claim's own words ===== -/
abbrev FL : List Cond := flatC (Jvm.Cond.and given_1 narrow_1)
def kNm : List String := ["MOST", "WEEKS", "SURETIES", "STANDS", "LATE", "CALL", "KEEP", "RING", "BAR"]
def kIx : List Nat := [68, 74, 77, 80, 83, 86, 89, 93, 96]
def sIx : List Nat := [140, 177, 179, 181, 186, 206]
def kTm (i : Nat) : Term := .string "LoanChest$Kind" (kIx.getD i 0)
abbrev kSt (i : Nat) : Term := .static "LoanChest$Kind" (kNm.getD i "") "LLoanChest$Kind;"
abbrev kAr : Term := .static "LoanChest" "KINDS" "[LLoanChest$Kind;"
abbrev dAr : Term := .static "java/util/ArrayList" "DEFAULTCAPACITY_EMPTY_ELEMENTDATA" "[Ljava/lang/Object;"
theorem g_ex : ∀ i, i < 9 → Cond.exactly (kSt i) "LoanChest$Kind" ∈ FL := by decide +kernel
theorem g_el : ∀ i, i < 9 → Cond.eq (.elem kAr (.int (Int32.ofNat i))) (kSt i) ∈ FL := by decide +kernel
theorem g_nu : ∀ i, i < 9 → Cond.eq (.field (kSt i) "LoanChest$Kind" "number" "I") (.int (nI i)) ∈ FL := by decide +kernel
theorem g_wo : ∀ i, i < 9 → Cond.eq (.field (kSt i) "LoanChest$Kind" "word" "Ljava/lang/String;") (kTm i) ∈ FL := by decide +kernel
theorem g_lo : ∀ i, i < 9 → Cond.eq (.field (kSt i) "LoanChest$Kind" "least" "I") (.int (kLow i)) ∈ FL := by decide +kernel
theorem g_hi : ∀ i, i < 9 → Cond.eq (.field (kSt i) "LoanChest$Kind" "highest" "I") (.int (kHigh i)) ∈ FL := by decide +kernel
theorem g_us : ∀ i, i < 9 → Cond.eq (.field (kSt i) "LoanChest$Kind" "usual" "I") (.int (kUsual i)) ∈ FL := by decide +kernel
theorem tt_ex : ∀ i, i < 9 → Cond.exactly (kTm i) "java/lang/String" ∈ FL := by decide +kernel
theorem tt_co : ∀ i, i < 9 → Cond.eq (.field (kTm i) "java/lang/String" "coder" "B") (.int 0) ∈ FL := by decide +kernel
theorem tt_ar : ∀ i, i < 9 → Cond.arrayOf (.field (kTm i) "java/lang/String" "value" "[B") .byte ∈ FL := by decide +kernel
theorem tt_le : ∀ i, i < 9 → Cond.eq (.length (.field (kTm i) "java/lang/String" "value" "[B")) (.int (Int32.ofNat (kLen.getD i 0))) ∈ FL := by decide +kernel
theorem tt_el : ∀ i, i < 9 → ∀ j, j < kLen.getD i 0 → Cond.eq (.elem (.field (kTm i) "java/lang/String" "value" "[B") (.int (Int32.ofNat j))) (.int ((kByt.getD i []).getD j 0)) ∈ FL := by decide +kernel
def oIx : List Nat := [68, 96, 77, 80, 93, 89, 74, 83, 86]
def oTm (i : Nat) : Term := .string "LoanChest$Kind" (oIx.getD i 0)
def rk9 : List Nat := [0, 6, 2, 3, 7, 8, 5, 4, 1]
theorem tn_1 : ∀ b, b < 1 → Cond.not (Cond.eq (oTm b) (oTm 1)) ∈ FL := by decide +kernel
theorem tn_2 : ∀ b, b < 2 → Cond.not (Cond.eq (oTm b) (oTm 2)) ∈ FL := by decide +kernel
theorem tn_3 : ∀ b, b < 3 → Cond.not (Cond.eq (oTm b) (oTm 3)) ∈ FL := by decide +kernel
theorem tn_4 : ∀ b, b < 4 → Cond.not (Cond.eq (oTm b) (oTm 4)) ∈ FL := by decide +kernel
theorem tn_5 : ∀ b, b < 5 → Cond.not (Cond.eq (oTm b) (oTm 5)) ∈ FL := by decide +kernel
theorem tn_6 : ∀ b, b < 6 → Cond.not (Cond.eq (oTm b) (oTm 6)) ∈ FL := by decide +kernel
theorem tn_7 : ∀ b, b < 7 → Cond.not (Cond.eq (oTm b) (oTm 7)) ∈ FL := by decide +kernel
theorem tn_8 : ∀ b, b < 8 → Cond.not (Cond.eq (oTm b) (oTm 8)) ∈ FL := by decide +kernel
theorem tn_all : ∀ a, a < 9 → ∀ b, b < a → Cond.not (Cond.eq (oTm b) (oTm a)) ∈ FL := by
  intro a ha b hb
  rcases (show a = 1 ∨ a = 2 ∨ a = 3 ∨ a = 4 ∨ a = 5 ∨ a = 6 ∨ a = 7 ∨ a = 8 by omega) with e | e | e | e | e | e | e | e
  all_goals subst e
  · exact tn_1 b hb
  · exact tn_2 b hb
  · exact tn_3 b hb
  · exact tn_4 b hb
  · exact tn_5 b hb
  · exact tn_6 b hb
  · exact tn_7 b hb
  · exact tn_8 b hb
theorem kT_o : ∀ i, i < 9 → kIx.getD i 0 = oIx.getD (rk9.getD i 0) 0 ∧ rk9.getD i 0 < 9 := by decide +kernel
theorem rk_inj : ∀ i, i < 9 → ∀ j, j < 9 → i ≠ j → rk9.getD i 0 ≠ rk9.getD j 0 := by decide +kernel
theorem tt_ne (i : Nat) (hi : i < 9) (j : Nat) (hj : j < 9) (hne : i ≠ j) : Cond.not (Cond.eq (kTm i) (kTm j)) ∈ FL ∨ Cond.not (Cond.eq (kTm j) (kTm i)) ∈ FL := by
  have e1 : ∀ i, i < 9 → kTm i = oTm (rk9.getD i 0) := fun i hi => by
    unfold kTm oTm
    rw [(kT_o i hi).1]
  rw [e1 i hi, e1 j hj]
  have h1 := rk_inj i hi j hj hne
  have h2 := (kT_o i hi).2
  have h3 := (kT_o j hj).2
  rcases Nat.lt_or_gt_of_ne h1 with z | z
  · exact Or.inl (tn_all _ h3 _ z)
  · exact Or.inr (tn_all _ h2 _ z)
theorem tt_n9 : ∀ i, i < 9 → kLen.getD i 0 < 2 ^ 31 := by decide +kernel
theorem g_ar : Cond.arrayOf kAr (.object "LoanChest$Kind") ∈ FL := by decide +kernel
theorem g_ln : Cond.eq (.length kAr) (.int (Int32.ofNat 9)) ∈ FL := by decide +kernel
theorem d_ar : Cond.arrayOf dAr (.object "java/lang/Object") ∈ FL := by decide +kernel
theorem d_ln : Cond.eq (.length dAr) (.int (Int32.ofNat 0)) ∈ FL := by decide +kernel
theorem g_cs : Cond.eq (.static "java/lang/String" "COMPACT_STRINGS" "Z") (.int 1) ∈ FL := by decide +kernel
theorem g_pf : Cond.isRef (.static "jdk/internal/util/Preconditions" "SIOOBE_FORMATTER" "Ljava/util/function/BiFunction;") ∈ FL := by decide +kernel
theorem g_mi : Cond.isRef (.mirror "[Ljava/lang/Object;") ∈ FL := by decide +kernel
theorem g_t1 : Cond.isRef (.static "java/lang/Throwable" "UNASSIGNED_STACK" "[Ljava/lang/StackTraceElement;") ∈ FL := by decide +kernel
theorem g_t2 : Cond.isRef (.static "java/lang/Throwable" "SUPPRESSED_SENTINEL" "Ljava/util/List;") ∈ FL := by decide +kernel
theorem g_sx : ∀ i, i < 6 → Cond.exactly (.string "LoanChest" (sIx.getD i 0)) "java/lang/String" ∈ FL := by decide +kernel
theorem l_dc : Cond.declares ⟨"java/lang/Object", "getClass", "()Ljava/lang/Class;"⟩ ∈ lw_tbl := by decide +kernel
theorem l_c1 : Cond.castable RX4 "java/lang/Object" ∈ lw_tbl := by decide +kernel
theorem l_c2 : Cond.castable RX0 "java/lang/Object" ∈ lw_tbl := by decide +kernel
theorem l_c3 : Cond.castable NSE NSE ∈ lw_tbl := by decide +kernel
theorem l_d1 : Cond.declares (Bundle.initS "java/lang/RuntimeException") ∈ lw_tbl := by decide +kernel
theorem l_d2 : Cond.declares (Bundle.initS "java/lang/Exception") ∈ lw_tbl := by decide +kernel
theorem l_d3 : Cond.declares (Bundle.initS Bundle.tN) ∈ lw_tbl := by decide +kernel
theorem l_s0 : Cond.stringRef RX8 140 "no such loan" ∈ lw_tbl := by decide +kernel
theorem l_s1 : Cond.stringRef RX8 177 "no such thing is told of a loan" ∈ lw_tbl := by decide +kernel
theorem l_s2 : Cond.stringRef RX8 179 "no such surety" ∈ lw_tbl := by decide +kernel
theorem l_s3 : Cond.stringRef RX8 181 "no such loan or fund" ∈ lw_tbl := by decide +kernel
theorem l_s4 : Cond.stringRef RX8 186 "no such person" ∈ lw_tbl := by decide +kernel
theorem l_s5 : Cond.stringRef RX8 206 "no such thing is told of a person" ∈ lw_tbl := by decide +kernel
theorem l_ls : ∀ i, i < 9 → Cond.laysStatic "LoanChest$Kind" (kNm.getD i "") "LLoanChest$Kind;" ∈ lw_tbl := by
  intro i hi
  rcases (show i = 0 ∨ i = 1 ∨ i = 2 ∨ i = 3 ∨ i = 4 ∨ i = 5 ∨ i = 6 ∨ i = 7 ∨ i = 8 by omega) with e | e | e | e | e | e | e | e | e
  all_goals subst e
  · exact wd_2_141
  · exact wd_3_25
  · exact wd_2_195
  · exact wd_2_214
  · exact wd_3_28
  · exact wd_3_30
  · exact wd_2_231
  · exact wd_2_229
  · exact wd_2_189
section GND
variable {s : State} {args : Array Value}
theorem law_G (hts : ∀ w ∈ lw_tbl, w.before args s = true) (hbw : ∀ w ∈ BW, w.before args s = true) (hgv : (Jvm.Cond.and given_1 narrow_1).before args s = true) : ∃ (kz : Nat) (ke sK sV : Nat → Nat) (dz mi : Nat) (sx : Nat → Nat), GAT kz ke sK sV dz mi sx (AA s) s s.heap := by
  have hs := flat_of_before _ hgv
  have hA : ∀ a : Nat, a < s.heap.size → ¬ (AA s) a := fun a h => Nat.not_le.mpr h
  -- the kinds
  have h0 : ∀ i : Nat, ∃ t : Nat, i < 9 → (kSt i).eval args s none [] s = some (.ref t) := by
    intro i
    by_cases hi : i < 9
    · obtain ⟨a, c, cell, k, q1, -⟩ := Cond.exactly_spec (args := args) (first := s) (o := none) (s := s) (idx := []) (hs _ (g_ex i hi))
      exact ⟨a, fun _ => q1⟩
    · exact ⟨0, fun h => absurd h hi⟩
  obtain ⟨ke, hke⟩ := Classical.axiomOfChoice h0
  -- their words
  obtain ⟨sK, sV, hSt, hSe⟩ := vk_Sof (args := args) (s := s) (N := 9) (tm := kTm) (len := kLen) (byt := kByt) (A := AA s) tt_n9 (fun i hi => hs _ (tt_ex i hi)) (fun i hi => hs _ (tt_co i hi)) (fun i hi => hs _ (tt_ar i hi)) (fun i hi => hs _ (tt_le i hi)) (fun i hi j hj => hs _ (tt_el i hi j hj)) (fun i j hi hj hne => (tt_ne i hi j hj hne).elim (fun z => Or.inl (hs _ z)) (fun z => Or.inr (hs _ z))) hA
  -- their row
  obtain ⟨kz, hkz, hT⟩ := va_Tof (args := args) (s := s) (tm := kAr) (ty := .object "LoanChest$Kind") (N := 9) (f := fun j => .ref (ke j)) (A := AA s) (by decide) (hs _ g_ar) (va_eqt (hs _ g_ln)) (fun j hj => va_eqv (hs _ (g_el j hj)) (hke j hj)) hA
  obtain ⟨dz, hdz, hTd⟩ := va_Tof (args := args) (s := s) (tm := dAr) (ty := .object "java/lang/Object") (N := 0) (f := fun _ => .null) (A := AA s) (by decide) (hs _ d_ar) (va_eqt (hs _ d_ln)) (fun j hj => absurd hj (Nat.not_lt_zero _)) hA
  obtain ⟨mi, hmi⟩ := va_Mi.of (hs _ g_mi)
  have h1 : ∀ i : Nat, ∃ t : Nat, i < 6 → (Term.string "LoanChest" (sIx.getD i 0)).eval args s none [] s = some (.ref t) := by
    intro i
    by_cases hi : i < 6
    · obtain ⟨a, c, cell, k, q1, -⟩ := Cond.exactly_spec (args := args) (first := s) (o := none) (s := s) (idx := []) (hs _ (g_sx i hi))
      exact ⟨a, fun _ => q1⟩
    · exact ⟨0, fun h => absurd h hi⟩
  obtain ⟨sx, hsx⟩ := Classical.axiomOfChoice h1
  refine ⟨kz, ke, sK, sV, dz, mi, sx, ⟨?_, ?_⟩, ?_⟩
  · exact ⟨va_Zof (hts _ wd_1_57) (hbw _ wd_1_1) hkz hA, hT, va_Efof (E := "LoanChest$Kind") (d0 := "LLoanChest$Kind;") (nm := kNm) hke (fun i hi => hs _ (g_nu i hi)) (fun _ _ => rfl) hA, va_Efof (E := "LoanChest$Kind") (d0 := "LLoanChest$Kind;") (nm := kNm) hke (fun i hi => hs _ (g_wo i hi)) hSe hA, va_Efof (E := "LoanChest$Kind") (d0 := "LLoanChest$Kind;") (nm := kNm) hke (fun i hi => hs _ (g_lo i hi)) (fun _ _ => rfl) hA, va_Efof (E := "LoanChest$Kind") (d0 := "LLoanChest$Kind;") (nm := kNm) hke (fun i hi => hs _ (g_hi i hi)) (fun _ _ => rfl) hA, va_Efof (E := "LoanChest$Kind") (d0 := "LLoanChest$Kind;") (nm := kNm) hke (fun i hi => hs _ (g_us i hi)) (fun _ _ => rfl) hA, hSt, fun i hi => va_Zof (hts _ (l_ls i hi)) (hbw _ wd_1_17) (hke i hi) hA, va_Zof (hts _ wd_2_23) (hbw _ wd_1_12) (va_eqi (hs _ g_cs)) hA, va_Nw.of rfl (hts _ wd_1_56), va_Nw.of rfl (hts _ wd_1_84), va_Nw.of rfl (hts _ wd_1_38), va_Nw.of rfl (hts _ wd_1_52), va_Nw.of rfl (hts _ wd_1_91), va_Nw.of rfl (hts _ wd_1_116), va_Nw.of rfl (hts _ wd_2_212), va_Nw.of rfl (hts _ wd_2_223), va_Zqof (hts _ wd_2_39) (hbw _ wd_1_14) (hs _ g_pf) hA⟩
  · exact ⟨va_Zof (hts _ wd_1_133) (hbw _ wd_1_9) hdz hA, hTd, va_AO.of (hts _ wd_3_174), hmi, va_Dc.of (hts _ l_dc), va_Nw.of rfl (hts _ l_c1), va_Nw.of rfl (hts _ l_c2)⟩
  · exact ⟨vx_Zqof (hts _ wd_4_108) (hbw _ wd_1_24) (hs _ g_t1) hA, vx_Zqof (hts _ wd_4_110) (hbw _ wd_1_24) (hs _ g_t2) hA, va_Nw.of rfl (hts _ l_c3), va_Nw.of rfl (hts _ l_d1), va_Nw.of rfl (hts _ l_d2), va_Nw.of rfl (hts _ l_d3), vk_R.of (hts _ l_s0) (hsx 0 (by decide)), vk_R.of (hts _ l_s1) (hsx 1 (by decide)), vk_R.of (hts _ l_s2) (hsx 2 (by decide)), vk_R.of (hts _ l_s3) (hsx 3 (by decide)), vk_R.of (hts _ l_s4) (hsx 4 (by decide)), vk_R.of (hts _ l_s5) (hsx 5 (by decide))⟩
end GND
