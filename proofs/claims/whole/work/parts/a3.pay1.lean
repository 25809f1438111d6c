/-! ===== payments: parts as naturals ===== -/
theorem le_min {a b : Nat} (ha : a < 2 ^ 31) (hb : b < 2 ^ 31) : (if nI b ≤ nI a then nI b else nI a) = nI (min a b) := by
  by_cases c : b ≤ a
  · rw [if_pos ((nI_leI hb ha).mpr c)]
    congr 1
    omega
  · rw [if_neg (fun z => c ((nI_leI hb ha).mp z))]
    congr 1
    omega
theorem pk_nat {F : Nat → Int32} {w sm pa : Int32} {W C am cb : Nat} (hw : w = nI W) (hc : sm - pa = nI C) (h2 : F 2 = nI am) (h17 : F 17 = nI cb) (hcb : cb ≤ am) (ha : am ≤ 9999) (hW : W < 2 ^ 30) (hC : C < 2 ^ 30) : pk1 w sm pa = nI (min W C) ∧ pk2 F w sm pa = nI (min (min W C) (am - cb)) := by
  have e1 : pk1 w sm pa = nI (min W C) := by
    unfold pk1
    rw [hw, hc, cMin_n (by omega) (by omega)]
  refine ⟨e1, ?_⟩
  unfold pk2
  rw [e1, h2, h17, pk_sub hcb, cMin_n (by omega) (by omega)]
theorem pay_nat {am : Nat → Int32} {p : PayS} {i z W C A cb : Nat} (hw : p.1 = nI W) (hc : p.2.1 i = nI C) (h2 : am z = nI A) (h17 : p.2.2.1 z = nI cb) (hcb : cb ≤ A) (ha : A ≤ 9999) (hW : W < 2 ^ 30) (hC : C < 2 ^ 30) : payX i p = nI (min W C) ∧ payO am z i p = nI (min (min W C) (A - cb)) := by
  have e1 : payX i p = nI (min W C) := by
    unfold payX
    rw [hw, hc, le_min (by omega) (by omega)]
  refine ⟨e1, ?_⟩
  unfold payO
  rw [e1, h2, h17, pk_sub hcb]
  by_cases c : min W C ≤ A - cb
  · rw [if_pos ((nI_leI (by omega) (by omega)).mpr c)]
    congr 1
    omega
  · rw [if_neg (fun z => c ((nI_leI (by omega) (by omega)).mp z))]
    congr 1
    omega
/-- a payment to an open LOAN: fines first -/
theorem pl_nat {F : Nat → Int32} {x : Int32} {X : Nat} {m : Nat → Nat} (hx : x = nI X) (h : ∀ j, j ∈ [2, 11, 12, 13, 17] → F j = nI (m j)) (h1 : m 11 ≤ m 2) (h2 : m 13 ≤ m 12) (hX : X ≤ restN m) (hm2 : m 2 < 2 ^ 29) (hm12 : m 12 < 2 ^ 29) : pl1 F x = nI (min X (m 12 - m 13)) ∧ pl2 F x = nI (X - min X (m 12 - m 13)) := by
  have hr : restN m = (m 2 - m 11) + (m 12 - m 13) := rfl
  have e1 : pl1 F x = nI (min X (m 12 - m 13)) := by
    unfold pl1
    rw [hx, h 12 (by decide), h 13 (by decide), pk_sub h2, cMin_n (by omega) (by omega)]
  refine ⟨e1, ?_⟩
  unfold pl2
  rw [e1, hx, pk_sub (by omega), h 2 (by decide), h 11 (by decide), pk_sub h1, cMin_n (by omega) (by omega)]
  congr 1
  omega
