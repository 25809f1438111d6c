/-! ===== alike: tag, fund, gift, chest, loan, surety, taken ===== -/
theorem sumN_up (f : Nat → Nat) (k x : Nat) : ∀ n, k < n → sumN (up f k x) n + f k = sumN f n + x
  | 0, h => absurd h (Nat.not_lt_zero _)
  | n + 1, h => by
    show sumN (up f k x) n + up f k x n + f k = sumN f n + f n + x
    by_cases c : k = n
    · subst c
      rw [up_eq, show sumN (up f k x) k = sumN f k from sumN_same f k x k (Nat.le_refl _)]
      omega
    · have := sumN_up f k x n (by omega)
      rw [up_ne f x (show n ≠ k by omega)]
      omega
where
  sumN_same (f : Nat → Nat) (k x : Nat) : ∀ n, n ≤ k → sumN (up f k x) n = sumN f n
  | 0, _ => rfl
  | n + 1, h => by
    show sumN (up f k x) n + up f k x n = sumN f n + f n
    rw [sumN_same f k x n (by omega), up_ne f x (show n ≠ k by omega)]
theorem sumN_le (f : Nat → Nat) (k : Nat) : ∀ n, k < n → f k ≤ sumN f n
  | 0, h => absurd h (Nat.not_lt_zero _)
  | n + 1, h => by
    show f k ≤ sumN f n + f n
    by_cases c : k = n
    · subst c; omega
    · have := sumN_le f k n (by omega); omega
theorem and1 (x : Int32) : x &&& 1 = 0 ∨ x &&& 1 = 1 := by
  obtain ⟨j, hj, e⟩ := pk_andE x (m := 1) 1 (by decide)
  rw [e]
  rcases (show j = 0 ∨ j = 1 by omega) with h | h
  · left; subst h; rfl
  · right; subst h; rfl
theorem isIn8 (y : Int32) : isIn y 8 = false ↔ y < 0 ∨ 7 < y := by
  unfold isIn
  rw [show nI 8 = (8 : Int32) from rfl]
  constructor
  · intro h
    by_cases c : y < 0
    · exact Or.inl c
    · right
      rw [decide_eq_false c] at h
      have h8 : (8 : Int32) ≤ y := by simpa using h
      exact Int32.lt_iff_toInt_lt.mpr (by have := Int32.le_iff_toInt_le.mp h8; show (7 : Int) < _; have e : (8 : Int32).toInt = 8 := (by decide); omega)
  · intro h
    rcases h with h | h
    · rw [decide_eq_true h]; rfl
    · have h8 : (8 : Int32) ≤ y := Int32.le_iff_toInt_le.mpr (by have := Int32.lt_iff_toInt_lt.mp h; have e : (8 : Int32).toInt = 8 := (by decide); have e7 : (7 : Int32).toInt = 7 := (by decide); omega)
      rw [decide_eq_true h8]; simp
section RE2
variable {N : Nat} {u : CSt} {v : MSt} {g : GH}
theorem rel_tag (h : Rel N u v g) (x y : Int32) (b : Bool) : (xTag x y (bI b) u).1 = (mTag x y (bI b) v).1 ∧ Rel N (xTag x y (bI b) u).2 (mTag x y (bI b) v).2 g := by
  have h0 := h
  obtain ⟨h1, h2, ⟨e1, e2, e3, e4, e5⟩, h4, h5, h6, h7⟩ := h
  unfold xTag mTag
  rw [← e1]
  by_cases c : isIn x u.np = false
  · rw [if_pos c, if_pos c]
    exact ⟨rfl, h0⟩
  · rw [if_neg c, if_neg c]
    by_cases c2 : isIn y 8 = false
    · rw [if_pos c2]
      rcases (isIn8 y).mp c2 with c3 | c3
      · rw [if_pos c3]; exact ⟨rfl, h0⟩
      · by_cases c4 : y < 0
        · rw [if_pos c4]; exact ⟨rfl, h0⟩
        · rw [if_neg c4, if_pos c3]; exact ⟨rfl, h0⟩
    · rw [if_neg c2, if_neg (fun z => c2 ((isIn8 y).mpr (Or.inl z))), if_neg (fun z => c2 ((isIn8 y).mpr (Or.inr z)))]
      have hk : ((if (u.ft x.toNatClampNeg >>> (y &&& 31)) &&& 1 = 0 then (0 : Int32) else 1) = bI b) ↔ ((v.2.2.2 17 x.toNatClampNeg >>> (y &&& 31)) &&& 1 = (if bI b = 0 then 0 else 1)) := by
        rw [← e5]
        rcases and1 (u.ft x.toNatClampNeg >>> (y &&& 31)) with w | w
        · rw [w]; cases b <;> decide
        · rw [w]; cases b <;> decide
      by_cases c5 : (if (u.ft x.toNatClampNeg >>> (y &&& 31)) &&& 1 = 0 then (0 : Int32) else 1) = bI b
      · rw [if_pos c5, if_pos (hk.mp c5)]
        exact ⟨rfl, h0⟩
      · rw [if_neg c5, if_neg (fun z => c5 (hk.mpr z))]
        refine ⟨rfl, h1, h2, ⟨e1, e2, e3, e4, ?_⟩, h4, h5, h6, h7⟩
        show upd u.ft x.toNatClampNeg (u.ft x.toNatClampNeg ^^^ (1 <<< (y &&& 31))) = upd (v.2.2.2 17) x.toNatClampNeg (v.2.2.2 17 x.toNatClampNeg ^^^ (1 <<< (y &&& 31)))
        rw [e5]
theorem rel_chest (h : Rel N u v g) (x y : Int32) : xChest x y u = (mChest x y v).1 := by
  obtain ⟨-, -, ⟨-, -, p3, p4, -⟩, ⟨f1, -, f3, -, f5, -, -, f8⟩, -, -, -⟩ := h
  unfold xChest mChest
  rw [← f1, ← p3]
  by_cases c : isIn x u.F.1 = false
  · rw [if_pos c, if_pos c]
  · rw [if_neg c, if_neg c]
    have hx := (isIn_spec (x := x) (n := u.F.1) (by simpa using c) (by omega)).2
    by_cases c2 : y < 0
    · rw [if_pos c2, if_pos c2]
    · rw [if_neg c2, if_neg c2]
      by_cases c3 : y ≤ nI u.wk
      · rw [if_pos c3, if_pos c3]
        by_cases c4 : y = nI u.wk
        · rw [if_pos c4, if_pos c4]
          exact f5 _ (by omega)
        · rw [if_neg c4, if_neg c4]
          have hy : y.toNatClampNeg < u.wk := by
            have k1 := clamp_le c2 c3 (by omega)
            rcases Nat.lt_or_eq_of_le k1 with k2 | k2
            · exact k2
            · exact absurd (by rw [← k2]; exact nI_self c2) c4
          rw [f8 _ _ hy (by omega), if_pos hx, ← nI_self c2]
      · rw [if_neg c3, if_neg c3]
/-- an answer or a throw, and the reference's flag -/
def XM (o : Option Int32) (r : Int32 × MSt) : Prop := r.2.2.1 0 = hV o ∧ ∀ w, o = some w → r.1 = w
theorem Rel.at (h : Rel N u v g) (x : Int32) : (atO x u.n = none ∧ isIn x (v.1 42) = false) ∨ ∃ j, atO x u.n = some j ∧ j < u.n ∧ x.toNatClampNeg = j ∧ isIn x (v.1 42) = true := by
  obtain ⟨-, -, -, -, ⟨e, e2, -⟩, -, -⟩ := h
  unfold atO
  rw [← e]
  by_cases c : isIn x u.n = true
  · rw [if_pos c]
    exact Or.inr ⟨_, rfl, (isIn_spec c (by omega)).2, rfl, c⟩
  · rw [if_neg c]
    exact Or.inl ⟨rfl, by simpa using c⟩
theorem rel_taken (h : Rel N u v g) (x y : Int32) : XM (xTakenV x y u) (mTaken x y v) ∧ Rel N u (mTaken x y v).2 g := by
  have h0 := h
  have hat := h.at x
  obtain ⟨-, -, -, ⟨f1, f2, f3, -⟩, ⟨-, -, -, hL⟩, -, -⟩ := h
  unfold xTakenV mTaken
  rcases hat with ⟨k1, k2⟩ | ⟨j, k1, k2, k3, k4⟩
  · rw [k1, if_pos k2]
    exact ⟨⟨rfl, fun w hw => by cases hw⟩, h0⟩
  · rw [k1, if_neg (ntf k4), ← f1, k3]
    by_cases c : isIn y u.F.1 = true
    · rw [if_pos c]
      show XM (if isIn y u.F.1 = false then none else some (u.gr 2 j y.toNatClampNeg)) _ ∧ _
      rw [if_neg (ntf c)]
      have hy := (isIn_spec c (by omega)).2
      refine ⟨⟨rfl, fun w hw => ?_⟩, h0⟩
      cases hw
      exact ((hL j k2).2.2.2.2.2.2.1 _ (by omega)).symm
    · rw [if_neg c]
      show XM (if isIn y u.F.1 = false then none else some (u.gr 2 j y.toNatClampNeg)) _ ∧ _
      rw [if_pos (by simpa using c)]
      exact ⟨⟨rfl, fun w hw => by cases hw⟩, h0⟩
theorem rel_surety (h : Rel N u v g) (x y : Int32) : XM (xSuretyV x y u) (mSurety x y v) ∧ Rel N u (mSurety x y v).2 g := by
  have h0 := h
  have hat := h.at x
  obtain ⟨-, -, -, -, ⟨-, -, -, hL⟩, -, -⟩ := h
  unfold xSuretyV mSurety
  rcases hat with ⟨k1, k2⟩ | ⟨j, k1, k2, k3, k4⟩
  · rw [k1, if_pos k2]
    exact ⟨⟨rfl, fun w hw => by cases hw⟩, h0⟩
  · rw [k1, if_neg (ntf k4), k3, (hL j k2).2.2.1]
    show XM (if y < 0 then none else if y < nI (u.gn j) then some (u.gr 1 j y.toNatClampNeg) else none) _ ∧ _
    by_cases c : y < 0
    · rw [if_pos c, if_pos c]
      exact ⟨⟨rfl, fun w hw => by cases hw⟩, h0⟩
    · rw [if_neg c, if_neg c]
      by_cases c2 : y < nI (u.gn j)
      · rw [if_pos c2, if_pos c2]
        have hg := (hL j k2).2.2.2.1
        have hy := clamp_lt c c2 (by omega)
        refine ⟨⟨rfl, fun w hw => ?_⟩, h0⟩
        cases hw
        exact (((hL j k2).2.2.2.2.1 _ hy).1).symm
      · rw [if_neg c2, if_neg c2]
        exact ⟨⟨rfl, fun w hw => by cases hw⟩, h0⟩
theorem rel_loan (h : Rel N u v g) (x y : Int32) : XM (xLoanV x y u) (mLoan x y v) ∧ Rel N u (mLoan x y v).2 g := by
  have h0 := h
  have hat := h.at x
  obtain ⟨-, -, -, -, ⟨-, -, -, hL⟩, -, -⟩ := h
  unfold xLoanV mLoan
  rcases hat with ⟨k1, k2⟩ | ⟨j, k1, k2, k3, k4⟩
  · rw [k1, if_pos k2]
    exact ⟨⟨rfl, fun w hw => by cases hw⟩, h0⟩
  · rw [k1, if_neg (ntf k4)]
    have hl := (hL j k2).1
    rcases sw_cases y 9 with sw | ⟨i, hi, ei⟩
    · have e9 := swN_out sw
      have hno : (if y < 0 then (0, mT1 v) else if y ≤ 9 then (mLoanV x y v, mT0 v) else (0, mT1 v)) = ((0 : Int32), mT1 v) := by
        by_cases c : y < 0
        · rw [if_pos c]
        · rw [if_neg c, if_neg (fun z => ?_)]
          have q1 := Int32.le_iff_toInt_le.mp z
          have q2 : (9 : Int32).toInt = 9 := by decide
          have q3 := toInt_lt0 c
          omega
      rw [hno]
      simp only [e9]
      exact ⟨⟨rfl, fun w hw => by cases hw⟩, h0⟩
    · subst ei
      rw [if_neg (nI_pos (by omega)), if_pos (show nI i ≤ 9 from nI_le (b := 9) hi (by decide))]
      have e9 := swN_in (show i ≤ 9 by omega) (by decide)
      simp only [e9]
      refine ⟨?_, h0⟩
      have hM : ∀ w : Int32, mLoanV x (nI i) v = w → XM (some w) (mLoanV x (nI i) v, mT0 v) := fun w hw => ⟨rfl, fun w2 h2 => by cases h2; exact hw⟩
      rcases (show i = 0 ∨ i = 1 ∨ i = 2 ∨ i = 3 ∨ i = 4 ∨ i = 5 ∨ i = 6 ∨ i = 7 ∨ i = 8 ∨ i = 9 by omega) with e | e | e | e | e | e | e | e | e | e
      all_goals subst e
      · exact hM _ (by unfold mLoanV; simp only [swN_in (show 0 ≤ 8 by decide) (by decide)]; rw [k3]; exact (ls1 hl).symm)
      · exact hM _ (by unfold mLoanV; simp only [swN_in (show 1 ≤ 8 by decide) (by decide)]; rw [k3]; exact (ls2 hl).symm)
      · exact hM _ (by unfold mLoanV; simp only [swN_in (show 2 ≤ 8 by decide) (by decide)]; rw [k3]; exact (ls3 hl).symm)
      · exact hM _ (by unfold mLoanV; simp only [swN_in (show 3 ≤ 8 by decide) (by decide)]; rw [k3]; exact (ls11 hl).symm)
      · exact hM _ (by unfold mLoanV; simp only [swN_in (show 4 ≤ 8 by decide) (by decide)]; rw [k3]; exact (ls12 hl).symm)
      · exact hM _ (by unfold mLoanV; simp only [swN_in (show 5 ≤ 8 by decide) (by decide)]; rw [k3]; exact (ls13 hl).symm)
      · exact hM _ (by unfold mLoanV; simp only [swN_in (show 6 ≤ 8 by decide) (by decide)]; rw [k3]; exact (ls14 hl).symm)
      · exact hM _ (by unfold mLoanV; simp only [swN_in (show 7 ≤ 8 by decide) (by decide)]; rw [k3]; exact (ls16 hl).symm)
      · exact hM _ (by unfold mLoanV; simp only [swN_in (show 8 ≤ 8 by decide) (by decide)]; rw [k3]; exact (hL j k2).2.2.1)
      · exact hM _ (by unfold mLoanV; simp only [show swN (nI 9) 8 = 9 by decide +kernel]; rw [k3]; exact (ls17 hl).symm)
end RE2
