/-! ===== the end of a WEEK, loan by loan ===== -/
def fDue (i w : Nat) (u : MSt) : Int32 := (u.2.2.2 27 i * (if u.2.2.2 29 i ≤ nI w - u.2.2.2 28 i then u.2.2.2 29 i else nI w - u.2.2.2 28 i) + u.2.2.2 29 i - 1) / u.2.2.2 29 i
def nextStep (sn : Nat → Nat) (i : Nat) (u : MSt) : MSt := if u.2.2.2 37 i = 0 then (if u.2.2.2 28 i < nI (u.1 23) then (if fDue i (u.1 23) u ≤ u.2.2.2 32 i then (u.1, u.2.1, u.2.2.1, up u.2.2.2 36 (upd (u.2.2.2 36) i 0)) else mLate i (sn i) u) else u) else u
def NI (n w : Nat) (sn : Nat → Nat) (u : MSt) : Prop := u.1 42 = n ∧ u.1 23 = w ∧ u.1 22 ≤ 6 ∧ u.1 46 ≤ 3 * ncl (u.2.2.2 37) n ∧ (∀ k, k < n → u.2.2.2 39 k = nI (sn k) ∧ sn k ≤ 3) ∧ (∀ k, k < n → ¬ u.2.2.2 29 k = 0)
theorem ne_02 : ¬ (0 : Int32) = 2 := by decide
theorem NI_step {n w : Nat} {sn : Nat → Nat} {u : MSt} (h : NI n w sn u) {i : Nat} (hi : i < n) : NI n w sn (nextStep sn i u) := by
  obtain ⟨c, v, nm, a⟩ := u
  obtain ⟨h1, h2, h3, h4, h5, h6⟩ := h
  unfold nextStep
  split
  · rename_i ho
    split
    · split
      · exact ⟨h1, h2, h3, h4, h5, h6⟩
      · unfold mLate
        split
        · refine ⟨h1, h2, h3, ?_, h5, h6⟩
          show (mLateP i (sn i) (c, v, nm, a)).1 ≤ 3 * ncl (upd (a 37) i 2) n
          have hn : ¬ a 37 i = 2 := by
            have : a 37 i = 0 := ho
            rw [this]; exact ne_02
          rw [ncl_upd hn hi]
          have q1 := lateStep_le (sur := a 40) (z := i) (n := sn i) (y := fRest i (c, v, nm, a)) (sn i) 0 (c 46, a 43, a 44, a 45)
          have q2 := (h5 i hi).2
          have q3 : (mLateP i (sn i) (c, v, nm, a)).1 ≤ c 46 + sn i := q1
          have q4 : c 46 ≤ 3 * ncl (a 37) n := h4
          omega
        · exact ⟨h1, h2, h3, h4, h5, h6⟩
    · exact ⟨h1, h2, h3, h4, h5, h6⟩
  · exact ⟨h1, h2, h3, h4, h5, h6⟩
theorem NI_room {n w : Nat} {sn : Nat → Nat} {u : MSt} (h : NI n w sn u) {i : Nat} (hi : i < n) (hn : n ≤ 100) (ho : u.2.2.2 37 i = 0) : u.1 46 + 3 ≤ 300 := by
  have h1 := h.2.2.2.1
  have h2 := ncl_lt (f := u.2.2.2 37) (i := i) (by rw [ho]; exact ne_02) hi
  omega
def mNextU (sn : Nat → Nat) (u : MSt) : MSt := lp (nextStep sn) (u.1 42) 0 (mT0 u)
def mNextB (u : MSt) : Int32 × MSt := (nI (u.1 23 + 1), (up u.1 23 (u.1 23 + 1), u.2.1, u.2.2.1, up u.2.2.2 20 (fBook (u.1 23) (u.1 22) (u.2.2.2 19) (u.2.2.2 20))))
def mNext (sn : Nat → Nat) (u : MSt) : Int32 × MSt := if u.1 23 = 400 then (-1, mT0 u) else mNextB (mNextU sn u)
