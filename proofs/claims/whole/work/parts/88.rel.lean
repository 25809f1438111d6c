/-! ===== class and reference side by side ===== -/
/-- money as naturals: (a LOAN's by slot, taken, pence, what is left of the calls) -/
abbrev GH : Type := (Nat → Nat → Nat) × (Nat → Nat → Nat) × (Nat → Nat) × (Nat → Nat)
def sumN (f : Nat → Nat) : Nat → Nat
  | 0 => 0
  | n + 1 => sumN f n + f n
/-- the funds have it back in this order: 0, 5, 4, 3, 2, 1 -/
def ordF (i : Nat) : Nat := if i = 0 then 0 else 6 - i
def befF (tk : Nat → Nat) (f : Nat) : Nat := sumN (fun i => tk (ordF i)) (ordF f)
def awayF (tk : Nat → Nat) (cb f : Nat) : Nat := tk f - (cb - befF tk f)
def restN (m : Nat → Nat) : Nat := (m 2 - m 11) + (m 12 - m 13)
def RT (u : CSt) (v : MSt) : Prop := u.T.1 = v.1 2 ∧ u.T.1 ≤ 320 ∧ u.T.2 = v.2.2.2 1
def RV (u : CSt) (v : MSt) : Prop := (∀ k, k < 9 → u.V k = v.2.2.2 3 k) ∧ (∀ k, k < 9 → kLow k ≤ u.V k ∧ u.V k ≤ kHigh k) ∧ u.R.2.2.2.1 = v.2.1 8 ∧ v.2.2.2 4 = mUsual ∧ v.2.2.2 5 = mLow ∧ v.2.2.2 6 = mHigh
def RP (u : CSt) (v : MSt) : Prop := u.np = v.1 21 ∧ u.np ≤ 40 ∧ u.wk = v.1 23 ∧ u.wk ≤ 400 ∧ u.ft = v.2.2.2 17
def RF (u : CSt) (v : MSt) : Prop := u.F.1 = v.1 22 ∧ 1 ≤ u.F.1 ∧ u.F.1 ≤ 6 ∧ u.F.2.1 = v.2.1 24 ∧ (∀ f, f < 6 → u.F.2.2 1 f = v.2.2.2 19 f) ∧ (∀ f, f < 6 → u.F.2.2 2 f = v.2.2.2 18 f) ∧ (∀ f, f < 6 → ∃ m : Nat, m ≤ u.wk ∧ u.F.2.2 3 f = nI m) ∧ (∀ w f, w < u.wk → f < 6 → v.2.2.2 20 (6 * w + f) = if f < u.F.1 then (if u.F.2.2 3 f ≤ nI w then u.F.2.2 4 (w * 6 + f) else -1) else -1)
def RLs (u : CSt) (v : MSt) (i : Nat) : Prop := u.ga i 1 = v.2.2.2 26 i ∧ u.ga i 2 = v.2.2.2 27 i ∧ u.ga i 3 = v.2.2.2 28 i ∧ u.ga i 6 = v.2.2.2 29 i ∧ u.ga i 7 = v.2.2.2 30 i ∧ u.ga i 8 = v.2.2.2 31 i ∧ u.ga i 11 = v.2.2.2 32 i ∧ u.ga i 12 = v.2.2.2 33 i ∧ u.ga i 13 = v.2.2.2 34 i ∧ u.ga i 14 = v.2.2.2 35 i ∧ u.ga i 15 = v.2.2.2 36 i ∧ u.ga i 16 = v.2.2.2 37 i ∧ u.ga i 17 = v.2.2.2 38 i
theorem ls1 {u : CSt} {v : MSt} {i : Nat} (h : RLs u v i) : u.ga i 1 = v.2.2.2 26 i := h.1
theorem ls2 {u : CSt} {v : MSt} {i : Nat} (h : RLs u v i) : u.ga i 2 = v.2.2.2 27 i := h.2.1
theorem ls3 {u : CSt} {v : MSt} {i : Nat} (h : RLs u v i) : u.ga i 3 = v.2.2.2 28 i := h.2.2.1
theorem ls6 {u : CSt} {v : MSt} {i : Nat} (h : RLs u v i) : u.ga i 6 = v.2.2.2 29 i := h.2.2.2.1
theorem ls7 {u : CSt} {v : MSt} {i : Nat} (h : RLs u v i) : u.ga i 7 = v.2.2.2 30 i := h.2.2.2.2.1
theorem ls8 {u : CSt} {v : MSt} {i : Nat} (h : RLs u v i) : u.ga i 8 = v.2.2.2 31 i := h.2.2.2.2.2.1
theorem ls11 {u : CSt} {v : MSt} {i : Nat} (h : RLs u v i) : u.ga i 11 = v.2.2.2 32 i := h.2.2.2.2.2.2.1
theorem ls12 {u : CSt} {v : MSt} {i : Nat} (h : RLs u v i) : u.ga i 12 = v.2.2.2 33 i := h.2.2.2.2.2.2.2.1
theorem ls13 {u : CSt} {v : MSt} {i : Nat} (h : RLs u v i) : u.ga i 13 = v.2.2.2 34 i := h.2.2.2.2.2.2.2.2.1
theorem ls14 {u : CSt} {v : MSt} {i : Nat} (h : RLs u v i) : u.ga i 14 = v.2.2.2 35 i := h.2.2.2.2.2.2.2.2.2.1
theorem ls15 {u : CSt} {v : MSt} {i : Nat} (h : RLs u v i) : u.ga i 15 = v.2.2.2 36 i := h.2.2.2.2.2.2.2.2.2.2.1
theorem ls16 {u : CSt} {v : MSt} {i : Nat} (h : RLs u v i) : u.ga i 16 = v.2.2.2 37 i := h.2.2.2.2.2.2.2.2.2.2.2.1
theorem ls17 {u : CSt} {v : MSt} {i : Nat} (h : RLs u v i) : u.ga i 17 = v.2.2.2 38 i := h.2.2.2.2.2.2.2.2.2.2.2.2
def RLi (u : CSt) (v : MSt) (i : Nat) : Prop := RLs u v i ∧ u.ga i 0 = nI i ∧ v.2.2.2 39 i = nI (u.gn i) ∧ u.gn i ≤ 3 ∧ (∀ k, k < u.gn i → u.gr 1 i k = v.2.2.2 40 (3 * i + k) ∧ isIn (u.gr 1 i k) u.np = true) ∧ (∀ k k', k < k' → k' < u.gn i → ¬ u.gr 1 i k = u.gr 1 i k') ∧ (∀ f, f < 6 → u.gr 2 i f = v.2.2.2 41 (6 * i + f)) ∧ u.gt i = cBits (u.gr 1 i) (u.gn i) ∧ isIn (u.ga i 1) u.np = true ∧ (u.ga i 16 = 0 ∨ u.ga i 16 = 1 ∨ u.ga i 16 = 2) ∧ (1 ≤ u.ga i 6)
def RLo (u : CSt) (v : MSt) : Prop := u.n = v.1 42 ∧ u.n ≤ 100 ∧ u.lost = v.2.1 25 ∧ ∀ i, i < u.n → RLi u v i
def RK (u : CSt) (v : MSt) : Prop := u.mm = v.1 46 ∧ u.mm ≤ 3 * ncl (v.2.2.2 37) u.n ∧ ∀ i, i < u.mm → u.gc i 0 = v.2.2.2 43 i ∧ v.2.2.2 44 i = nI (u.gl i) ∧ u.gl i < u.n ∧ u.gc i 2 - u.gc i 3 = v.2.2.2 45 i
def RMi (u : CSt) (g : GH) (i : Nat) : Prop := (∀ j, j ∈ [2, 11, 12, 13, 17] → u.ga i j = nI (g.1 i j)) ∧ g.1 i 11 ≤ g.1 i 2 ∧ g.1 i 13 ≤ g.1 i 12 ∧ g.1 i 17 ≤ g.1 i 2 ∧ g.1 i 2 ≤ 9999 ∧ (∀ f, f < 6 → u.gr 2 i f = nI (g.2.1 i f)) ∧ sumN (g.2.1 i) 6 = g.1 i 2 ∧ (∀ f, f < 6 → u.gr 3 i f = nI (awayF (g.2.1 i) (g.1 i 17) f)) ∧ (u.ga i 16 = 0 → g.1 i 17 = g.1 i 11) ∧ ∃ q : Nat, q ≤ 99 ∧ u.ga i 7 = nI q
def phi (u : CSt) (g : GH) : Nat := sumN g.2.2.1 6 + (sumN (fun i => if u.ga i 16 = 0 then restN (g.1 i) else 0) u.n + sumN g.2.2.2 u.mm)
def RM (N : Nat) (u : CSt) (g : GH) : Prop := (∀ f, f < 6 → u.F.2.2 1 f = nI (g.2.2.1 f)) ∧ (∀ i, i < u.n → RMi u g i ∧ g.1 i 12 ≤ 99 * N) ∧ (∀ i, i < u.mm → u.gc i 2 - u.gc i 3 = nI (g.2.2.2 i)) ∧ phi u g ≤ 100000 * N
def Rel (N : Nat) (u : CSt) (v : MSt) (g : GH) : Prop := RT u v ∧ RV u v ∧ RP u v ∧ RF u v ∧ RLo u v ∧ RK u v ∧ RM N u g
theorem RM.up {N M : Nat} {u : CSt} {g : GH} (h : RM N u g) (hM : N ≤ M) : RM M u g := by
  obtain ⟨h1, h2, h3, h4⟩ := h
  exact ⟨h1, fun i hi => ⟨(h2 i hi).1, Nat.le_trans (h2 i hi).2 (Nat.mul_le_mul_left _ hM)⟩, h3, Nat.le_trans h4 (Nat.mul_le_mul_left _ hM)⟩
theorem isIn_up {x : Int32} {n m : Nat} (h : isIn x n = true) (hm : n ≤ m) (hs : m < 2 ^ 31 := by omega) : isIn x m = true := by
  obtain ⟨e1, e2⟩ := isIn_spec h (by omega)
  rw [e1]
  exact isIn_nI (by omega) hs
theorem rest_eq (a b c d : Int32) : a - b + c - d = c - d + a - b := by
  apply Int32.toBitVec_inj.mp
  simp only [Int32.toBitVec_add, Int32.toBitVec_sub]
  rw [BitVec.sub_eq_add_neg, BitVec.sub_eq_add_neg, BitVec.sub_eq_add_neg, BitVec.sub_eq_add_neg]
  ac_rfl
section RE
variable {N : Nat} {u : CSt} {v : MSt} {g : GH}
theorem Rel.t0 (h : Rel N u v g) : Rel N u (mT0 v) g := h
theorem Rel.t1 (h : Rel N u v g) : Rel N u (mT1 v) g := h
/-- an OPEN LOAN of x is the same in both -/
theorem Rel.opn (h : Rel N u v g) (x : Int32) : fOpen (col u.ga 1) (col u.ga 16) x u.n = fOpen (v.2.2.2 26) (v.2.2.2 37) x (v.1 42) := by
  obtain ⟨-, -, -, -, ⟨e, -, -, hL⟩, -, -⟩ := h
  rw [← e]
  refine fnd_congr _ _ (fun j _ h2 => ?_)
  have h3 := (hL j (by omega)).1
  rw [show col u.ga 1 j = v.2.2.2 26 j from ls1 h3, show col u.ga 16 j = v.2.2.2 37 j from ls16 h3]
theorem Rel.calls (h : Rel N u v g) (x : Int32) : fCallsOf (col u.gc 0) (leftOf u.gc) x u.mm = fCallsOf (v.2.2.2 43) (v.2.2.2 45) x (v.1 46) := by
  obtain ⟨-, -, -, -, -, ⟨e, -, hK⟩, -⟩ := h
  rw [← e]
  refine lp_congr _ _ _ (fun j t _ h2 => ?_)
  obtain ⟨k1, -, -, k4⟩ := hK j (by omega)
  rw [show col u.gc 0 j = v.2.2.2 43 j from k1, show leftOf u.gc j = v.2.2.2 45 j from k4]
theorem Rel.unpaid (h : Rel N u v g) (x : Int32) : fUnpaid (col u.gc 0) (leftOf u.gc) x u.mm = fUnpaid (v.2.2.2 43) (v.2.2.2 45) x (v.1 46) := by
  obtain ⟨-, -, -, -, -, ⟨e, -, hK⟩, -⟩ := h
  rw [← e]
  refine lp_congr _ _ _ (fun j t _ h2 => ?_)
  obtain ⟨k1, -, -, k4⟩ := hK j (by omega)
  rw [show col u.gc 0 j = v.2.2.2 43 j from k1, show leftOf u.gc j = v.2.2.2 45 j from k4]
theorem Rel.called (h : Rel N u v g) (x : Int32) : fCalled (col u.ga 1) (col u.ga 16) x u.n = fCalled (v.2.2.2 26) (v.2.2.2 37) x (v.1 42) := by
  obtain ⟨-, -, -, -, ⟨e, -, -, hL⟩, -, -⟩ := h
  rw [← e]
  refine lp_congr _ _ _ (fun j t _ h2 => ?_)
  have h3 := (hL j (by omega)).1
  rw [show col u.ga 1 j = v.2.2.2 26 j from ls1 h3, show col u.ga 16 j = v.2.2.2 37 j from ls16 h3]
theorem Rel.opens (h : Rel N u v g) : fOpens (col u.ga 16) u.n = fOpens (v.2.2.2 37) (v.1 42) := by
  obtain ⟨-, -, -, -, ⟨e, -, -, hL⟩, -, -⟩ := h
  rw [← e]
  refine lp_congr _ _ _ (fun j t _ h2 => ?_)
  rw [show col u.ga 16 j = v.2.2.2 37 j from ls16 (hL j (by omega)).1]
theorem rel_feed (h : Rel N u v g) (x y z w t : Int32) : (xFeed x y z w t u).1 = (mFeed x y z w t v).1 ∧ Rel N (xFeed x y z w t u).2 (mFeed x y z w t v).2 g := by
  obtain ⟨⟨e1, e2, e3⟩, hr⟩ := h
  unfold xFeed mFeed
  by_cases c : 320 < u.T.1 + 20
  · rw [if_pos c, if_neg (by rw [← e1]; omega)]
    exact ⟨rfl, ⟨e1, e2, e3⟩, hr⟩
  · rw [if_neg c, if_pos (by rw [← e1]; omega)]
    refine ⟨?_, ⟨?_, ?_, ?_⟩, hr⟩
    · show nI (u.T.1 + 4 + 4 + 4 + 4 + 4) = nI (v.1 2 + 20)
      rw [← e1]
    · show u.T.1 + 4 + 4 + 4 + 4 + 4 = v.1 2 + 4 + 4 + 4 + 4 + 4
      rw [← e1]
    · show u.T.1 + 4 + 4 + 4 + 4 + 4 ≤ 320
      omega
    · show tPut4 (tPut4 (tPut4 (tPut4 (tPut4 u.T.2 u.T.1 x) (u.T.1 + 4) y) (u.T.1 + 4 + 4) z) (u.T.1 + 4 + 4 + 4) w) (u.T.1 + 4 + 4 + 4 + 4) t = put4 (put4 (put4 (put4 (put4 (v.2.2.2 1) (v.1 2) x) (v.1 2 + 4) y) (v.1 2 + 4 + 4) z) (v.1 2 + 4 + 4 + 4) w) (v.1 2 + 4 + 4 + 4 + 4) t
      rw [tPut4_eq, tPut4_eq, tPut4_eq, tPut4_eq, tPut4_eq, e1, e3]
theorem rel_end (h : Rel N u v g) (x : Int32) : (xEnd x u).1 = (mEnd x v).1 ∧ Rel N (xEnd x u).2 (mEnd x v).2 g := by
  obtain ⟨⟨e1, e2, e3⟩, hr⟩ := h
  unfold xEnd mEnd tCut
  by_cases c : x < 0
  · rw [if_pos c, if_pos c]
    exact ⟨rfl, ⟨e1, e2, e3⟩, hr⟩
  · rw [if_neg c, if_neg c, ← e1]
    by_cases c2 : x ≤ nI u.T.1
    · rw [if_pos c2, if_pos c2]
      exact ⟨rfl, ⟨rfl, Nat.le_trans (clamp_le c c2 (by omega)) e2, e3⟩, hr⟩
    · rw [if_neg c2, if_neg c2]
      exact ⟨rfl, ⟨e1, e2, e3⟩, hr⟩
theorem rel_person (h : Rel N u v g) (x : Int32) : (xPerson x u).1 = (mPerson x v).1 ∧ Rel N (xPerson x u).2 (mPerson x v).2 g := by
  obtain ⟨h1, h2, ⟨e1, e2, e3, e4, e5⟩, h4, h5, h6, h7⟩ := h
  unfold xPerson mPerson
  rw [← e1]
  by_cases c : u.np = 40
  · rw [if_pos (by omega), if_pos c]
    exact ⟨rfl, h1, h2, ⟨e1, e2, e3, e4, e5⟩, h4, h5, h6, h7⟩
  · rw [if_neg (by omega), if_neg c]
    by_cases c2 : x < 0
    · rw [if_pos c2, if_pos c2]
      exact ⟨rfl, h1, h2, ⟨e1, e2, e3, e4, e5⟩, h4, h5, h6, h7⟩
    · rw [if_neg c2, if_neg c2]
      by_cases c3 : x ≤ 255
      · rw [if_pos c3, if_pos c3]
        refine ⟨rfl, h1, h2, ⟨rfl, by show u.np + 1 ≤ 40; omega, e3, e4, ?_⟩, h4, ?_, h6, h7⟩
        · show upd u.ft u.np x = upd (v.2.2.2 17) u.np x
          rw [e5]
        · obtain ⟨k1, k2, k3, k4⟩ := h5
          refine ⟨k1, k2, k3, fun i hi => ?_⟩
          obtain ⟨l1, l2, l3, l4, l5, l6, l7, l8, l9, l10, l11⟩ := k4 i hi
          exact ⟨l1, l2, l3, l4, fun k hk => ⟨(l5 k hk).1, show isIn (u.gr 1 i k) (u.np + 1) = true from isIn_up (l5 k hk).2 (by omega) (by omega)⟩, l6, l7, l8, show isIn (u.ga i 1) (u.np + 1) = true from isIn_up l9 (by omega) (by omega), l10, l11⟩
      · rw [if_neg c3, if_neg c3]
        exact ⟨rfl, h1, h2, ⟨e1, e2, e3, e4, e5⟩, h4, h5, h6, h7⟩
theorem rel_rule (h : Rel N u v g) (x : Int32) : xRule x u = mRule x v := by
  obtain ⟨-, ⟨e1, -⟩, -⟩ := h
  unfold xRule mRule
  by_cases c : x < 0
  · rw [if_pos c, if_pos c]
  · rw [if_neg c, if_neg c]
    by_cases c2 : x < 9
    · rw [if_pos c2, if_pos c2]
      exact e1 _ (clamp_lt c c2 (by decide))
    · rw [if_neg c2, if_neg c2]
theorem rel_owes (h : Rel N u v g) (x : Int32) : xOwes x u = (mOwes x v).1 := by
  have h1 := h.opn x
  have h2 := h.calls x
  obtain ⟨-, -, ⟨e1, -⟩, -, ⟨n1, -, -, hL⟩, -, -⟩ := h
  unfold xOwes mOwes fOwed cDebt
  rw [← e1, ← h1, ← h2]
  by_cases c : isIn x u.np = false
  · rw [if_pos c, if_pos c]
  · rw [if_neg c, if_neg c]
    cases ho : fOpen (col u.ga 1) (col u.ga 16) x u.n with
    | none => rfl
    | some j =>
      have hj : j < u.n := by have := (fnd_lt ho).2.1; omega
      have h3 := (hL j hj).1
      show _ + cRest (u.ga j) = _ + (v.2.2.2 33 j - v.2.2.2 34 j + v.2.2.2 27 j - v.2.2.2 32 j)
      rw [cRest, show u.ga j 2 = v.2.2.2 27 j from ls2 h3, show u.ga j 11 = v.2.2.2 32 j from ls11 h3, show u.ga j 12 = v.2.2.2 33 j from ls12 h3, show u.ga j 13 = v.2.2.2 34 j from ls13 h3, rest_eq]
theorem rel_count (h : Rel N u v g) (x : Int32) : xCount x u = mCount x v := by
  have h1 := h.opens
  obtain ⟨⟨t1, -⟩, -, ⟨p1, -, p3, -⟩, ⟨f1, -, -, f4, -⟩, ⟨n1, -, l1, -⟩, -, -⟩ := h
  unfold xCount mCount
  generalize swN x 7 = k
  rcases k with _ | _ | _ | _ | _ | _ | _ | _ | k
  · exact congrArg nI p3
  · exact congrArg nI p1
  · exact congrArg nI f1
  · exact congrArg nI n1
  · exact h1
  · exact l1
  · exact f4
  · exact congrArg nI t1
  · rfl
end RE
