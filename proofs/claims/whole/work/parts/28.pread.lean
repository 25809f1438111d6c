/-! ===== the text of RULES: all of it ===== -/
theorem goK_ne4 (lt b : Bool) (n : Nat) : goK lt b n ≠ 4 := by
  unfold goK
  split
  · decide
  · split
    · decide
    · split <;> decide
theorem mGo_bd {u : MSt} (h1 : u.1 11 ≤ u.1 10) : (mGo u).1 10 = u.1 10 ∧ u.1 11 ≤ (mGo u).1 11 ∧ (mGo u).1 11 ≤ u.1 10 ∧ ((mGo u).2.1 13 = 4 → u.1 11 < (mGo u).1 11) ∧ (mGo u).2.2.2 = u.2.2.2 := by
  obtain ⟨c, v, nm, a⟩ := u
  replace h1 : c 11 ≤ c 10 := h1
  have hI := skp_bd (a 1) (c 10 - c 11) (c 11)
  replace hI : c 11 ≤ goI (c, v, nm, a) ∧ goI (c, v, nm, a) ≤ c 11 + (c 10 - c 11) := hI
  have hT := tok_bd (a 1) (goI (c, v, nm, a)) (let_ (a 1 (goI (c, v, nm, a)))) (c 10 - goI (c, v, nm, a)) (goI (c, v, nm, a)) (true, 0, 0)
  replace hT : goI (c, v, nm, a) ≤ (goT (c, v, nm, a)).1 ∧ (goT (c, v, nm, a)).1 ≤ goI (c, v, nm, a) + (c 10 - goI (c, v, nm, a)) := hT
  have hW : (goW (c, v, nm, a)).1 10 = c 10 ∧ c 11 ≤ (goW (c, v, nm, a)).1 11 ∧ (goW (c, v, nm, a)).1 11 ≤ c 10 ∧ ((goW (c, v, nm, a)).2.1 13 = 4 → c 11 < (goW (c, v, nm, a)).1 11) ∧ (goW (c, v, nm, a)).2.2.2 = a := by
    refine ⟨rfl, ?_, ?_, fun h => absurd h (goK_ne4 _ _ _), rfl⟩
    · show c 11 ≤ (goT (c, v, nm, a)).1; omega
    · show (goT (c, v, nm, a)).1 ≤ c 10; omega
  have hB : (goB (c, v, nm, a)).1 10 = c 10 ∧ c 11 ≤ (goB (c, v, nm, a)).1 11 ∧ (goB (c, v, nm, a)).1 11 ≤ c 10 ∧ ((goB (c, v, nm, a)).2.1 13 = 4 → c 11 < (goB (c, v, nm, a)).1 11) ∧ (goB (c, v, nm, a)).2.2.2 = a := by
    unfold goB
    split
    · rename_i hlt
      replace hlt : goI (c, v, nm, a) < c 10 := hlt
      split
      · exact hW
      · split
        · exact hW
        · refine ⟨rfl, ?_, ?_, fun _ => ?_, rfl⟩
          · show c 11 ≤ goI (c, v, nm, a) + 1; omega
          · show goI (c, v, nm, a) + 1 ≤ c 10; omega
          · show c 11 < goI (c, v, nm, a) + 1; omega
    · refine ⟨rfl, ?_, ?_, fun h => ?_, rfl⟩
      · show c 11 ≤ goI (c, v, nm, a); omega
      · show goI (c, v, nm, a) ≤ c 10; omega
      · replace h : (0 : Int32) = 4 := h
        exact absurd h (by decide)
  unfold mGo
  split
  · exact hB
  · split
    · exact hB
    · refine ⟨rfl, ?_, ?_, fun h => ?_, rfl⟩
      · show c 11 ≤ goI (c, v, nm, a); omega
      · show goI (c, v, nm, a) ≤ c 10; omega
      · replace h : (1 : Int32) = 4 := h
        exact absurd h (by decide)
theorem ruleOf_lt {nm : Int64} {j : Nat} (h : ruleOf nm = some j) : j < 9 := by
  unfold ruleOf at h
  repeat' split at h
  all_goals first | (cases h; decide) | cases h
theorem ruleAt_lt {u : MSt} {j : Nat} (h : ruleAt u = some j) : j < 9 := by
  unfold ruleAt at h
  split at h
  · exact ruleOf_lt h
  · cases h
abbrev RdS : Type := (Int32 × MSt) ⊕ (Int32 × MSt)
def rd3 (had : Int32) (j : Nat) (u : MSt) : RdS := if u.2.1 13 = 4 then .inr (had ||| (1 <<< (nI j &&& 31)), mGo (up u.1 16 (u.1 16 + 1), u.2.1, u.2.2.1, u.2.2.2)) else .inl (mBad 1 u)
def rd2 (had : Int32) (j : Nat) (u : MSt) : RdS := if u.2.1 13 = 3 then (if u.2.1 14 < u.2.2.2 5 j then .inl (mBad 2 u) else if u.2.1 14 ≤ u.2.2.2 6 j then rd3 had j (mGo (u.1, u.2.1, u.2.2.1, up u.2.2.2 7 (upd (u.2.2.2 7) j (u.2.1 14)))) else .inl (mBad 2 u)) else .inl (mBad 1 u)
def rdStep (had : Int32) (u : MSt) : RdS := if u.2.1 13 = 0 then .inl (1, u) else match ruleAt u with
  | none => .inl (mBad 1 u)
  | some j => if (had >>> (nI j &&& 31)) &&& 1 = 1 then .inl (mBad 3 u) else rd2 had j (mGo u)
def rdLoop : Nat → Int32 → MSt → Int32 × MSt
  | 0, _, u => (1, u)
  | r + 1, had, u => match rdStep had u with
    | .inl x => x
    | .inr y => rdLoop r y.1 y.2
theorem rdLoop_l {r : Nat} {had : Int32} {u : MSt} {x : Int32 × MSt} (h : rdStep had u = .inl x) : rdLoop (r + 1) had u = x := by simp only [rdLoop, h]
theorem rdLoop_r {r : Nat} {had : Int32} {u : MSt} {y : Int32 × MSt} (h : rdStep had u = .inr y) : rdLoop (r + 1) had u = rdLoop r y.1 y.2 := by simp only [rdLoop, h]
def rdUsual (us f : Nat → Int32) : Nat → Int32 := lp (fun k f => upd f k (us k)) 9 0 f
def rd0 (u : MSt) : MSt := (up (up u.1 16 0) 11 0, u.2.1, u.2.2.1, up u.2.2.2 7 (rdUsual (u.2.2.2 4) (u.2.2.2 7)))
def mRead (u : MSt) : Int32 × MSt := rdLoop (u.1 10 + 1) 0 (mGo (rd0 u))
/-- the state that the text is read in -/
def rdIn (u : MSt) : MSt := (up (up u.1 10 (u.1 2)) 2 0, up (up u.2.1 0 0) 8 0, u.2.2.1, u.2.2.2)
def mRules (u : MSt) : Int32 × MSt := if (mRead (rdIn u)).1 = 0 then (-1 - nI ((mRead (rdIn u)).2.1 9), (mRead (rdIn u)).2) else (nI ((mRead (rdIn u)).2.1 16), ((mRead (rdIn u)).2.1, (mRead (rdIn u)).2.2.1, (mRead (rdIn u)).2.2.2.1, up (mRead (rdIn u)).2.2.2.2 3 (rdUsual ((mRead (rdIn u)).2.2.2.2 7) ((mRead (rdIn u)).2.2.2.2 3))))
