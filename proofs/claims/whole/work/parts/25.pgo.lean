/-! ===== the text of RULES: one TOKEN ===== -/
def spel3 (x y z : Int32) : Int64 := 27 * (27 * (x.toInt64 - 96) + y.toInt64 - 96) + z.toInt64 - 96
def spel4 (x y z w : Int32) : Int64 := if w ≤ 0 then spel3 x y z else 27 * spel3 x y z + w.toInt64 - 96
def spel (x y z w t : Int32) : Int64 := if t ≤ 0 then spel4 x y z w else 27 * spel4 x y z w + t.toInt64 - 96
/-- the RULE that a name spells -/
def ruleOf (nm : Int64) : Option Nat :=
  if lg_cmp nm (spel 109 111 115 116 0) = 0 then some 0 else if lg_cmp nm (spel 119 101 101 107 115) = 0 then some 1 else
  if lg_cmp nm (27 * (27 * (27 * spel 115 117 114 101 116 + 9) + 5) + 19) = 0 then some 2 else if lg_cmp nm (27 * spel 115 116 97 110 100 + 19) = 0 then some 3 else
  if lg_cmp nm (spel 108 97 116 101 0) = 0 then some 4 else if lg_cmp nm (spel 99 97 108 108 0) = 0 then some 5 else
  if lg_cmp nm (spel 107 101 101 112 0) = 0 then some 6 else if lg_cmp nm (spel 114 105 110 103 0) = 0 then some 7 else
  if lg_cmp nm (spel 98 97 114 0 0) = 0 then some 8 else none
def ruleAt (u : MSt) : Option Nat := if u.2.1 13 = 2 then ruleOf u.2.2.1 else none
def isLD (x : Int32) : Bool := let_ x || dig x
def skp (tp : Nat → Int32) : Nat → Nat → Nat
  | 0, i => i
  | r + 1, i => if tp i = 32 then skp tp r (i + 1) else if tp i = 10 then skp tp r (i + 1) else i
theorem skp_bd (tp : Nat → Int32) : ∀ (r i : Nat), i ≤ skp tp r i ∧ skp tp r i ≤ i + r
  | 0, i => ⟨Nat.le_refl _, Nat.le_refl _⟩
  | r + 1, i => by
    have h := skp_bd tp r (i + 1)
    unfold skp
    split
    · omega
    · split <;> omega
abbrev TokS : Type := Bool × Int64 × Int32
def tokStep (tp : Nat → Int32) (fr : Nat) (lt : Bool) (i : Nat) (p : TokS) : TokS :=
  (if p.1 = false then false else decide (bI (let_ (tp i)) = bI lt), if 10 ≤ i - fr then p.2.1 else 27 * p.2.1 + (tp i).toInt64 - 96, if 5 ≤ i - fr then p.2.2 else 10 * p.2.2 + tp i - 48)
def tok (tp : Nat → Int32) (fr : Nat) (lt : Bool) : Nat → Nat → TokS → Nat × TokS
  | 0, i, p => (i, p)
  | r + 1, i, p => if isLD (tp i) = true then tok tp fr lt r (i + 1) (tokStep tp fr lt i p) else (i, p)
theorem tok_bd (tp : Nat → Int32) (fr : Nat) (lt : Bool) : ∀ (r i : Nat) (p : TokS), i ≤ (tok tp fr lt r i p).1 ∧ (tok tp fr lt r i p).1 ≤ i + r
  | 0, i, p => ⟨Nat.le_refl _, Nat.le_refl _⟩
  | r + 1, i, p => by
    have h := tok_bd tp fr lt r (i + 1) (tokStep tp fr lt i p)
    unfold tok
    split
    · omega
    · exact ⟨Nat.le_refl _, by show i ≤ _; omega⟩
def goI (u : MSt) : Nat := skp (u.2.2.2 1) (u.1 10 - u.1 11) (u.1 11)
def goT (u : MSt) : Nat × TokS := tok (u.2.2.2 1) (goI u) (let_ (u.2.2.2 1 (goI u))) (u.1 10 - goI u) (goI u) (true, 0, 0)
def goK (lt b : Bool) (n : Nat) : Int32 := if b = false then 1 else if lt = true then 2 else if n ≤ 5 then 3 else 1
def goW (u : MSt) : MSt := (up (up (up u.1 11 (goI u)) 12 (goI u)) 11 (goT u).1, up (up u.2.1 14 (goT u).2.2.2) 13 (goK (let_ (u.2.2.2 1 (goI u))) (goT u).2.1 ((goT u).1 - goI u)), if (goT u).1 - goI u ≤ 10 then (goT u).2.2.1 else -1, u.2.2.2)
def goB (u : MSt) : MSt := if goI u < u.1 10 then (if let_ (u.2.2.2 1 (goI u)) = true then goW u else if dig (u.2.2.2 1 (goI u)) = true then goW u else (up (up (up u.1 11 (goI u)) 12 (goI u)) 11 (goI u + 1), up u.2.1 13 (if u.2.2.2 1 (goI u) = 59 then 4 else 1), u.2.2.1, u.2.2.2)) else (up (up u.1 11 (goI u)) 12 (goI u), up u.2.1 13 0, u.2.2.1, u.2.2.2)
def mGo (u : MSt) : MSt := if u.1 10 ≤ 300 then goB u else if goI u < 300 then goB u else (up (up u.1 11 (goI u)) 12 300, up u.2.1 13 1, u.2.2.1, u.2.2.2)
def mBad (x : Int32) (u : MSt) : Int32 × MSt := (0, (up u.1 9 (u.1 12), up u.2.1 8 (if u.2.1 13 = 1 then 1 else x), u.2.2.1, u.2.2.2))
theorem isLD0 : isLD 0 = false := by decide
theorem let0 : let_ 0 = false := by decide
theorem dig0 : dig 0 = false := by decide
