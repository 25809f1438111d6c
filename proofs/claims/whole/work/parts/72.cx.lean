/-! ===== the chest: all its cells; its state: (people, week, tags), rules, reader, tape, funds, ledger ===== -/
abbrev GSt : Type := Nat × (Nat → Int64) × (Nat → Nat) × (Nat → Nat → Nat → Int32) × EWS
abbrev CSt : Type := (Nat × Nat × (Nat → Int32)) × (Nat → Int32) × RSt × (Nat × (Nat → Int32)) × FSt × GSt
def bX (k : Nat → ClassId) (dz : Nat) (q : Nat → Nat → Nat) (d1 d2 : Int32) (u : CSt) : va_W :=
  [(q 6 0, .inr (8, [.ref (q 7 0), .ref (q 8 0), .ref (q 9 0), .ref (q 10 0), .ref (q 5 0), .ref (q 6 1), .int (nI u.1.1), .int (nI u.1.2.1)])), (q 6 1, .inl (k 0, 40, .inl u.1.2.2))] ++ (bV (q 9) k u.2.1 ++ (bR (q 8) k u.2.2.1 ++ (bT (q 7) k u.2.2.2.1 ++ (bF (q 10) k u.2.2.2.2.1 ++ bG k dz q u.2.2.2.2.2.1 u.2.2.2.2.2.2.1 u.2.2.2.2.2.2.2.1 u.2.2.2.2.2.2.2.2.1 u.2.2.2.2.2.2.2.2.2.1 u.2.2.2.2.2.2.2.2.2.2.1 u.2.2.2.2.2.2.2.2.2.2.2.1 u.2.2.2.2.2.2.2.2.2.2.2.2.1 u.2.2.2.2.2.2.2.2.2.2.2.2.2 d1 d2))))
def sP (p : Nat × Nat × (Nat → Int32)) (u : CSt) : CSt := (p, u.2)
def sV (f : Nat → Int32) (u : CSt) : CSt := (u.1, f, u.2.2)
def sRd (r : RSt) (u : CSt) : CSt := (u.1, u.2.1, r, u.2.2.2)
def sT (t : Nat × (Nat → Int32)) (u : CSt) : CSt := (u.1, u.2.1, u.2.2.1, t, u.2.2.2.2)
def sF (f : FSt) (u : CSt) : CSt := (u.1, u.2.1, u.2.2.1, u.2.2.2.1, f, u.2.2.2.2.2)
def sG (g : GSt) (u : CSt) : CSt := (u.1, u.2.1, u.2.2.1, u.2.2.2.1, u.2.2.2.2.1, g)
abbrev CSt.np (u : CSt) : Nat := u.1.1
abbrev CSt.wk (u : CSt) : Nat := u.1.2.1
abbrev CSt.ft (u : CSt) : Nat → Int32 := u.1.2.2
abbrev CSt.V (u : CSt) : Nat → Int32 := u.2.1
abbrev CSt.R (u : CSt) : RSt := u.2.2.1
abbrev CSt.T (u : CSt) : Nat × (Nat → Int32) := u.2.2.2.1
abbrev CSt.F (u : CSt) : FSt := u.2.2.2.2.1
abbrev CSt.n (u : CSt) : Nat := u.2.2.2.2.2.1
abbrev CSt.gt (u : CSt) : Nat → Int64 := u.2.2.2.2.2.2.1
abbrev CSt.gn (u : CSt) : Nat → Nat := u.2.2.2.2.2.2.2.1
abbrev CSt.gr (u : CSt) : Nat → Nat → Nat → Int32 := u.2.2.2.2.2.2.2.2.1
abbrev CSt.E (u : CSt) : EWS := u.2.2.2.2.2.2.2.2.2
abbrev CSt.ga (u : CSt) : Nat → Nat → Int32 := u.2.2.2.2.2.2.2.2.2.1
abbrev CSt.lost (u : CSt) : Int32 := u.2.2.2.2.2.2.2.2.2.2.1
abbrev CSt.mm (u : CSt) : Nat := u.2.2.2.2.2.2.2.2.2.2.2.1
abbrev CSt.gc (u : CSt) : Nat → Nat → Int32 := u.2.2.2.2.2.2.2.2.2.2.2.2.1
abbrev CSt.gl (u : CSt) : Nat → Nat := u.2.2.2.2.2.2.2.2.2.2.2.2.2
theorem tCut_nar (x : Int32) (u : Nat × (Nat → Int32)) : narrow .boolean (.int (tCut x u).1) = .int (tCut x u).1 := by
  unfold tCut
  split
  · exact bI_nar false
  · split
    · exact bI_nar true
    · exact bI_nar false
