/-! ===== one PAYS: call by call, then the OPEN LOAN ===== -/
theorem lp_fix {σ : Type} {f : Nat → σ → σ} {s : σ} (h : ∀ j, f j s = s) : ∀ (r i : Nat), lp f r i s = s
  | 0, _ => rfl
  | r + 1, i => by
    show lp f r (i + 1) (f i s) = s
    rw [h i]
    exact lp_fix h r (i + 1)
abbrev PayS : Type := Int32 × (Nat → Int32) × (Nat → Int32) × (Nat → Int32)
def payX (i : Nat) (p : PayS) : Int32 := if p.2.1 i ≤ p.1 then p.2.1 i else p.1
def payO (am : Nat → Int32) (z i : Nat) (p : PayS) : Int32 := if payX i p ≤ am z - p.2.2.1 z then payX i p else am z - p.2.2.1 z
def payDo (am tk : Nat → Int32) (z i : Nat) (p : PayS) : PayS :=
  (p.1 - payX i p, upd p.2.1 i (p.2.1 i - payX i p), upd p.2.2.1 z (p.2.2.1 z + payO am z i p), upd (fBack tk z (p.2.2.1 z) (p.2.2.1 z + payO am z i p) p.2.2.2) 0 (fBack tk z (p.2.2.1 z) (p.2.2.1 z + payO am z i p) p.2.2.2 0 + (payX i p - payO am z i p)))
def payStep (cwho ln am tk : Nat → Int32) (x : Int32) (i : Nat) (p : PayS) : PayS := if p.1 ≤ 0 then p else if cwho i = x then payDo am tk (ln i).toNatClampNeg i p else p
def payQ (k : Nat) (w : Int32) (u : MSt) : Int32 := if u.2.2.2 33 k - u.2.2.2 34 k ≤ w then u.2.2.2 33 k - u.2.2.2 34 k else w
def payA (k : Nat) (p : PayS) (u : MSt) : Nat → Nat → Int32 := up (up (up (up (up (up (up (up u.2.2.2 45 p.2.1) 38 p.2.2.1) 19 p.2.2.2) 34 (upd (u.2.2.2 34) k (u.2.2.2 34 k + payQ k p.1 u))) 19 (upd p.2.2.2 0 (p.2.2.2 0 + payQ k p.1 u))) 32 (upd (u.2.2.2 32) k (u.2.2.2 32 k + (p.1 - payQ k p.1 u)))) 38 (upd p.2.2.1 k (p.2.2.1 k + (p.1 - payQ k p.1 u)))) 19 (fBack (u.2.2.2 41) k (p.2.2.1 k) (p.2.2.1 k + (p.1 - payQ k p.1 u)) (upd p.2.2.2 0 (p.2.2.2 0 + payQ k p.1 u)))
def mPayTail (x : Int32) (u : MSt) (p : PayS) : Int32 × MSt := match fOpen (u.2.2.2 26) (u.2.2.2 37) x (u.1 42) with
  | none => (1, (u.1, u.2.1, u.2.2.1, up (up (up u.2.2.2 45 p.2.1) 38 p.2.2.1) 19 p.2.2.2))
  | some k => (1, (u.1, u.2.1, u.2.2.1, if u.2.2.2 32 k + (p.1 - payQ k p.1 u) = u.2.2.2 27 k then (if u.2.2.2 34 k + payQ k p.1 u = u.2.2.2 33 k then up (payA k p u) 37 (upd (u.2.2.2 37) k 1) else payA k p u) else payA k p u))
def mPayP (x y : Int32) (u : MSt) : PayS := lp (payStep (u.2.2.2 43) (u.2.2.2 44) (u.2.2.2 27) (u.2.2.2 41) x) (u.1 46) 0 (y, u.2.2.2 45, u.2.2.2 38, u.2.2.2 19)
def mPay (x y : Int32) (u : MSt) : Int32 × MSt := if isIn x (u.1 21) = false then (0, mT0 u) else if y < 1 then (0, mT0 u) else if y ≤ fOwed x (mT0 u) then mPayTail x (mT0 u) (mPayP x y u) else (0, mT0 u)
