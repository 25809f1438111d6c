/-! ===== why a LOAN is REFUSED ===== -/
def fBad6 (tp : Nat → Int32) (np : Nat) (x : Int32) (t : Nat) : Bool := (fnd (fun i => !isIn (tp i) np || decide (tp i = x) || fTwice tp i) t 0).isSome
def fBad7 (t : Nat) (u : MSt) : Bool := (fnd (fun i => fBarred (u.2.2.2 43) (u.2.2.2 45) (u.2.2.2 26) (u.2.2.2 37) (u.2.2.2 3 8) (u.2.2.2 1 i) (u.1 46) (u.1 42)) t 0).isSome
def fBad8 (t : Nat) (sn : Nat → Nat) (u : MSt) : Bool := (fnd (fun i => !decide (fStands (u.2.2.2 37) (u.2.2.2 40) sn (u.2.2.2 1 i) (u.1 42) < u.2.2.2 3 3)) t 0).isSome
def fSeedT (tp : Nat → Int32) (t : Nat) (f : Nat → Int32) : Nat → Int32 := lp (fun i f => upd f (tp i).toNatClampNeg 1) t 0 f
def fHas0 (u : MSt) : Int32 := if u.2.2.2 19 0 ≤ u.2.2.2 3 6 then 0 else u.2.2.2 19 0 - u.2.2.2 3 6
def hasStep (tg : Int32) (ft pe : Nat → Int32) (f : Nat) (s : Int32) : Int32 := if (tg >>> (ft f &&& 31)) &&& 1 = 1 then s + pe f else s
def fHas (x : Int32) (u : MSt) : Int32 := lp (hasStep (u.2.2.2 17 x.toNatClampNeg) (u.2.2.2 18) (u.2.2.2 19)) (u.1 22 - 1) 1 (fHas0 u)
def whyG (t : Nat) (sn : Nat → Nat) (u : MSt) : Nat → Int32 := fSpread (u.2.2.2 26) (u.2.2.2 37) (u.2.2.2 40) sn (u.1 42) 41 1 (fSeedT (u.2.2.2 1) t (fClear (u.2.2.2 47)))
def whyS (t : Nat) (sn : Nat → Nat) (u : MSt) : MSt := (u.1, u.2.1, u.2.2.1, up u.2.2.2 47 (whyG t sn u))
def why10 (x y : Int32) (t : Nat) (sn : Nat → Nat) (u : MSt) : Int32 × MSt := (if y ≤ fHas x u then 0 else 10, whyS t sn u)
def why9 (x y : Int32) (t : Nat) (sn : Nat → Nat) (u : MSt) : Int32 × MSt := if whyG t sn u x.toNatClampNeg = -1 then why10 x y t sn u else if u.2.2.2 3 7 < whyG t sn u x.toNatClampNeg then why10 x y t sn u else (9, whyS t sn u)
def why8 (x y : Int32) (t : Nat) (sn : Nat → Nat) (u : MSt) : Int32 × MSt := if fBad8 t sn u = true then (8, u) else why9 x y t sn u
def why7 (x y : Int32) (t : Nat) (sn : Nat → Nat) (u : MSt) : Int32 × MSt := if fBad7 t u = true then (7, u) else why8 x y t sn u
def why6 (x y : Int32) (t : Nat) (sn : Nat → Nat) (u : MSt) : Int32 × MSt := if fBad6 (u.2.2.2 1) (u.1 21) x t = true then (6, u) else why7 x y t sn u
def mWhy (x y : Int32) (t : Nat) (sn : Nat → Nat) (u : MSt) : Int32 × MSt :=
  if isIn x (u.1 21) = true then (if y < 1 then (2, u) else if u.2.2.2 3 0 < y then (2, u) else if u.1 42 = 100 then (2, u) else
    if oI (fOpen (u.2.2.2 26) (u.2.2.2 37) x (u.1 42)) = -1 then (if fBarred (u.2.2.2 43) (u.2.2.2 45) (u.2.2.2 26) (u.2.2.2 37) (u.2.2.2 3 8) x (u.1 46) (u.1 42) = false then (if nI t = u.2.2.2 3 2 then why6 x y t sn u else (5, u)) else (4, u)) else (3, u)) else (1, u)
