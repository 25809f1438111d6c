/-! ===== ask ===== -/
def whyFar (x y : Int32) (t : Nat) (sn : Nat → Nat) (u : MSt) : Nat → Int32 := (mWhy x y t sn u).2.2.2.2 47
/-- what holds where nothing stands against a LOAN -/
def WhyOk (x y : Int32) (t : Nat) (sn : Nat → Nat) (u : MSt) : Prop := isIn x (u.1 21) = true ∧ ¬ y < 1 ∧ ¬ u.2.2.2 3 0 < y ∧ ¬ u.1 42 = 100 ∧ oI (fOpen (u.2.2.2 26) (u.2.2.2 37) x (u.1 42)) = -1 ∧ nI t = u.2.2.2 3 2 ∧ fBad6 (u.2.2.2 1) (u.1 21) x t = false ∧ y ≤ fHas x u
theorem mWhy_all (x y : Int32) (t : Nat) (sn : Nat → Nat) (u : MSt) : (mWhy x y t sn u).2 = (u.1, u.2.1, u.2.2.1, up u.2.2.2 47 (whyFar x y t sn u)) ∧ ((mWhy x y t sn u).1 ≤ 0 → (mWhy x y t sn u).1 = 0 ∧ WhyOk x y t sn u) := by
  obtain ⟨c, v, nm, a⟩ := u
  have hsame : ∀ n : Int32, mWhy x y t sn (c, v, nm, a) = (n, (c, v, nm, a)) → ¬ n ≤ 0 → (mWhy x y t sn (c, v, nm, a)).2 = (c, v, nm, up a 47 (whyFar x y t sn (c, v, nm, a))) ∧ ((mWhy x y t sn (c, v, nm, a)).1 ≤ 0 → (mWhy x y t sn (c, v, nm, a)).1 = 0 ∧ WhyOk x y t sn (c, v, nm, a)) := by
    intro n e hn
    refine ⟨?_, fun h => absurd (by rw [e] at h; exact h) hn⟩
    unfold whyFar
    rw [e]
    show (c, v, nm, a) = (c, v, nm, up a 47 (a 47))
    rw [up_same]
  have hfar : ∀ n : Int32, mWhy x y t sn (c, v, nm, a) = (n, whyS t sn (c, v, nm, a)) → (n ≤ 0 → n = 0 ∧ WhyOk x y t sn (c, v, nm, a)) → (mWhy x y t sn (c, v, nm, a)).2 = (c, v, nm, up a 47 (whyFar x y t sn (c, v, nm, a))) ∧ ((mWhy x y t sn (c, v, nm, a)).1 ≤ 0 → (mWhy x y t sn (c, v, nm, a)).1 = 0 ∧ WhyOk x y t sn (c, v, nm, a)) := by
    intro n e hn
    refine ⟨?_, fun h => ?_⟩
    · unfold whyFar
      rw [e]
      show (c, v, nm, up a 47 (whyG t sn (c, v, nm, a))) = (c, v, nm, up a 47 (up a 47 (whyG t sn (c, v, nm, a)) 47))
      rw [up_eq]
    · rw [e] at h ⊢
      exact hn h
  by_cases h1 : isIn x (c 21) = true
  case neg => exact hsame 1 (by rw [mWhy, if_neg h1]) (by decide)
  by_cases h2 : y < 1
  case pos => exact hsame 2 (by rw [mWhy, if_pos h1, if_pos h2]) (by decide)
  by_cases h3 : a 3 0 < y
  case pos => exact hsame 2 (by rw [mWhy, if_pos h1, if_neg h2, if_pos h3]) (by decide)
  by_cases h4 : c 42 = 100
  case pos => exact hsame 2 (by rw [mWhy, if_pos h1, if_neg h2, if_neg h3, if_pos h4]) (by decide)
  by_cases h5 : oI (fOpen (a 26) (a 37) x (c 42)) = -1
  case neg => exact hsame 3 (by rw [mWhy, if_pos h1, if_neg h2, if_neg h3, if_neg h4, if_neg h5]) (by decide)
  by_cases h6 : fBarred (a 43) (a 45) (a 26) (a 37) (a 3 8) x (c 46) (c 42) = false
  case neg => exact hsame 4 (by rw [mWhy, if_pos h1, if_neg h2, if_neg h3, if_neg h4, if_pos h5, if_neg h6]) (by decide)
  by_cases h7 : nI t = a 3 2
  case neg => exact hsame 5 (by rw [mWhy, if_pos h1, if_neg h2, if_neg h3, if_neg h4, if_pos h5, if_pos h6, if_neg h7]) (by decide)
  have e6 : mWhy x y t sn (c, v, nm, a) = why6 x y t sn (c, v, nm, a) := by rw [mWhy, if_pos h1, if_neg h2, if_neg h3, if_neg h4, if_pos h5, if_pos h6, if_pos h7]
  by_cases h8 : fBad6 (a 1) (c 21) x t = true
  case pos => exact hsame 6 (by rw [e6, why6, if_pos h8]) (by decide)
  by_cases h9 : fBad7 t (c, v, nm, a) = true
  case pos => exact hsame 7 (by rw [e6, why6, if_neg h8, why7, if_pos h9]) (by decide)
  by_cases h10 : fBad8 t sn (c, v, nm, a) = true
  case pos => exact hsame 8 (by rw [e6, why6, if_neg h8, why7, if_neg h9, why8, if_pos h10]) (by decide)
  have e9 : mWhy x y t sn (c, v, nm, a) = why9 x y t sn (c, v, nm, a) := by rw [e6, why6, if_neg h8, why7, if_neg h9, why8, if_neg h10]
  have ok10 : mWhy x y t sn (c, v, nm, a) = why10 x y t sn (c, v, nm, a) → (mWhy x y t sn (c, v, nm, a)).2 = (c, v, nm, up a 47 (whyFar x y t sn (c, v, nm, a))) ∧ ((mWhy x y t sn (c, v, nm, a)).1 ≤ 0 → (mWhy x y t sn (c, v, nm, a)).1 = 0 ∧ WhyOk x y t sn (c, v, nm, a)) := by
    intro e10
    by_cases h13 : y ≤ fHas x (c, v, nm, a)
    · exact hfar 0 (by rw [e10, why10, if_pos h13]) (fun _ => ⟨rfl, h1, h2, h3, h4, h5, h7, by simpa using h8, h13⟩)
    · exact hfar 10 (by rw [e10, why10, if_neg h13]) (fun z => absurd z (by decide))
  by_cases h11 : whyG t sn (c, v, nm, a) x.toNatClampNeg = -1
  case pos => exact ok10 (by rw [e9, why9, if_pos h11])
  by_cases h12 : a 3 7 < whyG t sn (c, v, nm, a) x.toNatClampNeg
  case pos => exact ok10 (by rw [e9, why9, if_neg h11, if_pos h12])
  exact hfar 9 (by rw [e9, why9, if_neg h11, if_neg h12]) (fun z => absurd z (by decide))
def askStep (tg : Int32) (ft : Nat → Int32) (k : Nat) (f : Nat) (p : Int32 × (Nat → Int32) × (Nat → Int32)) : Int32 × (Nat → Int32) × (Nat → Int32) :=
  if (tg >>> (ft f &&& 31)) &&& 1 = 0 then p else (p.1 - (if p.2.2 f ≤ p.1 then p.2.2 f else p.1), upd p.2.1 (6 * k + f) (if p.2.2 f ≤ p.1 then p.2.2 f else p.1), upd p.2.2 f (p.2.2 f - (if p.2.2 f ≤ p.1 then p.2.2 f else p.1)))
def askSur (k t : Nat) (tp f : Nat → Int32) : Nat → Int32 := lp (fun i f => upd f (3 * k + i) (tp i)) t 0 f
def askP (x y : Int32) (u : MSt) : Int32 × (Nat → Int32) × (Nat → Int32) := lp (askStep (u.2.2.2 17 x.toNatClampNeg) (u.2.2.2 18) (u.1 42)) (u.1 22 - 1) 1 (y, u.2.2.2 41, u.2.2.2 19)
/-- the state that ask looks at: an empty tape, nothing thrown -/
def mAsk0 (u : MSt) : MSt := (up u.1 2 0, up u.2.1 0 0, u.2.2.1, u.2.2.2)
def askA (x y : Int32) (t : Nat) (sn : Nat → Nat) (u : MSt) : Nat → Nat → Int32 :=
  up (up (up (up (up (up (up (up (up (up (up (up (up u.2.2.2 47 (whyFar x y t sn (mAsk0 u))) 26 (upd (u.2.2.2 26) (u.1 42) x)) 27 (upd (u.2.2.2 27) (u.1 42) y)) 28 (upd (u.2.2.2 28) (u.1 42) (nI (u.1 23)))) 29 (upd (u.2.2.2 29) (u.1 42) (u.2.2.2 3 1))) 30 (upd (u.2.2.2 30) (u.1 42) (u.2.2.2 3 4))) 31 (upd (u.2.2.2 31) (u.1 42) (u.2.2.2 3 5))) 39 (upd (u.2.2.2 39) (u.1 42) (nI t))) 40 (askSur (u.1 42) t (u.2.2.2 1) (u.2.2.2 40))) 41 (askP x y u).2.1) 19 (askP x y u).2.2) 41 (upd (askP x y u).2.1 (6 * u.1 42) (askP x y u).1)) 19 (upd (askP x y u).2.2 0 ((askP x y u).2.2 0 - (askP x y u).1))
def mAsk (x y : Int32) (sn : Nat → Nat) (u : MSt) : Int32 × MSt := if (mWhy x y (u.1 2) sn (mAsk0 u)).1 ≤ 0 then (nI (u.1 42), (up (up u.1 2 0) 42 (u.1 42 + 1), up u.2.1 0 0, u.2.2.1, askA x y (u.1 2) sn u)) else (-1 - (mWhy x y (u.1 2) sn (mAsk0 u)).1, ((up u.1 2 0), up u.2.1 0 0, u.2.2.1, up u.2.2.2 47 (whyFar x y (u.1 2) sn (mAsk0 u))))
