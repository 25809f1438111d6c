/-! ===== plain facts of loops ===== -/
theorem lp_inv {σ : Type} {f : Nat → σ → σ} {I : σ → Prop} : ∀ (r i : Nat) (s : σ), (∀ j t, i ≤ j → j < i + r → I t → I (f j t)) → I s → I (lp f r i s)
  | 0, _, _, _, h => h
  | r + 1, i, s, hf, h => lp_inv r (i + 1) (f i s) (fun j t h1 h2 h3 => hf j t (by omega) (by omega) h3) (hf i s (Nat.le_refl _) (by omega) h)
/-- how many of n are -1 -/
def cnt (f : Nat → Int32) : Nat → Nat
  | 0 => 0
  | n + 1 => cnt f n + if f n = -1 then 1 else 0
theorem cnt_le (f : Nat → Int32) : ∀ n, cnt f n ≤ n
  | 0 => Nat.le_refl _
  | n + 1 => by
    have := cnt_le f n
    unfold cnt
    split <;> omega
theorem cnt_same {f : Nat → Int32} {j : Nat} {x : Int32} : ∀ {n : Nat}, n ≤ j → cnt (upd f j x) n = cnt f n
  | 0, _ => rfl
  | n + 1, h => by
    unfold cnt
    rw [cnt_same (n := n) (by omega), upd_ne f x (by omega)]
theorem cnt_upd {f : Nat → Int32} {j : Nat} {x : Int32} (hj : f j = -1) (hx : x ≠ -1) : ∀ {n : Nat}, j < n → cnt (upd f j x) n + 1 = cnt f n
  | 0, h => absurd h (Nat.not_lt_zero _)
  | n + 1, h => by
    unfold cnt
    by_cases e : j = n
    · subst e
      rw [cnt_same (Nat.le_refl _), upd_eq, if_neg hx, if_pos hj]
    · rw [upd_ne f x (fun z => e z.symm), ← cnt_upd hj hx (n := n) (by omega)]
      omega
/-- the sureties one step further than d -/
def fStepI (sur : Nat → Int32) (d : Int32) (k : Nat) (i : Nat) (p : (Nat → Int32) × Bool) : (Nat → Int32) × Bool := if p.1 (sur (3 * k + i)).toNatClampNeg = -1 then (upd p.1 (sur (3 * k + i)).toNatClampNeg (d + 1), true) else p
def fStepO (who st sur : Nat → Int32) (sn : Nat → Nat) (d : Int32) (k : Nat) (p : (Nat → Int32) × Bool) : (Nat → Int32) × Bool := if st k = 0 then (if p.1 (who k).toNatClampNeg = d then lp (fStepI sur d k) (sn k) 0 p else p) else p
def fSteps (who st sur : Nat → Int32) (sn : Nat → Nat) (n : Nat) (d : Int32) (f : Nat → Int32) : (Nat → Int32) × Bool := lp (fStepO who st sur sn d) n 0 (f, false)
def fSpread (who st sur : Nat → Int32) (sn : Nat → Nat) (n : Nat) : Nat → Nat → (Nat → Int32) → (Nat → Int32)
  | 0, _, f => f
  | r + 1, d, f => if (fSteps who st sur sn n (nI d) f).2 = false then (fSteps who st sur sn n (nI d) f).1 else fSpread who st sur sn n r (d + 1) (fSteps who st sur sn n (nI d) f).1
theorem fSteps_cnt {N : Nat} (hN : N < 2 ^ 31) {who st sur : Nat → Int32} {sn : Nat → Nat} {n : Nat} {d : Int32} {f : Nat → Int32} (hd : d + 1 ≠ -1) (hs : ∀ k i, k < n → i < sn k → isIn (sur (3 * k + i)) N = true) : cnt (fSteps who st sur sn n d f).1 N ≤ cnt f N ∧ ((fSteps who st sur sn n d f).2 = true → cnt (fSteps who st sur sn n d f).1 N < cnt f N) := by
  unfold fSteps
  refine lp_inv (I := fun p => cnt p.1 N ≤ cnt f N ∧ (p.2 = true → cnt p.1 N < cnt f N)) n 0 (f, false) ?_ ⟨Nat.le_refl _, fun h => by cases h⟩
  intro k p _ hk hp
  unfold fStepO
  split
  · split
    · refine lp_inv (I := fun p => cnt p.1 N ≤ cnt f N ∧ (p.2 = true → cnt p.1 N < cnt f N)) (sn k) 0 p ?_ hp
      intro i t _ hi ht
      unfold fStepI
      split
      · rename_i h1
        have h2 := cnt_upd (f := t.1) (x := d + 1) h1 hd (isIn_spec (hs k i (by omega) (by omega)) hN).2
        have h3 := ht.1
        exact ⟨by show cnt (upd t.1 _ _) N ≤ _; omega, fun _ => by show cnt (upd t.1 _ _) N < _; omega⟩
      · exact ht
    · exact hp
  · exact hp
theorem nI_nem1 {d : Nat} (h : d + 1 < 2 ^ 31) : nI d + 1 ≠ -1 := by
  rw [nI_1]
  intro e
  have h1 : (nI (d + 1)).toInt = (-1 : Int32).toInt := congrArg Int32.toInt e
  rw [nI_toInt h] at h1
  have h2 : (-1 : Int32).toInt = -1 := by decide
  omega
def fSeed (sur : Nat → Int32) (j n : Nat) (f : Nat → Int32) : Nat → Int32 := lp (fun i f => upd f (sur (3 * j + i)).toNatClampNeg 1) n 0 f
/-- the fund that has it back as number i -/
def fI (i : Nat) : Nat := if i = 0 then 0 else 6 - i
theorem fI_lt {i : Nat} : fI i < 6 := by unfold fI; split <;> omega
def cbStep (tk : Nat → Int32) (z : Nat) (fr to : Int32) (i : Nat) (p : (Nat → Int32) × Int32) : (Nat → Int32) × Int32 :=
  (if (if p.2 + tk (6 * z + fI i) ≤ to then p.2 + tk (6 * z + fI i) else to) ≤ (if fr ≤ p.2 then p.2 else fr) then p.1 else upd p.1 (fI i) (p.1 (fI i) + ((if p.2 + tk (6 * z + fI i) ≤ to then p.2 + tk (6 * z + fI i) else to) - (if fr ≤ p.2 then p.2 else fr))), p.2 + tk (6 * z + fI i))
def fBack (tk : Nat → Int32) (z : Nat) (fr to : Int32) (f : Nat → Int32) : Nat → Int32 := (lp (cbStep tk z fr to) 6 0 (f, 0)).1
/-- part i of a REST y among n -/
def lateV (n : Nat) (y : Int32) (i : Nat) : Int32 := y / nI n + (if y - y / nI n * nI n ≤ nI i then 0 else 1)
def lateStep (sur : Nat → Int32) (z n : Nat) (y : Int32) (i : Nat) (p : Nat × (Nat → Int32) × (Nat → Int32) × (Nat → Int32)) : Nat × (Nat → Int32) × (Nat → Int32) × (Nat → Int32) :=
  if lateV n y i = 0 then p else (p.1 + 1, upd p.2.1 p.1 (sur (3 * z + i)), upd p.2.2.1 p.1 (nI z), upd p.2.2.2 p.1 (lateV n y i))
theorem lateStep_le {sur : Nat → Int32} {z n : Nat} {y : Int32} : ∀ (r i : Nat) (p : Nat × (Nat → Int32) × (Nat → Int32) × (Nat → Int32)), (lp (lateStep sur z n y) r i p).1 ≤ p.1 + r
  | 0, _, _ => Nat.le_refl _
  | r + 1, i, p => by
    have h := lateStep_le r (i + 1) (lateStep sur z n y i p) (sur := sur) (z := z) (n := n) (y := y)
    have h2 : (lateStep sur z n y i p).1 ≤ p.1 + 1 := by
      unfold lateStep
      split
      · omega
      · exact Nat.le_refl _
    show (lp (lateStep sur z n y) r (i + 1) (lateStep sur z n y i p)).1 ≤ _
    omega
/-- how many of n are 2 -/
def ncl (f : Nat → Int32) : Nat → Nat
  | 0 => 0
  | n + 1 => ncl f n + if f n = 2 then 1 else 0
theorem ncl_le (f : Nat → Int32) : ∀ n, ncl f n ≤ n
  | 0 => Nat.le_refl _
  | n + 1 => by
    have := ncl_le f n
    unfold ncl
    split <;> omega
theorem ncl_lt {f : Nat → Int32} {i : Nat} (h : ¬ f i = 2) : ∀ {n : Nat}, i < n → ncl f n + 1 ≤ n
  | 0, hi => absurd hi (Nat.not_lt_zero _)
  | n + 1, hi => by
    unfold ncl
    by_cases e : i = n
    · subst e
      rw [if_neg h]
      have := ncl_le f i
      omega
    · have := ncl_lt h (n := n) (by omega)
      split <;> omega
theorem ncl_same {f : Nat → Int32} {j : Nat} {x : Int32} : ∀ {n : Nat}, n ≤ j → ncl (upd f j x) n = ncl f n
  | 0, _ => rfl
  | n + 1, h => by
    unfold ncl
    rw [ncl_same (n := n) (by omega), upd_ne f x (by omega)]
theorem ncl_upd {f : Nat → Int32} {j : Nat} (hj : ¬ f j = 2) : ∀ {n : Nat}, j < n → ncl (upd f j 2) n = ncl f n + 1
  | 0, h => absurd h (Nat.not_lt_zero _)
  | n + 1, h => by
    unfold ncl
    by_cases e : j = n
    · subst e
      rw [ncl_same (Nat.le_refl _), upd_eq, if_neg hj, if_pos rfl]
    · rw [upd_ne f 2 (fun z => e z.symm), ncl_upd hj (n := n) (by omega)]
      omega
theorem ncl_other {f : Nat → Int32} {j : Nat} {x : Int32} (hj : ¬ f j = 2) (hx : ¬ x = 2) : ∀ {n : Nat}, ncl (upd f j x) n = ncl f n
  | 0 => rfl
  | n + 1 => by
    unfold ncl
    rw [ncl_other hj hx (n := n)]
    by_cases e : j = n
    · subst e
      rw [upd_eq, if_neg hj, if_neg hx]
    · rw [upd_ne f x (fun z => e z.symm)]
def fBook (w nf : Nat) (pence book : Nat → Int32) : Nat → Int32 := lp (fun f b => upd b (6 * w + f) (if nf ≤ f then -1 else pence f)) 6 0 book
