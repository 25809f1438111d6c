/-! ===== why a LOAN is REFUSED: alike ===== -/
theorem oth_iff {np : Nat} {f : Nat → Int32} (hnp : np ≤ 40) : ∀ (r i : Nat) (z : Int64), cOthS np f r i z = true ↔ ∀ j, i ≤ j → j < i + r → isIn (f j) np = true ∧ bL z (f j).toNatClampNeg = false ∧ ∀ k, i ≤ k → k < j → ¬ f k = f j
  | 0, i, z => by
    constructor
    · intro _ j h1 h2; omega
    · intro _; rfl
  | r + 1, i, z => by
    rw [cOthS]
    by_cases c : isIn (f i) np = true
    · rw [if_neg (ntf c)]
      obtain ⟨ei, hi⟩ := isIn_spec c (by omega)
      have hb := and_bit (x := z) (k := (f i).toNatClampNeg) (by omega)
      rw [← ei] at hb
      by_cases c2 : z &&& cBit (f i) = 0
      · rw [if_pos c2, oth_iff hnp r (i + 1) (z ||| cBit (f i))]
        have key : ∀ j, isIn (f j) np = true → (bL (z ||| cBit (f i)) (f j).toNatClampNeg = false ↔ bL z (f j).toNatClampNeg = false ∧ ¬ f i = f j) := by
          intro j hj
          obtain ⟨ej, hjl⟩ := isIn_spec hj (by omega)
          have e1 : bL (cBit (f i)) (f j).toNatClampNeg = decide ((f j).toNatClampNeg = (f i).toNatClampNeg) := by
            have e0 := cBit_k (f i).toNatClampNeg (by omega) (f j).toNatClampNeg (by omega)
            rw [← ei] at e0
            exact e0
          rw [bL_or, e1, Bool.or_eq_false_iff, decide_eq_false_iff_not]
          constructor
          · intro ⟨a1, a2⟩
            exact ⟨a1, fun z9 => a2 (by rw [z9])⟩
          · intro ⟨a1, a2⟩
            exact ⟨a1, fun z9 => a2 (by rw [ei, ej, z9])⟩
        constructor
        · intro h j h1 h2
          by_cases e : j = i
          · subst e
            exact ⟨c, hb.mp c2, fun k h3 h4 => by omega⟩
          · obtain ⟨b1, b2, b3⟩ := h j (by omega) (by omega)
            obtain ⟨b4, b5⟩ := (key j b1).mp b2
            refine ⟨b1, b4, fun k h3 h4 => ?_⟩
            by_cases e2 : k = i
            · rw [e2]; exact b5
            · exact b3 k (by omega) h4
        · intro h j h1 h2
          obtain ⟨b1, b2, b3⟩ := h j (by omega) (by omega)
          exact ⟨b1, (key j b1).mpr ⟨b2, b3 i (Nat.le_refl _) (by omega)⟩, fun k h3 h4 => b3 k (by omega) h4⟩
      · rw [if_neg c2]
        constructor
        · intro h; cases h
        · intro h
          exact absurd (hb.mpr (h i (Nat.le_refl _) (by omega)).2.1) c2
    · rw [if_pos (by simpa using c)]
      constructor
      · intro h; cases h
      · intro h
        exact absurd (h i (Nat.le_refl _) (by omega)).1 c
theorem others_iff {np : Nat} {f : Nat → Int32} (hnp : np ≤ 40) {n : Nat} {x : Int32} (hx : isIn x np = true) : cOthers np f n x = true ↔ ∀ j, j < n → isIn (f j) np = true ∧ ¬ f j = x ∧ ∀ k, k < j → ¬ f k = f j := by
  unfold cOthers
  rw [oth_iff hnp n 0 (cBit x)]
  obtain ⟨ex, hxl⟩ := isIn_spec hx (by omega)
  have key : ∀ j, isIn (f j) np = true → (bL (cBit x) (f j).toNatClampNeg = false ↔ ¬ f j = x) := by
    intro j hj
    obtain ⟨ej, hjl⟩ := isIn_spec hj (by omega)
    have e0 := cBit_k x.toNatClampNeg (by omega) (f j).toNatClampNeg (by omega)
    rw [← ex] at e0
    rw [e0, decide_eq_false_iff_not]
    constructor
    · intro a z9; exact a (by rw [z9])
    · intro a z9; exact a (by rw [ej, z9, ← ex])
  constructor
  · intro h j hj
    obtain ⟨b1, b2, b3⟩ := h j (Nat.zero_le _) (by omega)
    exact ⟨b1, (key j b1).mp b2, fun k hk => b3 k (Nat.zero_le _) hk⟩
  · intro h j _ hj
    obtain ⟨b1, b2, b3⟩ := h j (by omega)
    exact ⟨b1, (key j b1).mpr b2, fun k _ hk => b3 k hk⟩
theorem bad6_iff {np : Nat} {f : Nat → Int32} {n : Nat} {x : Int32} : fBad6 f np x n = false ↔ ∀ j, j < n → isIn (f j) np = true ∧ ¬ f j = x ∧ ∀ k, k < j → ¬ f k = f j := by
  have e0 : fBad6 f np x n = false ↔ fnd (fun i => !isIn (f i) np || decide (f i = x) || fTwice f i) n 0 = none := by
    unfold fBad6
    cases fnd (fun i => !isIn (f i) np || decide (f i = x) || fTwice f i) n 0 with
    | none => exact ⟨fun _ => rfl, fun _ => rfl⟩
    | some j => exact ⟨fun h => (by cases h), fun h => (by cases h)⟩
  have e1 : ∀ j, fTwice f j = false ↔ ∀ k, k < j → ¬ f k = f j := by
    intro j
    unfold fTwice
    cases q : fnd (fun k => decide (f k = f j)) j 0 with
    | none =>
      have := (fnd_none _ _).mp q
      exact ⟨fun _ k hk => by simpa using this k (Nat.zero_le _) (by omega), fun _ => rfl⟩
    | some i =>
      obtain ⟨_, b2, b3, _⟩ := (fnd_some _ _ _).mp q
      exact ⟨fun h => (by cases h), fun h => absurd (by simpa using b3) (h i (by omega))⟩
  rw [e0, fnd_none]
  constructor
  · intro h j hj
    have := h j (Nat.zero_le _) (by omega)
    rw [Bool.or_eq_false_iff, Bool.or_eq_false_iff, e1] at this
    obtain ⟨⟨b1, b2⟩, b3⟩ := this
    exact ⟨by simpa using b1, by simpa using b2, b3⟩
  · intro h j _ hj
    obtain ⟨b1, b2, b3⟩ := h j (by omega)
    rw [Bool.or_eq_false_iff, Bool.or_eq_false_iff, e1]
    exact ⟨⟨by rw [b1]; rfl, decide_eq_false b2⟩, b3⟩
theorem fnd_congr2 {P Q : Nat → Bool} : ∀ (r i : Nat), (∀ j, i ≤ j → j < i + r → P j = Q j) → fnd P r i = fnd Q r i
  | 0, _, _ => rfl
  | r + 1, i, h => by
    rw [fnd, fnd, h i (Nat.le_refl _) (by omega), fnd_congr2 r (i + 1) (fun j h1 h2 => h j (by omega) (by omega))]
theorem seedT_char (tp : Nat → Int32) (n : Nat) (f : Nat → Int32) (p : Nat) : ((∃ i, i < n ∧ (tp i).toNatClampNeg = p) → fSeedT tp n f p = 1) ∧ ((¬ ∃ i, i < n ∧ (tp i).toNatClampNeg = p) → fSeedT tp n f p = f p) := by
  unfold fSeedT
  have h := lp_ind (f := fun i f => upd f (tp i).toNatClampNeg 1) (fun m t => ((∃ i, i < m ∧ (tp i).toNatClampNeg = p) → t p = 1) ∧ ((¬ ∃ i, i < m ∧ (tp i).toNatClampNeg = p) → t p = f p)) n 0 f ?_ ?_
  · rw [Nat.zero_add] at h
    exact h
  · exact ⟨fun ⟨i, hi, _⟩ => by omega, fun _ => rfl⟩
  · intro m t _ hm ih
    by_cases e : p = (tp m).toNatClampNeg
    · show (_ → upd t (tp m).toNatClampNeg 1 p = 1) ∧ (_ → upd t (tp m).toNatClampNeg 1 p = f p)
      rw [← e, upd_eq]
      exact ⟨fun _ => rfl, fun hno => absurd ⟨m, by omega, e.symm⟩ hno⟩
    · show (_ → upd t (tp m).toNatClampNeg 1 p = 1) ∧ (_ → upd t (tp m).toNatClampNeg 1 p = f p)
      rw [upd_ne _ _ e]
      refine ⟨fun ⟨i, hi, h2⟩ => ih.1 ⟨i, ?_, h2⟩, fun hno => ih.2 (fun ⟨i, hi, h2⟩ => hno ⟨i, by omega, h2⟩)⟩
      have : i ≠ m := fun ee => e (by rw [← h2, ee])
      omega
section WHY
variable {N : Nat} {u : CSt} {v : MSt} {g : GH}
theorem Rel.keep (h : Rel N u v g) : ∃ K, K ≤ 99999 ∧ u.V 6 = nI K := by
  obtain ⟨a1, a2⟩ := h.2.1.2.1 6 (by decide)
  have c0 : ¬ u.V 6 < 0 := Int32.not_lt.mpr a1
  exact ⟨(u.V 6).toNatClampNeg, clamp_le (n := 99999) c0 a2 (by decide), nI_self c0⟩
/-- what a FUND adds to what one may have -/
def cN (tg : Int32) (ft : Nat → Int32) (pn : Nat → Nat) (f : Nat) : Nat := if f = 0 then 0 else if cIsFor tg ft f = false then 0 else pn f
theorem cN_le (tg : Int32) (ft : Nat → Int32) (pn : Nat → Nat) (f : Nat) : cN tg ft pn f ≤ pn f := by
  unfold cN
  split
  · omega
  · split <;> omega
theorem above_n {a K : Nat} (ha : a < 2 ^ 30) (hK : K < 2 ^ 30) : cAbove (nI a) (nI K) = nI (a - K) := by
  unfold cAbove
  by_cases c : K < a
  · rw [pk_sub (by omega), if_pos (show (0 : Int32) < nI (a - K) from nI_lt (a := 0) (by omega) (by omega))]
  · rw [show a - K = 0 by omega]
    by_cases c2 : a = K
    · subst c2
      rw [pk_sub (Nat.le_refl _), Nat.sub_self, if_neg (by decide)]
      rfl
    · rw [if_neg (fun z9 => ?_)]
      · rfl
      · have := pk_sneg hK (show a < K by omega)
        exact absurd (Int32.lt_trans z9 this) (by decide)
theorem Rel.can (h : Rel N u v g) (hN : N ≤ 512) (x : Int32) {K : Nat} (hK : K ≤ 99999) (eK : u.V 6 = nI K) : cCan (u.ft x.toNatClampNeg) (u.V 6) u.F = nI (g.2.2.1 0 - K + sumN (cN (u.ft x.toNatClampNeg) (u.F.2.2 2) g.2.2.1) u.F.1) ∧ g.2.2.1 0 - K + sumN (cN (u.ft x.toNatClampNeg) (u.F.2.2 2) g.2.2.1) u.F.1 ≤ 100000 * N := by
  have h9 := h
  have hp0 := h.pn_le (f := 0) (by decide)
  obtain ⟨k1, k2, k3, k4, k5, k6, ⟨q1, q2, q3, q4⟩⟩ := h
  obtain ⟨b1, b2, b3, -⟩ := k4
  have q5 : sumN g.2.2.1 6 + (sumN (fun i => if u.ga i 16 = 0 then restN (g.1 i) else 0) u.n + sumN g.2.2.2 u.mm) ≤ 100000 * N := q4
  refine ⟨?_, ?_⟩
  · unfold cCan
    rw [eK, q1 0 (by decide), above_n (by omega) (by omega)]
    have key := lp_ind (f := canStep (u.ft x.toNatClampNeg) (u.F.2.2 2) (u.F.2.2 1)) (fun m t => t = nI (g.2.2.1 0 - K + sumN (cN (u.ft x.toNatClampNeg) (u.F.2.2 2) g.2.2.1) m)) (u.F.1 - 1) 1 (nI (g.2.2.1 0 - K)) ?_ ?_
    · rw [show 1 + (u.F.1 - 1) = u.F.1 by omega] at key
      exact key
    · rfl
    · intro m t h1 hm ih
      show canStep (u.ft x.toNatClampNeg) (u.F.2.2 2) (u.F.2.2 1) m t = nI (g.2.2.1 0 - K + (sumN (cN (u.ft x.toNatClampNeg) (u.F.2.2 2) g.2.2.1) m + cN (u.ft x.toNatClampNeg) (u.F.2.2 2) g.2.2.1 m))
      unfold canStep
      have e0 : cN (u.ft x.toNatClampNeg) (u.F.2.2 2) g.2.2.1 m = if cIsFor (u.ft x.toNatClampNeg) (u.F.2.2 2) m = false then 0 else g.2.2.1 m := by
        unfold cN
        rw [if_neg (by omega)]
      rw [e0]
      by_cases c : cIsFor (u.ft x.toNatClampNeg) (u.F.2.2 2) m = false
      · rw [if_pos c, if_pos c, ih]
        rfl
      · rw [if_neg c, if_neg c, ih, q1 m (by omega), nI_add, Nat.add_assoc]
  · have e1 : ∀ m, 1 ≤ m → g.2.2.1 0 - K + sumN (cN (u.ft x.toNatClampNeg) (u.F.2.2 2) g.2.2.1) m ≤ sumN g.2.2.1 m := by
      intro m hm
      induction hm with
      | refl =>
        show g.2.2.1 0 - K + (0 + cN (u.ft x.toNatClampNeg) (u.F.2.2 2) g.2.2.1 0) ≤ 0 + g.2.2.1 0
        have : cN (u.ft x.toNatClampNeg) (u.F.2.2 2) g.2.2.1 0 = 0 := if_pos rfl
        omega
      | step _ ih =>
        rename_i m' _
        show g.2.2.1 0 - K + (sumN (cN (u.ft x.toNatClampNeg) (u.F.2.2 2) g.2.2.1) m' + cN (u.ft x.toNatClampNeg) (u.F.2.2 2) g.2.2.1 m') ≤ sumN g.2.2.1 m' + g.2.2.1 m'
        have := cN_le (u.ft x.toNatClampNeg) (u.F.2.2 2) g.2.2.1 m'
        omega
    have e2 := e1 u.F.1 b2
    have e3 := sumN_mono g.2.2.1 b3
    omega
theorem Rel.has (h : Rel N u v g) (hN : N ≤ 512) (x : Int32) : cCan (u.ft x.toNatClampNeg) (u.V 6) u.F = fHas x v := by
  obtain ⟨K, hK, eK⟩ := h.keep
  have hp0 := h.pn_le (f := 0) (by decide)
  obtain ⟨k1, k2, k3, k4, k5, k6, ⟨q1, q2, q3, q4⟩⟩ := h
  obtain ⟨b1, b2, b3, b4, b5, b6, -⟩ := k4
  have e0 : fHas0 v = cAbove (u.F.2.2 1 0) (u.V 6) := by
    unfold fHas0
    rw [← b5 0 (by decide), ← k2.1 6 (by decide), eK, q1 0 (by decide), above_n (by omega) (by omega)]
    by_cases c : g.2.2.1 0 ≤ K
    · rw [if_pos ((nI_leI (by omega) (by omega)).mpr c), show g.2.2.1 0 - K = 0 by omega]
      rfl
    · rw [if_neg (fun z9 => c ((nI_leI (by omega) (by omega)).mp z9)), pk_sub (by omega)]
  unfold cCan fHas
  rw [e0, ← b1]
  refine lp_congr _ _ _ (fun j t h1 h2 => ?_)
  unfold canStep hasStep cIsFor
  rw [← k3.2.2.2.2, ← b6 j (by omega), ← b5 j (by omega)]
  rcases and1 (u.ft x.toNatClampNeg >>> (u.F.2.2 2 j &&& 31)) with w | w
  · rw [w, if_pos (by decide), if_neg (by decide)]
  · rw [w, if_neg (by decide), if_pos rfl]
theorem Rel.ringT (h : Rel N u v g) {x : Int32} (hx : isIn x u.np = true) (hT : ∀ i, i < u.T.1 → isIn (u.T.2 i) u.np = true) : cRing (col u.ga 1) (col u.ga 16) u.gt u.n x 40 1 (cBits u.T.2 u.T.1) = whyG u.T.1 u.gn v x.toNatClampNeg := by
  have hrg := h.rg
  have hrc := h.ringC
  obtain ⟨⟨-, -, t3⟩, -, ⟨-, p2, -⟩, -, ⟨n1, -, -, -⟩, -, -⟩ := h
  obtain ⟨ex, hxl⟩ := isIn_spec hx (by omega)
  unfold whyG
  rw [hrc, ← n1, ← t3]
  have hbit : ∀ p, p < 64 → (bL (cBits u.T.2 u.T.1) p = true ↔ ∃ i, i < u.T.1 ∧ (u.T.2 i).toNatClampNeg = p) := fun p hp => bits_row hp (fun j hj => isIn_up (hT j hj) p2 (by decide))
  have e := ring_eq (z := cBits u.T.2 u.T.1) hrg (f0 := fSeedT u.T.2 u.T.1 (fClear (v.2.2.2 47))) (fun p hp => ?_) (x := x.toNatClampNeg) (by omega)
  · rw [← ex] at e
    exact e
  · obtain ⟨s1, s2⟩ := seedT_char u.T.2 u.T.1 (fClear (v.2.2.2 47)) p
    by_cases q : bL (cBits u.T.2 u.T.1) p = true
    · rw [if_pos q, s1 ((hbit p (by omega)).mp q)]
    · rw [if_neg q, s2 (fun w => q ((hbit p (by omega)).mpr w)), clear_char _ p hp]
theorem rel_why (h : Rel N u v g) (hN : N ≤ 512) (x y : Int32) : xWhy x y u = (mWhy x y (v.1 2) u.gn (mAsk0 v)).1 := by
  have hp40 : u.np ≤ 40 := h.2.2.1.2.1
  have hn100 : u.n ≤ 100 := h.2.2.2.2.1.2.1
  have f0 : u.T.1 = v.1 2 := h.1.1
  have f1 : u.np = (mAsk0 v).1 21 := h.2.2.1.1
  have f2 : ∀ k, k < 9 → u.V k = (mAsk0 v).2.2.2 3 k := h.2.1.1
  have f3 : u.n = (mAsk0 v).1 42 := h.2.2.2.2.1.1
  have f4 : fOpen (col u.ga 1) (col u.ga 16) x u.n = fOpen ((mAsk0 v).2.2.2 26) ((mAsk0 v).2.2.2 37) x ((mAsk0 v).1 42) := h.opn x
  have f5 : ∀ x, xBarred x u = fBarred ((mAsk0 v).2.2.2 43) ((mAsk0 v).2.2.2 45) ((mAsk0 v).2.2.2 26) ((mAsk0 v).2.2.2 37) ((mAsk0 v).2.2.2 3 8) x ((mAsk0 v).1 46) ((mAsk0 v).1 42) := h.barred
  have f6 : ∀ x, isIn x u.np = true → cStands (col u.ga 16) u.gt x u.n = fStands ((mAsk0 v).2.2.2 37) ((mAsk0 v).2.2.2 40) u.gn x ((mAsk0 v).1 42) := h.stands
  have f7 : u.T.2 = (mAsk0 v).2.2.2 1 := h.1.2.2
  have f8 : isIn x u.np = true → (∀ i, i < u.T.1 → isIn (u.T.2 i) u.np = true) → cRing (col u.ga 1) (col u.ga 16) u.gt u.n x 40 1 (cBits u.T.2 u.T.1) = whyG u.T.1 u.gn (mAsk0 v) x.toNatClampNeg := fun a b => h.ringT a b
  have f9 : cCan (u.ft x.toNatClampNeg) (u.V 6) u.F = fHas x (mAsk0 v) := h.has hN x
  rw [← f0]
  generalize mAsk0 v = w at *
  by_cases h1 : isIn x u.np = true
  case neg =>
    have e : xWhyB x y u = 1 := by rw [xWhyB, if_pos (show isIn x u.np = false by simpa using h1)]
    rw [xWhy, if_neg (show ¬ xWhyB x y u = 0 by rw [e]; decide), e, mWhy, if_neg (show ¬ isIn x (w.1 21) = true by rw [← f1]; exact h1)]
  have h1n := ntf h1
  have h1w : isIn x (w.1 21) = true := by rw [← f1]; exact h1
  by_cases h2 : y < 1
  case pos =>
    have e : xWhyB x y u = 2 := by rw [xWhyB, if_neg h1n, if_pos h2]
    rw [xWhy, if_neg (show ¬ xWhyB x y u = 0 by rw [e]; decide), e, mWhy, if_pos h1w, if_pos h2]
  by_cases h3 : u.V 0 < y
  case pos =>
    have e : xWhyB x y u = 2 := by rw [xWhyB, if_neg h1n, if_neg h2, if_pos h3]
    rw [xWhy, if_neg (show ¬ xWhyB x y u = 0 by rw [e]; decide), e, mWhy, if_pos h1w, if_neg h2, if_pos (show w.2.2.2 3 0 < y by rw [← f2 0 (by decide)]; exact h3)]
  have h3w : ¬ w.2.2.2 3 0 < y := by rw [← f2 0 (by decide)]; exact h3
  by_cases h4 : u.n < 100
  case neg =>
    have e : xWhyB x y u = 2 := by rw [xWhyB, if_neg h1n, if_neg h2, if_neg h3, if_neg h4]
    rw [xWhy, if_neg (show ¬ xWhyB x y u = 0 by rw [e]; decide), e, mWhy, if_pos h1w, if_neg h2, if_neg h3w, if_pos (show w.1 42 = 100 by omega)]
  have h4w : ¬ w.1 42 = 100 := by omega
  cases ho : fOpen (col u.ga 1) (col u.ga 16) x u.n with
  | some j =>
    have hj : j < u.n := by have := (fnd_lt ho).2.1; omega
    have e : xWhyB x y u = 3 := by rw [xWhyB, if_neg h1n, if_neg h2, if_neg h3, if_pos h4, ho]; rfl
    rw [xWhy, if_neg (show ¬ xWhyB x y u = 0 by rw [e]; decide), e, mWhy, if_pos h1w, if_neg h2, if_neg h3w, if_neg h4w, if_neg (show ¬ oI (fOpen (w.2.2.2 26) (w.2.2.2 37) x (w.1 42)) = -1 by rw [← f4, ho]; exact nI_nm1 (by omega))]
  | none =>
    have h5w : oI (fOpen (w.2.2.2 26) (w.2.2.2 37) x (w.1 42)) = -1 := by rw [← f4, ho]; rfl
    by_cases h6 : xBarred x u = false
    case neg =>
      have e : xWhyB x y u = 4 := by
        rw [xWhyB, if_neg h1n, if_neg h2, if_neg h3, if_pos h4, ho]
        show (if xBarred x u = false then (0 : Int32) else 4) = 4
        rw [if_neg h6]
      rw [xWhy, if_neg (show ¬ xWhyB x y u = 0 by rw [e]; decide), e, mWhy, if_pos h1w, if_neg h2, if_neg h3w, if_neg h4w, if_pos h5w, if_neg (show ¬ fBarred (w.2.2.2 43) (w.2.2.2 45) (w.2.2.2 26) (w.2.2.2 37) (w.2.2.2 3 8) x (w.1 46) (w.1 42) = false by rw [← f5]; exact h6)]
    have e0 : xWhyB x y u = 0 := by
      rw [xWhyB, if_neg h1n, if_neg h2, if_neg h3, if_pos h4, ho]
      show (if xBarred x u = false then (0 : Int32) else 4) = 0
      rw [if_pos h6]
    have eM : mWhy x y u.T.1 u.gn w = if nI u.T.1 = w.2.2.2 3 2 then why6 x y u.T.1 u.gn w else (5, w) := by
      rw [mWhy, if_pos h1w, if_neg h2, if_neg h3w, if_neg h4w, if_pos h5w, if_pos (show fBarred (w.2.2.2 43) (w.2.2.2 45) (w.2.2.2 26) (w.2.2.2 37) (w.2.2.2 3 8) x (w.1 46) (w.1 42) = false by rw [← f5]; exact h6)]
    rw [xWhy, if_pos e0, eM]
    by_cases h7 : nI u.T.1 = u.V 2
    case neg =>
      have e : xWhyS x u = 5 := by rw [xWhyS, if_neg h7]
      rw [if_neg (show ¬ xWhyS x u = 0 by rw [e]; decide), e, if_neg (show ¬ nI u.T.1 = w.2.2.2 3 2 by rw [← f2 2 (by decide)]; exact h7)]
    rw [if_pos (show nI u.T.1 = w.2.2.2 3 2 by rw [← f2 2 (by decide)]; exact h7)]
    have hoth := others_iff (f := u.T.2) (n := u.T.1) hp40 h1
    have hbad := bad6_iff (f := u.T.2) (np := u.np) (n := u.T.1) (x := x)
    by_cases h8 : cOthers u.np u.T.2 u.T.1 x = true
    case neg =>
      have e : xWhyS x u = 6 := by rw [xWhyS, if_pos h7, if_pos (show cOthers u.np u.T.2 u.T.1 x = false by simpa using h8)]
      have e2 : fBad6 (w.2.2.2 1) (w.1 21) x u.T.1 = true := by
        rw [← f7, ← f1]
        cases q : fBad6 u.T.2 u.np x u.T.1 with
        | true => rfl
        | false => exact absurd (hoth.mpr (hbad.mp q)) h8
      rw [if_neg (show ¬ xWhyS x u = 0 by rw [e]; decide), e, why6, if_pos e2]
    have h8f : fBad6 u.T.2 u.np x u.T.1 = false := hbad.mpr (hoth.mp h8)
    have h8w : ¬ fBad6 (w.2.2.2 1) (w.1 21) x u.T.1 = true := by
      rw [← f7, ← f1, h8f]
      decide
    have hin := hoth.mp h8
    have e7 : (fnd (fun i => xBarred (u.T.2 i) u) u.T.1 0).isSome = fBad7 u.T.1 w := by
      unfold fBad7
      rw [fnd_congr2 u.T.1 0 (fun j _ _ => by rw [f5, f7])]
    have e8 : (fnd (fun i => !decide (cStands (col u.ga 16) u.gt (u.T.2 i) u.n < u.V 3)) u.T.1 0).isSome = fBad8 u.T.1 u.gn w := by
      unfold fBad8
      rw [fnd_congr2 u.T.1 0 (fun j _ hj => by rw [f6 _ (hin j (by omega)).1, f2 3 (by decide), f7])]
    rw [why6, if_neg h8w]
    by_cases h9 : fBad7 u.T.1 w = true
    case pos =>
      have e : xWhyS x u = 7 := by rw [xWhyS, if_pos h7, if_neg (ntf h8), e7, if_pos h9]
      rw [if_neg (show ¬ xWhyS x u = 0 by rw [e]; decide), e, why7, if_pos h9]
    rw [why7, if_neg h9]
    by_cases h10 : fBad8 u.T.1 u.gn w = true
    case pos =>
      have e : xWhyS x u = 8 := by rw [xWhyS, if_pos h7, if_neg (ntf h8), e7, if_neg h9, e8, if_pos h10]
      rw [if_neg (show ¬ xWhyS x u = 0 by rw [e]; decide), e, why8, if_pos h10]
    have e : xWhyS x u = 0 := by rw [xWhyS, if_pos h7, if_neg (ntf h8), e7, if_neg h9, e8, if_neg h10]
    rw [if_pos e, why8, if_neg h10, xWhyR, why9, f8 h1 (fun i hi => (hin i hi).1), f2 7 (by decide), xCan, why10, f9]
    by_cases h11 : whyG u.T.1 u.gn w x.toNatClampNeg = -1
    · rw [if_pos h11, if_pos h11]
    · rw [if_neg h11, if_neg h11]
      by_cases h12 : w.2.2.2 3 7 < whyG u.T.1 u.gn w x.toNatClampNeg
      · rw [if_pos h12, if_pos h12]
      · rw [if_neg h12, if_neg h12]
end WHY
