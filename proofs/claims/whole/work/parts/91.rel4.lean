/-! ===== alike: what is told about one ===== -/
def bL (x : Int64) (i : Nat) : Bool := x.toBitVec.getLsbD i
theorem bL_or (x y : Int64) (i : Nat) : bL (x ||| y) i = (bL x i || bL y i) := by unfold bL; rw [Int64.toBitVec_or, BitVec.getLsbD_or]
theorem bL_and (x y : Int64) (i : Nat) : bL (x &&& y) i = (bL x i && bL y i) := by unfold bL; rw [Int64.toBitVec_and, BitVec.getLsbD_and]
theorem bL_0 (i : Nat) : bL 0 i = false := BitVec.getLsbD_zero
theorem bL_ext {x y : Int64} (h : ∀ i, i < 64 → bL x i = bL y i) : x = y := Int64.toBitVec_inj.mp (BitVec.eq_of_getLsbD_eq (fun i hi => h i hi))
theorem cBit_k : ∀ k, k < 40 → ∀ i, i < 64 → bL (cBit (nI k)) i = decide (i = k) := by decide +kernel
theorem and_bit {x : Int64} {k : Nat} (hk : k < 40) : x &&& cBit (nI k) = 0 ↔ bL x k = false := by
  constructor
  · intro h
    have h1 : bL (x &&& cBit (nI k)) k = false := by rw [h, bL_0]
    rw [bL_and, cBit_k k hk k (by omega), decide_eq_true rfl, Bool.and_true] at h1
    exact h1
  · intro h
    refine bL_ext (fun i hi => ?_)
    rw [bL_and, cBit_k k hk i hi, bL_0]
    by_cases c : i = k
    · subst c; rw [h]; rfl
    · rw [decide_eq_false c, Bool.and_false]
theorem bits_lp {f : Nat → Int32} {b : Nat} (hb : b < 64) : ∀ (r i : Nat) (s : Int64), (∀ j, i ≤ j → j < i + r → isIn (f j) 40 = true) → bL (lp (fun j s => s ||| cBit (f j)) r i s) b = (bL s b || (fnd (fun j => decide (f j = nI b)) r i).isSome)
  | 0, _, s, _ => by
    show bL s b = (bL s b || false)
    rw [Bool.or_false]
  | r + 1, i, s, h => by
    show bL (lp (fun j s => s ||| cBit (f j)) r (i + 1) (s ||| cBit (f i))) b = _
    rw [bits_lp hb r (i + 1) (s ||| cBit (f i)) (fun j h1 h2 => h j (by omega) (by omega)), bL_or, fnd]
    obtain ⟨e, hk⟩ := isIn_spec (h i (Nat.le_refl _) (by omega)) (by decide)
    have e2 : bL (cBit (f i)) b = decide (f i = nI b) := by
      rw [e, cBit_k _ hk b hb]
      by_cases c : b = (f i).toNatClampNeg
      · rw [decide_eq_true c, decide_eq_true (by rw [← c])]
      · rw [decide_eq_false c, decide_eq_false (fun z => c ((nI_eq (by omega) (by omega)).mp z).symm)]
    rw [e2]
    by_cases c : f i = nI b
    · rw [decide_eq_true c, if_pos rfl]; simp
    · rw [decide_eq_false c, if_neg (by decide)]; simp
theorem bits_bit {f : Nat → Int32} {n b : Nat} (hb : b < 64) (h : ∀ j, j < n → isIn (f j) 40 = true) : bL (cBits f n) b = (fnd (fun j => decide (f j = nI b)) n 0).isSome := by
  have := bits_lp (f := f) hb n 0 0 (fun j _ h2 => h j (by omega))
  rw [bL_0, Bool.false_or] at this
  exact this
theorem lp_none {f : Nat → Int32} {p : Int32} : ∀ (r i : Nat) (s : Int32), (∀ j, i ≤ j → j < i + r → ¬ f j = p) → lp (fun i s => if f i = p then s + 1 else s) r i s = s
  | 0, _, _, _ => rfl
  | r + 1, i, s, h => by
    show lp _ r (i + 1) (if f i = p then s + 1 else s) = s
    rw [if_neg (h i (Nat.le_refl _) (by omega))]
    exact lp_none r (i + 1) s (fun j h1 h2 => h j (by omega) (by omega))
theorem lp_one {f : Nat → Int32} {p : Int32} : ∀ (r i : Nat) (s : Int32), (∀ a b, i ≤ a → a < b → b < i + r → ¬ f a = f b) → lp (fun i s => if f i = p then s + 1 else s) r i s = if (fnd (fun j => decide (f j = p)) r i).isSome = true then s + 1 else s
  | 0, _, _, _ => rfl
  | r + 1, i, s, h => by
    show lp _ r (i + 1) (if f i = p then s + 1 else s) = _
    rw [fnd]
    by_cases c : f i = p
    · rw [if_pos c, lp_none r (i + 1) (s + 1) (fun j h1 h2 z => h i j (Nat.le_refl _) (by omega) (by omega) (c.trans z.symm)), decide_eq_true c, if_pos rfl]
      rfl
    · rw [if_neg c, lp_one r (i + 1) s (fun a b h1 h2 h3 => h a b (by omega) h2 (by omega)), decide_eq_false c, if_neg (show ¬ (false = true) by decide)]
theorem unp_any {cw left : Nat → Int32} {p : Int32} : ∀ (r i k : Nat), k + r < 2 ^ 31 → ∃ c, c ≤ r ∧ lp (fun i s => if cw i = p then (if left i ≤ 0 then s else s + 1) else s) r i (nI k) = nI (k + c) ∧ (fnd (fun i => decide (cw i = p) && !decide (left i ≤ 0)) r i).isSome = decide (0 < c)
  | 0, _, _, _ => ⟨0, Nat.le_refl _, rfl, rfl⟩
  | r + 1, i, k, h => by
    by_cases c1 : cw i = p
    · by_cases c2 : left i ≤ 0
      · obtain ⟨c, h1, h2, h3⟩ := unp_any (cw := cw) (left := left) (p := p) r (i + 1) k (by omega)
        refine ⟨c, by omega, ?_, ?_⟩
        · show lp _ r (i + 1) (if cw i = p then (if left i ≤ 0 then nI k else nI k + 1) else nI k) = _
          rw [if_pos c1, if_pos c2]; exact h2
        · rw [fnd, decide_eq_true c1, decide_eq_true c2, if_neg (by decide)]; exact h3
      · obtain ⟨c, h1, h2, h3⟩ := unp_any (cw := cw) (left := left) (p := p) r (i + 1) (k + 1) (by omega)
        refine ⟨c + 1, by omega, ?_, ?_⟩
        · show lp _ r (i + 1) (if cw i = p then (if left i ≤ 0 then nI k else nI k + 1) else nI k) = _
          rw [if_pos c1, if_neg c2, nI_1, h2]
          congr 1
          omega
        · rw [fnd, decide_eq_true c1, decide_eq_false c2, if_pos (by decide), decide_eq_true (show 0 < c + 1 by omega)]; rfl
    · obtain ⟨c, h1, h2, h3⟩ := unp_any (cw := cw) (left := left) (p := p) r (i + 1) k (by omega)
      refine ⟨c, by omega, ?_, ?_⟩
      · show lp _ r (i + 1) (if cw i = p then (if left i ≤ 0 then nI k else nI k + 1) else nI k) = _
        rw [if_neg c1]; exact h2
      · rw [fnd, decide_eq_false c1, if_neg (by simp)]; exact h3
theorem unp_eq {cw left : Nat → Int32} {p : Int32} {n : Nat} (hn : n < 2 ^ 31) : decide (0 < fUnpaid cw left p n) = fAnyCall cw left p n := by
  obtain ⟨c, h1, h2, h3⟩ := unp_any (cw := cw) (left := left) (p := p) n 0 0 (by omega)
  unfold fUnpaid fAnyCall
  rw [h3]
  have e : lp (fun i s => if cw i = p then (if left i ≤ 0 then s else s + 1) else s) n 0 0 = nI c := by
    have := h2
    rw [Nat.zero_add] at this
    exact this
  rw [e]
  by_cases k : 0 < c
  · rw [decide_eq_true k, decide_eq_true (show (0 : Int32) < nI c from nI_lt (a := 0) k (by omega))]
  · rw [decide_eq_false k, decide_eq_false (show ¬ (0 : Int32) < nI c by rw [show c = 0 by omega]; decide)]
theorem worth_eq (s st late : Int32) : s + cWorth st late = (if st = 2 then (if st = 1 then s + (if late = 0 then 10 else 5) else s) + (-30) else (if st = 1 then s + (if late = 0 then 10 else 5) else s)) - 2 * late := by
  have key : ∀ k : Int32, s + (-2 * late + k) = s + k - 2 * late := by
    intro k
    apply Int32.toBitVec_inj.mp
    simp only [Int32.toBitVec_add, Int32.toBitVec_sub, Int32.toBitVec_mul]
    rw [show (-2 : Int32).toBitVec = -(2 : Int32).toBitVec from by decide, BitVec.neg_mul, BitVec.sub_eq_add_neg]
    ac_rfl
  have key0 : s + -2 * late = s - 2 * late := by
    have := key 0
    rw [Int32.add_zero, Int32.add_zero] at this
    exact this
  unfold cWorth
  by_cases c1 : st = 1
  · rw [if_pos c1, if_neg (show ¬ st = 2 by rw [c1]; decide), if_pos c1]
    exact key _
  · rw [if_neg c1]
    by_cases c2 : st = 2
    · rw [if_pos c2, if_pos c2, if_neg c1]
      exact key _
    · rw [if_neg c2, if_neg c2, if_neg c1]
      exact key0
theorem clamp_eq (y : Int32) : cClamp y = fClamp y := by
  unfold cClamp fClamp
  have e0 : (0 : Int32).toInt = 0 := by decide
  have e2 : (200 : Int32).toInt = 200 := by decide
  by_cases c1 : y < 200
  · rw [if_pos c1]
    have k1 := Int32.lt_iff_toInt_lt.mp c1
    by_cases c2 : 0 < y
    · have k2 := Int32.lt_iff_toInt_lt.mp c2
      rw [if_pos c2, if_pos (Int32.le_iff_toInt_le.mpr (by omega)), if_pos (Int32.le_iff_toInt_le.mpr (by omega))]
    · rw [if_neg c2]
      by_cases c3 : 0 ≤ y
      · have k3 := Int32.le_iff_toInt_le.mp c3
        have k2 : ¬ (0 : Int32).toInt < y.toInt := fun z => c2 (Int32.lt_iff_toInt_lt.mpr z)
        rw [if_pos c3, if_pos (Int32.le_iff_toInt_le.mpr (by omega))]
        exact Int32.toInt_inj.mp (by omega)
      · rw [if_neg c3]
  · rw [if_neg c1, if_pos (by decide)]
    have k1 : ¬ y.toInt < (200 : Int32).toInt := fun z => c1 (Int32.lt_iff_toInt_lt.mpr z)
    rw [if_pos (Int32.le_iff_toInt_le.mpr (by omega))]
    by_cases c2 : y ≤ 200
    · have k2 := Int32.le_iff_toInt_le.mp c2
      rw [if_pos c2]
      exact Int32.toInt_inj.mp (by omega)
    · rw [if_neg c2]
section RE4
variable {N : Nat} {u : CSt} {v : MSt} {g : GH}
theorem Rel.barred (h : Rel N u v g) (x : Int32) : xBarred x u = fBarred (v.2.2.2 43) (v.2.2.2 45) (v.2.2.2 26) (v.2.2.2 37) (v.2.2.2 3 8) x (v.1 46) (v.1 42) := by
  have k1 := h.unpaid x
  have k2 := h.called x
  obtain ⟨-, ⟨e1, -⟩, -, -, ⟨-, n2, -, -⟩, ⟨m1, m2, -⟩, -⟩ := h
  unfold xBarred fBarred cBar
  have hm : v.1 46 < 2 ^ 31 := by
    have := ncl_le (v.2.2.2 37) u.n
    omega
  rw [k1, k2, unp_eq hm, e1 8 (by decide)]
theorem Rel.charOf (h : Rel N u v g) (x : Int32) : cClamp (cChar (col u.ga 1) (col u.ga 16) (col u.ga 14) x u.n) = fClamp (fChar (v.2.2.2 26) (v.2.2.2 37) (v.2.2.2 35) x (v.1 42)) := by
  obtain ⟨-, -, -, -, ⟨e, -, -, hL⟩, -, -⟩ := h
  rw [clamp_eq]
  congr 1
  rw [← e]
  refine lp_congr _ _ _ (fun j t _ h2 => ?_)
  have h3 := (hL j (by omega)).1
  rw [show col u.ga 1 j = v.2.2.2 26 j from ls1 h3, show col u.ga 16 j = v.2.2.2 37 j from ls16 h3, show col u.ga 14 j = v.2.2.2 35 j from ls14 h3, worth_eq]
theorem Rel.stands (h : Rel N u v g) (x : Int32) (hx : isIn x u.np = true) : cStands (col u.ga 16) u.gt x u.n = fStands (v.2.2.2 37) (v.2.2.2 40) u.gn x (v.1 42) := by
  obtain ⟨-, -, ⟨-, p2, -⟩, -, ⟨e, -, -, hL⟩, -, -⟩ := h
  rw [← e]
  obtain ⟨ex, hxl⟩ := isIn_spec hx (by omega)
  refine lp_congr _ _ _ (fun j t _ h2 => ?_)
  obtain ⟨l1, l2, l3, l4, l5, l6, l7, l8, l9, l10, l11⟩ := hL j (by omega)
  rw [show col u.ga 16 j = v.2.2.2 37 j from ls16 l1]
  by_cases c : v.2.2.2 37 j = 0
  · rw [if_pos c]
    have e1 : lp (fun i s => if v.2.2.2 40 (3 * j + i) = x then s + 1 else s) (u.gn j) 0 t = lp (fun i s => if u.gr 1 j i = x then s + 1 else s) (u.gn j) 0 t := lp_congr _ _ _ (fun i s _ hi => by rw [(l5 i (by omega)).1])
    rw [e1, lp_one (u.gn j) 0 t (fun a b _ hab hb => l6 a b hab (by omega))]
    have e2 : cOpS (v.2.2.2 37 j) (u.gt j) x = (fnd (fun i => decide (u.gr 1 j i = x)) (u.gn j) 0).isSome := by
      unfold cOpS
      rw [decide_eq_true c, Bool.true_and]
      have e3 := bits_bit (f := u.gr 1 j) (n := u.gn j) (b := x.toNatClampNeg) (by omega) (fun i hi => isIn_up (l5 i hi).2 p2 (by decide))
      rw [← ex] at e3
      rw [← e3, ← l8]
      have k1 := and_bit (x := u.gt j) (k := x.toNatClampNeg) (by omega)
      rw [← ex] at k1
      by_cases q : bL (u.gt j) x.toNatClampNeg = false
      · rw [q, decide_eq_true (k1.mpr q)]; rfl
      · rw [decide_eq_false (fun z => q (k1.mp z))]
        have : bL (u.gt j) x.toNatClampNeg = true := by simpa using q
        rw [this]; rfl
    rw [e2]
    cases (fnd (fun i => decide (u.gr 1 j i = x)) (u.gn j) 0).isSome <;> rfl
  · rw [if_neg c]
    have e2 : cOpS (v.2.2.2 37 j) (u.gt j) x = false := by
      unfold cOpS
      rw [decide_eq_false c]; rfl
    rw [if_pos e2]
theorem rel_about (h : Rel N u v g) (x y : Int32) : XM (xAboutV x y u) (mAbout x y u.gn v) ∧ Rel N u (mAbout x y u.gn v).2 g := by
  have h0 := h
  have b1 := h.barred x
  have b2 := h.charOf x
  have b3 := h.stands x
  have b4 := h.unpaid x
  have b5 := h.calls x
  have b6 := h.opn x
  obtain ⟨-, -, ⟨p1, -, -, -, p5⟩, -, ⟨n1, n2, -, hL⟩, -, -⟩ := h
  unfold xAboutV mAbout
  rw [← p1]
  by_cases c : isIn x u.np = false
  · rw [if_pos c, if_pos c]
    exact ⟨⟨rfl, fun w hw => by cases hw⟩, h0⟩
  · rw [if_neg c, if_neg c]
    have hx : isIn x u.np = true := by simpa using c
    rcases sw_cases y 6 with sw | ⟨i, hi, ei⟩
    · have e9 := swN_out sw
      have hno : (if y < 0 then (0, mT1 v) else if y ≤ 6 then (mAboutV x y u.gn v, mT0 v) else (0, mT1 v)) = ((0 : Int32), mT1 v) := by
        by_cases c : y < 0
        · rw [if_pos c]
        · rw [if_neg c, if_neg (fun z => ?_)]
          have q1 := Int32.le_iff_toInt_le.mp z
          have q2 : (6 : Int32).toInt = 6 := by decide
          have q3 := toInt_lt0 c
          omega
      rw [hno]
      simp only [e9]
      exact ⟨⟨rfl, fun w hw => by cases hw⟩, h0⟩
    · subst ei
      rw [if_neg (nI_pos (by omega)), if_pos (show nI i ≤ 6 from nI_le (b := 6) hi (by decide))]
      have e9 := swN_in (show i ≤ 6 by omega) (by decide)
      simp only [e9]
      refine ⟨?_, h0⟩
      have hM : ∀ w : Int32, mAboutV x (nI i) u.gn v = w → XM (some w) (mAboutV x (nI i) u.gn v, mT0 v) := fun w hw => ⟨rfl, fun w2 h2 => by cases h2; exact hw⟩
      rcases (show i = 0 ∨ i = 1 ∨ i = 2 ∨ i = 3 ∨ i = 4 ∨ i = 5 ∨ i = 6 by omega) with e | e | e | e | e | e | e
      all_goals subst e
      · exact hM _ (by unfold mAboutV; simp only [e9]; rw [p5])
      · exact hM _ (by unfold mAboutV; simp only [e9]; exact b2.symm)
      · exact hM _ (by unfold mAboutV; simp only [e9]; rw [b1])
      · refine hM _ ?_
        unfold mAboutV xOpenNo
        simp only [e9]
        rw [← b6]
        cases ho : fOpen (col u.ga 1) (col u.ga 16) x u.n with
        | none => rfl
        | some j =>
          have hj : j < u.n := by have := (fnd_lt ho).2.1; omega
          exact ((hL j hj).2.1).symm
      · exact hM _ (by unfold mAboutV; simp only [e9]; exact (b3 hx).symm)
      · exact hM _ (by unfold mAboutV; simp only [e9]; exact b4.symm)
      · exact hM _ (by unfold mAboutV; simp only [e9]; exact b5.symm)
end RE4
