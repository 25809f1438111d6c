/-! ===== alike: rings. Levels of bits against distances ===== -/
theorem lp_ind {σ : Type} {f : Nat → σ → σ} (I : Nat → σ → Prop) : ∀ (r i : Nat) (s : σ), I i s → (∀ j t, i ≤ j → j < i + r → I j t → I (j + 1) (f j t)) → I (i + r) (lp f r i s)
  | 0, i, s, h, _ => h
  | r + 1, i, s, h, hs => by
    show I (i + (r + 1)) (lp f r (i + 1) (f i s))
    have := lp_ind I r (i + 1) (f i s) (hs i s (Nat.le_refl _) (by omega) h) (fun j t h1 h2 => hs j t (by omega) (by omega))
    rw [show i + (r + 1) = i + 1 + r by omega]
    exact this
theorem fnd_some {P : Nat → Bool} : ∀ (r i j : Nat), fnd P r i = some j ↔ i ≤ j ∧ j < i + r ∧ P j = true ∧ ∀ a, i ≤ a → a < j → P a = false
  | 0, i, j => by
    constructor
    · intro h; cases h
    · intro h; omega
  | r + 1, i, j => by
    rw [fnd]
    by_cases c : P i = true
    · rw [if_pos c]
      constructor
      · intro h
        cases h
        exact ⟨Nat.le_refl _, by omega, c, fun a h1 h2 => by omega⟩
      · intro ⟨h1, h2, h3, h4⟩
        by_cases e : i = j
        · rw [e]
        · have := h4 i (Nat.le_refl _) (by omega)
          rw [c] at this
          cases this
    · rw [if_neg c, fnd_some r (i + 1) j]
      constructor
      · intro ⟨h1, h2, h3, h4⟩
        refine ⟨by omega, by omega, h3, fun a h5 h6 => ?_⟩
        by_cases e : a = i
        · rw [e]; simpa using c
        · exact h4 a (by omega) h6
      · intro ⟨h1, h2, h3, h4⟩
        have e : i ≠ j := fun z => c (by rw [z]; exact h3)
        exact ⟨by omega, by omega, h3, fun a h5 h6 => h4 a (by omega) h6⟩
theorem fnd_none {P : Nat → Bool} : ∀ (r i : Nat), fnd P r i = none ↔ ∀ a, i ≤ a → a < i + r → P a = false
  | 0, i => by
    constructor
    · intro _ a h1 h2; omega
    · intro _; rfl
  | r + 1, i => by
    rw [fnd]
    by_cases c : P i = true
    · rw [if_pos c]
      constructor
      · intro h; cases h
      · intro h
        have := h i (Nat.le_refl _) (by omega)
        rw [c] at this
        cases this
    · rw [if_neg c, fnd_none r (i + 1)]
      constructor
      · intro h a h1 h2
        by_cases e : a = i
        · rw [e]; simpa using c
        · exact h a (by omega) (by omega)
      · intro h a h1 h2
        exact h a (by omega) (by omega)
section RING
variable {who st sur : Nat → Int32} {sn : Nat → Nat} {n : Nat} {gt : Nat → Int64}
/-- the levels -/
def lvl (who st : Nat → Int32) (gt : Nat → Int64) (n : Nat) (z : Int64) : Nat → Int64
  | 0 => z
  | d + 1 => cSur who st gt n (lvl who st gt n z d)
def edg (who st sur : Nat → Int32) (sn : Nat → Nat) (n a b : Nat) : Prop := ∃ k, k < n ∧ st k = 0 ∧ (who k).toNatClampNeg = a ∧ ∃ i, i < sn k ∧ (sur (3 * k + i)).toNatClampNeg = b
theorem cSur_bit (hw : ∀ k, k < n → isIn (who k) 40 = true) {z : Int64} {b : Nat} : bL (cSur who st gt n z) b = true ↔ ∃ k, k < n ∧ st k = 0 ∧ bL z (who k).toNatClampNeg = true ∧ bL (gt k) b = true := by
  unfold cSur
  have h := lp_ind (f := fun i s => if st i = 0 then (if z &&& cBit (who i) = 0 then s else s ||| gt i) else s) (fun j s => bL s b = true ↔ ∃ k, k < j ∧ st k = 0 ∧ bL z (who k).toNatClampNeg = true ∧ bL (gt k) b = true) n 0 0 ?_ ?_
  · rw [Nat.zero_add] at h
    exact h
  · rw [bL_0]
    constructor
    · intro h; cases h
    · intro ⟨k, hk, _⟩; omega
  · intro j s _ hj ih
    obtain ⟨ew, hwl⟩ := isIn_spec (hw j (by omega)) (by decide)
    have hb := and_bit (x := z) (k := (who j).toNatClampNeg) hwl
    rw [← ew] at hb
    by_cases c : st j = 0
    · show bL (if st j = 0 then (if z &&& cBit (who j) = 0 then s else s ||| gt j) else s) b = true ↔ _
      rw [if_pos c]
      by_cases c2 : z &&& cBit (who j) = 0
      · rw [if_pos c2, ih]
        constructor
        · intro ⟨k, h1, h2⟩; exact ⟨k, by omega, h2⟩
        · intro ⟨k, h1, h2, h3, h4⟩
          by_cases e : k = j
          · rw [e, hb.mp c2] at h3; cases h3
          · exact ⟨k, by omega, h2, h3, h4⟩
      · rw [if_neg c2, bL_or, Bool.or_eq_true, ih]
        have hz : bL z (who j).toNatClampNeg = true := by
          cases q : bL z (who j).toNatClampNeg with
          | true => rfl
          | false => exact absurd (hb.mpr q) c2
        constructor
        · intro h
          rcases h with ⟨k, h1, h2⟩ | h
          · exact ⟨k, by omega, h2⟩
          · exact ⟨j, by omega, c, hz, h⟩
        · intro ⟨k, h1, h2, h3, h4⟩
          by_cases e : k = j
          · right; rw [← e]; exact h4
          · left; exact ⟨k, by omega, h2, h3, h4⟩
    · show bL (if st j = 0 then (if z &&& cBit (who j) = 0 then s else s ||| gt j) else s) b = true ↔ _
      rw [if_neg c, ih]
      constructor
      · intro ⟨k, h1, h2⟩; exact ⟨k, by omega, h2⟩
      · intro ⟨k, h1, h2, h3⟩
        by_cases e : k = j
        · rw [e] at h2; exact absurd h2 c
        · exact ⟨k, by omega, h2, h3⟩
/-- a round of the reference: who is reached anew -/
theorem steps_char {d : Int32} {f : Nat → Int32} (hd1 : ¬ d = -1) (hd2 : ¬ d + 1 = d) (p : Nat) :
    (¬ f p = -1 → (fSteps who st sur sn n d f).1 p = f p) ∧ (f p = -1 → (∃ k, k < n ∧ st k = 0 ∧ f (who k).toNatClampNeg = d ∧ ∃ i, i < sn k ∧ (sur (3 * k + i)).toNatClampNeg = p) → (fSteps who st sur sn n d f).1 p = d + 1) ∧ (f p = -1 → (¬ ∃ k, k < n ∧ st k = 0 ∧ f (who k).toNatClampNeg = d ∧ ∃ i, i < sn k ∧ (sur (3 * k + i)).toNatClampNeg = p) → (fSteps who st sur sn n d f).1 p = -1) := by
  have key := lp_ind (f := fStepO who st sur sn d) (fun j t => ∀ p, (¬ f p = -1 → t.1 p = f p) ∧ (f p = -1 → (∃ k, k < j ∧ st k = 0 ∧ f (who k).toNatClampNeg = d ∧ ∃ i, i < sn k ∧ (sur (3 * k + i)).toNatClampNeg = p) → t.1 p = d + 1) ∧ (f p = -1 → (¬ ∃ k, k < j ∧ st k = 0 ∧ f (who k).toNatClampNeg = d ∧ ∃ i, i < sn k ∧ (sur (3 * k + i)).toNatClampNeg = p) → t.1 p = -1)) n 0 (f, false) ?_ ?_
  · rw [Nat.zero_add] at key
    exact key p
  · intro p
    refine ⟨fun _ => rfl, fun _ ⟨k, hk, _⟩ => by omega, fun h _ => h⟩
  · intro j t _ hj ih p
    -- the test of loan j asks the same of t as of f
    have htest : ∀ a, t.1 a = d ↔ f a = d := by
      intro a
      obtain ⟨h1, h2, h3⟩ := ih a
      by_cases c : f a = -1
      · by_cases q : ∃ k, k < j ∧ st k = 0 ∧ f (who k).toNatClampNeg = d ∧ ∃ i, i < sn k ∧ (sur (3 * k + i)).toNatClampNeg = a
        · rw [h2 c q, c]
          exact ⟨fun z => absurd z hd2, fun z => absurd z.symm hd1⟩
        · rw [h3 c q, c]
      · rw [h1 c]
    have hskip : (¬ (st j = 0 ∧ f (who j).toNatClampNeg = d)) → fStepO who st sur sn d j t = t := by
      intro hno
      unfold fStepO
      by_cases c : st j = 0
      · rw [if_pos c, if_neg (fun z => hno ⟨c, (htest _).mp z⟩)]
      · rw [if_neg c]
    by_cases c : st j = 0 ∧ f (who j).toNatClampNeg = d
    · have hgo : fStepO who st sur sn d j t = lp (fStepI sur d j) (sn j) 0 t := by
        unfold fStepO
        rw [if_pos c.1, if_pos ((htest _).mpr c.2)]
      rw [hgo]
      have inner := lp_ind (f := fStepI sur d j) (fun i x => ∀ p, (¬ t.1 p = -1 → x.1 p = t.1 p) ∧ (t.1 p = -1 → (∃ i', i' < i ∧ (sur (3 * j + i')).toNatClampNeg = p) → x.1 p = d + 1) ∧ (t.1 p = -1 → (¬ ∃ i', i' < i ∧ (sur (3 * j + i')).toNatClampNeg = p) → x.1 p = -1)) (sn j) 0 t ?_ ?_
      · rw [Nat.zero_add] at inner
        obtain ⟨a1, a2, a3⟩ := inner p
        obtain ⟨h1, h2, h3⟩ := ih p
        have hne : ¬ d + 1 = -1 ∨ d + 1 = -1 := by
          by_cases q : d + 1 = -1
          · exact Or.inr q
          · exact Or.inl q
        refine ⟨fun q => ?_, fun q hx => ?_, fun q hx => ?_⟩
        · rw [a1 (by rw [h1 q]; exact q), h1 q]
        · by_cases old : ∃ k, k < j ∧ st k = 0 ∧ f (who k).toNatClampNeg = d ∧ ∃ i, i < sn k ∧ (sur (3 * k + i)).toNatClampNeg = p
          · have e := h2 q old
            by_cases z : t.1 p = -1
            · by_cases w : ∃ i', i' < sn j ∧ (sur (3 * j + i')).toNatClampNeg = p
              · exact a2 z w
              · rw [a3 z w, ← z, e]
            · rw [a1 z, e]
          · obtain ⟨k, hk, k2, k3, i, hi, k4⟩ := hx
            have ek : k = j := by
              by_cases e : k = j
              · exact e
              · exact absurd ⟨k, by omega, k2, k3, i, hi, k4⟩ old
            subst ek
            exact a2 (h3 q old) ⟨i, hi, k4⟩
        · have old : ¬ ∃ k, k < j ∧ st k = 0 ∧ f (who k).toNatClampNeg = d ∧ ∃ i, i < sn k ∧ (sur (3 * k + i)).toNatClampNeg = p := fun ⟨k, hk, r⟩ => hx ⟨k, by omega, r⟩
          exact a3 (h3 q old) (fun ⟨i, hi, r⟩ => hx ⟨j, by omega, c.1, c.2, i, hi, r⟩)
      · intro p
        exact ⟨fun _ => rfl, fun _ ⟨i, hi, _⟩ => by omega, fun h _ => h⟩
      · intro i x _ hi ihx p
        obtain ⟨a1, a2, a3⟩ := ihx p
        unfold fStepI
        by_cases q : x.1 (sur (3 * j + i)).toNatClampNeg = -1
        · rw [if_pos q]
          show (¬ t.1 p = -1 → upd x.1 (sur (3 * j + i)).toNatClampNeg (d + 1) p = t.1 p) ∧ (t.1 p = -1 → _ → upd x.1 (sur (3 * j + i)).toNatClampNeg (d + 1) p = d + 1) ∧ (t.1 p = -1 → _ → upd x.1 (sur (3 * j + i)).toNatClampNeg (d + 1) p = -1)
          by_cases e : p = (sur (3 * j + i)).toNatClampNeg
          · rw [← e] at q ⊢
            rw [upd_eq]
            refine ⟨fun z => ?_, fun _ _ => rfl, fun z w => absurd ⟨i, by omega, e.symm⟩ w⟩
            exact absurd ((a1 z).symm.trans q) z
          · rw [upd_ne _ _ e]
            refine ⟨a1, fun z w => ?_, fun z w => a3 z (fun ⟨i', h1, h2⟩ => w ⟨i', by omega, h2⟩)⟩
            obtain ⟨i', h1, h2⟩ := w
            have : i' ≠ i := fun ee => e (by rw [← h2, ee])
            exact a2 z ⟨i', by omega, h2⟩
        · rw [if_neg q]
          refine ⟨a1, fun z w => ?_, fun z w => a3 z (fun ⟨i', h1, h2⟩ => w ⟨i', by omega, h2⟩)⟩
          obtain ⟨i', h1, h2⟩ := w
          by_cases ee : i' = i
          · rw [ee] at h2
            rw [h2] at q
            by_cases w2 : ∃ i', i' < i ∧ (sur (3 * j + i')).toNatClampNeg = p
            · exact a2 z w2
            · exact absurd (a3 z w2) q
          · exact a2 z ⟨i', by omega, h2⟩
    · rw [hskip c]
      obtain ⟨h1, h2, h3⟩ := ih p
      refine ⟨h1, fun q hx => h2 q ?_, fun q hx => h3 q (fun ⟨k, hk, r⟩ => hx ⟨k, by omega, r⟩)⟩
      obtain ⟨k, hk, k2, k3, r⟩ := hx
      have : k ≠ j := fun e => c (by rw [← e]; exact ⟨k2, k3⟩)
      exact ⟨k, by omega, k2, k3, r⟩
end RING
