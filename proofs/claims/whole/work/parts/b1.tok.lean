/-! ===== the text of RULES: TOKENS alike ===== -/
theorem skp_eq (tp : Nat → Int32) : ∀ (r i : Nat), skp tp r i = rSkp tp r i
  | 0, _ => rfl
  | r + 1, i => by
    rw [skp, rSkp, skp_eq tp r (i + 1)]
    unfold isBl
    by_cases c1 : tp i = 32
    · rw [if_pos c1, decide_eq_true c1, Bool.true_or, if_pos rfl]
    · rw [if_neg c1, decide_eq_false c1, Bool.false_or]
      by_cases c2 : tp i = 10
      · rw [if_pos c2, decide_eq_true c2, if_pos rfl]
      · rw [if_neg c2, decide_eq_false c2, if_neg (by decide)]
theorem rSkp_add (f : Nat → Int32) (b : Nat) : ∀ (a i : Nat), (rSkp f a i < i + a → rSkp f (a + b) i = rSkp f a i) ∧ (i + a ≤ rSkp f a i → rSkp f (a + b) i = rSkp f b (i + a))
  | 0, i => ⟨fun h => absurd h (Nat.lt_irrefl _), fun _ => by rw [Nat.zero_add, Nat.add_zero]⟩
  | a + 1, i => by
    have ih := rSkp_add f b a (i + 1)
    rw [show a + 1 + b = (a + b) + 1 by omega, rSkp, rSkp]
    by_cases c : isBl (f i) = true
    · rw [if_pos c, if_pos c, show i + (a + 1) = i + 1 + a by omega]
      exact ih
    · rw [if_neg c, if_neg c]
      exact ⟨fun _ => rfl, fun h => by omega⟩
theorem let_dig {x : Int32} (h : let_ x = true) : dig x = false := by
  unfold let_ at h
  unfold dig
  rw [Bool.and_eq_true] at h
  have h1 : ¬ x < 97 := by simpa using h.1
  have h2 : (57 : Int32) < x := Int32.lt_of_lt_of_le (by decide) (Int32.not_lt.mp h1)
  rw [decide_eq_true h2]
  simp
theorem isLD_nd {x : Int32} (h : isLD x = true) (hd : ¬ dig x = true) : let_ x = true := by
  unfold isLD at h
  rw [Bool.or_eq_true] at h
  rcases h with h | h
  · exact h
  · exact absurd h hd
theorem bI_inj {a b : Bool} (h : bI a = bI b) : a = b := by
  cases a <;> cases b <;> first | rfl | (exact absurd h (by decide))
theorem tok_good (tp : Nat → Int32) (fr : Nat) (lt : Bool) (i : Nat) (p : TokS) : (tokStep tp fr lt i p).1 = true ↔ p.1 = true ∧ let_ (tp i) = lt := by
  show (if p.1 = false then false else decide (bI (let_ (tp i)) = bI lt)) = true ↔ _
  cases hp1 : p.1 with
  | false =>
    rw [if_pos rfl]
    exact ⟨fun h => (by cases h), fun h => h.1⟩
  | true =>
    rw [if_neg (show ¬ (true = false) by decide), decide_eq_true_iff]
    exact ⟨fun h => ⟨rfl, bI_inj h⟩, fun h => by rw [h.2]⟩
/-- both end at the same place; all of one kind where the other's count is none -/
theorem tok_rt (tp : Nat → Int32) (fr : Nat) (lt : Bool) : ∀ (r i a b : Nat) (p : TokS), (tok tp fr lt r i p).1 = (rTok tp r i a b).1 ∧ a ≤ (rTok tp r i a b).2.1 ∧ b ≤ (rTok tp r i a b).2.2 ∧ ((tok tp fr lt r i p).2.1 = true ↔ p.1 = true ∧ (if lt = true then (rTok tp r i a b).2.2 = b else (rTok tp r i a b).2.1 = a))
  | 0, i, a, b, p => by
    refine ⟨rfl, Nat.le_refl _, Nat.le_refl _, ?_⟩
    show p.1 = true ↔ p.1 = true ∧ (if lt = true then b = b else a = a)
    by_cases c : lt = true
    · rw [if_pos c]; exact ⟨fun h => ⟨h, rfl⟩, fun h => h.1⟩
    · rw [if_neg c]; exact ⟨fun h => ⟨h, rfl⟩, fun h => h.1⟩
  | r + 1, i, a, b, p => by
    rw [tok, rTok]
    have hg := tok_good tp fr lt i p
    by_cases c : isLD (tp i) = true
    · rw [if_pos c, if_pos c]
      by_cases d : dig (tp i) = true
      · rw [if_pos d]
        obtain ⟨h1, h2, h3, h4⟩ := tok_rt tp fr lt r (i + 1) a (b + 1) (tokStep tp fr lt i p)
        refine ⟨h1, h2, by omega, ?_⟩
        have hl : let_ (tp i) = false := by
          cases q : let_ (tp i) with
          | false => rfl
          | true => rw [let_dig q] at d; cases d
        rw [h4, hg, hl]
        cases lt with
        | true =>
          rw [if_pos rfl, if_pos rfl]
          exact ⟨fun z => absurd z.1.2 (by decide), fun z => by omega⟩
        | false =>
          rw [if_neg (show ¬ (false = true) by decide), if_neg (show ¬ (false = true) by decide)]
          exact ⟨fun z => ⟨z.1.1, z.2⟩, fun z => ⟨⟨z.1, rfl⟩, z.2⟩⟩
      · rw [if_neg d]
        obtain ⟨h1, h2, h3, h4⟩ := tok_rt tp fr lt r (i + 1) (a + 1) b (tokStep tp fr lt i p)
        refine ⟨h1, by omega, h3, ?_⟩
        have hl : let_ (tp i) = true := isLD_nd c d
        rw [h4, hg, hl]
        cases lt with
        | true =>
          rw [if_pos rfl, if_pos rfl]
          exact ⟨fun z => ⟨z.1.1, z.2⟩, fun z => ⟨⟨z.1, rfl⟩, z.2⟩⟩
        | false =>
          rw [if_neg (show ¬ (false = true) by decide), if_neg (show ¬ (false = true) by decide)]
          exact ⟨fun z => absurd z.1.2 (by decide), fun z => by omega⟩
    · rw [if_neg c, if_neg c]
      refine ⟨rfl, Nat.le_refl _, Nat.le_refl _, ?_⟩
      show p.1 = true ↔ p.1 = true ∧ (if lt = true then b = b else a = a)
      by_cases c : lt = true
      · rw [if_pos c]; exact ⟨fun h => ⟨h, rfl⟩, fun h => h.1⟩
      · rw [if_neg c]; exact ⟨fun h => ⟨h, rfl⟩, fun h => h.1⟩
/-- a good TOKEN's signs are all of its first one's kind -/
theorem tok_all (tp : Nat → Int32) (fr : Nat) (lt : Bool) : ∀ (r i : Nat) (p : TokS), (tok tp fr lt r i p).2.1 = true → p.1 = true ∧ ∀ j, i ≤ j → j < (tok tp fr lt r i p).1 → let_ (tp j) = lt
  | 0, i, p, h => ⟨h, fun j h1 h2 => by have h3 : j < i := h2; omega⟩
  | r + 1, i, p, h => by
    rw [tok] at h ⊢
    by_cases c : isLD (tp i) = true
    · rw [if_pos c] at h ⊢
      obtain ⟨h1, h2⟩ := tok_all tp fr lt r (i + 1) (tokStep tp fr lt i p) h
      obtain ⟨h5, h6⟩ := (tok_good tp fr lt i p).mp h1
      refine ⟨h5, fun j h3 h4 => ?_⟩
      by_cases e : j = i
      · rw [e]; exact h6
      · exact h2 j (by omega) h4
    · rw [if_neg c] at h ⊢
      exact ⟨h, fun j h1 h2 => by have h3 : j < i := h2; omega⟩
theorem tok_num (tp : Nat → Int32) (fr : Nat) (lt : Bool) : ∀ (r i : Nat) (p : TokS), (tok tp fr lt r i p).1 - fr ≤ 5 → fr ≤ i → (tok tp fr lt r i p).2.2.2 = lp (fun i s => s * 10 + tp i - 48) ((tok tp fr lt r i p).1 - i) i p.2.2
  | 0, i, p, _, _ => by
    show p.2.2 = lp _ (i - i) i p.2.2
    rw [Nat.sub_self]
    rfl
  | r + 1, i, p, h, hf => by
    rw [tok] at h ⊢
    by_cases c : isLD (tp i) = true
    · rw [if_pos c] at h ⊢
      have hb := tok_bd tp fr lt r (i + 1) (tokStep tp fr lt i p)
      rw [tok_num tp fr lt r (i + 1) (tokStep tp fr lt i p) h (by omega)]
      have e : (tokStep tp fr lt i p).2.2 = p.2.2 * 10 + tp i - 48 := by
        show (if 5 ≤ i - fr then p.2.2 else 10 * p.2.2 + tp i - 48) = _
        rw [if_neg (by omega), Int32.mul_comm]
      rw [e, show (tok tp fr lt r (i + 1) (tokStep tp fr lt i p)).1 - i = ((tok tp fr lt r (i + 1) (tokStep tp fr lt i p)).1 - (i + 1)) + 1 by omega]
      rfl
    · rw [if_neg c] at h ⊢
      show p.2.2 = lp _ (i - i) i p.2.2
      rw [Nat.sub_self]
      rfl
/-- a word's value: letters as digits to the base 27 -/
def wV (d : Nat → Nat) : Nat → Nat
  | 0 => 0
  | m + 1 => 27 * wV d m + d m
theorem wV_inj {d d' : Nat → Nat} : ∀ (m m' : Nat), (∀ j, j < m → 1 ≤ d j ∧ d j ≤ 26) → (∀ j, j < m' → 1 ≤ d' j ∧ d' j ≤ 26) → wV d m = wV d' m' → m = m' ∧ ∀ j, j < m → d j = d' j
  | 0, 0, _, _, _ => ⟨rfl, fun j hj => absurd hj (Nat.not_lt_zero _)⟩
  | 0, m' + 1, _, h2, e => by
    have := h2 m' (by omega)
    have e' : 0 = 27 * wV d' m' + d' m' := e
    omega
  | m + 1, 0, h1, _, e => by
    have := h1 m (by omega)
    have e' : 27 * wV d m + d m = 0 := e
    omega
  | m + 1, m' + 1, h1, h2, e => by
    have a1 := h1 m (by omega)
    have a2 := h2 m' (by omega)
    have e' : 27 * wV d m + d m = 27 * wV d' m' + d' m' := e
    obtain ⟨b1, b2⟩ := wV_inj m m' (fun j hj => h1 j (by omega)) (fun j hj => h2 j (by omega)) (by omega)
    refine ⟨by omega, fun j hj => ?_⟩
    by_cases c : j = m
    · subst c
      subst b1
      omega
    · exact b2 j (by omega)
theorem wV_lt {d : Nat → Nat} : ∀ m, (∀ j, j < m → d j ≤ 26) → wV d m < 27 ^ m
  | 0, _ => Nat.one_pos
  | m + 1, h => by
    have h1 := wV_lt m (fun j hj => h j (by omega))
    have h2 := h m (by omega)
    show 27 * wV d m + d m < 27 ^ (m + 1)
    rw [Nat.pow_succ]
    omega
theorem let_nat {x : Int32} (h : let_ x = true) : ∃ c, 97 ≤ c ∧ c ≤ 122 ∧ x = nI c := by
  unfold let_ at h
  rw [Bool.and_eq_true] at h
  have h1 : ¬ x < 97 := by simpa using h.1
  have h2 : ¬ 122 < x := by simpa using h.2
  have h0 : ¬ x < 0 := fun z => h1 (Int32.lt_trans z (by decide))
  obtain ⟨c, hc, rfl⟩ := nI_of h0
  refine ⟨c, ?_, ?_, rfl⟩
  · rcases Nat.lt_or_ge c 97 with q | q
    · exact absurd (nI_lt (b := 97) q (by decide)) h1
    · exact q
  · rcases Nat.lt_or_ge 122 c with q | q
    · exact absurd (nI_lt (a := 122) q hc) h2
    · exact q
theorem tok_name (tp : Nat → Int32) (fr : Nat) (lt : Bool) : ∀ (r i : Nat) (p : TokS), (tok tp fr lt r i p).1 - fr ≤ 10 → fr ≤ i → (∀ j, i ≤ j → j < (tok tp fr lt r i p).1 → let_ (tp j) = true) → p.2.1 = lN (wV (fun j => (tp (fr + j)).toNatClampNeg - 96) (i - fr)) → (tok tp fr lt r i p).2.2.1 = lN (wV (fun j => (tp (fr + j)).toNatClampNeg - 96) ((tok tp fr lt r i p).1 - fr))
  | 0, i, p, _, _, _, e => e
  | r + 1, i, p, h, hf, hl, e => by
    rw [tok] at h hl ⊢
    by_cases c : isLD (tp i) = true
    · rw [if_pos c] at h hl ⊢
      have hb := tok_bd tp fr lt r (i + 1) (tokStep tp fr lt i p)
      refine tok_name tp fr lt r (i + 1) (tokStep tp fr lt i p) h (by omega) (fun j h1 h2 => hl j (by omega) h2) ?_
      show (if 10 ≤ i - fr then p.2.1 else 27 * p.2.1 + (tp i).toInt64 - 96) = _
      obtain ⟨c9, q1, q2, q3⟩ := let_nat (hl i (Nat.le_refl _) (by omega))
      rw [if_neg (by omega), e, q3, nI_l (by omega), show (27 : Int64) = lN 27 from rfl, lN_mul, lN_add, show (96 : Int64) = lN 96 from rfl, lN_sub (by omega), show i + 1 - fr = (i - fr) + 1 by omega]
      show _ = lN (27 * wV _ (i - fr) + ((tp (fr + (i - fr))).toNatClampNeg - 96))
      rw [show fr + (i - fr) = i by omega, q3, nI_clamp (by omega)]
      congr 1
      omega
    · rw [if_neg c] at h hl ⊢
      exact e
