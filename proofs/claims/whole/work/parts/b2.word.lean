/-! ===== the text of RULES: WORDS alike ===== -/
def kD (k j : Nat) : Nat := (kB k j).toNatClampNeg - 96
theorem kB_let : ∀ k, k < 9 → ∀ j, j < kL k → 1 ≤ kD k j ∧ kD k j ≤ 26 ∧ kB k j = nI (kD k j + 96) := by decide +kernel
def kC (k : Nat) : Int64 := lN (wV (kD k) (kL k))
theorem kC_lt : ∀ k, k < 9 → wV (kD k) (kL k) < 2 ^ 63 := by decide +kernel
theorem kC_0 : spel 109 111 115 116 0 = kC 0 := by decide +kernel
theorem kC_1 : spel 119 101 101 107 115 = kC 1 := by decide +kernel
theorem kC_2 : 27 * (27 * (27 * spel 115 117 114 101 116 + 9) + 5) + 19 = kC 2 := by decide +kernel
theorem kC_3 : 27 * spel 115 116 97 110 100 + 19 = kC 3 := by decide +kernel
theorem kC_4 : spel 108 97 116 101 0 = kC 4 := by decide +kernel
theorem kC_5 : spel 99 97 108 108 0 = kC 5 := by decide +kernel
theorem kC_6 : spel 107 101 101 112 0 = kC 6 := by decide +kernel
theorem kC_7 : spel 114 105 110 103 0 = kC 7 := by decide +kernel
theorem kC_8 : spel 98 97 114 0 0 = kC 8 := by decide +kernel
theorem ite_dec {p q : Prop} [Decidable p] [Decidable q] {α : Type} {a b : α} (h : p ↔ q) : (if p then a else b) = if decide q = true then a else b := by
  by_cases c : p
  · rw [if_pos c, if_pos (decide_eq_true (h.mp c))]
  · rw [if_neg c, if_neg (fun z => c (h.mpr (of_decide_eq_true z)))]
theorem ruleOf_fnd (nm : Int64) : ruleOf nm = fnd (fun k => decide (nm = kC k)) 9 0 := by
  unfold ruleOf
  rw [kC_0, kC_1, kC_2, kC_3, kC_4, kC_5, kC_6, kC_7, kC_8]
  rw [ite_dec (lg_cmp0 (a := nm) (b := kC 0)), ite_dec (lg_cmp0 (a := nm) (b := kC 1)), ite_dec (lg_cmp0 (a := nm) (b := kC 2)), ite_dec (lg_cmp0 (a := nm) (b := kC 3)), ite_dec (lg_cmp0 (a := nm) (b := kC 4)), ite_dec (lg_cmp0 (a := nm) (b := kC 5)), ite_dec (lg_cmp0 (a := nm) (b := kC 6)), ite_dec (lg_cmp0 (a := nm) (b := kC 7)), ite_dec (lg_cmp0 (a := nm) (b := kC 8))]
  rfl
theorem lN_inj {a b : Nat} (ha : a < 2 ^ 64) (hb : b < 2 ^ 64) : lN a = lN b ↔ a = b := by
  constructor
  · intro h
    have h1 := congrArg (fun x : Int64 => x.toBitVec.toNat) h
    have h2 : (lN a).toBitVec.toNat = (lN b).toBitVec.toNat := h1
    rw [wb_tn ha, wb_tn hb] at h2
    exact h2
  · intro h; rw [h]
theorem wV_congr {d d' : Nat → Nat} : ∀ n, (∀ j, j < n → d j = d' j) → wV d n = wV d' n
  | 0, _ => rfl
  | n + 1, h => by
    show 27 * wV d n + d n = 27 * wV d' n + d' n
    rw [wV_congr n (fun j hj => h j (by omega)), h n (by omega)]
/-- a WORD of at most ten letters is rule k's just where its value is -/
theorem word_eq {f : Nat → Int32} {st m : Nat} (hm : m ≤ 10) (hl : ∀ j, j < m → let_ (f (st + j)) = true) {k : Nat} (hk : k < 9) : decide (lN (wV (fun j => (f (st + j)).toNatClampNeg - 96) m) = kC k) = wordIs f st (st + m) k := by
  have hd : ∀ j, j < m → 1 ≤ (f (st + j)).toNatClampNeg - 96 ∧ (f (st + j)).toNatClampNeg - 96 ≤ 26 ∧ f (st + j) = nI ((f (st + j)).toNatClampNeg - 96 + 96) := by
    intro j hj
    obtain ⟨c, h1, h2, h3⟩ := let_nat (hl j hj)
    rw [h3, nI_clamp (by omega)]
    exact ⟨by omega, by omega, by rw [show c - 96 + 96 = c by omega]⟩
  have hlt := wV_lt (d := fun j => (f (st + j)).toNatClampNeg - 96) m (fun j hj => (hd j hj).2.1)
  have hlt2 : wV (fun j => (f (st + j)).toNatClampNeg - 96) m < 2 ^ 64 := by
    have h1 : 27 ^ m ≤ 27 ^ 10 := Nat.pow_le_pow_right (by decide) hm
    have h2 : (27 : Nat) ^ 10 < 2 ^ 64 := by decide
    omega
  have hk2 : wV (kD k) (kL k) < 2 ^ 64 := Nat.lt_trans (kC_lt k hk) (by decide)
  unfold wordIs
  rw [show st + m - st = m by omega]
  by_cases c : wV (fun j => (f (st + j)).toNatClampNeg - 96) m = wV (kD k) (kL k)
  · rw [decide_eq_true (show lN (wV (fun j => (f (st + j)).toNatClampNeg - 96) m) = kC k from (lN_inj hlt2 hk2).mpr c)]
    obtain ⟨e1, e2⟩ := wV_inj m (kL k) (fun j hj => ⟨(hd j hj).1, (hd j hj).2.1⟩) (fun j hj => ⟨(kB_let k hk j hj).1, (kB_let k hk j hj).2.1⟩) c
    rw [decide_eq_true e1.symm, Bool.true_and]
    have hn : fnd (fun j => !decide (kB k j = f (st + j))) (kL k) 0 = none := by
      rw [fnd_none]
      intro j _ hj
      have hj' : j < m := by omega
      have e3 := e2 j hj'
      have e4 : kB k j = f (st + j) := by rw [(kB_let k hk j (by omega)).2.2, (hd j hj').2.2, e3]
      rw [decide_eq_true e4]
      rfl
    rw [hn]
    rfl
  · rw [decide_eq_false (show ¬ lN (wV (fun j => (f (st + j)).toNatClampNeg - 96) m) = kC k from fun z => c ((lN_inj hlt2 hk2).mp z))]
    by_cases c2 : kL k = m
    · rw [decide_eq_true c2, Bool.true_and]
      cases q : fnd (fun j => !decide (kB k j = f (st + j))) (kL k) 0 with
      | some j => rfl
      | none =>
        exfalso
        apply c
        have q1 := (fnd_none _ _).mp q
        rw [c2]
        refine wV_congr m (fun j hj => ?_)
        have q2 := q1 j (Nat.zero_le _) (by omega)
        have q3 : kB k j = f (st + j) := by simpa using q2
        show (f (st + j)).toNatClampNeg - 96 = kD k j
        rw [← q3]
        rfl
    · rw [decide_eq_false c2, Bool.false_and]
theorem word_long {f : Nat → Int32} {st be : Nat} (h : 10 < be - st) : kindIs f st be = none := by
  unfold kindIs
  rw [fnd_none]
  intro k _ hk
  unfold wordIs
  have := kL_le k (by omega)
  rw [decide_eq_false (by omega), Bool.false_and]
theorem rule_m1 : ruleOf (-1) = none := by decide +kernel
theorem word_all {f : Nat → Int32} {st be : Nat} (hs : st ≤ be) (hl : ∀ j, st ≤ j → j < be → let_ (f j) = true) : ruleOf (if be - st ≤ 10 then lN (wV (fun j => (f (st + j)).toNatClampNeg - 96) (be - st)) else -1) = kindIs f st be := by
  by_cases c : be - st ≤ 10
  · rw [if_pos c, ruleOf_fnd]
    unfold kindIs
    refine fnd_congr2 9 0 (fun k _ hk => ?_)
    have := word_eq (f := f) (st := st) (m := be - st) c (fun j hj => hl (st + j) (by omega) (by omega)) (show k < 9 by omega)
    rw [show st + (be - st) = be by omega] at this
    exact this
  · rw [if_neg c, rule_m1, word_long (by omega)]
