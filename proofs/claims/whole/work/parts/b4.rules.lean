/-! ===== the text of RULES: all of it, alike ===== -/
theorem b_one : ∀ i, i < 32 → b_t 1 i = decide (i = 0) := by decide +kernel
theorem had_bit (h : Int32) {k : Nat} (hk : k < 9) : ((h >>> (nI k &&& 31)) &&& 1 = 1) ↔ b_t h k = true := by
  have e0 : b_t ((h >>> (nI k &&& 31)) &&& 1) 0 = b_t h k := by
    rw [b_and, b_sshr k (by omega) h (by decide), if_pos (by omega), b_one 0 (by decide), Nat.add_zero]
    simp
  rcases and1 (h >>> (nI k &&& 31)) with w | w
  · rw [w, b_0] at e0
    rw [w, ← e0]
    exact ⟨fun z => absurd z (by decide), fun z => by cases z⟩
  · rw [w, b_one 0 (by decide)] at e0
    rw [w, ← e0]
    exact ⟨fun _ => rfl, fun _ => rfl⟩
theorem had_up (h : Int32) {j k : Nat} (hj : j < 9) (hk : k < 9) : b_t (h ||| (1 <<< (nI j &&& 31))) k = (b_t h k || decide (k = j)) := by
  rw [b_or, b_shl j (by omega) 1 (by omega)]
  congr 1
  by_cases c : j ≤ k
  · rw [decide_eq_true c, Bool.true_and, b_one _ (by omega)]
    by_cases c2 : k = j
    · rw [decide_eq_true c2, decide_eq_true (by omega)]
    · rw [decide_eq_false c2, decide_eq_false (by omega)]
  · rw [decide_eq_false c, Bool.false_and, decide_eq_false (by omega)]
/-- how many of n aren't 0 -/
def nM (m : Nat → Int32) : Nat → Nat
  | 0 => 0
  | n + 1 => nM m n + if m n = 0 then 0 else 1
theorem nM_le (m : Nat → Int32) : ∀ n, nM m n ≤ n
  | 0 => Nat.le_refl _
  | n + 1 => by
    have := nM_le m n
    unfold nM
    split <;> omega
theorem nM_same {m : Nat → Int32} {j : Nat} {x : Int32} : ∀ {n : Nat}, n ≤ j → nM (upd m j x) n = nM m n
  | 0, _ => rfl
  | n + 1, h => by
    unfold nM
    rw [nM_same (n := n) (by omega), upd_ne m x (by omega)]
theorem nM_upd {m : Nat → Int32} {j : Nat} (hj : m j = 0) : ∀ {n : Nat}, j < n → nM (upd m j 1) n = nM m n + 1
  | 0, h => absurd h (Nat.not_lt_zero _)
  | n + 1, h => by
    unfold nM
    by_cases e : j = n
    · subst e
      rw [nM_same (Nat.le_refl _), upd_eq, if_neg (by decide), if_pos hj]
    · rw [upd_ne m 1 (fun z => e z.symm), nM_upd hj (n := n) (by omega)]
      omega
theorem nM_0 {m : Nat → Int32} : ∀ n, (∀ k, k < n → m k = 0) → nM m n = 0
  | 0, _ => rfl
  | n + 1, h => by
    unfold nM
    rw [nM_0 n (fun k hk => h k (by omega)), if_pos (h n (by omega))]
theorem low_eq : ∀ k, k < 9 → mLow k = kLow k ∧ mHigh k = kHigh k ∧ mUsual k = kUsual k ∧ kLow k ≤ kUsual k ∧ kUsual k ≤ kHigh k := by decide +kernel
/-- what stays where the reference reads a text -/
def KP (w w' : MSt) : Prop := (∀ k, k ≠ 9 → k ≠ 11 → k ≠ 12 → k ≠ 16 → w'.1 k = w.1 k) ∧ (∀ k, k ≠ 8 → k ≠ 13 → k ≠ 14 → w'.2.1 k = w.2.1 k) ∧ (∀ k, k ≠ 7 → w'.2.2.2 k = w.2.2.2 k)
theorem KP.refl (w : MSt) : KP w w := ⟨fun _ _ _ _ _ => rfl, fun _ _ _ _ => rfl, fun _ _ => rfl⟩
theorem KP.trans {w w' w'' : MSt} (h : KP w w') (h' : KP w' w'') : KP w w'' :=
  ⟨fun k a b c d => (h'.1 k a b c d).trans (h.1 k a b c d), fun k a b c => (h'.2.1 k a b c).trans (h.2.1 k a b c), fun k a => (h'.2.2 k a).trans (h.2.2 k a)⟩
theorem KP.go (w : MSt) : KP w (mGo w) := by
  obtain ⟨h1, h2, h3⟩ := mGo_kp w
  exact ⟨fun k _ b c _ => h1 k b c, fun k _ b c => h2 k b c, fun k _ => by rw [h3]⟩
theorem KP.bad (x : Int32) (w : MSt) : KP w (mBad x w).2 :=
  ⟨fun k a _ _ _ => up_ne w.1 _ a, fun k a _ _ => up_ne w.2.1 _ a, fun _ _ => rfl⟩
/-- class and reference between two RULES -/
def RI (f : Nat → Int32) (n i : Nat) (had : Int32) (c : RSt) (w : MSt) : Prop :=
  c.2.2.1 = w.1 11 ∧ c.2.2.1 ≤ n ∧ w.1 10 = n ∧ w.2.2.2 1 = f ∧ w.2.2.2 5 = mLow ∧ w.2.2.2 6 = mHigh ∧ c.2.2.2.1 = 0 ∧ w.2.1 8 = 0 ∧ (∀ k, k < 9 → c.2.2.2.2.1 k = w.2.2.2 7 k ∧ kLow k ≤ c.2.2.2.2.1 k ∧ c.2.2.2.2.1 k ≤ kHigh k) ∧ (∀ k, k < 9 → (b_t had k = true ↔ ¬ c.2.2.2.2.2 k = 0)) ∧ nM c.2.2.2.2.2 9 = i ∧ w.1 16 = i
/-- what both say at the end -/
def RE9 (a : Int32 × RSt) (b : Int32 × MSt) : Prop :=
  ((b.1 = 0 ∧ a.1 = -1 - nI (b.2.1 9) ∧ b.2.1 9 ≤ 320) ∨ (b.1 = 1 ∧ a.1 = nI (b.2.1 16) ∧ b.2.1 16 ≤ 9 ∧ ∀ k, k < 9 → a.2.2.2.2.2.1 k = b.2.2.2.2 7 k ∧ kLow k ≤ a.2.2.2.2.2.1 k ∧ a.2.2.2.2.2.1 k ≤ kHigh k)) ∧ a.2.2.2.2.1 = b.2.2.1 8
theorem re_bad {f : Nat → Int32} {n : Nat} {c : RSt} {w : MSt} {x : Int32} (h : TR f n c w) (hx : x = 1 ∨ ¬ w.2.1 13 = 1) : RE9 (-1 - nI (rPut (x, c)).2.1, rPut (x, c)) (mBad x w) := by
  obtain ⟨h1, h2, -⟩ := h
  refine ⟨Or.inl ⟨rfl, ?_, ?_⟩, ?_⟩
  · show -1 - nI c.2.1 = -1 - nI (w.1 12)
    rw [h1]
  · show w.1 12 ≤ 320
    omega
  · show x = if w.2.1 13 = 1 then 1 else x
    rcases hx with e | e
    · rw [e]; split <;> rfl
    · rw [if_neg e]
/-- the class's turn where it stops with FAULT x -/
theorem all_bad {f : Nat → Int32} {n r i : Nat} {cu c1 : RSt} {x : Int32} (e1 : rStepU f n cu = c1) (h4 : ¬ c1.1 = 4) {c9 : RSt} (eF : rFault f n c1 = (x, c9)) (hx : ¬ x = 0) : rAll f n (r + 1) i cu = (-1 - nI (rPut (x, c9)).2.1, rPut (x, c9)) := by
  rw [rAll, e1, if_neg h4, eF, if_neg hx]
theorem rd_loop {f : Nat → Int32} {n : Nat} (hn : n ≤ 320) : ∀ (r i : Nat) (had : Int32) (cu : RSt) (w : MSt) (R : Nat), r + i = 10 → RI f n i had cu w → n + 1 ≤ (mGo w).1 11 + R → RE9 (rAll f n r i cu) (rdLoop R had (mGo w)) ∧ KP w (rdLoop R had (mGo w)).2
  | 0, i, had, cu, w, R, hi, hI, _ => by
    have h1 := nM_le cu.2.2.2.2.2 9
    have h2 := hI.2.2.2.2.2.2.2.2.2.2.1
    omega
  | r + 1, i, had, cu, w, R, hi, hI, hR => by
    obtain ⟨i1, i2, i3, i4, i5, i6, i7, i8, i9, i10, i11, i12⟩ := hI
    obtain ⟨hT, hU⟩ := step_tok hn i1 i2 i3 i4
    have hbd := mGo_bd (u := w) (by omega)
    have hkp := KP.go w
    obtain ⟨kp1, kp2, kp3⟩ := mGo_kp w
    obtain ⟨R', rfl⟩ : ∃ R', R = R' + 1 := ⟨R - 1, by omega⟩
    have w10 : (mGo w).1 10 = n := by rw [kp1 10 (by decide) (by decide)]; exact i3
    have w16 : (mGo w).1 16 = i := by rw [kp1 16 (by decide) (by decide)]; exact i12
    have w8 : (mGo w).2.1 8 = 0 := by rw [kp2 8 (by decide) (by decide)]; exact i8
    have w1 : (mGo w).2.2.2 1 = f := by rw [kp3]; exact i4
    have w5 : (mGo w).2.2.2 5 = mLow := by rw [kp3]; exact i5
    have w6 : (mGo w).2.2.2 6 = mHigh := by rw [kp3]; exact i6
    have w7 : (mGo w).2.2.2 7 = w.2.2.2 7 := by rw [kp3]
    have hi9 := nM_le cu.2.2.2.2.2 9
    generalize hc1 : rStepU f n cu = c1 at *
    generalize hw1 : mGo w = v1 at *
    have hT0 := hT
    obtain ⟨t1, t2, t3⟩ := hT
    have u1 : c1.2.2.2.1 = 0 := by rw [hU]; exact i7
    have u2 : c1.2.2.2.2.1 = cu.2.2.2.2.1 := by rw [hU]
    have u3 : c1.2.2.2.2.2 = cu.2.2.2.2.2 := by rw [hU]
    have nokind : ¬ c1.1 = 4 → rKind f c1 = none → ruleAt v1 = none → ¬ v1.2.1 13 = 0 → RE9 (rAll f n (r + 1) i cu) (rdLoop (R' + 1) had v1) ∧ KP w (rdLoop (R' + 1) had v1).2 := by
      intro h4 hk hr h0
      have eF : rFault f n c1 = (1, c1) := by
        unfold rFault
        rw [hk]
      have eR : rdStep had v1 = .inl (mBad 1 v1) := by
        unfold rdStep
        rw [if_neg h0, hr]
      rw [all_bad hc1 h4 eF (by decide), rdLoop_l eR]
      exact ⟨re_bad hT0 (Or.inl rfl), hkp.trans (KP.bad 1 v1)⟩
    rcases t3 with ⟨a1, a2⟩ | ⟨a1, a2⟩ | ⟨a1, a2, a3, a4, a5⟩ | ⟨a1, a2, a3, a4, a5⟩ | ⟨a1, a2, a3, a4⟩
    · -- the end
      have eR : rdStep had v1 = .inl (1, v1) := by
        unfold rdStep
        rw [if_pos a2]
      rw [rAll, hc1, if_pos a1, rdLoop_l eR]
      refine ⟨⟨Or.inr ⟨rfl, ?_, ?_, fun k hk => ?_⟩, ?_⟩, hkp⟩
      · show nI i = nI (v1.1 16)
        rw [w16]
      · show v1.1 16 ≤ 9
        omega
      · show c1.2.2.2.2.1 k = v1.2.2.2 7 k ∧ _
        rw [u2, w7]
        exact i9 k hk
      · show c1.2.2.2.1 = v1.2.1 8
        rw [u1, w8]
    · exact nokind (by rw [a1]; decide) (by unfold rKind; rw [if_neg (by rw [a1]; decide)]) (by unfold ruleAt; rw [if_neg (by rw [a2]; decide)]) (by rw [a2]; decide)
    · -- a WORD
      have eK : rKind f c1 = ruleAt v1 := by
        unfold rKind ruleAt
        rw [if_pos a1, if_pos a2, a5]
      cases hr : ruleAt v1 with
      | none => exact nokind (by rw [a1]; decide) (eK.trans hr) hr (by rw [a2]; decide)
      | some j =>
        have hj := ruleAt_lt hr
        have h4 : ¬ c1.1 = 4 := by rw [a1]; decide
        have h0 : ¬ v1.2.1 13 = 0 := by rw [a2]; decide
        by_cases cm : c1.2.2.2.2.2 j = 0
        case neg =>
          have eF : rFault f n c1 = (3, c1) := by
            unfold rFault
            rw [eK, hr]
            show (if c1.2.2.2.2.2 j = 0 then _ else ((3 : Int32), c1)) = _
            rw [if_neg cm]
          have eR : rdStep had v1 = .inl (mBad 3 v1) := by
            unfold rdStep
            rw [if_neg h0, hr]
            show (if (had >>> (nI j &&& 31)) &&& 1 = 1 then _ else _) = _
            rw [if_pos ((had_bit had hj).mpr ((i10 j hj).mpr (by rw [← u3]; exact cm)))]
          rw [all_bad hc1 h4 eF (by decide), rdLoop_l eR]
          exact ⟨re_bad hT0 (Or.inr (by rw [a2]; decide)), hkp.trans (KP.bad 3 v1)⟩
        case pos =>
          have cm' : cu.2.2.2.2.2 j = 0 := by rw [← u3]; exact cm
          have hnb : ¬ (had >>> (nI j &&& 31)) &&& 1 = 1 := fun z => (i10 j hj).mp ((had_bit had hj).mp z) cm'
          have eR0 : rdStep had v1 = rd2 had j (mGo v1) := by
            unfold rdStep
            rw [if_neg h0, hr]
            show (if (had >>> (nI j &&& 31)) &&& 1 = 1 then _ else _) = _
            rw [if_neg hnb]
          have eF0 : rFault f n c1 = rF2 f n j (rStepU f n (c1.1, c1.2.1, c1.2.2.1, c1.2.2.2.1, c1.2.2.2.2.1, upd c1.2.2.2.2.2 j 1)) := by
            unfold rFault
            rw [eK, hr]
            show (if c1.2.2.2.2.2 j = 0 then _ else ((3 : Int32), c1)) = _
            rw [if_pos cm]
          -- the second TOKEN
          obtain ⟨hT2, hU2⟩ := step_tok (r := (c1.1, c1.2.1, c1.2.2.1, c1.2.2.2.1, c1.2.2.2.2.1, upd c1.2.2.2.2.2 j 1)) (w := v1) hn a3 a4 w10 w1
          have hbd2 := mGo_bd (u := v1) (by omega)
          obtain ⟨kq1, kq2, kq3⟩ := mGo_kp v1
          have hkp2 := hkp.trans (KP.go v1)
          generalize hc2 : rStepU f n (c1.1, c1.2.1, c1.2.2.1, c1.2.2.2.1, c1.2.2.2.2.1, upd c1.2.2.2.2.2 j 1) = c2 at *
          generalize hw2 : mGo v1 = v2 at *
          have hT20 := hT2
          obtain ⟨s1, s2, s3⟩ := hT2
          have nonum : ¬ c2.1 = 2 → ¬ v2.2.1 13 = 3 → RE9 (rAll f n (r + 1) i cu) (rdLoop (R' + 1) had v1) ∧ KP w (rdLoop (R' + 1) had v1).2 := by
            intro hc hv
            have eF : rFault f n c1 = (1, c2) := by rw [eF0, rF2, if_neg hc]
            have eR : rdStep had v1 = .inl (mBad 1 v2) := by rw [eR0, rd2, if_neg hv]
            rw [all_bad hc1 h4 eF (by decide), rdLoop_l eR]
            exact ⟨re_bad hT20 (Or.inl rfl), hkp2.trans (KP.bad 1 v2)⟩
          rcases s3 with ⟨d1, d2⟩ | ⟨d1, d2⟩ | ⟨d1, d2, d3, d4, d5⟩ | ⟨d1, d2, d3, d4, d5⟩ | ⟨d1, d2, d3, d4⟩
          · exact nonum (by rw [d1]; decide) (by rw [d2]; decide)
          · exact nonum (by rw [d1]; decide) (by rw [d2]; decide)
          · exact nonum (by rw [d1]; decide) (by rw [d2]; decide)
          · -- a NUMBER
            have x5 : v2.2.2.2 5 j = kLow j := by rw [kq3, w5]; exact (low_eq j hj).1
            have x6 : v2.2.2.2 6 j = kHigh j := by rw [kq3, w6]; exact (low_eq j hj).2.1
            have toobad : (rNum f c2.2.1 c2.2.2.1 < kLow j ∨ ¬ rNum f c2.2.1 c2.2.2.1 ≤ kHigh j) → RE9 (rAll f n (r + 1) i cu) (rdLoop (R' + 1) had v1) ∧ KP w (rdLoop (R' + 1) had v1).2 := by
              intro hb
              have eF : rFault f n c1 = (2, c2) := by
                rw [eF0, rF2, if_pos d1]
                by_cases q : rNum f c2.2.1 c2.2.2.1 < kLow j
                · rw [if_pos q]
                · rcases hb with hb | hb
                  · exact absurd hb q
                  · rw [if_neg q, if_neg hb]
              have eR : rdStep had v1 = .inl (mBad 2 v2) := by
                rw [eR0, rd2, if_pos d2, x5, x6, ← d5]
                by_cases q : rNum f c2.2.1 c2.2.2.1 < kLow j
                · rw [if_pos q]
                · rcases hb with hb | hb
                  · exact absurd hb q
                  · rw [if_neg q, if_neg hb]
              rw [all_bad hc1 h4 eF (by decide), rdLoop_l eR]
              exact ⟨re_bad hT20 (Or.inr (by rw [d2]; decide)), hkp2.trans (KP.bad 2 v2)⟩
            by_cases q1 : rNum f c2.2.1 c2.2.2.1 < kLow j
            · exact toobad (Or.inl q1)
            by_cases q2 : rNum f c2.2.1 c2.2.2.1 ≤ kHigh j
            case neg => exact toobad (Or.inr q2)
            -- the third TOKEN
            have x10 : v2.1 10 = n := by rw [kq1 10 (by decide) (by decide)]; exact w10
            have x1 : v2.2.2.2 1 = f := by rw [kq3]; exact w1
            have eR1 : rdStep had v1 = rd3 had j (mGo (v2.1, v2.2.1, v2.2.2.1, up v2.2.2.2 7 (upd (v2.2.2.2 7) j (v2.2.1 14)))) := by
              rw [eR0, rd2, if_pos d2, x5, x6, ← d5, if_neg q1, if_pos q2]
            have eF1 : rFault f n c1 = ((if (rStepU f n (c2.1, c2.2.1, c2.2.2.1, c2.2.2.2.1, upd c2.2.2.2.2.1 j (rNum f c2.2.1 c2.2.2.1), c2.2.2.2.2.2)).1 = 3 then 0 else 1), rStepU f n (c2.1, c2.2.1, c2.2.2.1, c2.2.2.2.1, upd c2.2.2.2.2.1 j (rNum f c2.2.1 c2.2.2.1), c2.2.2.2.2.2)) := by
              rw [eF0, rF2, if_pos d1, if_neg q1, if_pos q2]
            obtain ⟨hT3, hU3⟩ := step_tok (r := (c2.1, c2.2.1, c2.2.2.1, c2.2.2.2.1, upd c2.2.2.2.2.1 j (rNum f c2.2.1 c2.2.2.1), c2.2.2.2.2.2)) (w := (v2.1, v2.2.1, v2.2.2.1, up v2.2.2.2 7 (upd (v2.2.2.2 7) j (v2.2.1 14)))) hn d3 d4 x10 x1
            have hbd3 := mGo_bd (u := (v2.1, v2.2.1, v2.2.2.1, up v2.2.2.2 7 (upd (v2.2.2.2 7) j (v2.2.1 14)))) (show v2.1 11 ≤ v2.1 10 by omega)
            have hkp3 : KP w (mGo (v2.1, v2.2.1, v2.2.2.1, up v2.2.2.2 7 (upd (v2.2.2.2 7) j (v2.2.1 14)))) := by
              refine hkp2.trans (KP.trans (w' := (v2.1, v2.2.1, v2.2.2.1, up v2.2.2.2 7 (upd (v2.2.2.2 7) j (v2.2.1 14)))) ⟨fun _ _ _ _ _ => rfl, fun _ _ _ _ => rfl, fun k hk => up_ne v2.2.2.2 _ hk⟩ (KP.go _))
            obtain ⟨kr1, kr2, kr3⟩ := mGo_kp (v2.1, v2.2.1, v2.2.2.1, up v2.2.2.2 7 (upd (v2.2.2.2 7) j (v2.2.1 14)))
            replace kr1 : ∀ k, k ≠ 11 → k ≠ 12 → (mGo (v2.1, v2.2.1, v2.2.2.1, up v2.2.2.2 7 (upd (v2.2.2.2 7) j (v2.2.1 14)))).1 k = v2.1 k := kr1
            replace kr2 : ∀ k, k ≠ 13 → k ≠ 14 → (mGo (v2.1, v2.2.1, v2.2.2.1, up v2.2.2.2 7 (upd (v2.2.2.2 7) j (v2.2.1 14)))).2.1 k = v2.2.1 k := kr2
            replace kr3 : (mGo (v2.1, v2.2.1, v2.2.2.1, up v2.2.2.2 7 (upd (v2.2.2.2 7) j (v2.2.1 14)))).2.2.2 = up v2.2.2.2 7 (upd (v2.2.2.2 7) j (v2.2.1 14)) := kr3
            replace hbd3 : _ ∧ v2.1 11 ≤ _ ∧ _ ∧ (_ → v2.1 11 < _) ∧ _ := hbd3
            replace hU3 : (rStepU f n (c2.1, c2.2.1, c2.2.2.1, c2.2.2.2.1, upd c2.2.2.2.2.1 j (rNum f c2.2.1 c2.2.2.1), c2.2.2.2.2.2)).2.2.2 = (c2.2.2.2.1, upd c2.2.2.2.2.1 j (rNum f c2.2.1 c2.2.2.1), c2.2.2.2.2.2) := hU3
            generalize hc3 : rStepU f n (c2.1, c2.2.1, c2.2.2.1, c2.2.2.2.1, upd c2.2.2.2.2.1 j (rNum f c2.2.1 c2.2.2.1), c2.2.2.2.2.2) = c3 at *
            generalize hw3 : mGo (v2.1, v2.2.1, v2.2.2.1, up v2.2.2.2 7 (upd (v2.2.2.2 7) j (v2.2.1 14))) = v3 at *
            have hT30 := hT3
            obtain ⟨y1, y2, y3⟩ := hT3
            have nosign : ¬ c3.1 = 3 → ¬ v3.2.1 13 = 4 → RE9 (rAll f n (r + 1) i cu) (rdLoop (R' + 1) had v1) ∧ KP w (rdLoop (R' + 1) had v1).2 := by
              intro hc hv
              have eF : rFault f n c1 = (1, c3) := by rw [eF1, if_neg hc]
              have eR : rdStep had v1 = .inl (mBad 1 v3) := by rw [eR1, rd3, if_neg hv]
              rw [all_bad hc1 h4 eF (by decide), rdLoop_l eR]
              exact ⟨re_bad hT30 (Or.inl rfl), hkp3.trans (KP.bad 1 v3)⟩
            rcases y3 with ⟨g1, g2⟩ | ⟨g1, g2⟩ | ⟨g1, g2, g3, g4, g5⟩ | ⟨g1, g2, g3, g4, g5⟩ | ⟨g1, g2, g3, g4⟩
            · exact nosign (by rw [g1]; decide) (by rw [g2]; decide)
            · exact nosign (by rw [g1]; decide) (by rw [g2]; decide)
            · exact nosign (by rw [g1]; decide) (by rw [g2]; decide)
            · exact nosign (by rw [g1]; decide) (by rw [g2]; decide)
            · -- a RULE more
              have eF : rFault f n c1 = (0, c3) := by rw [eF1, if_pos g1]
              have eR : rdStep had v1 = .inr (had ||| (1 <<< (nI j &&& 31)), mGo (up v3.1 16 (v3.1 16 + 1), v3.2.1, v3.2.2.1, v3.2.2.2)) := by rw [eR1, rd3, if_pos g2]
              have eA : rAll f n (r + 1) i cu = rAll f n r (i + 1) (rPut (0, c3)) := by
                rw [rAll, hc1, if_neg h4, eF, if_pos rfl]
              rw [eA, rdLoop_r eR]
              have hbd4 := mGo_bd (u := (up v3.1 16 (v3.1 16 + 1), v3.2.1, v3.2.2.1, v3.2.2.2)) (show v3.1 11 ≤ v3.1 10 by rw [kr1 10 (by decide) (by decide), x10]; omega)
              have hz := hbd3.2.2.2.1 g2
              have hz4 : v3.1 11 ≤ (mGo (up v3.1 16 (v3.1 16 + 1), v3.2.1, v3.2.2.1, v3.2.2.2)).1 11 := hbd4.2.1
              have ih := rd_loop (f := f) hn r (i + 1) (had ||| (1 <<< (nI j &&& 31))) (rPut (0, c3)) (up v3.1 16 (v3.1 16 + 1), v3.2.1, v3.2.2.1, v3.2.2.2) R' (by omega) ?_ (by omega)
              · refine ⟨ih.1, hkp3.trans (KP.trans (w' := (up v3.1 16 (v3.1 16 + 1), v3.2.1, v3.2.2.1, v3.2.2.2)) ⟨fun k _ _ _ hk => up_ne v3.1 _ hk, fun _ _ _ _ => rfl, fun _ _ => rfl⟩ ih.2)⟩
              · have m1 : c3.2.2.2.2.1 = upd c2.2.2.2.2.1 j (rNum f c2.2.1 c2.2.2.1) := by rw [hU3]
                have m2 : c3.2.2.2.2.2 = c2.2.2.2.2.2 := by rw [hU3]
                have m3 : c2.2.2.2.2.1 = cu.2.2.2.2.1 := by rw [hU2]; exact u2
                have m4 : c2.2.2.2.2.2 = upd cu.2.2.2.2.2 j 1 := by rw [hU2, ← u3]
                refine ⟨g3, g4, ?_, ?_, ?_, ?_, rfl, ?_, fun k hk => ?_, fun k hk => ?_, ?_, ?_⟩
                · show v3.1 10 = n
                  rw [kr1 10 (by decide) (by decide), x10]
                · show v3.2.2.2 1 = f
                  rw [kr3]; exact x1
                · show v3.2.2.2 5 = mLow
                  rw [kr3]
                  show v2.2.2.2 5 = mLow
                  rw [kq3, w5]
                · show v3.2.2.2 6 = mHigh
                  rw [kr3]
                  show v2.2.2.2 6 = mHigh
                  rw [kq3, w6]
                · show v3.2.1 8 = 0
                  rw [kr2 8 (by decide) (by decide), kq2 8 (by decide) (by decide), w8]
                · show c3.2.2.2.2.1 k = v3.2.2.2 7 k ∧ kLow k ≤ c3.2.2.2.2.1 k ∧ c3.2.2.2.2.1 k ≤ kHigh k
                  rw [m1, m3, kr3]
                  show upd cu.2.2.2.2.1 j (rNum f c2.2.1 c2.2.2.1) k = upd (v2.2.2.2 7) j (v2.2.1 14) k ∧ _
                  rw [kq3, w7, ← d5]
                  by_cases ck : k = j
                  · subst ck
                    rw [upd_eq, upd_eq]
                    exact ⟨rfl, Int32.not_lt.mp q1, q2⟩
                  · rw [upd_ne _ _ ck, upd_ne _ _ ck]
                    exact i9 k hk
                · show b_t (had ||| (1 <<< (nI j &&& 31))) k = true ↔ ¬ c3.2.2.2.2.2 k = 0
                  rw [m2, m4, had_up had hj hk]
                  by_cases ck : k = j
                  · subst ck
                    rw [upd_eq, decide_eq_true rfl, Bool.or_true]
                    exact ⟨fun _ => by decide, fun _ => rfl⟩
                  · rw [upd_ne _ _ ck, decide_eq_false ck, Bool.or_false]
                    exact i10 k hk
                · show nM c3.2.2.2.2.2 9 = i + 1
                  rw [m2, m4, nM_upd cm' hj, i11]
                · show v3.1 16 + 1 = i + 1
                  rw [kr1 16 (by decide) (by decide), kq1 16 (by decide) (by decide), w16]
          · exact nonum (by rw [d1]; decide) (by rw [d2]; decide)
    · exact nokind (by rw [a1]; decide) (by unfold rKind; rw [if_neg (by rw [a1]; decide)]) (by unfold ruleAt; rw [if_neg (by rw [a2]; decide)]) (by rw [a2]; decide)
    · exact nokind (by rw [a1]; decide) (by unfold rKind; rw [if_neg (by rw [a1]; decide)]) (by unfold ruleAt; rw [if_neg (by rw [a2]; decide)]) (by rw [a2]; decide)
