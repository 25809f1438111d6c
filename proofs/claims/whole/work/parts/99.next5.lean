/-! ===== alike: next ===== -/
section NX5
variable {b1 : Nat} {b2 : Nat → Nat} {u : CSt} {v : MSt} {g : GH} {i : Nat}
theorem next_step (h : RelB b1 b2 u v g) (hi : i < u.n) (hb : b1 < 2 ^ 29) : ∃ g', RelB (b1 + 99) (up b2 i (b2 i + 99)) (sE (ewStep (nI u.wk) u.gn (u.gr 1) i u.E) u) (nextStep u.gn i v) g' := by
  have h0 := h
  obtain ⟨k1, k2, k3, k4, k5, k6, k7⟩ := h
  obtain ⟨l1, l2, l3, l4, l5, l6, l7, l8, l9, l10, l11⟩ := k5.2.2.2 i hi
  have hwk : v.1 23 = u.wk := k3.2.2.1.symm
  have hsame : ∃ g', RelB (b1 + 99) (up b2 i (b2 i + 99)) (sE u.E u) v g' := ⟨g, h0.weak (Nat.le_add_right _ _) (fun k _ => up_ge b2 i k)⟩
  unfold nextStep
  rw [hwk, ← ls16 l1, ← ls3 l1]
  show ∃ g', RelB _ _ (sE (if u.ga i 16 = 0 then (if nI u.wk ≤ u.ga i 3 then u.E else if (cLate (u.ga i) (nI u.wk)).1 = 0 then (ewLate (nI u.wk) i u.ga, u.E.2) else ewCall u.gn (u.gr 1) i (ewLate (nI u.wk) i u.ga, u.E.2)) else u.E) u) _ g'
  by_cases c1 : u.ga i 16 = 0
  · rw [if_pos c1, if_pos c1]
    by_cases c2 : nI u.wk ≤ u.ga i 3
    · rw [if_pos c2, if_neg (Int32.not_lt.mpr c2)]
      exact hsame
    · rw [if_neg c2, if_pos (Int32.not_le.mp c2)]
      have hdue : cDue (u.ga i) (nI u.wk) = fDue i u.wk v := due_eq (show RLx (u.ga i) v.2.2.2 i from l1) l11
      rw [← hdue, ← ls11 l1]
      unfold ewLate
      by_cases c3 : u.ga i 11 < cDue (u.ga i) (nI u.wk)
      · have eL : cLate (u.ga i) (nI u.wk) = ((if u.ga i 15 + 1 < u.ga i 8 then 0 else 1), cLateF (u.ga i)) := by rw [cLate, if_pos c3]
        rw [eL, if_neg (Int32.not_le.mpr c3)]
        by_cases c4 : u.ga i 15 + 1 < u.ga i 8
        · rw [show ((if u.ga i 15 + 1 < u.ga i 8 then (0 : Int32) else 1), cLateF (u.ga i)) = ((0 : Int32), cLateF (u.ga i)) by rw [if_pos c4], if_pos rfl]
          unfold mLate
          rw [if_neg (show ¬ v.2.2.2 31 i ≤ v.2.2.2 36 i + 1 by rw [← ls8 l1, ← ls15 l1]; exact Int32.not_le.mpr c4)]
          exact next_D h0 hi
        · rw [show ((if u.ga i 15 + 1 < u.ga i 8 then (0 : Int32) else 1), cLateF (u.ga i)) = ((1 : Int32), cLateF (u.ga i)) by rw [if_neg c4], if_neg (show ¬ ((1 : Int32) = 0) by decide)]
          exact next_E h0 hi c1 hb (by rw [← ls8 l1, ← ls15 l1]; exact Int32.not_lt.mp c4)
      · have eL : cLate (u.ga i) (nI u.wk) = (0, up (u.ga i) 15 0) := by rw [cLate, if_neg c3]
        rw [eL, if_pos rfl, if_pos (Int32.not_lt.mp c3)]
        exact ⟨_, next_C h0 hi⟩
  · rw [if_neg c1, if_neg c1]
    exact hsame
theorem next_loop : ∀ (r i : Nat) (e : EWS) (v : MSt) (g : GH) (b1 : Nat) (b2 : Nat → Nat), i + r = u.n → RelB b1 b2 (sE e u) v g → b1 + 99 * r < 2 ^ 29 → ∃ g' b2', RelB (b1 + 99 * r) b2' (sE (lp (ewStep (nI u.wk) u.gn (u.gr 1)) r i e) u) (lp (nextStep u.gn) r i v) g' ∧ ∀ k, k < u.n → b2' k ≤ b2 k + (if i ≤ k then 99 else 0)
  | 0, i, e, v, g, b1, b2, _, h, _ => ⟨g, b2, h, fun k _ => Nat.le_add_right _ _⟩
  | r + 1, i, e, v, g, b1, b2, hi, h, hb => by
    obtain ⟨g1, k1⟩ := next_step (u := sE e u) h (show i < u.n by omega) (by omega)
    obtain ⟨g2, b3, k2, k3⟩ := next_loop r (i + 1) (ewStep (nI u.wk) u.gn (u.gr 1) i e) (nextStep u.gn i v) g1 (b1 + 99) (up b2 i (b2 i + 99)) (by omega) k1 (by omega)
    refine ⟨g2, b3, ?_, fun k hk => ?_⟩
    · rw [show b1 + 99 * (r + 1) = b1 + 99 + 99 * r by omega]
      exact k2
    · have := k3 k hk
      by_cases c : k = i
      · subst c
        rw [up_eq, if_neg (by omega)] at this
        rw [if_pos (Nat.le_refl _)]
        omega
      · rw [up_ne _ _ c] at this
        by_cases c2 : i ≤ k
        · rw [if_pos (show i + 1 ≤ k by omega)] at this
          rw [if_pos c2]
          exact this
        · rw [if_neg (show ¬ i + 1 ≤ k by omega)] at this
          rw [if_neg c2]
          exact this
theorem book_m (w nf : Nat) (pe bk : Nat → Int32) : (∀ f, f < 6 → fBook w nf pe bk (6 * w + f) = if nf ≤ f then -1 else pe f) ∧ ∀ a, (a < 6 * w ∨ 6 * w + 6 ≤ a) → fBook w nf pe bk a = bk a := by
  unfold fBook
  have h := lp_ind (f := fun f b => upd b (6 * w + f) (if nf ≤ f then -1 else pe f)) (fun m t => (∀ f, f < m → t (6 * w + f) = if nf ≤ f then -1 else pe f) ∧ ∀ a, (a < 6 * w ∨ 6 * w + 6 ≤ a) → t a = bk a) 6 0 bk ?_ ?_
  · rw [Nat.zero_add] at h
    exact h
  · exact ⟨fun f hf => by omega, fun a _ => rfl⟩
  · intro m t _ hm ih
    refine ⟨fun f hf => ?_, fun a ha => ?_⟩
    · show upd t (6 * w + m) (if nf ≤ m then -1 else pe m) (6 * w + f) = _
      by_cases c : f = m
      · subst c; rw [upd_eq]
      · rw [upd_ne _ _ (by omega)]
        exact ih.1 f (by omega)
    · show upd t (6 * w + m) (if nf ≤ m then -1 else pe m) a = bk a
      rw [upd_ne _ _ (by omega)]
      exact ih.2 a ha
theorem book_c (n w : Nat) (hn : n ≤ 6) (pe bk : Nat → Int32) : (∀ f, f < n → cDown n w pe bk (w * 6 + f) = pe f) ∧ ∀ a, (a < w * 6 ∨ w * 6 + 6 ≤ a) → cDown n w pe bk a = bk a := by
  unfold cDown
  have h := lp_ind (f := fun i f => upd f (w * 6 + i) (pe i)) (fun m t => (∀ f, f < m → t (w * 6 + f) = pe f) ∧ ∀ a, (a < w * 6 ∨ w * 6 + 6 ≤ a) → t a = bk a) n 0 bk ?_ ?_
  · rw [Nat.zero_add] at h
    exact h
  · exact ⟨fun f hf => by omega, fun a _ => rfl⟩
  · intro m t _ hm ih
    refine ⟨fun f hf => ?_, fun a ha => ?_⟩
    · show upd t (w * 6 + m) (pe m) (w * 6 + f) = _
      by_cases c : f = m
      · subst c; rw [upd_eq]
      · rw [upd_ne _ _ (by omega)]
        exact ih.1 f (by omega)
    · show upd t (w * 6 + m) (pe m) a = bk a
      rw [upd_ne _ _ (by omega)]
      exact ih.2 a ha
theorem rel_next {N : Nat} (h : Rel N u v g) (hN : N ≤ 512) : ∃ g', (xNext u).1 = (mNext u.gn v).1 ∧ Rel (N + 1) (xNext u).2 (mNext u.gn v).2 g' := by
  have h0 := h
  have hwk : u.wk = v.1 23 := h.2.2.1.2.2.1
  have hwl := h.2.2.1.2.2.2.1
  have hn := h.2.2.2.2.1.1
  have hn100 := h.2.2.2.2.1.2.1
  unfold xNext mNext
  rw [← hwk]
  by_cases c : u.wk < 400
  · rw [if_pos c, if_neg (by omega)]
    obtain ⟨g', b2', k, kb⟩ := next_loop (u := u) u.n 0 u.E (mT0 v) g (100000 * N) (fun _ => 99 * N) (by omega) h0 (by omega)
    have eU : mNextU u.gn v = lp (nextStep u.gn) u.n 0 (mT0 v) := by
      unfold mNextU
      rw [hn]
    rw [eU]
    generalize hv' : lp (nextStep u.gn) u.n 0 (mT0 v) = v' at k
    obtain ⟨k1, k2, k3, k4, k5, k6, ⟨m1, m2, m3, m4⟩⟩ := k
    have hw' : u.wk = v'.1 23 := k3.2.2.1
    refine ⟨g', ?_, ?_⟩
    · show nI (u.wk + 1) = nI (v'.1 23 + 1)
      rw [hw']
    · refine ⟨k1, k2, ⟨k3.1, k3.2.1, ?_, ?_, k3.2.2.2.2⟩, ?_, k5, k6, m1, fun i hi => ⟨(m2 i hi).1, ?_⟩, m3, ?_⟩
      · show u.wk + 1 = v'.1 23 + 1
        rw [hw']
      · show u.wk + 1 ≤ 400
        omega
      · obtain ⟨f1, f2, f3, f4, f5, f6, f7, f8⟩ := k4
        replace f3 : u.F.1 ≤ 6 := f3
        replace f1 : u.F.1 = v'.1 22 := f1
        refine ⟨f1, f2, f3, f4, f5, f6, fun f hf => ?_, fun w f hw hf => ?_⟩
        · obtain ⟨m, hm, e⟩ := f7 f hf
          exact ⟨m, Nat.le_trans hm (Nat.le_succ _), e⟩
        · show fBook (v'.1 23) (v'.1 22) (v'.2.2.2 19) (v'.2.2.2 20) (6 * w + f) = if f < u.F.1 then (if u.F.2.2 3 f ≤ nI w then cDown u.F.1 u.wk (u.F.2.2 1) (u.F.2.2 4) (w * 6 + f) else -1) else -1
          replace hw : w < u.wk + 1 := hw
          rw [← hw', ← f1]
          obtain ⟨a1, a2⟩ := book_m u.wk u.F.1 (v'.2.2.2 19) (v'.2.2.2 20)
          obtain ⟨a3, a4⟩ := book_c u.F.1 u.wk f3 (u.F.2.2 1) (u.F.2.2 4)
          by_cases ew : w = u.wk
          · rw [ew, a1 f hf]
            by_cases cf : f < u.F.1
            · obtain ⟨m, hm, e⟩ := f7 f hf
              replace hm : m ≤ u.wk := hm
              replace e : u.F.2.2 3 f = nI m := e
              rw [if_neg (by omega), if_pos cf, e, if_pos (nI_le hm (by omega)), a3 f cf]
              exact (f5 f hf).symm
            · rw [if_pos (by omega), if_neg cf]
          · rw [a2 _ (by omega), a4 _ (by omega)]
            exact f8 w f (show w < u.wk by omega) hf
      · have q := (m2 i hi).2
        have q2 := kb i hi
        have q3 : (if 0 ≤ i then 99 else 0) = 99 := if_pos (Nat.zero_le _)
        show g'.1 i 12 ≤ 99 * (N + 1)
        omega
      · have q : phi (sE (lp (ewStep (nI u.wk) u.gn (u.gr 1)) u.n 0 u.E) u) g' ≤ 100000 * N + 99 * u.n := m4
        exact Nat.le_trans q (by omega)
  · rw [if_neg c, if_pos (by omega)]
    exact ⟨g, rfl, h0.upN⟩
end NX5
