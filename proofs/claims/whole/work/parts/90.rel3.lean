/-! ===== alike: fund, gift ===== -/
theorem upd_pt {f h : Nat → Int32} {k : Nat} {x : Int32} {i : Nat} (e : f i = h i) : upd f k x i = upd h k x i := by
  by_cases c : i = k
  · subst c; rw [upd_eq, upd_eq]
  · rw [upd_ne f x c, upd_ne h x c, e]
section RE3
variable {N : Nat} {u : CSt} {v : MSt} {g : GH}
theorem Rel.upN (h : Rel N u v g) : Rel (N + 1) u v g := ⟨h.1, h.2.1, h.2.2.1, h.2.2.2.1, h.2.2.2.2.1, h.2.2.2.2.2.1, h.2.2.2.2.2.2.up (Nat.le_succ _)⟩
theorem rel_fund (h : Rel N u v g) (x y : Int32) : ∃ g', (xFund x y u).1 = (mFund x y v).1 ∧ Rel (N + 1) (xFund x y u).2 (mFund x y v).2 g' := by
  have h0 := h.upN
  obtain ⟨h1, h2, h3, ⟨f1, f2, f3, f4, f5, f6, f7, f8⟩, h5, h6, ⟨m1, m2, m3, m4⟩⟩ := h
  have hwk : u.wk ≤ 400 := h3.2.2.2.1
  unfold xFund mFund
  rw [← f1]
  by_cases c : u.F.1 = 6
  · rw [if_pos c]
    by_cases c2 : isIn x 8 = false
    · rw [if_pos c2]; exact ⟨g, rfl, h0⟩
    · rw [if_neg c2]
      by_cases c3 : y < 0
      · rw [if_pos c3]; exact ⟨g, rfl, h0⟩
      · rw [if_neg c3]
        by_cases c4 : y ≤ 100000
        · rw [if_pos c4]
          have e : cFound x y (nI u.wk) u.F = (-1, u.F) := by rw [cFound, if_neg (by omega)]
          rw [e]
          exact ⟨g, rfl, h0⟩
        · rw [if_neg c4]; exact ⟨g, rfl, h0⟩
  · rw [if_neg c]
    by_cases c2 : isIn x 8 = false
    · rw [if_pos c2]
      rcases (isIn8 x).mp c2 with k | k
      · rw [if_pos k]; exact ⟨g, rfl, h0⟩
      · by_cases c4 : x < 0
        · rw [if_pos c4]; exact ⟨g, rfl, h0⟩
        · rw [if_neg c4, if_pos k]; exact ⟨g, rfl, h0⟩
    · rw [if_neg c2, if_neg (fun z => c2 ((isIn8 x).mpr (Or.inl z))), if_neg (fun z => c2 ((isIn8 x).mpr (Or.inr z)))]
      by_cases c3 : y < 0
      · rw [if_pos c3, if_pos c3]; exact ⟨g, rfl, h0⟩
      · rw [if_neg c3, if_neg c3]
        by_cases c4 : y ≤ 100000
        · rw [if_pos c4, if_pos c4]
          have hlt : u.F.1 < 6 := by omega
          have e : cFound x y (nI u.wk) u.F = (nI u.F.1, (u.F.1 + 1, u.F.2.1 + y, up (up (up u.F.2.2 1 (upd (u.F.2.2 1) u.F.1 y)) 2 (upd (u.F.2.2 2) u.F.1 x)) 3 (upd (u.F.2.2 3) u.F.1 (nI u.wk)))) := by rw [cFound, if_pos hlt]
          rw [e]
          have hy : y.toNatClampNeg ≤ 100000 := clamp_le (n := 100000) c3 c4 (by decide)
          refine ⟨(g.1, g.2.1, up g.2.2.1 u.F.1 y.toNatClampNeg, g.2.2.2), rfl, h1, h2, h3, ⟨rfl, by show 1 ≤ u.F.1 + 1; omega, by show u.F.1 + 1 ≤ 6; omega, ?_, ?_, ?_, ?_, ?_⟩, h5, h6, ⟨?_, ?_, m3, ?_⟩⟩
          · show u.F.2.1 + y = v.2.1 24 + y
            rw [f4]
          · intro f hf
            exact upd_pt (f5 f hf)
          · intro f hf
            exact upd_pt (f6 f hf)
          · intro f hf
            show ∃ m, m ≤ u.wk ∧ upd (u.F.2.2 3) u.F.1 (nI u.wk) f = nI m
            by_cases k : f = u.F.1
            · exact ⟨u.wk, Nat.le_refl _, by rw [k, upd_eq]⟩
            · rw [upd_ne _ _ k]
              exact f7 f hf
          · intro w f hw hf
            show v.2.2.2 20 (6 * w + f) = if f < u.F.1 + 1 then (if upd (u.F.2.2 3) u.F.1 (nI u.wk) f ≤ nI w then u.F.2.2 4 (w * 6 + f) else -1) else -1
            replace hw : w < u.wk := hw
            rw [f8 w f hw hf]
            by_cases k : f = u.F.1
            · rw [if_neg (by omega), if_pos (by omega), k, upd_eq, if_neg (nI_ge hw (by omega))]
            · rw [upd_ne _ _ k]
              by_cases k2 : f < u.F.1
              · rw [if_pos k2, if_pos (show f < u.F.1 + 1 by omega)]
              · rw [if_neg k2, if_neg (show ¬ f < u.F.1 + 1 by omega)]
          · intro f hf
            show upd (u.F.2.2 1) u.F.1 y f = nI (up g.2.2.1 u.F.1 y.toNatClampNeg f)
            by_cases k : f = u.F.1
            · rw [k, upd_eq, up_eq]
              exact nI_self c3
            · rw [upd_ne _ _ k, up_ne _ _ k]
              exact m1 f hf
          · exact fun i hi => ⟨(m2 i hi).1, Nat.le_trans (m2 i hi).2 (Nat.mul_le_mul_left _ (Nat.le_succ _))⟩
          · show sumN (up g.2.2.1 u.F.1 y.toNatClampNeg) 6 + (sumN (fun i => if u.ga i 16 = 0 then restN (g.1 i) else 0) u.n + sumN g.2.2.2 u.mm) ≤ 100000 * (N + 1)
            have q1 := sumN_up g.2.2.1 u.F.1 y.toNatClampNeg 6 hlt
            have q2 : sumN g.2.2.1 6 + (sumN (fun i => if u.ga i 16 = 0 then restN (g.1 i) else 0) u.n + sumN g.2.2.2 u.mm) ≤ 100000 * N := m4
            omega
        · rw [if_neg c4, if_neg c4]; exact ⟨g, rfl, h0⟩
theorem rel_gift (h : Rel N u v g) (hN : N ≤ 512) (x y : Int32) : ∃ g', (xGift x y u).1 = (mGift x y v).1 ∧ Rel (N + 1) (xGift x y u).2 (mGift x y v).2 g' := by
  have h0 := h.upN
  obtain ⟨h1, h2, h3, ⟨f1, f2, f3, f4, f5, f6, f7, f8⟩, h5, h6, ⟨m1, m2, m3, m4⟩⟩ := h
  unfold xGift mGift
  rw [← f1]
  by_cases c : isIn x u.F.1 = false
  · rw [if_pos c, if_pos c]; exact ⟨g, rfl, h0⟩
  · rw [if_neg c, if_neg c]
    have hx := (isIn_spec (x := x) (n := u.F.1) (by simpa using c) (by omega)).2
    by_cases c2 : y < 1
    · rw [if_pos c2, if_pos c2]; exact ⟨g, rfl, h0⟩
    · rw [if_neg c2, if_neg c2]
      by_cases c3 : y ≤ 100000
      · rw [if_pos c3, if_neg (Int32.not_lt.mpr c3)]
        have c0 : ¬ y < 0 := fun z => c2 (Int32.lt_of_lt_of_le z (by decide))
        have hy : y.toNatClampNeg ≤ 100000 := clamp_le (n := 100000) c0 c3 (by decide)
        have ey := nI_self c0
        have hp := m1 x.toNatClampNeg (by omega)
        have hple : g.2.2.1 x.toNatClampNeg ≤ 100000 * N := by
          have q1 := sumN_le g.2.2.1 x.toNatClampNeg 6 (by omega)
          have q2 : sumN g.2.2.1 6 + (sumN (fun i => if u.ga i 16 = 0 then restN (g.1 i) else 0) u.n + sumN g.2.2.2 u.mm) ≤ 100000 * N := m4
          omega
        have hN2 : 100000 * N ≤ 51200000 := by omega
        have ep := f5 x.toNatClampNeg (by omega)
        have es : (1000000 : Int32) - y = nI (1000000 - y.toNatClampNeg) := by
          have q := pk_sub (a := 1000000) (b := y.toNatClampNeg) (by omega)
          rw [← ey] at q
          exact q
        have k1 : (u.F.2.2 1 x.toNatClampNeg ≤ 1000000 - y) ↔ g.2.2.1 x.toNatClampNeg + y.toNatClampNeg ≤ 1000000 := by
          rw [hp, es, nI_leI (by omega) (by omega)]
          omega
        have k2 : (v.2.2.2 19 x.toNatClampNeg + y ≤ 1000000) ↔ g.2.2.1 x.toNatClampNeg + y.toNatClampNeg ≤ 1000000 := by
          rw [← ep, hp]
          have e9 : nI (g.2.2.1 x.toNatClampNeg) + y = nI (g.2.2.1 x.toNatClampNeg + y.toNatClampNeg) := by
            rw [← nI_add, ← ey]
          rw [e9, show (1000000 : Int32) = nI 1000000 from rfl, nI_leI (by omega) (by omega)]
        by_cases c4 : g.2.2.1 x.toNatClampNeg + y.toNatClampNeg ≤ 1000000
        · have e : cGive x.toNatClampNeg y u.F = (u.F.2.2 1 x.toNatClampNeg + y, (u.F.1, u.F.2.1 + y, up u.F.2.2 1 (upd (u.F.2.2 1) x.toNatClampNeg (u.F.2.2 1 x.toNatClampNeg + y)))) := by rw [cGive, if_pos (k1.mpr c4)]
          rw [e, if_pos (k2.mpr c4)]
          refine ⟨(g.1, g.2.1, up g.2.2.1 x.toNatClampNeg (g.2.2.1 x.toNatClampNeg + y.toNatClampNeg), g.2.2.2), ?_, h1, h2, h3, ⟨f1, f2, f3, ?_, ?_, f6, f7, f8⟩, h5, h6, ⟨?_, ?_, m3, ?_⟩⟩
          · show u.F.2.2 1 x.toNatClampNeg + y = v.2.2.2 19 x.toNatClampNeg + y
            rw [ep]
          · show u.F.2.1 + y = v.2.1 24 + y
            rw [f4]
          · intro f hf
            show upd (u.F.2.2 1) x.toNatClampNeg (u.F.2.2 1 x.toNatClampNeg + y) f = upd (v.2.2.2 19) x.toNatClampNeg (v.2.2.2 19 x.toNatClampNeg + y) f
            rw [ep]
            exact upd_pt (f5 f hf)
          · intro f hf
            show upd (u.F.2.2 1) x.toNatClampNeg (u.F.2.2 1 x.toNatClampNeg + y) f = nI (up g.2.2.1 x.toNatClampNeg (g.2.2.1 x.toNatClampNeg + y.toNatClampNeg) f)
            by_cases k : f = x.toNatClampNeg
            · rw [k, upd_eq, up_eq, hp, ← nI_add, ← ey]
            · rw [upd_ne _ _ k, up_ne _ _ k]
              exact m1 f hf
          · exact fun i hi => ⟨(m2 i hi).1, Nat.le_trans (m2 i hi).2 (Nat.mul_le_mul_left _ (Nat.le_succ _))⟩
          · show sumN (up g.2.2.1 x.toNatClampNeg (g.2.2.1 x.toNatClampNeg + y.toNatClampNeg)) 6 + (sumN (fun i => if u.ga i 16 = 0 then restN (g.1 i) else 0) u.n + sumN g.2.2.2 u.mm) ≤ 100000 * (N + 1)
            have q1 := sumN_up g.2.2.1 x.toNatClampNeg (g.2.2.1 x.toNatClampNeg + y.toNatClampNeg) 6 (by omega)
            have q2 : sumN g.2.2.1 6 + (sumN (fun i => if u.ga i 16 = 0 then restN (g.1 i) else 0) u.n + sumN g.2.2.2 u.mm) ≤ 100000 * N := m4
            omega
        · have e : cGive x.toNatClampNeg y u.F = (-1, u.F) := by rw [cGive, if_neg (fun z => c4 (k1.mp z))]
          rw [e, if_neg (fun z => c4 (k2.mp z))]
          exact ⟨g, rfl, h0⟩
      · rw [if_neg c3, if_pos (Int32.not_le.mp c3)]
        exact ⟨g, rfl, h0⟩
end RE3
