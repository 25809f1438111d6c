/-! ===== alike: rules ===== -/
theorem lp_put {c : Nat → Int32} (f : Nat → Int32) (n : Nat) {k : Nat} (hk : k < n) : lp (fun i f => upd f i (c i)) n 0 f k = c k := by
  have h := lp_ind (f := fun i f => upd f i (c i)) (fun m t => ∀ k, k < m → t k = c k) n 0 f ?_ ?_
  · rw [Nat.zero_add] at h
    exact h k hk
  · intro k hk; omega
  · intro m t _ _ ih k hk
    show upd t m (c m) k = c k
    by_cases e : k = m
    · rw [e, upd_eq]
    · rw [upd_ne _ _ e]
      exact ih k (by omega)
theorem KP_form {w w' : MSt} (h : KP w w') : w' = (up (up (up (up w.1 9 (w'.1 9)) 11 (w'.1 11)) 12 (w'.1 12)) 16 (w'.1 16), up (up (up w.2.1 8 (w'.2.1 8)) 13 (w'.2.1 13)) 14 (w'.2.1 14), w'.2.2.1, up w.2.2.2 7 (w'.2.2.2 7)) := by
  obtain ⟨h1, h2, h3⟩ := h
  have e1 : w'.1 = up (up (up (up w.1 9 (w'.1 9)) 11 (w'.1 11)) 12 (w'.1 12)) 16 (w'.1 16) := by
    funext k
    by_cases c1 : k = 16
    · rw [c1, up_eq]
    rw [up_ne _ _ c1]
    by_cases c2 : k = 12
    · rw [c2, up_eq]
    rw [up_ne _ _ c2]
    by_cases c3 : k = 11
    · rw [c3, up_eq]
    rw [up_ne _ _ c3]
    by_cases c4 : k = 9
    · rw [c4, up_eq]
    rw [up_ne _ _ c4]
    exact h1 k c4 c3 c2 c1
  have e2 : w'.2.1 = up (up (up w.2.1 8 (w'.2.1 8)) 13 (w'.2.1 13)) 14 (w'.2.1 14) := by
    funext k
    by_cases c1 : k = 14
    · rw [c1, up_eq]
    rw [up_ne _ _ c1]
    by_cases c2 : k = 13
    · rw [c2, up_eq]
    rw [up_ne _ _ c2]
    by_cases c3 : k = 8
    · rw [c3, up_eq]
    rw [up_ne _ _ c3]
    exact h2 k c3 c2 c1
  have e3 : w'.2.2.2 = up w.2.2.2 7 (w'.2.2.2 7) := by
    funext k
    by_cases c1 : k = 7
    · rw [c1, up_eq]
    rw [up_ne _ _ c1]
    exact h3 k c1
  rw [← e1, ← e2, ← e3]
theorem not_neg9 : ∀ n, n < 321 → (-1 - nI n : Int32) < 0 := by decide +kernel
theorem not_neg {n : Nat} (h : n ≤ 320) : (-1 - nI n : Int32) < 0 := not_neg9 n (by omega)
section RULES
variable {N : Nat} {u : CSt} {v : MSt} {g : GH}
theorem rel_rules (h : Rel N u v g) (hx : RX v) : (xRules u).1 = (mRules v).1 ∧ Rel N (xRules u).2 (mRules v).2 g ∧ RX (mRules v).2 := by
  obtain ⟨⟨t1, t2, t3⟩, ⟨v1, v2, v3, v4, v5, v6⟩, hrest⟩ := h
  have hI : RI u.T.2 u.T.1 0 0 (u.R.1, u.R.2.1, 0, 0, rUsual u.R.2.2.2.2.1, rNone u.R.2.2.2.2.2) (rd0 (rdIn v)) := by
    refine ⟨rfl, Nat.zero_le _, t1.symm, t3.symm, v5, v6, rfl, rfl, fun k hk => ?_, fun k hk => ?_, ?_, rfl⟩
    · have e1 : rUsual u.R.2.2.2.2.1 k = kUsual k := lp_put (c := kUsual) _ 9 hk
      have e2 : (rd0 (rdIn v)).2.2.2 7 k = mUsual k := by
        show rdUsual (v.2.2.2 4) (v.2.2.2 7) k = _
        rw [v4]
        exact lp_put (c := mUsual) _ 9 hk
      show rUsual u.R.2.2.2.2.1 k = (rd0 (rdIn v)).2.2.2 7 k ∧ kLow k ≤ rUsual u.R.2.2.2.2.1 k ∧ rUsual u.R.2.2.2.2.1 k ≤ kHigh k
      rw [e1, e2]
      obtain ⟨l1, l2, l3, l4, l5⟩ := low_eq k hk
      exact ⟨l3.symm, l4, l5⟩
    · have e1 : rNone u.R.2.2.2.2.2 k = 0 := lp_put (c := fun _ => 0) _ 9 hk
      show b_t 0 k = true ↔ ¬ rNone u.R.2.2.2.2.2 k = 0
      rw [b_0, e1]
      exact ⟨fun z => (by cases z), fun z => absurd rfl z⟩
    · exact nM_0 9 (fun k hk => lp_put (c := fun _ => 0) _ 9 hk)
  have hL := rd_loop (f := u.T.2) t2 10 0 0 (u.R.1, u.R.2.1, 0, 0, rUsual u.R.2.2.2.2.1, rNone u.R.2.2.2.2.2) (rd0 (rdIn v)) (u.T.1 + 1) rfl hI (by omega)
  have eA : rAll u.T.2 u.T.1 10 0 (u.R.1, u.R.2.1, 0, 0, rUsual u.R.2.2.2.2.1, rNone u.R.2.2.2.2.2) = rReadAll u.T.2 u.T.1 u.R := rfl
  have eB : rdLoop (u.T.1 + 1) 0 (mGo (rd0 (rdIn v))) = mRead (rdIn v) := by
    unfold mRead
    show _ = rdLoop (v.1 2 + 1) 0 (mGo (rd0 (rdIn v)))
    rw [t1]
  rw [eA, eB] at hL
  unfold xRules mRules
  generalize rReadAll u.T.2 u.T.1 u.R = a at *
  generalize mRead (rdIn v) = b at *
  obtain ⟨⟨hr, hf⟩, hk⟩ := hL
  have hform := KP_form hk
  obtain ⟨b1, w'⟩ := b
  replace hform : w' = (up (up (up (up (rd0 (rdIn v)).1 9 (w'.1 9)) 11 (w'.1 11)) 12 (w'.1 12)) 16 (w'.1 16), up (up (up (rd0 (rdIn v)).2.1 8 (w'.2.1 8)) 13 (w'.2.1 13)) 14 (w'.2.1 14), w'.2.2.1, up (rd0 (rdIn v)).2.2.2 7 (w'.2.2.2 7)) := hform
  have eT : (tCut 0 u.T).2 = (0, u.T.2) := tCut_0 t2
  rcases hr with ⟨r1, r2, r3⟩ | ⟨r1, r2, r3, r4⟩
  · replace r1 : b1 = 0 := r1
    replace r2 : a.1 = -1 - nI (w'.1 9) := r2
    replace r3 : w'.1 9 ≤ 320 := r3
    replace hf : a.2.2.2.2.1 = w'.2.1 8 := hf
    rw [if_pos (show a.1 < 0 by rw [r2]; exact not_neg r3), if_pos (show (b1, w').1 = 0 from r1)]
    refine ⟨r2, ?_, ?_⟩
    · show Rel N (xReadV a u) w' g
      unfold xReadV
      rw [eT, hform]
      exact ⟨⟨rfl, Nat.zero_le _, t3⟩, ⟨v1, v2, hf, v4, v5, v6⟩, hrest⟩
    · show RX w'
      rw [hform]
      exact hx
  · replace r1 : b1 = 1 := r1
    replace r2 : a.1 = nI (w'.1 16) := r2
    replace r3 : w'.1 16 ≤ 9 := r3
    replace r4 : ∀ k, k < 9 → a.2.2.2.2.2.1 k = w'.2.2.2 7 k ∧ kLow k ≤ a.2.2.2.2.2.1 k ∧ a.2.2.2.2.2.1 k ≤ kHigh k := r4
    replace hf : a.2.2.2.2.1 = w'.2.1 8 := hf
    rw [if_neg (show ¬ a.1 < 0 by rw [r2]; exact nI_pos (by omega)), if_neg (show ¬ (b1, w').1 = 0 by show ¬ b1 = 0; rw [r1]; decide)]
    refine ⟨r2, ?_, ?_⟩
    · show Rel N (xReadW a u) (w'.1, w'.2.1, w'.2.2.1, up w'.2.2.2 3 (rdUsual (w'.2.2.2 7) (w'.2.2.2 3))) g
      unfold xReadW
      have o1 : ∀ k, k < 9 → rOver a.2.2.2.2.2.1 u.V k = a.2.2.2.2.2.1 k := fun k hk => lp_put (c := a.2.2.2.2.2.1) _ 9 hk
      have o2 : ∀ (h3 : Nat → Int32) k, k < 9 → rdUsual (w'.2.2.2 7) h3 k = w'.2.2.2 7 k := fun h3 k hk => lp_put (c := w'.2.2.2 7) _ 9 hk
      rw [eT]
      generalize w'.2.2.2 7 = a7 at *
      generalize w'.2.1 8 = e8 at *
      generalize w'.1 9 = c9 at *
      generalize w'.1 11 = c11 at *
      generalize w'.1 12 = c12 at *
      generalize w'.1 16 = c16 at *
      generalize w'.2.1 13 = e13 at *
      generalize w'.2.1 14 = e14 at *
      generalize w'.2.2.1 = nm at *
      subst hform
      exact ⟨⟨rfl, Nat.zero_le _, t3⟩, ⟨fun k hk => by show rOver a.2.2.2.2.2.1 u.V k = rdUsual a7 _ k; rw [o1 k hk, o2 _ k hk]; exact (r4 k hk).1, fun k hk => by show kLow k ≤ rOver a.2.2.2.2.2.1 u.V k ∧ rOver a.2.2.2.2.2.1 u.V k ≤ kHigh k; rw [o1 k hk]; exact (r4 k hk).2, hf, v4, v5, v6⟩, hrest⟩
    · show RX (w'.1, w'.2.1, w'.2.2.1, up w'.2.2.2 3 (rdUsual (w'.2.2.2 7) (w'.2.2.2 3)))
      generalize w'.2.2.2 7 = a7 at *
      generalize w'.2.1 8 = e8 at *
      generalize w'.1 9 = c9 at *
      generalize w'.1 11 = c11 at *
      generalize w'.1 12 = c12 at *
      generalize w'.1 16 = c16 at *
      generalize w'.2.1 13 = e13 at *
      generalize w'.2.1 14 = e14 at *
      generalize w'.2.2.1 = nm at *
      subst hform
      exact hx
end RULES
