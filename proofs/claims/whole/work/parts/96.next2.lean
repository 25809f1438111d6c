/-! ===== the end of a WEEK, LOAN by LOAN: alike ===== -/
def RLx (F : Nat → Int32) (a : Nat → Nat → Int32) (i : Nat) : Prop := F 1 = a 26 i ∧ F 2 = a 27 i ∧ F 3 = a 28 i ∧ F 6 = a 29 i ∧ F 7 = a 30 i ∧ F 8 = a 31 i ∧ F 11 = a 32 i ∧ F 12 = a 33 i ∧ F 13 = a 34 i ∧ F 14 = a 35 i ∧ F 15 = a 36 i ∧ F 16 = a 37 i ∧ F 17 = a 38 i
def RMb (b1 : Nat) (b2 : Nat → Nat) (u : CSt) (g : GH) : Prop := (∀ f, f < 6 → u.F.2.2 1 f = nI (g.2.2.1 f)) ∧ (∀ i, i < u.n → RMi u g i ∧ g.1 i 12 ≤ b2 i) ∧ (∀ i, i < u.mm → u.gc i 2 - u.gc i 3 = nI (g.2.2.2 i)) ∧ phi u g ≤ b1
def RelB (b1 : Nat) (b2 : Nat → Nat) (u : CSt) (v : MSt) (g : GH) : Prop := RT u v ∧ RV u v ∧ RP u v ∧ RF u v ∧ RLo u v ∧ RK u v ∧ RMb b1 b2 u g
def sE (e : EWS) (u : CSt) : CSt := sG (u.n, u.gt, u.gn, u.gr, e) u
section NX
variable {b1 : Nat} {b2 : Nat → Nat} {u : CSt} {v : MSt} {g : GH} {i : Nat}
theorem RLo_put {F' : Nat → Int32} {lost' : Int32} {ks : KSt} {v' : MSt} (h : RLo u v) (e42 : v'.1 42 = v.1 42) (el : lost' = v'.2.1 25) (e39 : v'.2.2.2 39 = v.2.2.2 39) (e40 : v'.2.2.2 40 = v.2.2.2 40) (e41 : v'.2.2.2 41 = v.2.2.2 41)
    (ho : ∀ k, k < u.n → k ≠ i → RLx (u.ga k) v'.2.2.2 k) (hi : RLx F' v'.2.2.2 i) (f0 : F' 0 = u.ga i 0) (f1 : F' 1 = u.ga i 1) (f6 : F' 6 = u.ga i 6) (f16 : F' 16 = 0 ∨ F' 16 = 1 ∨ F' 16 = 2) : RLo (sE (up u.ga i F', lost', ks) u) v' := by
  obtain ⟨h1, h2, h3, h4⟩ := h
  refine ⟨h1.trans e42.symm, h2, el, fun k hk => ?_⟩
  obtain ⟨l1, l2, l3, l4, l5, l6, l7, l8, l9, l10, l11⟩ := h4 k hk
  have hx : RLx (up u.ga i F' k) v'.2.2.2 k ∧ up u.ga i F' k 0 = nI k ∧ isIn (up u.ga i F' k 1) u.np = true ∧ (up u.ga i F' k 16 = 0 ∨ up u.ga i F' k 16 = 1 ∨ up u.ga i F' k 16 = 2) ∧ 1 ≤ up u.ga i F' k 6 := by
    by_cases c : k = i
    · subst c
      rw [up_eq]
      exact ⟨hi, f0.trans l2, by rw [f1]; exact l9, f16, by rw [f6]; exact l11⟩
    · rw [up_ne _ _ c]
      exact ⟨ho k hk c, l2, l9, l10, l11⟩
  refine ⟨hx.1, hx.2.1, by rw [e39]; exact l3, l4, fun j hj => ⟨by rw [e40]; exact (l5 j hj).1, (l5 j hj).2⟩, l6, fun f hf => by rw [e41]; exact l7 f hf, l8, hx.2.2.1, hx.2.2.2.1, hx.2.2.2.2⟩
theorem RMi_put {F' : Nat → Int32} {lost' : Int32} {ks : KSt} {gm : Nat → Nat} {cl : Nat → Nat} (h : ∀ k, k < u.n → RMi u g k ∧ g.1 k 12 ≤ b2 k) {q : Nat}
    (hF : ∀ j, j ∈ [2, 11, 12, 13, 17] → F' j = nI (gm j)) (m2 : gm 2 = g.1 i 2) (m11 : gm 11 = g.1 i 11) (m13 : gm 13 ≤ gm 12) (m17 : gm 17 = g.1 i 17) (hq : F' 7 = u.ga i 7) (hs : F' 16 = 0 → u.ga i 16 = 0) (hb : gm 12 ≤ q) :
    ∀ k, k < u.n → RMi (sE (up u.ga i F', lost', ks) u) (up g.1 i gm, g.2.1, g.2.2.1, cl) k ∧ up g.1 i gm k 12 ≤ up b2 i q k := by
  intro k hk
  obtain ⟨⟨r1, r2, r3, r4, r5, r6, r7, r8, r9, r10⟩, rb⟩ := h k hk
  by_cases c : k = i
  · subst c
    rw [up_eq, up_eq]
    refine ⟨?_, hb⟩
    show (∀ j, j ∈ [2, 11, 12, 13, 17] → up u.ga k F' k j = nI (up g.1 k gm k j)) ∧ up g.1 k gm k 11 ≤ up g.1 k gm k 2 ∧ up g.1 k gm k 13 ≤ up g.1 k gm k 12 ∧ up g.1 k gm k 17 ≤ up g.1 k gm k 2 ∧ up g.1 k gm k 2 ≤ 9999 ∧ (∀ f, f < 6 → u.gr 2 k f = nI (g.2.1 k f)) ∧ sumN (g.2.1 k) 6 = up g.1 k gm k 2 ∧ (∀ f, f < 6 → u.gr 3 k f = nI (awayF (g.2.1 k) (up g.1 k gm k 17) f)) ∧ (up u.ga k F' k 16 = 0 → up g.1 k gm k 17 = up g.1 k gm k 11) ∧ ∃ q : Nat, q ≤ 99 ∧ up u.ga k F' k 7 = nI q
    rw [up_eq, up_eq, m2, m11, m17, hq]
    exact ⟨hF, r2, m13, r4, r5, r6, r7, r8, fun z => r9 (hs z), r10⟩
  · rw [up_ne _ _ c, up_ne _ _ c]
    refine ⟨?_, rb⟩
    show (∀ j, j ∈ [2, 11, 12, 13, 17] → up u.ga i F' k j = nI (up g.1 i gm k j)) ∧ up g.1 i gm k 11 ≤ up g.1 i gm k 2 ∧ up g.1 i gm k 13 ≤ up g.1 i gm k 12 ∧ up g.1 i gm k 17 ≤ up g.1 i gm k 2 ∧ up g.1 i gm k 2 ≤ 9999 ∧ (∀ f, f < 6 → u.gr 2 k f = nI (g.2.1 k f)) ∧ sumN (g.2.1 k) 6 = up g.1 i gm k 2 ∧ (∀ f, f < 6 → u.gr 3 k f = nI (awayF (g.2.1 k) (up g.1 i gm k 17) f)) ∧ (up u.ga i F' k 16 = 0 → up g.1 i gm k 17 = up g.1 i gm k 11) ∧ ∃ q : Nat, q ≤ 99 ∧ up u.ga i F' k 7 = nI q
    rw [up_ne _ _ c, up_ne _ _ c]
    exact ⟨r1, r2, r3, r4, r5, r6, r7, r8, r9, r10⟩
/-- what the OPEN LOANS owe, one of them changed -/
theorem open_put {F' : Nat → Int32} {gm : Nat → Nat} (hi : i < u.n) : sumN (fun k => if up u.ga i F' k 16 = 0 then restN (up g.1 i gm k) else 0) u.n + (if u.ga i 16 = 0 then restN (g.1 i) else 0) = sumN (fun k => if u.ga k 16 = 0 then restN (g.1 k) else 0) u.n + (if F' 16 = 0 then restN gm else 0) := by
  have e : sumN (fun k => if up u.ga i F' k 16 = 0 then restN (up g.1 i gm k) else 0) u.n = sumN (up (fun k => if u.ga k 16 = 0 then restN (g.1 k) else 0) i (if F' 16 = 0 then restN gm else 0)) u.n := by
    refine sumN_eq _ (fun p hp => ?_)
    by_cases c : p = i
    · subst c
      rw [up_eq, up_eq, up_eq]
    · rw [up_ne _ _ c, up_ne _ _ c, up_ne _ _ c]
  rw [e]
  exact sumN_up _ i _ u.n hi
theorem due_eq {F : Nat → Int32} {v : MSt} {w : Nat} (h : RLx F v.2.2.2 i) (h6 : 1 ≤ F 6) : cDue F (nI w) = fDue i w v := by
  obtain ⟨a1, a2, a3, a4, -⟩ := h
  unfold cDue fDue
  rw [if_pos h6, ← a2, ← a3, ← a4]
  have e : (if F 6 < nI w - F 3 then F 6 else nI w - F 3) = (if F 6 ≤ nI w - F 3 then F 6 else nI w - F 3) := by
    by_cases c : F 6 < nI w - F 3
    · rw [if_pos c, if_pos (Int32.le_of_lt c)]
    · rw [if_neg c]
      by_cases c2 : F 6 ≤ nI w - F 3
      · rw [if_pos c2]
        exact Int32.le_antisymm (Int32.not_lt.mp c) c2
      · rw [if_neg c2]
  rw [e]
end NX
