/-! ===== what else holds of the reference: nothing stands yet where LOANS are to come; CALLS are of LOANS that aren't OPEN ===== -/
def RX (v : MSt) : Prop := (∀ i, v.1 42 ≤ i → (v.2.2.2 32 i = 0 ∧ v.2.2.2 33 i = 0 ∧ v.2.2.2 34 i = 0 ∧ v.2.2.2 35 i = 0 ∧ v.2.2.2 36 i = 0 ∧ v.2.2.2 37 i = 0 ∧ v.2.2.2 38 i = 0) ∧ ∀ f, f < 6 → v.2.2.2 41 (6 * i + f) = 0) ∧ (∀ i, i < v.1 46 → ¬ v.2.2.2 37 (v.2.2.2 44 i).toNatClampNeg = 0)
theorem rx_start : RX mu0 := ⟨fun _ _ => ⟨⟨rfl, rfl, rfl, rfl, rfl, rfl, rfl⟩, fun _ _ => rfl⟩, fun i hi => absurd hi (Nat.not_lt_zero _)⟩
/-! ===== a payment, told of one LOAN ===== -/
section PAYR
variable {N : Nat} {u : CSt} {v : MSt} {g : GH} {z : Nat}
theorem rel_paid {F' f3 pe' : Nat → Int32} {gc' : Nat → Nat → Int32} {A' : Nat → Nat → Int32} {gm pn' cl' : Nat → Nat} (h : Rel N u v g) (hz : z < u.n)
    (hA : A' 1 = v.2.2.2 1 ∧ A' 3 = v.2.2.2 3 ∧ A' 4 = v.2.2.2 4 ∧ A' 5 = v.2.2.2 5 ∧ A' 6 = v.2.2.2 6 ∧ A' 17 = v.2.2.2 17 ∧ A' 18 = v.2.2.2 18 ∧ A' 20 = v.2.2.2 20 ∧ A' 39 = v.2.2.2 39 ∧ A' 40 = v.2.2.2 40 ∧ A' 41 = v.2.2.2 41 ∧ A' 43 = v.2.2.2 43 ∧ A' 44 = v.2.2.2 44)
    (hx : RLx F' A' z) (ho : ∀ k, k < u.n → k ≠ z → RLx (u.ga k) A' k)
    (f0 : F' 0 = u.ga z 0) (f1 : F' 1 = u.ga z 1) (f6 : F' 6 = u.ga z 6) (f7 : F' 7 = u.ga z 7) (f16 : F' 16 = 0 ∨ F' 16 = 1 ∨ F' 16 = 2)
    (hp : ∀ f, f < 6 → pe' f = nI (pn' f) ∧ A' 19 f = nI (pn' f))
    (h3 : ∀ f, f < 6 → f3 f = nI (awayF (g.2.1 z) (gm 17) f))
    (hm : ∀ j, j ∈ [2, 11, 12, 13, 17] → F' j = nI (gm j)) (m2 : gm 2 = g.1 z 2) (m12 : gm 12 = g.1 z 12) (m11 : gm 11 ≤ gm 2) (m13 : gm 13 ≤ gm 12) (m17 : gm 17 ≤ gm 2) (mo : F' 16 = 0 → gm 17 = gm 11)
    (hc : ∀ i, i < u.mm → gc' i 0 = u.gc i 0 ∧ gc' i 2 - gc' i 3 = nI (cl' i) ∧ A' 45 i = nI (cl' i))
    (hn : u.mm ≤ 3 * ncl (A' 37) u.n)
    (hphi : sumN pn' 6 + ((if F' 16 = 0 then restN gm else 0) + sumN cl' u.mm) ≤ sumN g.2.2.1 6 + ((if u.ga z 16 = 0 then restN (g.1 z) else 0) + sumN g.2.2.2 u.mm)) :
    Rel N (xPaid (0, up u.F.2.2 1 pe', up u.ga z F', up u.gr 3 (up (u.gr 3) z f3), gc') u) (v.1, v.2.1, v.2.2.1, A') (up g.1 z gm, g.2.1, pn', cl') := by
  obtain ⟨k1, k2, k3, k4, k5, k6, ⟨q1, q2, q3, q4⟩⟩ := h
  obtain ⟨a1, a3, a4, a5, a6, a17, a18, a20, a39, a40, a41, a43, a44⟩ := hA
  refine ⟨?_, ?_, ?_, ?_, ?_, ?_, ?_, ?_, ?_, ?_⟩
  · exact ⟨k1.1, k1.2.1, k1.2.2.trans a1.symm⟩
  · obtain ⟨b1, b2, b3, b4, b5, b6⟩ := k2
    exact ⟨fun k hk => by show u.V k = A' 3 k; rw [a3]; exact b1 k hk, b2, b3, a4.trans b4, a5.trans b5, a6.trans b6⟩
  · exact ⟨k3.1, k3.2.1, k3.2.2.1, k3.2.2.2.1, k3.2.2.2.2.trans a17.symm⟩
  · obtain ⟨b1, b2, b3, b4, b5, b6, b7, b8⟩ := k4
    refine ⟨b1, b2, b3, b4, fun f hf => ?_, fun f hf => ?_, b7, fun w f hw hf => ?_⟩
    · exact (hp f hf).1.trans (hp f hf).2.symm
    · show u.F.2.2 2 f = A' 18 f
      rw [a18]; exact b6 f hf
    · show A' 20 (6 * w + f) = _
      rw [a20]; exact b8 w f hw hf
  · obtain ⟨h1, h2, hl, h4⟩ := k5
    refine ⟨h1, h2, hl, fun k hk => ?_⟩
    obtain ⟨l1, l2, l3, l4, l5, l6, l7, l8, l9, l10, l11⟩ := h4 k hk
    have hy : RLx (up u.ga z F' k) A' k ∧ up u.ga z F' k 0 = nI k ∧ isIn (up u.ga z F' k 1) u.np = true ∧ (up u.ga z F' k 16 = 0 ∨ up u.ga z F' k 16 = 1 ∨ up u.ga z F' k 16 = 2) ∧ 1 ≤ up u.ga z F' k 6 := by
      by_cases c : k = z
      · subst c
        rw [up_eq]
        exact ⟨hx, f0.trans l2, by rw [f1]; exact l9, f16, by rw [f6]; exact l11⟩
      · rw [up_ne _ _ c]
        exact ⟨ho k hk c, l2, l9, l10, l11⟩
    exact ⟨hy.1, hy.2.1, by show A' 39 k = _; rw [a39]; exact l3, l4, fun j hj => ⟨by show _ = A' 40 (3 * k + j); rw [a40]; exact (l5 j hj).1, (l5 j hj).2⟩, l6, fun f hf => by show _ = A' 41 (6 * k + f); rw [a41]; exact l7 f hf, l8, hy.2.2.1, hy.2.2.2.1, hy.2.2.2.2⟩
  · obtain ⟨h1, h2, h4⟩ := k6
    refine ⟨h1, hn, fun i hi => ?_⟩
    obtain ⟨c1, c2, c3⟩ := hc i hi
    refine ⟨?_, ?_, (h4 i hi).2.2.1, c2.trans c3.symm⟩
    · show gc' i 0 = A' 43 i
      rw [c1, a43]; exact (h4 i hi).1
    · show A' 44 i = _
      rw [a44]; exact (h4 i hi).2.1
  · exact fun f hf => (hp f hf).1
  · intro k hk
    obtain ⟨⟨r1, r2, r3, r4, r5, r6, r7, r8, r9, r10⟩, rb⟩ := q2 k hk
    by_cases c : k = z
    · subst c
      show ((∀ j, j ∈ [2, 11, 12, 13, 17] → up u.ga k F' k j = nI (up g.1 k gm k j)) ∧ up g.1 k gm k 11 ≤ up g.1 k gm k 2 ∧ up g.1 k gm k 13 ≤ up g.1 k gm k 12 ∧ up g.1 k gm k 17 ≤ up g.1 k gm k 2 ∧ up g.1 k gm k 2 ≤ 9999 ∧ (∀ f, f < 6 → u.gr 2 k f = nI (g.2.1 k f)) ∧ sumN (g.2.1 k) 6 = up g.1 k gm k 2 ∧ (∀ f, f < 6 → up (u.gr 3) k f3 k f = nI (awayF (g.2.1 k) (up g.1 k gm k 17) f)) ∧ (up u.ga k F' k 16 = 0 → up g.1 k gm k 17 = up g.1 k gm k 11) ∧ ∃ q : Nat, q ≤ 99 ∧ up u.ga k F' k 7 = nI q) ∧ up g.1 k gm k 12 ≤ 99 * N
      rw [up_eq, up_eq, up_eq, f7, m12, m2]
      exact ⟨⟨hm, by omega, by omega, by omega, r5, r6, r7, h3, mo, r10⟩, rb⟩
    · show ((∀ j, j ∈ [2, 11, 12, 13, 17] → up u.ga z F' k j = nI (up g.1 z gm k j)) ∧ up g.1 z gm k 11 ≤ up g.1 z gm k 2 ∧ up g.1 z gm k 13 ≤ up g.1 z gm k 12 ∧ up g.1 z gm k 17 ≤ up g.1 z gm k 2 ∧ up g.1 z gm k 2 ≤ 9999 ∧ (∀ f, f < 6 → u.gr 2 k f = nI (g.2.1 k f)) ∧ sumN (g.2.1 k) 6 = up g.1 z gm k 2 ∧ (∀ f, f < 6 → up (u.gr 3) z f3 k f = nI (awayF (g.2.1 k) (up g.1 z gm k 17) f)) ∧ (up u.ga z F' k 16 = 0 → up g.1 z gm k 17 = up g.1 z gm k 11) ∧ ∃ q : Nat, q ≤ 99 ∧ up u.ga z F' k 7 = nI q) ∧ up g.1 z gm k 12 ≤ 99 * N
      rw [up_ne _ _ c, up_ne _ _ c, up_ne _ _ c]
      exact ⟨⟨r1, r2, r3, r4, r5, r6, r7, r8, r9, r10⟩, rb⟩
  · exact fun i hi => (hc i hi).2.1
  · show sumN pn' 6 + (sumN (fun k => if up u.ga z F' k 16 = 0 then restN (up g.1 z gm k) else 0) u.n + sumN cl' u.mm) ≤ 100000 * N
    have e1 := open_put (u := u) (g := g) (F' := F') (gm := gm) hz
    have e2 : sumN g.2.2.1 6 + (sumN (fun i => if u.ga i 16 = 0 then restN (g.1 i) else 0) u.n + sumN g.2.2.2 u.mm) ≤ 100000 * N := q4
    omega
end PAYR
