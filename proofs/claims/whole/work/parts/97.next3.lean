/-! ===== the end of a WEEK: one LOAN, alike ===== -/
section NX3
variable {b1 : Nat} {b2 : Nat → Nat} {u : CSt} {v : MSt} {g : GH} {i : Nat}
theorem RelB.weak {b1' : Nat} {b2' : Nat → Nat} (h : RelB b1 b2 u v g) (h1 : b1 ≤ b1') (h2 : ∀ k, k < u.n → b2 k ≤ b2' k) : RelB b1' b2' u v g := by
  obtain ⟨k1, k2, k3, k4, k5, k6, ⟨m1, m2, m3, m4⟩⟩ := h
  exact ⟨k1, k2, k3, k4, k5, k6, m1, fun i hi => ⟨(m2 i hi).1, Nat.le_trans (m2 i hi).2 (h2 i hi)⟩, m3, Nat.le_trans m4 h1⟩
theorem up_ge (b2 : Nat → Nat) (i k : Nat) : b2 k ≤ up b2 i (b2 i + 99) k := by
  by_cases c : k = i
  · subst c; rw [up_eq]; omega
  · rw [up_ne _ _ c]; exact Nat.le_refl _
theorem same_sE (u : CSt) : sE u.E u = u := rfl
/-- on time -/
theorem next_C (h : RelB b1 b2 u v g) (hi : i < u.n) : RelB (b1 + 99) (up b2 i (b2 i + 99)) (sE (up u.ga i (up (u.ga i) 15 0), u.E.2) u) (v.1, v.2.1, v.2.2.1, up v.2.2.2 36 (upd (v.2.2.2 36) i 0)) (up g.1 i (g.1 i), g.2.1, g.2.2.1, g.2.2.2) := by
  obtain ⟨k1, k2, k3, k4, k5, k6, ⟨m1, m2, m3, m4⟩⟩ := h
  have hL := k5.2.2.2
  have hli := (hL i hi).1
  have hm := (m2 i hi)
  refine ⟨k1, k2, k3, k4, ?_, k6, m1, ?_, m3, ?_⟩
  · refine RLo_put (lost' := u.lost) (ks := u.E.2.2) k5 rfl k5.2.2.1 rfl rfl rfl (fun k hk hne => ?_) ?_ rfl rfl rfl (hL i hi).2.2.2.2.2.2.2.2.2.1
    · obtain ⟨a1, a2, a3, a4, a5, a6, a7, a8, a9, a10, a11, a12, a13⟩ := (hL k hk).1
      exact ⟨a1, a2, a3, a4, a5, a6, a7, a8, a9, a10, by show u.ga k 15 = upd (v.2.2.2 36) i 0 k; rw [upd_ne _ _ hne]; exact a11, a12, a13⟩
    · obtain ⟨a1, a2, a3, a4, a5, a6, a7, a8, a9, a10, a11, a12, a13⟩ := hli
      exact ⟨a1, a2, a3, a4, a5, a6, a7, a8, a9, a10, by show (0 : Int32) = upd (v.2.2.2 36) i 0 i; rw [upd_eq], a12, a13⟩
  · refine RMi_put (lost' := u.lost) (ks := u.E.2.2) (cl := g.2.2.2) (gm := g.1 i) m2 (fun j hj => ?_) rfl rfl hm.1.2.2.1 rfl rfl (fun z => z) (by omega)
    have := hm.1.1 j hj
    rcases (show j = 2 ∨ j = 11 ∨ j = 12 ∨ j = 13 ∨ j = 17 by simpa using hj) with e | e | e | e | e
    all_goals subst e; exact this
  · show sumN g.2.2.1 6 + (sumN (fun k => if up u.ga i (up (u.ga i) 15 0) k 16 = 0 then restN (up g.1 i (g.1 i) k) else 0) u.n + sumN g.2.2.2 u.mm) ≤ b1 + 99
    have q1 := open_put (u := u) (g := g) (F' := up (u.ga i) 15 0) (gm := g.1 i) hi
    have q2 : sumN g.2.2.1 6 + (sumN (fun i => if u.ga i 16 = 0 then restN (g.1 i) else 0) u.n + sumN g.2.2.2 u.mm) ≤ b1 := m4
    have q3 : (if (up (u.ga i) 15 0) 16 = 0 then restN (g.1 i) else 0) = (if u.ga i 16 = 0 then restN (g.1 i) else 0) := rfl
    omega
/-- LATE: fines grow -/
theorem late_F {F : Nat → Int32} {m : Nat → Nat} {q : Nat} (h : ∀ j, j ∈ [2, 11, 12, 13, 17] → F j = nI (m j)) (hq : F 7 = nI q) : ∀ j, j ∈ [2, 11, 12, 13, 17] → cLateF F j = nI (up m 12 (m 12 + q) j) := by
  intro j hj
  have := h j hj
  rcases (show j = 2 ∨ j = 11 ∨ j = 12 ∨ j = 13 ∨ j = 17 by simpa using hj) with e | e | e | e | e
  · subst e; exact this
  · subst e; exact this
  · subst e
    show F 12 + F 7 = nI (m 12 + q)
    rw [this, hq, nI_add]
  · subst e; exact this
  · subst e; exact this
theorem late_x {F : Nat → Int32} {v : MSt} (h : RLx F v.2.2.2 i) : RLx (cLateF F) (mLateA i v) i := by
  obtain ⟨a1, a2, a3, a4, a5, a6, a7, a8, a9, a10, a11, a12, a13⟩ := h
  refine ⟨a1, a2, a3, a4, a5, a6, a7, ?_, a9, ?_, ?_, a12, a13⟩
  · show F 12 + F 7 = upd (v.2.2.2 33) i (v.2.2.2 33 i + v.2.2.2 30 i) i
    rw [upd_eq, a8, a5]
  · show F 14 + 1 = upd (v.2.2.2 35) i (v.2.2.2 35 i + 1) i
    rw [upd_eq, a10]
  · show F 15 + 1 = upd (v.2.2.2 36) i (v.2.2.2 36 i + 1) i
    rw [upd_eq, a11]
theorem late_o {F : Nat → Int32} {v : MSt} {k : Nat} (hne : k ≠ i) (h : RLx F v.2.2.2 k) : RLx F (mLateA i v) k := by
  obtain ⟨a1, a2, a3, a4, a5, a6, a7, a8, a9, a10, a11, a12, a13⟩ := h
  refine ⟨a1, a2, a3, a4, a5, a6, a7, ?_, a9, ?_, ?_, a12, a13⟩
  · show F 12 = upd (v.2.2.2 33) i (v.2.2.2 33 i + v.2.2.2 30 i) k
    rw [upd_ne _ _ hne]; exact a8
  · show F 14 = upd (v.2.2.2 35) i (v.2.2.2 35 i + 1) k
    rw [upd_ne _ _ hne]; exact a10
  · show F 15 = upd (v.2.2.2 36) i (v.2.2.2 36 i + 1) k
    rw [upd_ne _ _ hne]; exact a11
theorem next_D (h : RelB b1 b2 u v g) (hi : i < u.n) : ∃ g', RelB (b1 + 99) (up b2 i (b2 i + 99)) (sE (up u.ga i (cLateF (u.ga i)), u.E.2) u) (v.1, v.2.1, v.2.2.1, mLateA i v) g' := by
  obtain ⟨k1, k2, k3, k4, k5, k6, ⟨m1, m2, m3, m4⟩⟩ := h
  have hL := k5.2.2.2
  have hli : RLx (u.ga i) v.2.2.2 i := (hL i hi).1
  have hm := (m2 i hi)
  obtain ⟨q, hq99, hq⟩ := hm.1.2.2.2.2.2.2.2.2.2
  refine ⟨(up g.1 i (up (g.1 i) 12 (g.1 i 12 + q)), g.2.1, g.2.2.1, g.2.2.2), k1, k2, k3, k4, ?_, k6, m1, ?_, m3, ?_⟩
  · exact RLo_put (lost' := u.lost) (ks := u.E.2.2) k5 rfl k5.2.2.1 rfl rfl rfl (fun k hk hne => late_o hne (hL k hk).1) (late_x hli) rfl rfl rfl (hL i hi).2.2.2.2.2.2.2.2.2.1
  · refine RMi_put (lost' := u.lost) (ks := u.E.2.2) (cl := g.2.2.2) (gm := up (g.1 i) 12 (g.1 i 12 + q)) m2 (late_F hm.1.1 hq) rfl rfl ?_ rfl rfl (fun z => z) ?_
    · show g.1 i 13 ≤ g.1 i 12 + q
      have := hm.1.2.2.1
      omega
    · show g.1 i 12 + q ≤ b2 i + 99
      have := hm.2
      omega
  · show sumN g.2.2.1 6 + (sumN (fun k => if up u.ga i (cLateF (u.ga i)) k 16 = 0 then restN (up g.1 i (up (g.1 i) 12 (g.1 i 12 + q)) k) else 0) u.n + sumN g.2.2.2 u.mm) ≤ b1 + 99
    have q1 := open_put (u := u) (g := g) (F' := cLateF (u.ga i)) (gm := up (g.1 i) 12 (g.1 i 12 + q)) hi
    have q2 : sumN g.2.2.1 6 + (sumN (fun i => if u.ga i 16 = 0 then restN (g.1 i) else 0) u.n + sumN g.2.2.2 u.mm) ≤ b1 := m4
    have q3 : (if (cLateF (u.ga i)) 16 = 0 then restN (up (g.1 i) 12 (g.1 i 12 + q)) else 0) ≤ (if u.ga i 16 = 0 then restN (g.1 i) else 0) + q := by
      show (if u.ga i 16 = 0 then (g.1 i 2 - g.1 i 11) + (g.1 i 12 + q - g.1 i 13) else 0) ≤ (if u.ga i 16 = 0 then (g.1 i 2 - g.1 i 11) + (g.1 i 12 - g.1 i 13) else 0) + q
      split <;> omega
    omega
end NX3
