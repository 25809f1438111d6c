/-! ===== the start: alike ===== -/
def g0 : GH := (fun _ _ => 0, fun _ _ => 0, fun _ => 0, fun _ => 0)
theorem usual_9 : ∀ k, k < 9 → rUsual (fun _ => 0) k = mUsual k ∧ kLow k ≤ rUsual (fun _ => 0) k ∧ rUsual (fun _ => 0) k ≤ kHigh k := by decide +kernel
theorem rel_start : Rel 0 xu0 mu0 g0 := by
  refine ⟨⟨rfl, by decide, rfl⟩, ⟨fun k hk => (usual_9 k hk).1, fun k hk => (usual_9 k hk).2, rfl, rfl, rfl, rfl⟩, ⟨rfl, by decide, rfl, by decide, rfl⟩, ⟨rfl, by decide, by decide, rfl, fun _ _ => rfl, fun _ _ => rfl, fun f _ => ⟨0, Nat.le_refl _, rfl⟩, fun w f hw _ => absurd hw (Nat.not_lt_zero _)⟩, ⟨rfl, by decide, rfl, fun i hi => absurd hi (Nat.not_lt_zero _)⟩, ⟨rfl, Nat.zero_le _, fun i hi => absurd hi (Nat.not_lt_zero _)⟩, ⟨fun _ _ => rfl, fun i hi => absurd hi (Nat.not_lt_zero _), fun i hi => absurd hi (Nat.not_lt_zero _), Nat.le_refl _⟩⟩
