/-! ===== payments: sums ===== -/
section PY
variable {tk : Nat → Nat} {cb y am : Nat}
theorem oF_part : ∀ k, k ≤ 6 → bS (oF tk cb y) k = min (cb + y) (bS tk k) - min cb (bS tk k)
  | 0, _ => by
    show 0 = min (cb + y) 0 - min cb 0
    omega
  | k + 1, hk => by
    have ih := oF_part k (by omega)
    obtain ⟨hx2, hx6⟩ := ord2 k (by omega)
    have hB : befF tk (ordF k) = bS tk k := by
      show sumN (fun i => tk (ordF i)) (ordF (ordF k)) = _
      rw [hx2]
      rfl
    show bS (oF tk cb y) k + oF tk cb y (ordF k) = min (cb + y) (bS tk k + tk (ordF k)) - min cb (bS tk k + tk (ordF k))
    rw [ih]
    unfold oF
    rw [hB]
    omega
/-- all that comes back comes to the funds -/
theorem oF_sum (hs : sumN tk 6 = am) (hc : cb + y ≤ am) : sumN (oF tk cb y) 6 = y := by
  have h := oF_part (tk := tk) (cb := cb) (y := y) 6 (Nat.le_refl _)
  rw [bS_6, bS_6, hs] at h
  omega
theorem sumN_add (f h : Nat → Nat) : ∀ n, sumN (fun i => f i + h i) n = sumN f n + sumN h n
  | 0 => rfl
  | n + 1 => by
    show sumN (fun i => f i + h i) n + (f n + h n) = sumN f n + f n + (sumN h n + h n)
    rw [sumN_add f h n]
    omega
/-- nothing comes back: nothing changes -/
theorem oF_0 (f : Nat) : oF tk cb 0 f = 0 := by
  unfold oF
  omega
end PY
