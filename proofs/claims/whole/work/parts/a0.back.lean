/-! ===== what comes back to the FUNDS: alike ===== -/
def oF (tk : Nat → Nat) (cb y f : Nat) : Nat := min (cb + y) (befF tk f + tk f) - max cb (befF tk f)
theorem ord2 : ∀ f, f < 6 → ordF (ordF f) = f ∧ ordF f < 6 := by decide
theorem cMin_n {a b : Nat} (ha : a < 2 ^ 31) (hb : b < 2 ^ 31) : cMin (nI a) (nI b) = nI (min a b) := by
  unfold cMin
  by_cases c : b < a
  · rw [if_pos ((nI_ltI hb ha).mpr c)]
    congr 1
    omega
  · rw [if_neg (fun z => c ((nI_ltI hb ha).mp z))]
    congr 1
    omega
section BK
variable {tk pn : Nat → Nat} {cb y am : Nat}
def bS (tk : Nat → Nat) (k : Nat) : Nat := sumN (fun i => tk (ordF i)) k
theorem bS_le (tk : Nat → Nat) : ∀ k, k ≤ 6 → bS tk k ≤ bS tk 6 := by
  intro k hk
  have h1 : ∀ r, bS tk k ≤ bS tk (k + r) := by
    intro r
    induction r with
    | zero => exact Nat.le_refl _
    | succ r ih => exact Nat.le_trans ih (Nat.le_add_right _ _)
  have := h1 (6 - k)
  rw [show k + (6 - k) = 6 by omega] at this
  exact this
theorem bS_6 (tk : Nat → Nat) : bS tk 6 = sumN tk 6 := by
  show 0 + tk 0 + tk 5 + tk 4 + tk 3 + tk 2 + tk 1 = 0 + tk 0 + tk 1 + tk 2 + tk 3 + tk 4 + tk 5
  omega
theorem bb_lp (yy : Int32) (pe st : Nat → Int32) : bbAll yy pe st = lp (fun k => bbStep (ordF k)) 6 0 (yy, pe, st) := rfl
theorem bb_all {pe st : Nat → Int32} (hpe : ∀ f, f < 6 → pe f = nI (pn f)) (hst : ∀ f, f < 6 → st f = nI (awayF tk cb f)) (hs : sumN tk 6 = am) (hc : cb + y ≤ am) (ha : am ≤ 9999) (hp : ∀ f, f < 6 → pn f < 2 ^ 29) :
    ∀ f, f < 6 → (bbAll (nI y) pe st).2.1 f = nI (pn f + oF tk cb y f) ∧ (bbAll (nI y) pe st).2.2 f = nI (awayF tk (cb + y) f) := by
  rw [bb_lp]
  have key := lp_ind (f := fun k => bbStep (ordF k)) (fun k t => t.1 = nI (y - (min (cb + y) (bS tk k) - min cb (bS tk k))) ∧ ∀ f, f < 6 → (ordF f < k → t.2.1 f = nI (pn f + oF tk cb y f) ∧ t.2.2 f = nI (awayF tk (cb + y) f)) ∧ (k ≤ ordF f → t.2.1 f = pe f ∧ t.2.2 f = st f)) 6 0 (nI y, pe, st) ?_ ?_
  · intro f hf
    rw [Nat.zero_add] at key
    exact (key.2 f hf).1 (ord2 f hf).2
  · refine ⟨?_, fun f hf => ⟨fun h => by omega, fun _ => ⟨rfl, rfl⟩⟩⟩
    show nI y = nI (y - (min (cb + y) 0 - min cb 0))
    congr 1
    omega
  · intro k t _ hk ih
    obtain ⟨hx2, hx6⟩ := ord2 k (by omega)
    obtain ⟨r1, r2⟩ := ih
    have hB : befF tk (ordF k) = bS tk k := by
      show sumN (fun i => tk (ordF i)) (ordF (ordF k)) = _
      rw [hx2]
      rfl
    have hB1 : bS tk (k + 1) = bS tk k + tk (ordF k) := rfl
    have hBle := bS_le tk (k + 1) (by omega)
    rw [bS_6, hs] at hBle
    have hold := (r2 (ordF k) hx6).2 (by rw [hx2]; exact Nat.le_refl _)
    have hstx : t.2.2 (ordF k) = nI (tk (ordF k) - (cb - bS tk k)) := by
      rw [hold.2, hst _ hx6]
      show nI (tk (ordF k) - (cb - befF tk (ordF k))) = _
      rw [hB]
    have hpex : t.2.1 (ordF k) = nI (pn (ordF k)) := by rw [hold.1, hpe _ hx6]
    have hpb := hp _ hx6
    have hm : cMin t.1 (t.2.2 (ordF k)) = nI (oF tk cb y (ordF k)) := by
      rw [r1, hstx, cMin_n (by omega) (by omega)]
      congr 1
      unfold oF
      rw [hB]
      omega
    have hoB : oF tk cb y (ordF k) = min (cb + y) (bS tk k + tk (ordF k)) - max cb (bS tk k) := by
      unfold oF
      rw [hB]
    show (t.1 - cMin t.1 (t.2.2 (ordF k)) = _) ∧ ∀ f, f < 6 → (ordF f < k + 1 → upd t.2.1 (ordF k) (t.2.1 (ordF k) + cMin t.1 (t.2.2 (ordF k))) f = nI (pn f + oF tk cb y f) ∧ upd t.2.2 (ordF k) (t.2.2 (ordF k) - cMin t.1 (t.2.2 (ordF k))) f = nI (awayF tk (cb + y) f)) ∧ (k + 1 ≤ ordF f → upd t.2.1 (ordF k) (t.2.1 (ordF k) + cMin t.1 (t.2.2 (ordF k))) f = pe f ∧ upd t.2.2 (ordF k) (t.2.2 (ordF k) - cMin t.1 (t.2.2 (ordF k))) f = st f)
    rw [hm]
    refine ⟨?_, fun f hf => ?_⟩
    · rw [r1, pk_sub (by rw [hoB]; omega)]
      congr 1
      rw [hoB, hB1]
      omega
    · by_cases e : f = ordF k
      · subst e
        rw [upd_eq, upd_eq, hx2]
        refine ⟨fun _ => ⟨?_, ?_⟩, fun h => by omega⟩
        · rw [hpex, nI_add]
        · rw [hstx, pk_sub (by rw [hoB]; omega)]
          congr 1
          show _ = tk (ordF k) - (cb + y - befF tk (ordF k))
          rw [hoB, hB]
          omega
      · rw [upd_ne _ _ e, upd_ne _ _ e]
        have hne : ordF f ≠ k := fun z => e (by rw [← z, (ord2 f hf).1])
        exact ⟨fun h => (r2 f hf).1 (by omega), fun h => (r2 f hf).2 (by omega)⟩
theorem fb_all {tks f0 : Nat → Int32} {z : Nat} (htk : ∀ f, f < 6 → tks (6 * z + f) = nI (tk f)) (hf0 : ∀ f, f < 6 → f0 f = nI (pn f)) (hs : sumN tk 6 = am) (hc : cb + y ≤ am) (ha : am ≤ 9999) :
    ∀ f, f < 6 → fBack tks z (nI cb) (nI (cb + y)) f0 f = nI (pn f + oF tk cb y f) := by
  unfold fBack
  have key := lp_ind (f := cbStep tks z (nI cb) (nI (cb + y))) (fun k t => t.2 = nI (bS tk k) ∧ ∀ f, f < 6 → (ordF f < k → t.1 f = nI (pn f + oF tk cb y f)) ∧ (k ≤ ordF f → t.1 f = f0 f)) 6 0 (f0, 0) ?_ ?_
  · intro f hf
    rw [Nat.zero_add] at key
    exact (key.2 f hf).1 (ord2 f hf).2
  · exact ⟨rfl, fun f hf => ⟨fun h => by omega, fun _ => rfl⟩⟩
  · intro k t _ hk ih
    obtain ⟨hx2, hx6⟩ := ord2 k (by omega)
    obtain ⟨r1, r2⟩ := ih
    have hB : befF tk (ordF k) = bS tk k := by
      show sumN (fun i => tk (ordF i)) (ordF (ordF k)) = _
      rw [hx2]
      rfl
    have hB1 : bS tk (k + 1) = bS tk k + tk (ordF k) := rfl
    have hBle := bS_le tk (k + 1) (by omega)
    rw [bS_6, hs] at hBle
    have et : t.2 + tks (6 * z + fI k) = nI (bS tk k + tk (ordF k)) := by
      rw [r1, show fI k = ordF k from rfl, htk _ hx6, nI_add]
    have eX : (if t.2 + tks (6 * z + fI k) ≤ nI (cb + y) then t.2 + tks (6 * z + fI k) else nI (cb + y)) = nI (min (cb + y) (bS tk k + tk (ordF k))) := by
      rw [et]
      by_cases c : bS tk k + tk (ordF k) ≤ cb + y
      · rw [if_pos ((nI_leI (by omega) (by omega)).mpr c)]
        congr 1
        omega
      · rw [if_neg (fun w => c ((nI_leI (by omega) (by omega)).mp w))]
        congr 1
        omega
    have eY : (if nI cb ≤ t.2 then t.2 else nI cb) = nI (max cb (bS tk k)) := by
      rw [r1]
      by_cases c : cb ≤ bS tk k
      · rw [if_pos ((nI_leI (by omega) (by omega)).mpr c)]
        congr 1
        omega
      · rw [if_neg (fun w => c ((nI_leI (by omega) (by omega)).mp w))]
        congr 1
        omega
    have hoB : oF tk cb y (ordF k) = min (cb + y) (bS tk k + tk (ordF k)) - max cb (bS tk k) := by
      unfold oF
      rw [hB]
    have hold := (r2 (ordF k) hx6).2 (by rw [hx2]; exact Nat.le_refl _)
    unfold cbStep
    rw [eX, eY, et]
    refine ⟨by rw [hB1], fun f hf => ?_⟩
    by_cases c : min (cb + y) (bS tk k + tk (ordF k)) ≤ max cb (bS tk k)
    · show (ordF f < k + 1 → (if nI (min (cb + y) (bS tk k + tk (ordF k))) ≤ nI (max cb (bS tk k)) then t.1 else _) f = _) ∧ (k + 1 ≤ ordF f → (if nI (min (cb + y) (bS tk k + tk (ordF k))) ≤ nI (max cb (bS tk k)) then t.1 else _) f = _)
      rw [if_pos ((nI_leI (by omega) (by omega)).mpr c)]
      refine ⟨fun h => ?_, fun h => (r2 f hf).2 (by omega)⟩
      by_cases e : ordF f = k
      · have ef : f = ordF k := by rw [← e, (ord2 f hf).1]
        rw [ef, hold, hf0 _ hx6]
        congr 1
        omega
      · exact (r2 f hf).1 (by omega)
    · show (ordF f < k + 1 → (if nI (min (cb + y) (bS tk k + tk (ordF k))) ≤ nI (max cb (bS tk k)) then t.1 else upd t.1 (ordF k) (t.1 (ordF k) + (nI (min (cb + y) (bS tk k + tk (ordF k))) - nI (max cb (bS tk k))))) f = _) ∧ (k + 1 ≤ ordF f → (if nI (min (cb + y) (bS tk k + tk (ordF k))) ≤ nI (max cb (bS tk k)) then t.1 else upd t.1 (ordF k) (t.1 (ordF k) + (nI (min (cb + y) (bS tk k + tk (ordF k))) - nI (max cb (bS tk k))))) f = _)
      rw [if_neg (fun w => c ((nI_leI (by omega) (by omega)).mp w))]
      by_cases e : f = ordF k
      · subst e
        rw [upd_eq, hx2]
        refine ⟨fun _ => ?_, fun h => by omega⟩
        rw [hold, hf0 _ hx6, pk_sub (by omega), nI_add, hoB]
      · rw [upd_ne _ _ e]
        have hne : ordF f ≠ k := fun w => e (by rw [← w, (ord2 f hf).1])
        exact ⟨fun h => (r2 f hf).1 (by omega), fun h => (r2 f hf).2 (by omega)⟩
end BK
