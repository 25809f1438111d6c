/-! ===== the end of a WEEK: parts of a CALLED LOAN ===== -/
theorem sumN_eq {f h : Nat → Nat} : ∀ n, (∀ p, p < n → f p = h p) → sumN f n = sumN h n
  | 0, _ => rfl
  | n + 1, e => by
    show sumN f n + f n = sumN h n + h n
    rw [sumN_eq n (fun p hp => e p (by omega)), e n (by omega)]
def vN (R n i : Nat) : Nat := R / n + (if R % n ≤ i then 0 else 1)
theorem vN_sum {R n : Nat} (h0 : 0 < n) (h3 : n ≤ 3) : sumN (vN R n) n = R := by
  rcases (show n = 1 ∨ n = 2 ∨ n = 3 by omega) with e | e | e
  · subst e
    show 0 + vN R 1 0 = R
    unfold vN
    split <;> omega
  · subst e
    show 0 + vN R 2 0 + vN R 2 1 = R
    unfold vN
    split <;> split <;> omega
  · subst e
    show 0 + vN R 3 0 + vN R 3 1 + vN R 3 2 = R
    unfold vN
    split <;> split <;> split <;> omega
theorem lateV_n {R n i : Nat} (h0 : 0 < n) (h3 : n ≤ 3) (hR : R < 2 ^ 30) (hi : i < n) : lateV n (nI R) i = nI (vN R n i) := by
  unfold lateV vN
  rw [pk_div (by omega) h0 (by omega), show nI R - nI (R / n) * nI n = nI (R % n) from by rw [← pk_div (by omega) h0 (by omega)]; exact pk_rem (by omega) h0 (by omega)]
  have hm : R % n < n := Nat.mod_lt _ h0
  by_cases c : R % n ≤ i
  · rw [if_pos ((nI_leI (by omega) (by omega)).mpr c), if_pos c]
    exact nI_add _ 0
  · rw [if_neg (fun z => c ((nI_leI (by omega) (by omega)).mp z)), if_neg c]
    exact nI_add _ 1
/-- the calls of both, and what is left of them as naturals -/
def KR (n : Nat) (u : KSt) (p : Nat × (Nat → Int32) × (Nat → Int32) × (Nat → Int32)) (cl : Nat → Nat) : Prop := u.1 = p.1 ∧ ∀ k, k < u.1 → u.2.1 k 0 = p.2.1 k ∧ p.2.2.1 k = nI (u.2.2 k) ∧ u.2.2 k < n ∧ u.2.1 k 2 - u.2.1 k 3 = p.2.2.2 k ∧ p.2.2.2 k = nI (cl k)
theorem KR_step {n z nn R : Nat} {row sur : Nat → Int32} (h0 : 0 < nn) (h3 : nn ≤ 3) (hR : R < 2 ^ 30) (hz : z < n) (hrow : ∀ i, i < nn → row i = sur (3 * z + i)) {i : Nat} (hi : i < nn) {u : KSt} {p : Nat × (Nat → Int32) × (Nat → Int32) × (Nat → Int32)} {cl : Nat → Nat} (h : KR n u p cl) :
    ∃ cl', KR n (kStep row nn (nI R) z i u) (lateStep sur z nn (nI R) i p) cl' ∧ sumN cl' (kStep row nn (nI R) z i u).1 = sumN cl u.1 + vN R nn i := by
  obtain ⟨e, hk⟩ := h
  have hv := lateV_n h0 h3 hR hi
  have hvb : vN R nn i < 2 ^ 31 := by
    have : R / nn ≤ R := Nat.div_le_self _ _
    unfold vN
    split <;> omega
  unfold kStep lateStep
  by_cases c : lateV nn (nI R) i ≤ 0
  · have h9 : vN R nn i = 0 := by
      rw [hv] at c
      exact Nat.le_zero.mp ((nI_leI (b := 0) hvb (by decide)).mp c)
    rw [if_pos c, if_pos (show lateV nn (nI R) i = 0 by rw [hv, h9]; rfl)]
    refine ⟨cl, ⟨e, hk⟩, ?_⟩
    rw [h9]
    rfl
  · rw [if_neg c, if_neg (fun z9 => c (by rw [z9]; exact Int32.le_refl _))]
    refine ⟨up cl u.1 (vN R nn i), ⟨by show u.1 + 1 = p.1 + 1; rw [e], fun k hk1 => ?_⟩, ?_⟩
    · show up u.2.1 u.1 (kNew (row i) (lateV nn (nI R) i)) k 0 = upd p.2.1 p.1 (sur (3 * z + i)) k ∧ upd p.2.2.1 p.1 (nI z) k = nI (up u.2.2 u.1 z k) ∧ up u.2.2 u.1 z k < n ∧ up u.2.1 u.1 (kNew (row i) (lateV nn (nI R) i)) k 2 - up u.2.1 u.1 (kNew (row i) (lateV nn (nI R) i)) k 3 = upd p.2.2.2 p.1 (lateV nn (nI R) i) k ∧ upd p.2.2.2 p.1 (lateV nn (nI R) i) k = nI (up cl u.1 (vN R nn i) k)
      replace hk1 : k < u.1 + 1 := hk1
      rw [← e]
      by_cases ek : k = u.1
      · subst ek
        rw [up_eq, up_eq, up_eq, upd_eq, upd_eq, upd_eq]
        exact ⟨hrow i hi, rfl, hz, Int32.sub_zero _, hv⟩
      · rw [up_ne _ _ ek, up_ne _ _ ek, up_ne _ _ ek, upd_ne _ _ ek, upd_ne _ _ ek, upd_ne _ _ ek]
        exact hk k (by omega)
    · show sumN (up cl u.1 (vN R nn i)) u.1 + up cl u.1 (vN R nn i) u.1 = sumN cl u.1 + vN R nn i
      rw [up_eq, sumN_eq (h := cl) u.1 (fun p hp => up_ne cl _ (by omega))]
theorem KR_all {n z nn R : Nat} {row sur : Nat → Int32} (h0 : 0 < nn) (h3 : nn ≤ 3) (hR : R < 2 ^ 30) (hz : z < n) (hrow : ∀ i, i < nn → row i = sur (3 * z + i)) {u : KSt} {p : Nat × (Nat → Int32) × (Nat → Int32) × (Nat → Int32)} {cl : Nat → Nat} (h : KR n u p cl) :
    ∃ cl', KR n (kAll row nn (nI R) z u) (lp (lateStep sur z nn (nI R)) nn 0 p) cl' ∧ sumN cl' (kAll row nn (nI R) z u).1 = sumN cl u.1 + R := by
  have key : ∀ (r i : Nat) (u : KSt) (p : Nat × (Nat → Int32) × (Nat → Int32) × (Nat → Int32)) (cl : Nat → Nat), i + r = nn → KR n u p cl → ∃ cl', KR n (lp (kStep row nn (nI R) z) r i u) (lp (lateStep sur z nn (nI R)) r i p) cl' ∧ sumN cl' (lp (kStep row nn (nI R) z) r i u).1 + sumN (vN R nn) i = sumN cl u.1 + sumN (vN R nn) nn := by
    intro r
    induction r with
    | zero =>
      intro i u p cl hi h
      rw [show i = nn by omega]
      exact ⟨cl, h, rfl⟩
    | succ r ih =>
      intro i u p cl hi h
      obtain ⟨cl1, k1, k2⟩ := KR_step h0 h3 hR hz hrow (show i < nn by omega) h
      obtain ⟨cl2, k3, k4⟩ := ih (i + 1) _ _ cl1 (by omega) k1
      refine ⟨cl2, k3, ?_⟩
      have k5 : sumN (vN R nn) (i + 1) = sumN (vN R nn) i + vN R nn i := rfl
      show sumN cl2 (lp (kStep row nn (nI R) z) r (i + 1) (kStep row nn (nI R) z i u)).1 + _ = _
      omega
  obtain ⟨cl', k1, k2⟩ := key nn 0 u p cl (by omega) h
  refine ⟨cl', k1, ?_⟩
  have e : sumN (vN R nn) nn = R := vN_sum h0 h3
  have e0 : sumN (vN R nn) 0 = 0 := rfl
  show sumN cl' (lp (kStep row nn (nI R) z) nn 0 u).1 = _
  omega
