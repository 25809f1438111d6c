/-! ===== alike: pay ===== -/
theorem sumN_mono (f : Nat → Nat) {a b : Nat} (h : a ≤ b) : sumN f a ≤ sumN f b := by
  induction h with
  | refl => exact Nat.le_refl _
  | step _ ih => exact Nat.le_trans ih (Nat.le_add_right _ _)
theorem sumN_le2 {f h : Nat → Nat} : ∀ n, (∀ k, k < n → f k ≤ h k) → sumN f n ≤ sumN h n
  | 0, _ => Nat.le_refl _
  | n + 1, e => by
    have h1 := sumN_le2 n (fun k hk => e k (by omega))
    have h2 := e n (by omega)
    show sumN f n + f n ≤ sumN h n + h n
    omega
theorem calls_nat {cw left : Nat → Int32} {x : Int32} {cl : Nat → Nat} {n : Nat} (h : ∀ i, i < n → left i = nI (cl i)) : fCallsOf cw left x n = nI (sumN (fun k => if cw k = x then cl k else 0) n) := by
  unfold fCallsOf
  have key := lp_ind (f := fun i s => if cw i = x then s + left i else s) (fun m t => t = nI (sumN (fun k => if cw k = x then cl k else 0) m)) n 0 0 rfl ?_
  · rw [Nat.zero_add] at key
    exact key
  · intro m t _ hm ih
    show (if cw m = x then t + left m else t) = nI (sumN (fun k => if cw k = x then cl k else 0) m + (if cw m = x then cl m else 0))
    by_cases c : cw m = x
    · rw [if_pos c, if_pos c, ih, h m (by omega), nI_add]
    · rw [if_neg c, if_neg c, ih]
      rfl
section PAYL
variable {N : Nat} {u : CSt} {v : MSt}
theorem pay_loop {x : Int32} {cl0 : Nat → Nat} {R : Nat} {m0 : Nat → Nat → Nat} (hN : N ≤ 512) : ∀ (r i : Nat) (t : TPS) (p : PayS) (W0 : Nat) (g : GH), i + r = u.mm → Rel N (xPaid t u) (vP p v) g → RX (vP p v) → t.1 = nI W0 → p.1 = nI W0 → W0 < 2 ^ 30 → W0 + sumN (fun k => if v.2.2.2 43 k = x then cl0 k else 0) i ≤ sumN (fun k => if v.2.2.2 43 k = x then cl0 k else 0) u.mm + R → (∀ k, i ≤ k → g.2.2.2 k = cl0 k) → (∀ j, restN (g.1 j) = restN (m0 j)) →
    ∃ g' W1, Rel N (xPaid (lp (tpStep x u.gl) r i t) u) (vP (lp (payStep (v.2.2.2 43) (v.2.2.2 44) (v.2.2.2 27) (v.2.2.2 41) x) r i p) v) g' ∧ RX (vP (lp (payStep (v.2.2.2 43) (v.2.2.2 44) (v.2.2.2 27) (v.2.2.2 41) x) r i p) v) ∧ (lp (tpStep x u.gl) r i t).1 = nI W1 ∧ (lp (payStep (v.2.2.2 43) (v.2.2.2 44) (v.2.2.2 27) (v.2.2.2 41) x) r i p).1 = nI W1 ∧ W1 ≤ R ∧ (∀ j, restN (g'.1 j) = restN (m0 j))
  | 0, i, t, p, W0, g, hi, h, hx, e1, e2, hW, hD, _, hm => by
    have : i = u.mm := by omega
    subst this
    exact ⟨g, W0, h, hx, e1, e2, by omega, hm⟩
  | r + 1, i, (w, t1, t2, t3, t4), (w', p1, p2, p3), W0, g, hi, h, hx, e1, e2, hW, hD, hc, hm => by
    have e1' : w = nI W0 := e1
    have e2' : w' = nI W0 := e2
    subst e1'
    subst e2'
    have hs : ∃ g', Rel N (xPaid (tpStep x u.gl i (nI W0, t1, t2, t3, t4)) u) (vP (payStep (v.2.2.2 43) (v.2.2.2 44) (v.2.2.2 27) (v.2.2.2 41) x i (nI W0, p1, p2, p3)) (vP (nI W0, p1, p2, p3) v)) g'
      ∧ RX (vP (payStep (v.2.2.2 43) (v.2.2.2 44) (v.2.2.2 27) (v.2.2.2 41) x i (nI W0, p1, p2, p3)) (vP (nI W0, p1, p2, p3) v))
      ∧ (tpStep x u.gl i (nI W0, t1, t2, t3, t4)).1 = nI (W0 - (if v.2.2.2 43 i = x then g.2.2.2 i else 0))
      ∧ (payStep (v.2.2.2 43) (v.2.2.2 44) (v.2.2.2 27) (v.2.2.2 41) x i (nI W0, p1, p2, p3)).1 = nI (W0 - (if v.2.2.2 43 i = x then g.2.2.2 i else 0))
      ∧ (∀ k, k ≠ i → g'.2.2.2 k = g.2.2.2 k) ∧ (∀ j, restN (g'.1 j) = restN (g.1 j)) := pay_step (i := i) (x := x) (W0 := W0) h hx hN (show i < u.mm by omega) hW
    rw [vP_vP] at hs
    obtain ⟨g1, a1, a2, a3, a4, a5, a6⟩ := hs
    have hmono := sumN_mono (fun k => if v.2.2.2 43 k = x then cl0 k else 0) (show i + 1 ≤ u.mm by omega)
    have hs1 : sumN (fun k => if v.2.2.2 43 k = x then cl0 k else 0) (i + 1) = sumN (fun k => if v.2.2.2 43 k = x then cl0 k else 0) i + (if v.2.2.2 43 i = x then cl0 i else 0) := rfl
    have hci : (if v.2.2.2 43 i = x then g.2.2.2 i else 0) = (if v.2.2.2 43 i = x then cl0 i else 0) := by rw [hc i (Nat.le_refl _)]
    rw [hci] at a3 a4
    exact pay_loop (cl0 := cl0) (R := R) (m0 := m0) hN r (i + 1) (tpStep x u.gl i (nI W0, t1, t2, t3, t4)) (payStep (v.2.2.2 43) (v.2.2.2 44) (v.2.2.2 27) (v.2.2.2 41) x i (nI W0, p1, p2, p3)) (W0 - (if v.2.2.2 43 i = x then cl0 i else 0)) g1 (by omega) a1 a2 a3 a4 (by omega) (by omega) (fun k hk => by rw [a5 k (by omega)]; exact hc k (by omega)) (fun j => (a6 j).trans (hm j))
variable {g : GH}
/-- what one owes, as a natural -/
def owN (x : Int32) (u : CSt) (v : MSt) (g : GH) : Nat := sumN (fun k => if v.2.2.2 43 k = x then g.2.2.2 k else 0) u.mm
theorem Rel.debt (h : Rel N u v g) (x : Int32) : cDebt u.n u.ga u.mm u.gc x = nI (owN x u v g + (match fOpen (col u.ga 1) (col u.ga 16) x u.n with | none => 0 | some j => restN (g.1 j))) ∧ owN x u v g + (match fOpen (col u.ga 1) (col u.ga 16) x u.n with | none => 0 | some j => restN (g.1 j)) ≤ 100000 * N := by
  have h1 := h.calls x
  obtain ⟨k1, k2, k3, k4, k5, k6, ⟨q1, q2, q3, q4⟩⟩ := h
  have e1 : fCallsOf (col u.gc 0) (leftOf u.gc) x u.mm = nI (owN x u v g) := by
    rw [h1, ← k6.1]
    exact calls_nat (fun i hi => by rw [← (k6.2.2 i hi).2.2.2]; exact q3 i hi)
  have q5 : sumN g.2.2.1 6 + (sumN (fun i => if u.ga i 16 = 0 then restN (g.1 i) else 0) u.n + sumN g.2.2.2 u.mm) ≤ 100000 * N := q4
  have q6 : owN x u v g ≤ sumN g.2.2.2 u.mm := sumN_le2 _ (fun k _ => by split <;> omega)
  unfold cDebt
  rw [e1]
  cases ho : fOpen (col u.ga 1) (col u.ga 16) x u.n with
  | none => exact ⟨nI_add _ 0, by show owN x u v g + 0 ≤ _; omega⟩
  | some j =>
    obtain ⟨b1, b2, b3⟩ := fnd_lt ho
    have hj : j < u.n := by omega
    have hst : u.ga j 16 = 0 := by
      have b4 : (decide (col u.ga 1 j = x) && decide (col u.ga 16 j = 0)) = true := b3
      rw [Bool.and_eq_true] at b4
      exact of_decide_eq_true b4.2
    obtain ⟨⟨r1, r2, r3, r4, r5, r6, r7, r8, r9, r10⟩, rb⟩ := q2 j hj
    have q7 := sumN_le (fun i => if u.ga i 16 = 0 then restN (g.1 i) else 0) j u.n hj
    have q8 : (if u.ga j 16 = 0 then restN (g.1 j) else 0) = restN (g.1 j) := if_pos hst
    have q9 : (if u.ga j 16 = 0 then restN (g.1 j) else 0) ≤ sumN (fun i => if u.ga i 16 = 0 then restN (g.1 i) else 0) u.n := q7
    refine ⟨?_, ?_⟩
    · show nI (owN x u v g) + cRest (u.ga j) = nI (owN x u v g + restN (g.1 j))
      rw [rest_nat r1 r2 r3, nI_add]
    · show owN x u v g + restN (g.1 j) ≤ _
      omega
theorem rel_pay (h : Rel N u v g) (hx : RX v) (hN : N ≤ 512) (x y : Int32) : ∃ g', (xPay x y u).1 = (mPay x y v).1 ∧ Rel N (xPay x y u).2 (mPay x y v).2 g' ∧ RX (mPay x y v).2 := by
  have h0 := h
  have ho1 := h.opn x
  have how := rel_owes h x
  obtain ⟨hd1, hd2⟩ := h.debt x
  have np : u.np = v.1 21 := h.2.2.1.1
  unfold xPay mPay
  unfold xOwes mOwes at how
  rw [← np] at how ⊢
  by_cases c : isIn x u.np = false
  · rw [if_pos c, if_pos c]
    exact ⟨g, rfl, h0, hx⟩
  · rw [if_neg c, if_neg c]
    rw [if_neg c] at how
    have how' : cDebt u.n u.ga u.mm u.gc x = fOwed x (mT0 v) := by
      rw [how]
      show (if isIn x u.np = false then -1 else fOwed x v) = _
      rw [if_neg c]
      rfl
    by_cases c2 : y < 1
    · rw [if_pos c2, if_pos c2]
      exact ⟨g, rfl, h0, hx⟩
    · rw [if_neg c2, if_neg c2, ← how']
      by_cases c3 : y ≤ cDebt u.n u.ga u.mm u.gc x
      · rw [if_pos c3, if_pos c3]
        have c0 : ¬ y < 0 := fun z => c2 (Int32.lt_of_lt_of_le z (by decide))
        have ey := nI_self c0
        have hY : y.toNatClampNeg ≤ owN x u v g + (match fOpen (col u.ga 1) (col u.ga 16) x u.n with | none => 0 | some j => restN (g.1 j)) := by
          rw [hd1] at c3
          exact clamp_le c0 c3 (by omega)
        have hst : Rel N (xPaid (y, u.F.2.2, u.ga, u.gr, u.gc) u) (vP (y, (mT0 v).2.2.2 45, (mT0 v).2.2.2 38, (mT0 v).2.2.2 19) (mT0 v)) g := by
          rw [vP_same]
          exact h0
        have hxt : RX (vP (y, (mT0 v).2.2.2 45, (mT0 v).2.2.2 38, (mT0 v).2.2.2 19) (mT0 v)) := by
          rw [vP_same]
          exact hx
        obtain ⟨g1, W1, a1, a2, a3, a4, a5, a6⟩ := pay_loop (x := x) (cl0 := g.2.2.2) (R := match fOpen (col u.ga 1) (col u.ga 16) x u.n with | none => 0 | some j => restN (g.1 j)) (m0 := g.1) hN u.mm 0 (y, u.F.2.2, u.ga, u.gr, u.gc) (y, (mT0 v).2.2.2 45, (mT0 v).2.2.2 38, (mT0 v).2.2.2 19) y.toNatClampNeg g (by omega) hst hxt ey ey (by omega) hY (fun _ _ => rfl) (fun _ => rfl)
        have hm : u.mm = v.1 46 := h0.2.2.2.2.2.1.1
        have eP : mPayP x y v = lp (payStep ((mT0 v).2.2.2 43) ((mT0 v).2.2.2 44) ((mT0 v).2.2.2 27) ((mT0 v).2.2.2 41) x) u.mm 0 (y, (mT0 v).2.2.2 45, (mT0 v).2.2.2 38, (mT0 v).2.2.2 19) := by
          unfold mPayP
          rw [hm]
          rfl
        rw [← eP] at a1 a2 a4
        generalize hp' : mPayP x y v = p' at a1 a2 a4
        generalize ht' : lp (tpStep x u.gl) u.mm 0 (y, u.F.2.2, u.ga, u.gr, u.gc) = t' at a1 a3
        have ho2 := a1.opn x
        have ho3 : fOpen (col t'.2.2.1 1) (col t'.2.2.1 16) x u.n = fOpen (v.2.2.2 26) (v.2.2.2 37) x (v.1 42) := ho2
        unfold tpAll tpEnd mPayTail
        rw [ht', ho3]
        show ∃ g', _
        cases ho : fOpen (v.2.2.2 26) (v.2.2.2 37) x (v.1 42) with
        | none =>
          have ho' : fOpen ((mT0 v).2.2.2 26) ((mT0 v).2.2.2 37) x ((mT0 v).1 42) = none := ho
          simp only [ho']
          exact ⟨g1, (by first | trivial | rfl), a1, a2⟩
        | some j =>
          have ho' : fOpen ((mT0 v).2.2.2 26) ((mT0 v).2.2.2 37) x ((mT0 v).1 42) = some j := ho
          simp only [ho']
          rw [ho1, ho] at a5
          replace a5 : W1 ≤ restN (g.1 j) := a5
          rw [← a6 j] at a5
          obtain ⟨w, t1, t2, t3, t4⟩ := t'
          obtain ⟨w', p1, p2, p3⟩ := p'
          have e1 : w = nI W1 := a3
          have e2 : w' = nI W1 := a4
          subst e1
          subst e2
          rw [ho] at ho3
          obtain ⟨b1, b2, b3⟩ := fnd_lt ho3
          have hj : j < u.n := by omega
          have hsj : t2 j 16 = 0 := by
            have b4 : (decide (col t2 1 j = x) && decide (col t2 16 j = 0)) = true := b3
            rw [Bool.and_eq_true] at b4
            exact of_decide_eq_true b4.2
          have hT := pay_tail (u := xPaid (nI W1, t1, t2, t3, t4) u) (v := vP (nI W1, p1, p2, p3) (mT0 v)) (j := j) (W0 := W1) a1 a2 hN hj hsj a5
          have eA := payA_vP j (nI W1, p1, p2, p3) (mT0 v)
          have hT2 : ∃ g', Rel N (xPaid (tpLoan j (nI W1, t1, t2, t3, t4)) u) ((mT0 v).1, (mT0 v).2.1, (mT0 v).2.2.1, if (mT0 v).2.2.2 32 j + (nI W1 - payQ j (nI W1) (mT0 v)) = (mT0 v).2.2.2 27 j then (if (mT0 v).2.2.2 34 j + payQ j (nI W1) (mT0 v) = (mT0 v).2.2.2 33 j then up (payA j (nI W1, p1, p2, p3) (vP (nI W1, p1, p2, p3) (mT0 v))) 37 (upd ((mT0 v).2.2.2 37) j 1) else payA j (nI W1, p1, p2, p3) (vP (nI W1, p1, p2, p3) (mT0 v))) else payA j (nI W1, p1, p2, p3) (vP (nI W1, p1, p2, p3) (mT0 v))) g' ∧ RX ((mT0 v).1, (mT0 v).2.1, (mT0 v).2.2.1, if (mT0 v).2.2.2 32 j + (nI W1 - payQ j (nI W1) (mT0 v)) = (mT0 v).2.2.2 27 j then (if (mT0 v).2.2.2 34 j + payQ j (nI W1) (mT0 v) = (mT0 v).2.2.2 33 j then up (payA j (nI W1, p1, p2, p3) (vP (nI W1, p1, p2, p3) (mT0 v))) 37 (upd ((mT0 v).2.2.2 37) j 1) else payA j (nI W1, p1, p2, p3) (vP (nI W1, p1, p2, p3) (mT0 v))) else payA j (nI W1, p1, p2, p3) (vP (nI W1, p1, p2, p3) (mT0 v))) := hT
          rw [eA] at hT2
          obtain ⟨g2, d1, d2⟩ := hT2
          exact ⟨g2, (by first | trivial | rfl), d1, d2⟩
      · rw [if_neg c3, if_neg c3]
        exact ⟨g, rfl, h0, hx⟩
end PAYL
