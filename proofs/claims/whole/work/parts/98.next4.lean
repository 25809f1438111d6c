/-! ===== the end of a WEEK: a LOAN is CALLED, alike; all of them ===== -/
section NX4
variable {b1 : Nat} {b2 : Nat → Nat} {u : CSt} {v : MSt} {g : GH} {i : Nat}
theorem next_call {lost' : Int32} {ks : KSt} {cl : Nat → Nat} {w' : Nat → Int32} {nm : Int64} {P1 P2 P3 : Nat → Int32} {R q : Nat} (h : RelB b1 b2 u v g) (hi : i < u.n) (ho : u.ga i 16 = 0) (hq99 : q ≤ 99) (hq : u.ga i 7 = nI q) (hR : R = restN (up (g.1 i) 12 (g.1 i 12 + q)))
    (w8 : w' 8 = v.2.1 8) (w24 : w' 24 = v.2.1 24) (w25 : lost' = w' 25) (hK : KR u.n ks (ks.1, P1, P2, P3) cl) (hs : sumN cl ks.1 ≤ sumN g.2.2.2 u.mm + R) (hmm : ks.1 ≤ u.mm + 3) :
    ∃ g', RelB (b1 + 99) (up b2 i (b2 i + 99)) (sE (up u.ga i (up (cLateF (u.ga i)) 16 2), lost', ks) u) (up v.1 46 ks.1, w', nm, up (up (up (up (mLateA i v) 37 (upd (v.2.2.2 37) i 2)) 43 P1) 44 P2) 45 P3) g' := by
  obtain ⟨k1, k2, k3, k4, k5, k6, ⟨m1, m2, m3, m4⟩⟩ := h
  have hL := k5.2.2.2
  have hli : RLx (u.ga i) v.2.2.2 i := (hL i hi).1
  have hm := (m2 i hi)
  have e37 : v.2.2.2 37 i = 0 := by rw [← ho]; exact (ls16 (hL i hi).1).symm
  refine ⟨(up g.1 i (up (g.1 i) 12 (g.1 i 12 + q)), g.2.1, g.2.2.1, cl), k1, ?_, k3, ?_, ?_, ?_, m1, ?_, ?_, ?_⟩
  · obtain ⟨v1, v2, v3, v4, v5, v6⟩ := k2
    exact ⟨v1, v2, v3.trans w8.symm, v4, v5, v6⟩
  · obtain ⟨f1, f2, f3, f4, f5, f6, f7, f8⟩ := k4
    exact ⟨f1, f2, f3, f4.trans w24.symm, f5, f6, f7, f8⟩
  · refine RLo_put (lost' := lost') (ks := ks) k5 rfl w25 rfl rfl rfl (fun k hk hne => ?_) ?_ rfl rfl rfl (Or.inr (Or.inr rfl))
    · obtain ⟨a1, a2, a3, a4, a5, a6, a7, a8, a9, a10, a11, a12, a13⟩ := late_o (i := i) hne (show RLx (u.ga k) v.2.2.2 k from (hL k hk).1)
      exact ⟨a1, a2, a3, a4, a5, a6, a7, a8, a9, a10, a11, by show u.ga k 16 = upd (v.2.2.2 37) i 2 k; rw [upd_ne _ _ hne]; exact a12, a13⟩
    · obtain ⟨a1, a2, a3, a4, a5, a6, a7, a8, a9, a10, a11, a12, a13⟩ := late_x hli
      exact ⟨a1, a2, a3, a4, a5, a6, a7, a8, a9, a10, a11, by show (2 : Int32) = upd (v.2.2.2 37) i 2 i; rw [upd_eq], a13⟩
  · refine ⟨rfl, ?_, fun k hk => ?_⟩
    · show ks.1 ≤ 3 * ncl (upd (v.2.2.2 37) i 2) u.n
      rw [ncl_upd (by rw [e37]; decide) hi]
      have := k6.2.1
      omega
    · obtain ⟨c1, c2, c3, c4, -⟩ := hK.2 k hk
      exact ⟨c1, c2, c3, c4⟩
  · refine RMi_put (lost' := lost') (ks := ks) (cl := cl) (gm := up (g.1 i) 12 (g.1 i 12 + q)) m2 (fun j hj => ?_) rfl rfl ?_ rfl rfl (fun z => absurd z (by show ¬ ((2 : Int32) = 0); decide)) ?_
    · have := late_F hm.1.1 hq j hj
      rcases (show j = 2 ∨ j = 11 ∨ j = 12 ∨ j = 13 ∨ j = 17 by simpa using hj) with e | e | e | e | e
      all_goals subst e; exact this
    · show g.1 i 13 ≤ g.1 i 12 + q
      have := hm.1.2.2.1
      omega
    · show g.1 i 12 + q ≤ b2 i + 99
      have := hm.2
      omega
  · intro k hk
    obtain ⟨-, -, -, c4, c5⟩ := hK.2 k hk
    exact c4.trans c5
  · show sumN g.2.2.1 6 + (sumN (fun k => if up u.ga i (up (cLateF (u.ga i)) 16 2) k 16 = 0 then restN (up g.1 i (up (g.1 i) 12 (g.1 i 12 + q)) k) else 0) u.n + sumN cl ks.1) ≤ b1 + 99
    have q1 := open_put (u := u) (g := g) (F' := up (cLateF (u.ga i)) 16 2) (gm := up (g.1 i) 12 (g.1 i 12 + q)) hi
    have q2 : sumN g.2.2.1 6 + (sumN (fun i => if u.ga i 16 = 0 then restN (g.1 i) else 0) u.n + sumN g.2.2.2 u.mm) ≤ b1 := m4
    have q3 : (if (up (cLateF (u.ga i)) 16 2) 16 = 0 then restN (up (g.1 i) 12 (g.1 i 12 + q)) else 0) = 0 := if_neg (show ¬ ((2 : Int32) = 0) by decide)
    rw [if_pos ho, q3] at q1
    have q4 : R ≤ restN (g.1 i) + q := by
      rw [hR]
      show (g.1 i 2 - g.1 i 11) + (g.1 i 12 + q - g.1 i 13) ≤ (g.1 i 2 - g.1 i 11) + (g.1 i 12 - g.1 i 13) + q
      omega
    omega
theorem rest_nat {F : Nat → Int32} {m : Nat → Nat} (h : ∀ j, j ∈ [2, 11, 12, 13, 17] → F j = nI (m j)) (h1 : m 11 ≤ m 2) (h2 : m 13 ≤ m 12) : cRest F = nI (restN m) := by
  unfold cRest restN
  rw [h 2 (by decide), h 11 (by decide), h 12 (by decide), h 13 (by decide), pk_sub h1, nI_add, pk_sub (by omega)]
  congr 1
  omega
theorem next_E (h : RelB b1 b2 u v g) (hi : i < u.n) (ho : u.ga i 16 = 0) (hb : b1 < 2 ^ 29) (hc : v.2.2.2 31 i ≤ v.2.2.2 36 i + 1) : ∃ g', RelB (b1 + 99) (up b2 i (b2 i + 99)) (sE (ewCall u.gn (u.gr 1) i (up u.ga i (cLateF (u.ga i)), u.E.2)) u) (mLate i (u.gn i) v) g' := by
  have h0 := h
  obtain ⟨k1, k2, k3, k4, k5, k6, ⟨m1, m2, m3, m4⟩⟩ := h
  have hL := k5.2.2.2
  obtain ⟨l1, l2, l3, l4, l5, l6, l7, l8, l9, l10, l11⟩ := hL i hi
  have hm := (m2 i hi)
  obtain ⟨q, hq99, hq⟩ := hm.1.2.2.2.2.2.2.2.2.2
  have hF := late_F hm.1.1 hq
  have hcR : cRest (cLateF (u.ga i)) = nI (restN (up (g.1 i) 12 (g.1 i 12 + q))) := rest_nat hF hm.1.2.1 (by show g.1 i 13 ≤ g.1 i 12 + q; have := hm.1.2.2.1; omega)
  have hfR : fRest i v = cRest (cLateF (u.ga i)) := by
    show v.2.2.2 27 i - v.2.2.2 32 i + (v.2.2.2 33 i + v.2.2.2 30 i) - v.2.2.2 34 i = u.ga i 2 - u.ga i 11 + (u.ga i 12 + u.ga i 7) - u.ga i 13
    rw [ls2 l1, ls11 l1, ls12 l1, ls7 l1, ls13 l1]
  have hRb : restN (up (g.1 i) 12 (g.1 i 12 + q)) < 2 ^ 30 := by
    have q1 := sumN_le (fun k => if u.ga k 16 = 0 then restN (g.1 k) else 0) i u.n hi
    have q2 : sumN g.2.2.1 6 + (sumN (fun i => if u.ga i 16 = 0 then restN (g.1 i) else 0) u.n + sumN g.2.2.2 u.mm) ≤ b1 := m4
    have q3 : (if u.ga i 16 = 0 then restN (g.1 i) else 0) = restN (g.1 i) := if_pos ho
    have q4 : (if u.ga i 16 = 0 then restN (g.1 i) else 0) ≤ sumN (fun k => if u.ga k 16 = 0 then restN (g.1 k) else 0) u.n := q1
    have q5 : restN (up (g.1 i) 12 (g.1 i 12 + q)) ≤ restN (g.1 i) + q := by
      show (g.1 i 2 - g.1 i 11) + (g.1 i 12 + q - g.1 i 13) ≤ (g.1 i 2 - g.1 i 11) + (g.1 i 12 - g.1 i 13) + q
      omega
    omega
  have eC : ewCall u.gn (u.gr 1) i (up u.ga i (cLateF (u.ga i)), u.E.2) = (up u.ga i (up (cLateF (u.ga i)) 16 2), (if u.gn i = 0 then u.lost + cRest (cLateF (u.ga i)) else u.lost), kAll (u.gr 1 i) (u.gn i) (cRest (cLateF (u.ga i))) i u.E.2.2) := by
    unfold ewCall
    show (up (up u.ga i (cLateF (u.ga i))) i (up (up u.ga i (cLateF (u.ga i)) i) 16 2), (if u.gn i = 0 then u.lost + cRest (up u.ga i (cLateF (u.ga i)) i) else u.lost), kAll (u.gr 1 i) (u.gn i) (cRest (up u.ga i (cLateF (u.ga i)) i)) i u.E.2.2) = _
    rw [up_eq, up_up]
  have hKR : KR u.n u.E.2.2 (v.1 46, v.2.2.2 43, v.2.2.2 44, v.2.2.2 45) g.2.2.2 := ⟨k6.1, fun k hk => by
    obtain ⟨c1, c2, c3, c4⟩ := k6.2.2 k hk
    exact ⟨c1, c2, c3, c4, c4.symm.trans (m3 k hk)⟩⟩
  rw [eC]
  unfold mLate
  rw [if_pos hc]
  by_cases hn0 : u.gn i = 0
  · rw [if_pos hn0, if_pos hn0]
    have e1 : kAll (u.gr 1 i) (u.gn i) (cRest (cLateF (u.ga i))) i u.E.2.2 = u.E.2.2 := by rw [hn0]; rfl
    have e2 : mLateP i (u.gn i) v = (v.1 46, v.2.2.2 43, v.2.2.2 44, v.2.2.2 45) := by rw [hn0]; rfl
    rw [e1, e2, ← k6.1]
    refine next_call h0 hi ho hq99 hq rfl (w' := up v.2.1 25 (v.2.1 25 + fRest i v)) rfl rfl ?_ (ks := u.E.2.2) (cl := g.2.2.2) ?_ ?_ ?_
    · show u.lost + cRest (cLateF (u.ga i)) = v.2.1 25 + fRest i v
      rw [hfR, k5.2.2.1]
    · exact ⟨rfl, hKR.2⟩
    · exact Nat.le_add_right _ _
    · exact Nat.le_add_right _ _
  · rw [if_neg hn0, if_neg hn0]
    obtain ⟨cl, c1, c2⟩ := KR_all (n := u.n) (z := i) (nn := u.gn i) (R := restN (up (g.1 i) 12 (g.1 i 12 + q))) (row := u.gr 1 i) (sur := v.2.2.2 40) (by omega) l4 hRb hi (fun j hj => (l5 j hj).1) hKR
    have e2 : mLateP i (u.gn i) v = lp (lateStep (v.2.2.2 40) i (u.gn i) (nI (restN (up (g.1 i) 12 (g.1 i 12 + q))))) (u.gn i) 0 (v.1 46, v.2.2.2 43, v.2.2.2 44, v.2.2.2 45) := by
      unfold mLateP
      rw [hfR, hcR]
    rw [e2, hcR, ← c1.1]
    refine next_call h0 hi ho hq99 hq rfl (w' := v.2.1) rfl rfl k5.2.2.1 (cl := cl) ⟨rfl, c1.2⟩ (Nat.le_of_eq c2) ?_
    have := (kLp_le (g := u.gr 1 i) (n := u.gn i) (y := nI (restN (up (g.1 i) 12 (g.1 i 12 + q)))) (p_ := i) (u.gn i) 0 u.E.2.2).2
    have e9 : (kAll (u.gr 1 i) (u.gn i) (nI (restN (up (g.1 i) 12 (g.1 i 12 + q)))) i u.E.2.2).1 ≤ u.mm + u.gn i := this
    omega
end NX4
