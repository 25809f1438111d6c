/-! ===== a payment: what is left goes to the OPEN LOAN ===== -/
theorem vP_vP (p' p : PayS) (v : MSt) : vP p' (vP p v) = vP p' v := by
  show (v.1, v.2.1, v.2.2.1, up (up (up (up (up (up v.2.2.2 45 p.2.1) 38 p.2.2.1) 19 p.2.2.2) 45 p'.2.1) 38 p'.2.2.1) 19 p'.2.2.2) = (v.1, v.2.1, v.2.2.1, up (up (up v.2.2.2 45 p'.2.1) 38 p'.2.2.1) 19 p'.2.2.2)
  have e : up (up (up (up (up (up v.2.2.2 45 p.2.1) 38 p.2.2.1) 19 p.2.2.2) 45 p'.2.1) 38 p'.2.2.1) 19 p'.2.2.2 = up (up (up v.2.2.2 45 p'.2.1) 38 p'.2.2.1) 19 p'.2.2.2 := by
    funext j
    by_cases c1 : j = 19
    · rw [c1, up_eq, up_eq]
    · rw [up_ne _ _ c1, up_ne _ _ c1]
      by_cases c2 : j = 38
      · rw [c2, up_eq, up_eq]
      · rw [up_ne _ _ c2, up_ne _ _ c2]
        by_cases c3 : j = 45
        · rw [c3, up_eq, up_eq]
        · rw [up_ne _ _ c3, up_ne _ _ c3, up_ne _ _ c1, up_ne _ _ c2, up_ne _ _ c3]
  rw [e]
theorem payA_vP (k : Nat) (p : PayS) (v : MSt) : payA k p (vP p v) = payA k p v := by
  have e : up (up (up (vP p v).2.2.2 45 p.2.1) 38 p.2.2.1) 19 p.2.2.2 = up (up (up v.2.2.2 45 p.2.1) 38 p.2.2.1) 19 p.2.2.2 := congrArg (fun w : MSt => w.2.2.2) (vP_vP p p v)
  unfold payA
  rw [e]
  rfl
section PAYT
variable {N : Nat} {u : CSt} {v : MSt} {g : GH} {j : Nat}
theorem pay_tail {W0 : Nat} (h : Rel N u v g) (hx : RX v) (hN : N ≤ 512) (hj : j < u.n) (ho : u.ga j 16 = 0) (hW : W0 ≤ restN (g.1 j)) :
    ∃ g', Rel N (xPaid (tpLoan j (nI W0, u.F.2.2, u.ga, u.gr, u.gc)) u) (v.1, v.2.1, v.2.2.1, if v.2.2.2 32 j + (nI W0 - payQ j (nI W0) v) = v.2.2.2 27 j then (if v.2.2.2 34 j + payQ j (nI W0) v = v.2.2.2 33 j then up (payA j (nI W0, v.2.2.2 45, v.2.2.2 38, v.2.2.2 19) v) 37 (upd (v.2.2.2 37) j 1) else payA j (nI W0, v.2.2.2 45, v.2.2.2 38, v.2.2.2 19) v) else payA j (nI W0, v.2.2.2 45, v.2.2.2 38, v.2.2.2 19) v) g'
      ∧ RX (v.1, v.2.1, v.2.2.1, if v.2.2.2 32 j + (nI W0 - payQ j (nI W0) v) = v.2.2.2 27 j then (if v.2.2.2 34 j + payQ j (nI W0) v = v.2.2.2 33 j then up (payA j (nI W0, v.2.2.2 45, v.2.2.2 38, v.2.2.2 19) v) 37 (upd (v.2.2.2 37) j 1) else payA j (nI W0, v.2.2.2 45, v.2.2.2 38, v.2.2.2 19) v) else payA j (nI W0, v.2.2.2 45, v.2.2.2 38, v.2.2.2 19) v) := by
  have h0 := h
  have hpn := fun f (hf : f < 6) => h.pn_le hf
  obtain ⟨k1, k2, k3, k4, k5, k6, ⟨q1, q2, q3, q4⟩⟩ := h
  obtain ⟨⟨r1, r2, r3, r4, r5, r6, r7, r8, r9, r10⟩, rb⟩ := q2 j hj
  obtain ⟨l1, l2, l3, l4, l5, l6, l7, l8, l9, l10, l11⟩ := k5.2.2.2 j hj
  have hcb := r9 ho
  have hrest : restN (g.1 j) = (g.1 j 2 - g.1 j 11) + (g.1 j 12 - g.1 j 13) := rfl
  have hQ : ∃ Q, Q = min W0 (g.1 j 12 - g.1 j 13) := ⟨_, rfl⟩
  obtain ⟨Q, hQ⟩ := hQ
  have hpl := pl_nat (F := u.ga j) (x := nI W0) (X := W0) (m := g.1 j) rfl r1 r2 r3 hW (by omega) (by omega)
  rw [← hQ] at hpl
  have hpq : payQ j (nI W0) v = nI Q := by
    unfold payQ
    rw [← ls12 l1, ← ls13 l1, r1 12 (by decide), r1 13 (by decide), pk_sub r3, le_min (by omega) (by omega), hQ]
  have hL : ∃ L, L = W0 - Q := ⟨_, rfl⟩
  obtain ⟨L, hL⟩ := hL
  rw [← hL] at hpl
  have hsub : nI W0 - nI Q = nI L := by rw [pk_sub (by omega), hL]
  -- pence with the fines in fund 0
  have hpe : ∀ f, f < 6 → upd (u.F.2.2 1) 0 (u.F.2.2 1 0 + nI Q) f = nI (up g.2.2.1 0 (g.2.2.1 0 + Q) f) := by
    intro f hf
    by_cases cf : f = 0
    · subst cf
      rw [upd_eq, up_eq, q1 0 (by decide), nI_add]
    · rw [upd_ne _ _ cf, up_ne _ _ cf]
      exact q1 f hf
  have h19 : ∀ f, f < 6 → upd (v.2.2.2 19) 0 (v.2.2.2 19 0 + nI Q) f = nI (up g.2.2.1 0 (g.2.2.1 0 + Q) f) := by
    intro f hf
    rw [← hpe f hf, ← k4.2.2.2.2.1 0 (by decide)]
    exact (upd_pt (k4.2.2.2.2.1 f hf)).symm
  have hB := bb_all (tk := g.2.1 j) (pn := up g.2.2.1 0 (g.2.2.1 0 + Q)) (cb := g.1 j 17) (y := L) (am := g.1 j 2) (pe := upd (u.F.2.2 1) 0 (u.F.2.2 1 0 + nI Q)) (st := u.gr 3 j) hpe r8 r7 (by omega) r5 (fun f hf => by
    have := hpn f hf
    by_cases cf : f = 0
    · subst cf
      rw [up_eq]; omega
    · rw [up_ne _ _ cf]; omega)
  have h38 : v.2.2.2 38 j = nI (g.1 j 17) := by rw [← ls17 l1]; exact r1 17 (by decide)
  have hfb := fb_all (tk := g.2.1 j) (pn := up g.2.2.1 0 (g.2.2.1 0 + Q)) (cb := g.1 j 17) (y := L) (am := g.1 j 2) (tks := v.2.2.2 41) (f0 := upd (v.2.2.2 19) 0 (v.2.2.2 19 0 + nI Q)) (z := j) (fun f hf => by rw [← l7 f hf]; exact r6 f hf) h19 r7 (by omega) r5
  -- the ints of the LOAN, as they are then
  have hgm : ∃ gm : Nat → Nat, gm = up (up (up (g.1 j) 11 (g.1 j 11 + L)) 13 (g.1 j 13 + Q)) 17 (g.1 j 17 + L) := ⟨_, rfl⟩
  obtain ⟨gm, hgm⟩ := hgm
  have g2 : gm 2 = g.1 j 2 := by rw [hgm]; rfl
  have g11 : gm 11 = g.1 j 11 + L := by rw [hgm]; rfl
  have g12 : gm 12 = g.1 j 12 := by rw [hgm]; rfl
  have g13 : gm 13 = g.1 j 13 + Q := by rw [hgm]; rfl
  have g17 : gm 17 = g.1 j 17 + L := by rw [hgm]; rfl
  have hgr : restN gm = restN (g.1 j) - W0 := by
    show (gm 2 - gm 11) + (gm 12 - gm 13) = _
    rw [g2, g11, g12, g13, hrest]
    omega
  have eF : u.ga j 2 - (u.ga j 11 + pl2 (u.ga j) (nI W0)) + u.ga j 12 - (u.ga j 13 + pl1 (u.ga j) (nI W0)) = nI (restN gm) := by
    rw [hpl.1, hpl.2, r1 2 (by decide), r1 11 (by decide), r1 12 (by decide), r1 13 (by decide), nI_add, nI_add, pk_sub (by omega), nI_add, pk_sub (by omega)]
    congr 1
    rw [hgr, hrest]
    omega
  have ePA : payA j (nI W0, v.2.2.2 45, v.2.2.2 38, v.2.2.2 19) v = up (up (up (up (up (up (up (up v.2.2.2 45 (v.2.2.2 45)) 38 (v.2.2.2 38)) 19 (v.2.2.2 19)) 34 (upd (v.2.2.2 34) j (v.2.2.2 34 j + nI Q))) 19 (upd (v.2.2.2 19) 0 (v.2.2.2 19 0 + nI Q))) 32 (upd (v.2.2.2 32) j (v.2.2.2 32 j + nI L))) 38 (upd (v.2.2.2 38) j (nI (g.1 j 17 + L)))) 19 (fBack (v.2.2.2 41) j (nI (g.1 j 17)) (nI (g.1 j 17 + L)) (upd (v.2.2.2 19) 0 (v.2.2.2 19 0 + nI Q))) := by
    unfold payA
    show up (up (up (up (up (up (up (up v.2.2.2 45 (v.2.2.2 45)) 38 (v.2.2.2 38)) 19 (v.2.2.2 19)) 34 (upd (v.2.2.2 34) j (v.2.2.2 34 j + payQ j (nI W0) v))) 19 (upd (v.2.2.2 19) 0 (v.2.2.2 19 0 + payQ j (nI W0) v))) 32 (upd (v.2.2.2 32) j (v.2.2.2 32 j + (nI W0 - payQ j (nI W0) v)))) 38 (upd (v.2.2.2 38) j (v.2.2.2 38 j + (nI W0 - payQ j (nI W0) v)))) 19 (fBack (v.2.2.2 41) j (v.2.2.2 38 j) (v.2.2.2 38 j + (nI W0 - payQ j (nI W0) v)) (upd (v.2.2.2 19) 0 (v.2.2.2 19 0 + payQ j (nI W0) v))) = _
    rw [hpq, hsub, h38, nI_add]
  have e32 : v.2.2.2 32 j = nI (g.1 j 11) := by rw [← ls11 l1]; exact r1 11 (by decide)
  have e34 : v.2.2.2 34 j = nI (g.1 j 13) := by rw [← ls13 l1]; exact r1 13 (by decide)
  have e27 : v.2.2.2 27 j = nI (g.1 j 2) := by rw [← ls2 l1]; exact r1 2 (by decide)
  have e33 : v.2.2.2 33 j = nI (g.1 j 12) := by rw [← ls12 l1]; exact r1 12 (by decide)
  have e37 : v.2.2.2 37 j = 0 := by rw [← ls16 l1]; exact ho
  have t1 : (v.2.2.2 32 j + (nI W0 - payQ j (nI W0) v) = v.2.2.2 27 j) ↔ g.1 j 11 + L = g.1 j 2 := by
    rw [hpq, hsub, e32, e27, nI_add, nI_eq (by omega) (by omega)]
  have t2 : (v.2.2.2 34 j + payQ j (nI W0) v = v.2.2.2 33 j) ↔ g.1 j 13 + Q = g.1 j 12 := by
    rw [hpq, e34, e33, nI_add, nI_eq (by omega) (by omega)]
  -- the sums
  have s1 := sumN_up g.2.2.1 0 (g.2.2.1 0 + Q) 6 (by decide)
  have s2 := sumN_add (up g.2.2.1 0 (g.2.2.1 0 + Q)) (oF (g.2.1 j) (g.1 j 17) L) 6
  have s3 := oF_sum (tk := g.2.1 j) (cb := g.1 j 17) (y := L) r7 (by omega)
  have key : ∀ (st' : Int32) (A' : Nat → Nat → Int32), (st' = 0 ∨ st' = 1) → (st' = 1 → restN gm = 0) → A' = up (payA j (nI W0, v.2.2.2 45, v.2.2.2 38, v.2.2.2 19) v) 37 (upd (v.2.2.2 37) j st') →
      ∃ g', Rel N (xPaid (0, up u.F.2.2 1 (bbAll (nI L) (upd (u.F.2.2 1) 0 (u.F.2.2 1 0 + nI Q)) (u.gr 3 j)).2.1, up u.ga j (up (up (up (up (u.ga j) 11 (nI (g.1 j 11 + L))) 13 (nI (g.1 j 13 + Q))) 16 st') 17 (nI (g.1 j 17 + L))), up u.gr 3 (up (u.gr 3) j (bbAll (nI L) (upd (u.F.2.2 1) 0 (u.F.2.2 1 0 + nI Q)) (u.gr 3 j)).2.2), u.gc) u) (v.1, v.2.1, v.2.2.1, A') g' ∧ RX (v.1, v.2.1, v.2.2.1, A') := by
    intro st' A' hs hs1 hA'
    subst hA'
    rw [ePA]
    refine ⟨(up g.1 j gm, g.2.1, fun f => up g.2.2.1 0 (g.2.2.1 0 + Q) f + oF (g.2.1 j) (g.1 j 17) L f, g.2.2.2), ?_, ?_⟩
    · refine rel_paid h0 hj ⟨rfl, rfl, rfl, rfl, rfl, rfl, rfl, rfl, rfl, rfl, rfl, rfl, rfl⟩ ?_ ?_ rfl rfl rfl rfl ?_ ?_ ?_ ?_ g2 g12 ?_ ?_ ?_ ?_ ?_ ?_ ?_
      · obtain ⟨a1, a2, a3, a4, a5, a6, a7, a8, a9, a10, a11, a12, a13⟩ := l1
        refine ⟨a1, a2, a3, a4, a5, a6, ?_, a8, ?_, a10, a11, ?_, ?_⟩
        · show nI (g.1 j 11 + L) = upd (v.2.2.2 32) j (v.2.2.2 32 j + nI L) j
          rw [upd_eq, e32, nI_add]
        · show nI (g.1 j 13 + Q) = upd (v.2.2.2 34) j (v.2.2.2 34 j + nI Q) j
          rw [upd_eq, e34, nI_add]
        · show st' = upd (v.2.2.2 37) j st' j
          rw [upd_eq]
        · show nI (g.1 j 17 + L) = upd (v.2.2.2 38) j (nI (g.1 j 17 + L)) j
          rw [upd_eq]
      · intro k hk hne
        obtain ⟨a1, a2, a3, a4, a5, a6, a7, a8, a9, a10, a11, a12, a13⟩ := (k5.2.2.2 k hk).1
        refine ⟨a1, a2, a3, a4, a5, a6, ?_, a8, ?_, a10, a11, ?_, ?_⟩
        · show u.ga k 11 = upd (v.2.2.2 32) j (v.2.2.2 32 j + nI L) k
          rw [upd_ne _ _ hne]; exact a7
        · show u.ga k 13 = upd (v.2.2.2 34) j (v.2.2.2 34 j + nI Q) k
          rw [upd_ne _ _ hne]; exact a9
        · show u.ga k 16 = upd (v.2.2.2 37) j st' k
          rw [upd_ne _ _ hne]; exact a12
        · show u.ga k 17 = upd (v.2.2.2 38) j (nI (g.1 j 17 + L)) k
          rw [upd_ne _ _ hne]; exact a13
      · show st' = 0 ∨ st' = 1 ∨ st' = 2
        rcases hs with e | e
        · exact Or.inl e
        · exact Or.inr (Or.inl e)
      · intro f hf
        exact ⟨(hB f hf).1, hfb f hf⟩
      · intro f hf
        rw [g17]
        exact (hB f hf).2
      · intro i9 hi9
        have := r1 i9 hi9
        rcases (show i9 = 2 ∨ i9 = 11 ∨ i9 = 12 ∨ i9 = 13 ∨ i9 = 17 by simpa using hi9) with e | e | e | e | e
        all_goals subst e
        · rw [g2]; exact this
        · rw [g11]; rfl
        · rw [g12]; exact this
        · rw [g13]; rfl
        · rw [g17]; rfl
      · rw [g11, g2]; omega
      · rw [g13, g12]; omega
      · rw [g17, g2]; omega
      · intro _
        rw [g17, g11, hcb]
      · intro k hk
        refine ⟨rfl, q3 k hk, ?_⟩
        show v.2.2.2 45 k = nI (g.2.2.2 k)
        rw [← (k6.2.2 k hk).2.2.2]; exact q3 k hk
      · show u.mm ≤ 3 * ncl (upd (v.2.2.2 37) j st') u.n
        rw [ncl_other (by rw [e37]; decide) (by rcases hs with e | e <;> rw [e] <;> decide)]
        exact k6.2.1
      · rw [if_pos ho, s2]
        have hst : (if (up (up (up (up (u.ga j) 11 (nI (g.1 j 11 + L))) 13 (nI (g.1 j 13 + Q))) 16 st') 17 (nI (g.1 j 17 + L))) 16 = 0 then restN gm else 0) ≤ restN gm := by
          split
          · exact Nat.le_refl _
          · exact Nat.zero_le _
        omega
    · obtain ⟨x1, x2⟩ := hx
      refine ⟨fun i9 hi9 => ?_, fun i9 hi9 => ?_⟩
      · have hne : i9 ≠ j := by
          have := k5.1
          replace hi9 : v.1 42 ≤ i9 := hi9
          omega
        obtain ⟨⟨b1, b2, b3, b4, b5, b6, b7⟩, b8⟩ := x1 i9 hi9
        refine ⟨⟨?_, b2, ?_, b4, b5, ?_, ?_⟩, b8⟩
        · show upd (v.2.2.2 32) j (v.2.2.2 32 j + nI L) i9 = 0
          rw [upd_ne _ _ hne]; exact b1
        · show upd (v.2.2.2 34) j (v.2.2.2 34 j + nI Q) i9 = 0
          rw [upd_ne _ _ hne]; exact b3
        · show upd (v.2.2.2 37) j st' i9 = 0
          rw [upd_ne _ _ hne]; exact b6
        · show upd (v.2.2.2 38) j (nI (g.1 j 17 + L)) i9 = 0
          rw [upd_ne _ _ hne]; exact b7
      · show ¬ upd (v.2.2.2 37) j st' (v.2.2.2 44 i9).toNatClampNeg = 0
        have hne : (v.2.2.2 44 i9).toNatClampNeg ≠ j := fun z9 => x2 i9 hi9 (by rw [z9]; exact e37)
        rw [upd_ne _ _ hne]
        exact x2 i9 hi9
  have eL : tpLoan j (nI W0, u.F.2.2, u.ga, u.gr, u.gc) = (nI W0, up u.F.2.2 1 (bbAll (nI L) (upd (u.F.2.2 1) 0 (u.F.2.2 1 0 + nI Q)) (u.gr 3 j)).2.1, up u.ga j (plF (u.ga j) (nI W0)), up u.gr 3 (up (u.gr 3) j (bbAll (nI L) (upd (u.F.2.2 1) 0 (u.F.2.2 1 0 + nI Q)) (u.gr 3 j)).2.2), u.gc) := by
    unfold tpLoan tpL plAll plBB
    show (nI W0, up u.F.2.2 1 (bbAll (pl2 (u.ga j) (nI W0)) (upd (u.F.2.2 1) 0 (u.F.2.2 1 0 + pl1 (u.ga j) (nI W0))) (u.gr 3 j)).2.1, up u.ga j (plF (u.ga j) (nI W0)), up u.gr 3 (up (u.gr 3) j (bbAll (pl2 (u.ga j) (nI W0)) (upd (u.F.2.2 1) 0 (u.F.2.2 1 0 + pl1 (u.ga j) (nI W0))) (u.gr 3 j)).2.2), u.gc) = _
    rw [hpl.1, hpl.2]
  rw [eL]
  by_cases c : restN gm = 0
  · have c1 : g.1 j 11 + L = g.1 j 2 := by omega
    have c2 : g.1 j 13 + Q = g.1 j 12 := by omega
    rw [if_pos (t1.mpr c1), if_pos (t2.mpr c2)]
    have eP : plF (u.ga j) (nI W0) = up (up (up (up (u.ga j) 11 (nI (g.1 j 11 + L))) 13 (nI (g.1 j 13 + Q))) 16 1) 17 (nI (g.1 j 17 + L)) := by
      unfold plF
      rw [if_pos (show u.ga j 2 - (u.ga j 11 + pl2 (u.ga j) (nI W0)) + u.ga j 12 - (u.ga j 13 + pl1 (u.ga j) (nI W0)) = 0 by rw [eF, c]; rfl), hpl.1, hpl.2, r1 11 (by decide), r1 13 (by decide), r1 17 (by decide), nI_add, nI_add, nI_add]
    rw [eP]
    exact key 1 _ (Or.inr rfl) (fun _ => c) rfl
  · have hno : ¬ (g.1 j 11 + L = g.1 j 2 ∧ g.1 j 13 + Q = g.1 j 12) := by omega
    have eA : (if v.2.2.2 32 j + (nI W0 - payQ j (nI W0) v) = v.2.2.2 27 j then (if v.2.2.2 34 j + payQ j (nI W0) v = v.2.2.2 33 j then up (payA j (nI W0, v.2.2.2 45, v.2.2.2 38, v.2.2.2 19) v) 37 (upd (v.2.2.2 37) j 1) else payA j (nI W0, v.2.2.2 45, v.2.2.2 38, v.2.2.2 19) v) else payA j (nI W0, v.2.2.2 45, v.2.2.2 38, v.2.2.2 19) v) = up (payA j (nI W0, v.2.2.2 45, v.2.2.2 38, v.2.2.2 19) v) 37 (upd (v.2.2.2 37) j 0) := by
      have e9 : up (payA j (nI W0, v.2.2.2 45, v.2.2.2 38, v.2.2.2 19) v) 37 (upd (v.2.2.2 37) j 0) = payA j (nI W0, v.2.2.2 45, v.2.2.2 38, v.2.2.2 19) v := by
        have e8 : upd (v.2.2.2 37) j 0 = v.2.2.2 37 := by
          funext k
          by_cases ck : k = j
          · rw [ck, upd_eq, e37]
          · rw [upd_ne _ _ ck]
        rw [e8]
        exact up_same (payA j (nI W0, v.2.2.2 45, v.2.2.2 38, v.2.2.2 19) v) 37
      rw [e9]
      by_cases c1 : g.1 j 11 + L = g.1 j 2
      · rw [if_pos (t1.mpr c1), if_neg (fun z9 => hno ⟨c1, t2.mp z9⟩)]
      · rw [if_neg (fun z9 => c1 (t1.mp z9))]
    rw [eA]
    have eP : plF (u.ga j) (nI W0) = up (up (up (up (u.ga j) 11 (nI (g.1 j 11 + L))) 13 (nI (g.1 j 13 + Q))) 16 0) 17 (nI (g.1 j 17 + L)) := by
      unfold plF
      rw [if_neg (show ¬ u.ga j 2 - (u.ga j 11 + pl2 (u.ga j) (nI W0)) + u.ga j 12 - (u.ga j 13 + pl1 (u.ga j) (nI W0)) = 0 by
        rw [eF]
        intro z9
        exact c ((nI_eq (b := 0) (by omega) (by decide)).mp z9)), hpl.1, hpl.2, r1 11 (by decide), r1 13 (by decide), r1 17 (by decide), nI_add, nI_add, nI_add]
      have e8 : up (up (u.ga j) 11 (nI (g.1 j 11 + L))) 13 (nI (g.1 j 13 + Q)) = up (up (up (u.ga j) 11 (nI (g.1 j 11 + L))) 13 (nI (g.1 j 13 + Q))) 16 0 := by
        have e7 := up_same (up (up (u.ga j) 11 (nI (g.1 j 11 + L))) 13 (nI (g.1 j 13 + Q))) 16
        have e6 : up (up (u.ga j) 11 (nI (g.1 j 11 + L))) 13 (nI (g.1 j 13 + Q)) 16 = 0 := ho
        rw [e6] at e7
        exact e7.symm
      rw [← e8]
    rw [eP]
    exact key 0 _ (Or.inl rfl) (fun z9 => absurd z9 (by decide)) rfl
end PAYT
