/-! ===== a payment: call by call, alike ===== -/
def vP (p : PayS) (v : MSt) : MSt := (v.1, v.2.1, v.2.2.1, up (up (up v.2.2.2 45 p.2.1) 38 p.2.2.1) 19 p.2.2.2)
theorem vP_same (w : Int32) (v : MSt) : vP (w, v.2.2.2 45, v.2.2.2 38, v.2.2.2 19) v = v := by
  show (v.1, v.2.1, v.2.2.1, up (up (up v.2.2.2 45 (v.2.2.2 45)) 38 (v.2.2.2 38)) 19 (v.2.2.2 19)) = v
  rw [up_same, up_same, up_same]
theorem RX_P {v : MSt} {p : PayS} (h : RX v) (h38 : ∀ i, v.1 42 ≤ i → p.2.2.1 i = v.2.2.2 38 i) : RX (vP p v) := by
  obtain ⟨h1, h2⟩ := h
  refine ⟨fun i hi => ?_, h2⟩
  obtain ⟨⟨b1, b2, b3, b4, b5, b6, b7⟩, b8⟩ := h1 i hi
  exact ⟨⟨b1, b2, b3, b4, b5, b6, (h38 i hi).trans b7⟩, b8⟩
section PAYS
variable {N : Nat} {u : CSt} {v : MSt} {g : GH} {i : Nat}
theorem Rel.pn_le (h : Rel N u v g) {f : Nat} (hf : f < 6) : g.2.2.1 f ≤ 100000 * N := by
  have q1 := sumN_le g.2.2.1 f 6 hf
  have q2 : sumN g.2.2.1 6 + (sumN (fun i => if u.ga i 16 = 0 then restN (g.1 i) else 0) u.n + sumN g.2.2.2 u.mm) ≤ 100000 * N := h.2.2.2.2.2.2.2.2.2
  omega
theorem Rel.cl_le (h : Rel N u v g) {k : Nat} (hk : k < u.mm) : g.2.2.2 k ≤ 100000 * N := by
  have q1 := sumN_le g.2.2.2 k u.mm hk
  have q2 : sumN g.2.2.1 6 + (sumN (fun i => if u.ga i 16 = 0 then restN (g.1 i) else 0) u.n + sumN g.2.2.2 u.mm) ≤ 100000 * N := h.2.2.2.2.2.2.2.2.2
  omega
theorem pay_step {x : Int32} {W0 : Nat} (h : Rel N u v g) (hx : RX v) (hN : N ≤ 512) (hi : i < u.mm) (hW : W0 < 2 ^ 30) :
    ∃ g', Rel N (xPaid (tpStep x u.gl i (nI W0, u.F.2.2, u.ga, u.gr, u.gc)) u) (vP (payStep (v.2.2.2 43) (v.2.2.2 44) (v.2.2.2 27) (v.2.2.2 41) x i (nI W0, v.2.2.2 45, v.2.2.2 38, v.2.2.2 19)) v) g'
      ∧ RX (vP (payStep (v.2.2.2 43) (v.2.2.2 44) (v.2.2.2 27) (v.2.2.2 41) x i (nI W0, v.2.2.2 45, v.2.2.2 38, v.2.2.2 19)) v)
      ∧ (tpStep x u.gl i (nI W0, u.F.2.2, u.ga, u.gr, u.gc)).1 = nI (W0 - (if v.2.2.2 43 i = x then g.2.2.2 i else 0))
      ∧ (payStep (v.2.2.2 43) (v.2.2.2 44) (v.2.2.2 27) (v.2.2.2 41) x i (nI W0, v.2.2.2 45, v.2.2.2 38, v.2.2.2 19)).1 = nI (W0 - (if v.2.2.2 43 i = x then g.2.2.2 i else 0))
      ∧ (∀ k, k ≠ i → g'.2.2.2 k = g.2.2.2 k) ∧ (∀ j, restN (g'.1 j) = restN (g.1 j)) := by
  have h0 := h
  have hpn := fun f (hf : f < 6) => h.pn_le hf
  have hcl := h.cl_le hi
  obtain ⟨k1, k2, k3, k4, k5, k6, ⟨q1, q2, q3, q4⟩⟩ := h
  obtain ⟨c0, c44, cz, c45⟩ := k6.2.2 i hi
  by_cases c : v.2.2.2 43 i = x
  case neg =>
    have e1 : tpStep x u.gl i (nI W0, u.F.2.2, u.ga, u.gr, u.gc) = (nI W0, u.F.2.2, u.ga, u.gr, u.gc) := if_neg (show ¬ u.gc i 0 = x by rw [c0]; exact c)
    have e2 : payStep (v.2.2.2 43) (v.2.2.2 44) (v.2.2.2 27) (v.2.2.2 41) x i (nI W0, v.2.2.2 45, v.2.2.2 38, v.2.2.2 19) = (nI W0, v.2.2.2 45, v.2.2.2 38, v.2.2.2 19) := by
      unfold payStep
      by_cases c2 : nI W0 ≤ 0
      · rw [if_pos c2]
      · rw [if_neg c2, if_neg c]
    rw [e1, e2, if_neg c, vP_same]
    exact ⟨g, h0, hx, rfl, rfl, fun _ _ => rfl, fun _ => rfl⟩
  case pos =>
    rw [if_pos c]
    -- the LOAN z of the call
    have hz : u.gl i < u.n := cz
    have hzc : (v.2.2.2 44 i).toNatClampNeg = u.gl i := by
      have := k5.2.1
      rw [c44, nI_clamp (by omega)]
    have hst : ¬ u.ga (u.gl i) 16 = 0 := by
      have q := hx.2 i (by rw [← k6.1]; exact hi)
      rw [hzc] at q
      rw [ls16 (k5.2.2.2 _ hz).1]
      exact q
    generalize hzz : u.gl i = z at *
    obtain ⟨⟨r1, r2, r3, r4, r5, r6, r7, r8, r9, r10⟩, rb⟩ := q2 z hz
    obtain ⟨l1, l2, l3, l4, l5, l6, l7, l8, l9, l10, l11⟩ := k5.2.2.2 z hz
    have hq3 := q3 i hi
    -- naturals
    have hP : ∃ P, P = min W0 (g.2.2.2 i) := ⟨_, rfl⟩
    obtain ⟨P, hP⟩ := hP
    have hO : ∃ O, O = min P (g.1 z 2 - g.1 z 17) := ⟨_, rfl⟩
    obtain ⟨O, hO⟩ := hO
    have hB := bb_all (tk := g.2.1 z) (pn := g.2.2.1) (cb := g.1 z 17) (y := O) (am := g.1 z 2) (pe := u.F.2.2 1) (st := u.gr 3 z) q1 r8 r7 (by omega) r5 (fun f hf => by have := hpn f hf; omega)
    generalize hX : bbAll (nI O) (u.F.2.2 1) (u.gr 3 z) = X at hB
    obtain ⟨x1, pe1, st1⟩ := X
    replace hB : ∀ f, f < 6 → pe1 f = nI (g.2.2.1 f + oF (g.2.1 z) (g.1 z 17) O f) ∧ st1 f = nI (awayF (g.2.1 z) (g.1 z 17 + O) f) := hB
    have hpk := pk_nat (F := u.ga z) (w := nI W0) (sm := u.gc i 2) (pa := u.gc i 3) (W := W0) (C := g.2.2.2 i) (am := g.1 z 2) (cb := g.1 z 17) rfl hq3 (r1 2 (by decide)) (r1 17 (by decide)) r4 r5 hW (by omega)
    rw [← hP] at hpk
    rw [← hO] at hpk
    -- the class
    have e1 : tpStep x u.gl i (nI W0, u.F.2.2, u.ga, u.gr, u.gc) = (nI (W0 - P), up u.F.2.2 1 (upd pe1 0 (pe1 0 + nI (P - O))), up u.ga z (up (u.ga z) 17 (nI (g.1 z 17 + O))), up u.gr 3 (up (u.gr 3) z st1), up u.gc i (up (u.gc i) 3 (u.gc i 3 + nI P))) := by
      have e0 : tpK u.gl i (nI W0, u.F.2.2, u.ga, u.gr, u.gc) = (nI P, (up (u.ga z) 17 (nI (g.1 z 17 + O)), upd pe1 0 (pe1 0 + nI (P - O)), st1), u.gc i 3 + nI P) := by
        have e9 : tpK u.gl i (nI W0, u.F.2.2, u.ga, u.gr, u.gc) = pkAll (u.ga (u.gl i)) (nI W0) (u.gc i 2) (u.gc i 3) (u.F.2.2 1) (u.gr 3 (u.gl i)) := rfl
        rw [e9, hzz]
        have e8 : pkAll (u.ga z) (nI W0) (u.gc i 2) (u.gc i 3) (u.F.2.2 1) (u.gr 3 z) = (pk1 (nI W0) (u.gc i 2) (u.gc i 3), (up (u.ga z) 17 (u.ga z 17 + pk2 (u.ga z) (nI W0) (u.gc i 2) (u.gc i 3)), upd (bbAll (pk2 (u.ga z) (nI W0) (u.gc i 2) (u.gc i 3)) (u.F.2.2 1) (u.gr 3 z)).2.1 0 ((bbAll (pk2 (u.ga z) (nI W0) (u.gc i 2) (u.gc i 3)) (u.F.2.2 1) (u.gr 3 z)).2.1 0 + (pk1 (nI W0) (u.gc i 2) (u.gc i 3) - pk2 (u.ga z) (nI W0) (u.gc i 2) (u.gc i 3))), (bbAll (pk2 (u.ga z) (nI W0) (u.gc i 2) (u.gc i 3)) (u.F.2.2 1) (u.gr 3 z)).2.2), u.gc i 3 + pk1 (nI W0) (u.gc i 2) (u.gc i 3)) := rfl
        rw [e8, hpk.1, hpk.2, hX, r1 17 (by decide), nI_add, pk_sub (show O ≤ P by omega)]
      have e7 : tpStep x u.gl i (nI W0, u.F.2.2, u.ga, u.gr, u.gc) = (nI W0 - (tpK u.gl i (nI W0, u.F.2.2, u.ga, u.gr, u.gc)).1, up u.F.2.2 1 (tpK u.gl i (nI W0, u.F.2.2, u.ga, u.gr, u.gc)).2.1.2.1, up u.ga (u.gl i) (tpK u.gl i (nI W0, u.F.2.2, u.ga, u.gr, u.gc)).2.1.1, up u.gr 3 (up (u.gr 3) (u.gl i) (tpK u.gl i (nI W0, u.F.2.2, u.ga, u.gr, u.gc)).2.1.2.2), up u.gc i (up (u.gc i) 3 (tpK u.gl i (nI W0, u.F.2.2, u.ga, u.gr, u.gc)).2.2)) := if_pos (show u.gc i 0 = x by rw [c0]; exact c)
      have j1 : (tpK u.gl i (nI W0, u.F.2.2, u.ga, u.gr, u.gc)).1 = nI P := by rw [e0]
      have j2 : (tpK u.gl i (nI W0, u.F.2.2, u.ga, u.gr, u.gc)).2.1.2.1 = upd pe1 0 (pe1 0 + nI (P - O)) := by rw [e0]
      have j3 : (tpK u.gl i (nI W0, u.F.2.2, u.ga, u.gr, u.gc)).2.1.1 = up (u.ga z) 17 (nI (g.1 z 17 + O)) := by rw [e0]
      have j4 : (tpK u.gl i (nI W0, u.F.2.2, u.ga, u.gr, u.gc)).2.1.2.2 = st1 := by rw [e0]
      have j5 : (tpK u.gl i (nI W0, u.F.2.2, u.ga, u.gr, u.gc)).2.2 = u.gc i 3 + nI P := by rw [e0]
      have e6 : nI W0 - nI P = nI (W0 - P) := pk_sub (show P ≤ W0 by omega)
      rw [e7, j1, j2, j3, j4, j5, hzz, e6]
    -- the reference
    have hR : ∃ p' : PayS, payStep (v.2.2.2 43) (v.2.2.2 44) (v.2.2.2 27) (v.2.2.2 41) x i (nI W0, v.2.2.2 45, v.2.2.2 38, v.2.2.2 19) = p' ∧ p'.1 = nI (W0 - P) ∧ (∀ k, k < u.mm → p'.2.1 k = nI (up g.2.2.2 i (g.2.2.2 i - P) k)) ∧ p'.2.2.1 z = nI (g.1 z 17 + O) ∧ (∀ k, k ≠ z → p'.2.2.1 k = v.2.2.2 38 k) ∧ (∀ f, f < 6 → p'.2.2.2 f = nI (up (fun f => g.2.2.1 f + oF (g.2.1 z) (g.1 z 17) O f) 0 (g.2.2.1 0 + oF (g.2.1 z) (g.1 z 17) O 0 + (P - O)) f)) := by
      have h45 : ∀ k, k < u.mm → v.2.2.2 45 k = nI (g.2.2.2 k) := fun k hk => by
        rw [← (k6.2.2 k hk).2.2.2]; exact q3 k hk
      have h38 : v.2.2.2 38 z = nI (g.1 z 17) := by rw [← ls17 l1]; exact r1 17 (by decide)
      have h19 : ∀ f, f < 6 → v.2.2.2 19 f = nI (g.2.2.1 f) := fun f hf => by rw [← k4.2.2.2.2.1 f hf]; exact q1 f hf
      by_cases cw : W0 = 0
      · have hP0 : P = 0 := by omega
        have hO0 : O = 0 := by omega
        refine ⟨(nI W0, v.2.2.2 45, v.2.2.2 38, v.2.2.2 19), ?_, ?_, fun k hk => ?_, ?_, fun _ _ => rfl, fun f hf => ?_⟩
        · unfold payStep
          rw [if_pos (show nI W0 ≤ 0 by rw [cw]; exact Int32.le_refl _)]
        · rw [hP0]; rfl
        · rw [hP0]
          show v.2.2.2 45 k = nI (up g.2.2.2 i (g.2.2.2 i) k)
          rw [up_same]; exact h45 k hk
        · rw [hO0]; exact h38
        · rw [hP0, hO0]
          show v.2.2.2 19 f = _
          rw [h19 f hf]
          congr 1
          by_cases cf : f = 0
          · subst cf
            rw [up_eq, oF_0]
            rfl
          · rw [up_ne _ _ cf, oF_0]; rfl
      · have hpy := pay_nat (am := v.2.2.2 27) (p := (nI W0, v.2.2.2 45, v.2.2.2 38, v.2.2.2 19)) (i := i) (z := z) (W := W0) (C := g.2.2.2 i) (A := g.1 z 2) (cb := g.1 z 17) rfl (h45 i hi) (by rw [← ls2 l1]; exact r1 2 (by decide)) h38 r4 r5 hW (by omega)
        rw [← hP] at hpy
        rw [← hO] at hpy
        have hfb := fb_all (tk := g.2.1 z) (pn := g.2.2.1) (cb := g.1 z 17) (y := O) (am := g.1 z 2) (tks := v.2.2.2 41) (f0 := v.2.2.2 19) (z := z) (fun f hf => by rw [← l7 f hf]; exact r6 f hf) h19 r7 (by omega) r5
        have eD : payDo (v.2.2.2 27) (v.2.2.2 41) z i (nI W0, v.2.2.2 45, v.2.2.2 38, v.2.2.2 19) = (nI W0 - nI P, upd (v.2.2.2 45) i (v.2.2.2 45 i - nI P), upd (v.2.2.2 38) z (nI (g.1 z 17 + O)), upd (fBack (v.2.2.2 41) z (nI (g.1 z 17)) (nI (g.1 z 17 + O)) (v.2.2.2 19)) 0 (fBack (v.2.2.2 41) z (nI (g.1 z 17)) (nI (g.1 z 17 + O)) (v.2.2.2 19) 0 + nI (P - O))) := by
          unfold payDo
          rw [hpy.1, hpy.2]
          show (nI W0 - nI P, upd (v.2.2.2 45) i (v.2.2.2 45 i - nI P), upd (v.2.2.2 38) z (v.2.2.2 38 z + nI O), upd (fBack (v.2.2.2 41) z (v.2.2.2 38 z) (v.2.2.2 38 z + nI O) (v.2.2.2 19)) 0 (fBack (v.2.2.2 41) z (v.2.2.2 38 z) (v.2.2.2 38 z + nI O) (v.2.2.2 19) 0 + (nI P - nI O))) = _
          rw [h38, nI_add, pk_sub (show O ≤ P by omega)]
        refine ⟨payDo (v.2.2.2 27) (v.2.2.2 41) z i (nI W0, v.2.2.2 45, v.2.2.2 38, v.2.2.2 19), ?_, ?_, fun k hk => ?_, ?_, fun k hk => ?_, fun f hf => ?_⟩
        · unfold payStep
          rw [if_neg (show ¬ nI W0 ≤ 0 from fun z9 => cw (Nat.le_zero.mp ((nI_leI (b := 0) (by omega) (by decide)).mp z9))), if_pos c, hzc]
        · rw [eD]
          exact pk_sub (by omega)
        · rw [eD]
          show upd (v.2.2.2 45) i (v.2.2.2 45 i - nI P) k = _
          by_cases ck : k = i
          · subst ck
            rw [upd_eq, up_eq, h45 k hk, pk_sub (by omega)]
          · rw [upd_ne _ _ ck, up_ne _ _ ck]
            exact h45 k hk
        · rw [eD]
          show upd (v.2.2.2 38) z (nI (g.1 z 17 + O)) z = _
          rw [upd_eq]
        · rw [eD]
          show upd (v.2.2.2 38) z (nI (g.1 z 17 + O)) k = _
          rw [upd_ne _ _ hk]
        · rw [eD]
          show upd (fBack (v.2.2.2 41) z (nI (g.1 z 17)) (nI (g.1 z 17 + O)) (v.2.2.2 19)) 0 (fBack (v.2.2.2 41) z (nI (g.1 z 17)) (nI (g.1 z 17 + O)) (v.2.2.2 19) 0 + nI (P - O)) f = _
          by_cases cf : f = 0
          · subst cf
            rw [upd_eq, up_eq, hfb 0 (by decide), nI_add]
          · rw [upd_ne _ _ cf, up_ne _ _ cf, hfb f hf]
    obtain ⟨p', e2, e3, e4, e5, e6, e7⟩ := hR
    rw [e1, e2]
    have hWP : W0 - P = W0 - g.2.2.2 i := by omega
    refine ⟨(up g.1 z (up (g.1 z) 17 (g.1 z 17 + O)), g.2.1, up (fun f => g.2.2.1 f + oF (g.2.1 z) (g.1 z 17) O f) 0 (g.2.2.1 0 + oF (g.2.1 z) (g.1 z 17) O 0 + (P - O)), up g.2.2.2 i (g.2.2.2 i - P)), ?_, ?_, by rw [hWP], by rw [e3, hWP], fun k hk => up_ne _ _ hk, fun j => ?_⟩
    · refine rel_paid (A' := up (up (up v.2.2.2 45 p'.2.1) 38 p'.2.2.1) 19 p'.2.2.2) h0 hz ⟨rfl, rfl, rfl, rfl, rfl, rfl, rfl, rfl, rfl, rfl, rfl, rfl, rfl⟩ ?_ ?_ rfl rfl rfl rfl l10 ?_ ?_ ?_ rfl rfl r2 r3 ?_ (fun z9 => absurd z9 hst) ?_ k6.2.1 ?_
      · obtain ⟨a1, a2, a3, a4, a5, a6, a7, a8, a9, a10, a11, a12, a13⟩ := l1
        exact ⟨a1, a2, a3, a4, a5, a6, a7, a8, a9, a10, a11, a12, e5.symm⟩
      · intro k hk hne
        obtain ⟨a1, a2, a3, a4, a5, a6, a7, a8, a9, a10, a11, a12, a13⟩ := (k5.2.2.2 k hk).1
        exact ⟨a1, a2, a3, a4, a5, a6, a7, a8, a9, a10, a11, a12, a13.trans (e6 k hne).symm⟩
      · intro f hf
        refine ⟨?_, e7 f hf⟩
        by_cases cf : f = 0
        · subst cf
          rw [upd_eq, up_eq, (hB 0 (by decide)).1, nI_add]
        · rw [upd_ne _ _ cf, up_ne _ _ cf, (hB f hf).1]
      · intro f hf
        exact (hB f hf).2
      · intro j hj
        have := r1 j hj
        rcases (show j = 2 ∨ j = 11 ∨ j = 12 ∨ j = 13 ∨ j = 17 by simpa using hj) with e | e | e | e | e
        all_goals subst e
        · exact this
        · exact this
        · exact this
        · exact this
        · rfl
      · show g.1 z 17 + O ≤ g.1 z 2
        omega
      · intro k hk
        by_cases ck : k = i
        · subst ck
          rw [up_eq]
          refine ⟨rfl, ?_, e4 k hk⟩
          show u.gc k 2 - (u.gc k 3 + nI P) = nI (up g.2.2.2 k (g.2.2.2 k - P) k)
          rw [up_eq, ← pk_sub (show P ≤ g.2.2.2 k by omega), ← hq3]
          apply Int32.toBitVec_inj.mp
          simp only [Int32.toBitVec_add, Int32.toBitVec_sub]
          rw [BitVec.sub_eq_add_neg, BitVec.sub_eq_add_neg, BitVec.sub_eq_add_neg, BitVec.neg_add, BitVec.sub_eq_add_neg]
          ac_rfl
        · rw [up_ne _ _ ck]
          refine ⟨rfl, ?_, e4 k hk⟩
          rw [up_ne _ _ ck]
          exact q3 k hk
      · have s1 := sumN_up (fun f => g.2.2.1 f + oF (g.2.1 z) (g.1 z 17) O f) 0 (g.2.2.1 0 + oF (g.2.1 z) (g.1 z 17) O 0 + (P - O)) 6 (by decide)
        have s2 := sumN_add g.2.2.1 (oF (g.2.1 z) (g.1 z 17) O) 6
        have s3 := oF_sum (tk := g.2.1 z) (cb := g.1 z 17) (y := O) r7 (by omega)
        have s4 := sumN_up g.2.2.2 i (g.2.2.2 i - P) u.mm hi
        rw [if_neg (show ¬ (up (u.ga z) 17 (nI (g.1 z 17 + O))) 16 = 0 from hst), if_neg hst]
        have s5 : (fun f => g.2.2.1 f + oF (g.2.1 z) (g.1 z 17) O f) 0 = g.2.2.1 0 + oF (g.2.1 z) (g.1 z 17) O 0 := rfl
        omega
    · refine RX_P hx (fun k hk => e6 k (fun z9 => ?_))
      have := k5.1
      omega
    · show restN (up g.1 z (up (g.1 z) 17 (g.1 z 17 + O)) j) = restN (g.1 j)
      by_cases cj : j = z
      · subst cj
        rw [up_eq]; rfl
      · rw [up_ne _ _ cj]
end PAYS
