/-! ===== alike: ask ===== -/
theorem askSur_char (k t : Nat) (tp f : Nat → Int32) : (∀ i, i < t → askSur k t tp f (3 * k + i) = tp i) ∧ ∀ a, (a < 3 * k ∨ 3 * k + t ≤ a) → askSur k t tp f a = f a := by
  unfold askSur
  have h := lp_ind (f := fun i f => upd f (3 * k + i) (tp i)) (fun m s => (∀ i, i < m → s (3 * k + i) = tp i) ∧ ∀ a, (a < 3 * k ∨ 3 * k + t ≤ a) → s a = f a) t 0 f ?_ ?_
  · rw [Nat.zero_add] at h
    exact h
  · exact ⟨fun i hi => by omega, fun _ _ => rfl⟩
  · intro m s _ hm ih
    refine ⟨fun i hi => ?_, fun a ha => ?_⟩
    · show upd s (3 * k + m) (tp m) (3 * k + i) = tp i
      by_cases c : i = m
      · subst c; rw [upd_eq]
      · rw [upd_ne _ _ (by omega)]
        exact ih.1 i (by omega)
    · show upd s (3 * k + m) (tp m) a = f a
      rw [upd_ne _ _ (by omega)]
      exact ih.2 a ha
theorem tCut_0 {t : Nat × (Nat → Int32)} (h : t.1 ≤ 320) : (tCut 0 t).2 = (0, t.2) := by
  unfold tCut
  rw [if_neg (by decide), if_pos (show (0 : Int32) ≤ nI t.1 from nI_pos' (by omega))]
  rfl
theorem away_0 (tk : Nat → Nat) (f : Nat) : awayF tk 0 f = tk f := by
  unfold awayF
  rw [Nat.zero_sub]
  rfl
section ASK
variable {N : Nat} {u : CSt} {v : MSt} {g : GH}
/-- REFUSED: the tape alone is emptied -/
theorem Rel.cut (h : Rel N u v g) (far : Nat → Int32) : Rel N (sT (tCut 0 u.T).2 u) (up v.1 2 0, up v.2.1 0 0, v.2.2.1, up v.2.2.2 47 far) g := by
  obtain ⟨⟨t1, t2, t3⟩, hr⟩ := h
  rw [tCut_0 t2]
  exact ⟨⟨rfl, Nat.zero_le _, t3⟩, hr⟩
theorem rel_lent (h : Rel N u v g) (hx : RX v) (hN : N ≤ 512) (x y : Int32) (far : Nat → Int32) (hin : isIn x u.np = true) (hy1 : ¬ y < 1) (hy2 : ¬ u.V 0 < y) (hn : u.n < 100) (ht : nI u.T.1 = u.V 2) (hoth : cOthers u.np u.T.2 u.T.1 x = true) (hhas : y ≤ fHas x v) {A' : Nat → Nat → Int32}
    (hA : A' = up (up (up (up (up (up (up (up (up (up (up (up (up v.2.2.2 47 far) 26 (upd (v.2.2.2 26) (v.1 42) x)) 27 (upd (v.2.2.2 27) (v.1 42) y)) 28 (upd (v.2.2.2 28) (v.1 42) (nI (v.1 23)))) 29 (upd (v.2.2.2 29) (v.1 42) (v.2.2.2 3 1))) 30 (upd (v.2.2.2 30) (v.1 42) (v.2.2.2 3 4))) 31 (upd (v.2.2.2 31) (v.1 42) (v.2.2.2 3 5))) 39 (upd (v.2.2.2 39) (v.1 42) (nI (v.1 2)))) 40 (askSur (v.1 42) (v.1 2) (v.2.2.2 1) (v.2.2.2 40))) 41 (askP x y v).2.1) 19 (askP x y v).2.2) 41 (upd (askP x y v).2.1 (6 * v.1 42) (askP x y v).1)) 19 (upd (askP x y v).2.2 0 ((askP x y v).2.2 0 - (askP x y v).1))) :
    ∃ g', Rel N (sT (tCut 0 u.T).2 (xLent x y (xLE x y u) u)) (up (up v.1 2 0) 42 (v.1 42 + 1), up v.2.1 0 0, v.2.2.1, A') g' ∧ RX (up (up v.1 2 0) 42 (v.1 42 + 1), up v.2.1 0 0, v.2.2.1, A') := by
  have c0 : ¬ y < 0 := fun z => hy1 (Int32.lt_of_lt_of_le z (by decide))
  have ey := nI_self c0
  obtain ⟨hV0a, hV0b⟩ := h.2.1.2.1 0 (by decide)
  have hY : y.toNatClampNeg ≤ 9999 := clamp_le (n := 9999) c0 (Int32.le_trans (Int32.not_lt.mp hy2) hV0b) (by decide)
  have ht3 : u.T.1 ≤ 3 := by
    have h2 := h.2.1.2.1 2 (by decide)
    have h3 : nI u.T.1 ≤ nI 3 := by rw [ht]; exact h2.2
    have := h.1.2.1
    exact (nI_leI (by omega) (by decide)).mp h3
  obtain ⟨pn1, tk1, d1, d2, d3, d4⟩ := lend_all h hx hN x y hn ey hY hhas
  have hp40 := h.2.2.1.2.1
  have hO := (others_iff (f := u.T.2) (n := u.T.1) hp40 hin).mp hoth
  generalize hYY : y.toNatClampNeg = Y at *
  obtain ⟨⟨t1, t2, t3⟩, k2, k3, k4, k5, k6, ⟨q1, q2, q3, q4⟩⟩ := h
  have hn42 : u.n = v.1 42 := k5.1
  have hL := k5.2.2.2
  rw [← hn42, ← t1] at hA
  rw [← hn42] at d4
  have d3' := d3
  rw [← hn42] at d3'
  have hz := hx.1 u.n (by omega)
  obtain ⟨⟨z32, z33, z34, z35, z36, z37, z38⟩, z41⟩ := hz
  have hS := askSur_char u.n u.T.1 (v.2.2.2 1) (v.2.2.2 40)
  have A26 : A' 26 = upd (v.2.2.2 26) u.n x := by rw [hA]; rfl
  have A27 : A' 27 = upd (v.2.2.2 27) u.n y := by rw [hA]; rfl
  have A28 : A' 28 = upd (v.2.2.2 28) u.n (nI (v.1 23)) := by rw [hA]; rfl
  have A29 : A' 29 = upd (v.2.2.2 29) u.n (v.2.2.2 3 1) := by rw [hA]; rfl
  have A30 : A' 30 = upd (v.2.2.2 30) u.n (v.2.2.2 3 4) := by rw [hA]; rfl
  have A31 : A' 31 = upd (v.2.2.2 31) u.n (v.2.2.2 3 5) := by rw [hA]; rfl
  have A32 : A' 32 = v.2.2.2 32 := by rw [hA]; rfl
  have A33 : A' 33 = v.2.2.2 33 := by rw [hA]; rfl
  have A34 : A' 34 = v.2.2.2 34 := by rw [hA]; rfl
  have A35 : A' 35 = v.2.2.2 35 := by rw [hA]; rfl
  have A36 : A' 36 = v.2.2.2 36 := by rw [hA]; rfl
  have A37 : A' 37 = v.2.2.2 37 := by rw [hA]; rfl
  have A38 : A' 38 = v.2.2.2 38 := by rw [hA]; rfl
  have A39 : A' 39 = upd (v.2.2.2 39) u.n (nI u.T.1) := by rw [hA]; rfl
  have A40 : A' 40 = askSur u.n u.T.1 (v.2.2.2 1) (v.2.2.2 40) := by rw [hA]; rfl
  have A41 : A' 41 = upd (askP x y v).2.1 (6 * u.n) (askP x y v).1 := by rw [hA]; rfl
  have A19 : A' 19 = upd (askP x y v).2.2 0 ((askP x y v).2.2 0 - (askP x y v).1) := by rw [hA]; rfl
  have A1 : A' 1 = v.2.2.2 1 := by rw [hA]; rfl
  have A3 : A' 3 = v.2.2.2 3 := by rw [hA]; rfl
  have A4 : A' 4 = v.2.2.2 4 := by rw [hA]; rfl
  have A5 : A' 5 = v.2.2.2 5 := by rw [hA]; rfl
  have A6 : A' 6 = v.2.2.2 6 := by rw [hA]; rfl
  have A17 : A' 17 = v.2.2.2 17 := by rw [hA]; rfl
  have A18 : A' 18 = v.2.2.2 18 := by rw [hA]; rfl
  have A20 : A' 20 = v.2.2.2 20 := by rw [hA]; rfl
  have A43 : A' 43 = v.2.2.2 43 := by rw [hA]; rfl
  have A44 : A' 44 = v.2.2.2 44 := by rw [hA]; rfl
  have A45 : A' 45 = v.2.2.2 45 := by rw [hA]; rfl
  clear hA
  refine ⟨(up g.1 u.n (up (fun _ => 0) 2 Y), up g.2.1 u.n tk1, pn1, g.2.2.2), ⟨?_, ?_, ?_, ?_, ?_, ?_, ?_, ?_, ?_, ?_⟩, ?_⟩
  · rw [tCut_0 t2]
    exact ⟨rfl, Nat.zero_le _, t3.trans A1.symm⟩
  · obtain ⟨b1, b2, b3, b4, b5, b6⟩ := k2
    exact ⟨fun k hk => by show u.V k = A' 3 k; rw [A3]; exact b1 k hk, b2, b3, A4.trans b4, A5.trans b5, A6.trans b6⟩
  · exact ⟨k3.1, k3.2.1, k3.2.2.1, k3.2.2.2.1, k3.2.2.2.2.trans A17.symm⟩
  · obtain ⟨b1, b2, b3, b4, b5, b6, b7, b8⟩ := k4
    refine ⟨b1, b2, b3, b4, fun f hf => ?_, fun f hf => ?_, b7, fun w f hw hf => ?_⟩
    · show (xLE x y u).2.1 f = A' 19 f
      rw [A19, (d3 f hf).1, (d3 f hf).2.1]
    · show u.F.2.2 2 f = A' 18 f
      rw [A18]; exact b6 f hf
    · show A' 20 (6 * w + f) = _
      rw [A20]; exact b8 w f hw hf
  · refine ⟨?_, ?_, k5.2.2.1, fun i hi => ?_⟩
    · show u.n + 1 = v.1 42 + 1
      rw [hn42]
    · show u.n + 1 ≤ 100
      omega
    · replace hi : i < u.n + 1 := hi
      have hgr1 : (neR u.gr u.n (rowOf u.T.1 u.T.2) (xLE x y u).2.2.1 (xLE x y u).2.2.2) 1 = up (u.gr 1) u.n (rowOf u.T.1 u.T.2) := rfl
      have hgr2 : (neR u.gr u.n (rowOf u.T.1 u.T.2) (xLE x y u).2.2.1 (xLE x y u).2.2.2) 2 = up (u.gr 2) u.n (xLE x y u).2.2.1 := rfl
      show RLx (up u.ga u.n (xLF x y u) i) A' i ∧ up u.ga u.n (xLF x y u) i 0 = nI i ∧ A' 39 i = nI (up u.gn u.n u.T.1 i) ∧ up u.gn u.n u.T.1 i ≤ 3 ∧ (∀ k, k < up u.gn u.n u.T.1 i → up (u.gr 1) u.n (rowOf u.T.1 u.T.2) i k = A' 40 (3 * i + k) ∧ isIn (up (u.gr 1) u.n (rowOf u.T.1 u.T.2) i k) u.np = true) ∧ (∀ k k', k < k' → k' < up u.gn u.n u.T.1 i → ¬ up (u.gr 1) u.n (rowOf u.T.1 u.T.2) i k = up (u.gr 1) u.n (rowOf u.T.1 u.T.2) i k') ∧ (∀ f, f < 6 → up (u.gr 2) u.n (xLE x y u).2.2.1 i f = A' 41 (6 * i + f)) ∧ up u.gt u.n (cBits u.T.2 u.T.1) i = cBits (up (u.gr 1) u.n (rowOf u.T.1 u.T.2) i) (up u.gn u.n u.T.1 i) ∧ isIn (up u.ga u.n (xLF x y u) i 1) u.np = true ∧ (up u.ga u.n (xLF x y u) i 16 = 0 ∨ up u.ga u.n (xLF x y u) i 16 = 1 ∨ up u.ga u.n (xLF x y u) i 16 = 2) ∧ 1 ≤ up u.ga u.n (xLF x y u) i 6
      by_cases c : i = u.n
      · subst c
        rw [up_eq, up_eq, up_eq, up_eq, up_eq, A39, upd_eq, A40, A41]
        have hrow : ∀ k, k < u.T.1 → rowOf u.T.1 u.T.2 k = u.T.2 k := fun k hk => if_pos hk
        refine ⟨⟨?_, ?_, ?_, ?_, ?_, ?_, ?_, ?_, ?_, ?_, ?_, ?_, ?_⟩, rfl, rfl, ht3, fun k hk => ⟨?_, ?_⟩, fun k k' hkk hk' => ?_, fun f hf => ?_, ?_, hin, Or.inl rfl, ?_⟩
        · rw [A26, upd_eq]; rfl
        · rw [A27, upd_eq]; rfl
        · rw [A28, upd_eq, ← k3.2.2.1]; rfl
        · rw [A29, upd_eq, ← k2.1 1 (by decide)]; rfl
        · rw [A30, upd_eq, ← k2.1 4 (by decide)]; rfl
        · rw [A31, upd_eq, ← k2.1 5 (by decide)]; rfl
        · rw [A32, z32]; rfl
        · rw [A33, z33]; rfl
        · rw [A34, z34]; rfl
        · rw [A35, z35]; rfl
        · rw [A36, z36]; rfl
        · rw [A37, z37]; rfl
        · rw [A38, z38]; rfl
        · rw [hrow k hk, hS.1 k hk, t3]
        · rw [hrow k hk]
          exact (hO k hk).1
        · rw [hrow k (by omega), hrow k' hk']
          exact (hO k' hk').2.2 k hkk
        · rw [(d3' f hf).2.2.1, (d3' f hf).2.2.2.2]
        · exact lp_congr _ _ _ (fun j s _ hj => by rw [hrow j (by omega)])
        · show 1 ≤ u.V 1
          exact (k2.2.1 1 (by decide)).1
      · rw [up_ne _ _ c, up_ne _ _ c, up_ne _ _ c, up_ne _ _ c, up_ne _ _ c, A39, upd_ne _ _ c, A40, A41]
        obtain ⟨l1, l2, l3, l4, l5, l6, l7, l8, l9, l10, l11⟩ := hL i (by omega)
        obtain ⟨a1, a2, a3, a4, a5, a6, a7, a8, a9, a10, a11, a12, a13⟩ := l1
        refine ⟨⟨?_, ?_, ?_, ?_, ?_, ?_, ?_, ?_, ?_, ?_, ?_, ?_, ?_⟩, l2, l3, l4, fun k hk => ⟨?_, (l5 k hk).2⟩, l6, fun f hf => ?_, l8, l9, l10, l11⟩
        · rw [A26, upd_ne _ _ c]; exact a1
        · rw [A27, upd_ne _ _ c]; exact a2
        · rw [A28, upd_ne _ _ c]; exact a3
        · rw [A29, upd_ne _ _ c]; exact a4
        · rw [A30, upd_ne _ _ c]; exact a5
        · rw [A31, upd_ne _ _ c]; exact a6
        · rw [A32]; exact a7
        · rw [A33]; exact a8
        · rw [A34]; exact a9
        · rw [A35]; exact a10
        · rw [A36]; exact a11
        · rw [A37]; exact a12
        · rw [A38]; exact a13
        · rw [hS.2 _ (by omega)]
          exact (l5 k hk).1
        · rw [d4 _ (by omega)]
          exact l7 f hf
  · refine ⟨k6.1, ?_, fun i hi => ?_⟩
    · show u.mm ≤ 3 * ncl (A' 37) (u.n + 1)
      rw [A37]
      have e1 : ncl (v.2.2.2 37) (u.n + 1) = ncl (v.2.2.2 37) u.n + if v.2.2.2 37 u.n = 2 then 1 else 0 := rfl
      have e2 := k6.2.1
      omega
    · obtain ⟨e1, e2, e3, e4⟩ := k6.2.2 i hi
      refine ⟨?_, ?_, ?_, ?_⟩
      · show u.gc i 0 = A' 43 i
        rw [A43]; exact e1
      · show A' 44 i = _
        rw [A44]; exact e2
      · show u.gl i < u.n + 1
        omega
      · show u.gc i 2 - u.gc i 3 = A' 45 i
        rw [A45]; exact e4
  · exact fun f hf => (d3 f hf).1
  · intro i hi
    replace hi : i < u.n + 1 := hi
    show ((∀ j, j ∈ [2, 11, 12, 13, 17] → up u.ga u.n (xLF x y u) i j = nI (up g.1 u.n (up (fun _ => 0) 2 Y) i j)) ∧ up g.1 u.n (up (fun _ => 0) 2 Y) i 11 ≤ up g.1 u.n (up (fun _ => 0) 2 Y) i 2 ∧ up g.1 u.n (up (fun _ => 0) 2 Y) i 13 ≤ up g.1 u.n (up (fun _ => 0) 2 Y) i 12 ∧ up g.1 u.n (up (fun _ => 0) 2 Y) i 17 ≤ up g.1 u.n (up (fun _ => 0) 2 Y) i 2 ∧ up g.1 u.n (up (fun _ => 0) 2 Y) i 2 ≤ 9999 ∧ (∀ f, f < 6 → up (u.gr 2) u.n (xLE x y u).2.2.1 i f = nI (up g.2.1 u.n tk1 i f)) ∧ sumN (up g.2.1 u.n tk1 i) 6 = up g.1 u.n (up (fun _ => 0) 2 Y) i 2 ∧ (∀ f, f < 6 → up (u.gr 3) u.n (xLE x y u).2.2.2 i f = nI (awayF (up g.2.1 u.n tk1 i) (up g.1 u.n (up (fun _ => 0) 2 Y) i 17) f)) ∧ (up u.ga u.n (xLF x y u) i 16 = 0 → up g.1 u.n (up (fun _ => 0) 2 Y) i 17 = up g.1 u.n (up (fun _ => 0) 2 Y) i 11) ∧ ∃ q : Nat, q ≤ 99 ∧ up u.ga u.n (xLF x y u) i 7 = nI q) ∧ up g.1 u.n (up (fun _ => 0) 2 Y) i 12 ≤ 99 * N
    by_cases c : i = u.n
    · subst c
      rw [up_eq, up_eq, up_eq, up_eq, up_eq, up_eq]
      refine ⟨⟨fun j hj => ?_, Nat.zero_le _, Nat.le_refl _, Nat.zero_le _, hY, fun f hf => (d3 f hf).2.2.1, d1, fun f hf => ?_, fun _ => rfl, ?_⟩, Nat.zero_le _⟩
      · rcases (show j = 2 ∨ j = 11 ∨ j = 12 ∨ j = 13 ∨ j = 17 by simpa using hj) with e | e | e | e | e
        all_goals subst e
        · exact ey
        · rfl
        · rfl
        · rfl
        · rfl
      · show (xLE x y u).2.2.2 f = nI (awayF tk1 0 f)
        rw [away_0]
        exact (d3 f hf).2.2.2.1
      · obtain ⟨v4a, v4b⟩ := k2.2.1 4 (by decide)
        have v40 : ¬ u.V 4 < 0 := Int32.not_lt.mpr v4a
        exact ⟨(u.V 4).toNatClampNeg, clamp_le (n := 99) v40 v4b (by decide), nI_self v40⟩
    · rw [up_ne _ _ c, up_ne _ _ c, up_ne _ _ c, up_ne _ _ c, up_ne _ _ c]
      exact q2 i (by omega)
  · exact q3
  · show sumN pn1 6 + (sumN (fun i => if up u.ga u.n (xLF x y u) i 16 = 0 then restN (up g.1 u.n (up (fun _ => 0) 2 Y) i) else 0) u.n + (if up u.ga u.n (xLF x y u) u.n 16 = 0 then restN (up g.1 u.n (up (fun _ => 0) 2 Y) u.n) else 0) + sumN g.2.2.2 u.mm) ≤ 100000 * N
    have e1 : sumN (fun i => if up u.ga u.n (xLF x y u) i 16 = 0 then restN (up g.1 u.n (up (fun _ => 0) 2 Y) i) else 0) u.n = sumN (fun i => if u.ga i 16 = 0 then restN (g.1 i) else 0) u.n := sumN_eq _ (fun p hp => by
      rw [up_ne _ _ (by omega), up_ne _ _ (by omega)])
    have e2 : (if up u.ga u.n (xLF x y u) u.n 16 = 0 then restN (up g.1 u.n (up (fun _ => 0) 2 Y) u.n) else 0) ≤ Y := by
      rw [up_eq, up_eq]
      split
      · show (Y - 0) + (0 - 0) ≤ Y
        omega
      · omega
    have e3 : sumN g.2.2.1 6 + (sumN (fun i => if u.ga i 16 = 0 then restN (g.1 i) else 0) u.n + sumN g.2.2.2 u.mm) ≤ 100000 * N := q4
    omega
  · refine ⟨fun i hi => ?_, fun i hi => ?_⟩
    · replace hi : v.1 42 + 1 ≤ i := hi
      obtain ⟨⟨b1, b2, b3, b4, b5, b6, b7⟩, b8⟩ := hx.1 i (by omega)
      show (A' 32 i = 0 ∧ A' 33 i = 0 ∧ A' 34 i = 0 ∧ A' 35 i = 0 ∧ A' 36 i = 0 ∧ A' 37 i = 0 ∧ A' 38 i = 0) ∧ ∀ f, f < 6 → A' 41 (6 * i + f) = 0
      rw [A32, A33, A34, A35, A36, A37, A38, A41]
      exact ⟨⟨b1, b2, b3, b4, b5, b6, b7⟩, fun f hf => by rw [d4 _ (by omega)]; exact b8 f hf⟩
    · show ¬ A' 37 (A' 44 i).toNatClampNeg = 0
      rw [A37, A44]
      exact hx.2 i hi
theorem rel_ask (h : Rel N u v g) (hx : RX v) (hN : N ≤ 512) (x y : Int32) : ∃ g', (xAsk x y u).1 = (mAsk x y u.gn v).1 ∧ Rel N (xAsk x y u).2 (mAsk x y u.gn v).2 g' ∧ RX (mAsk x y u.gn v).2 := by
  have hw := rel_why h hN x y
  have hn : u.n = v.1 42 := h.2.2.2.2.1.1
  obtain ⟨-, hok⟩ := mWhy_all x y (v.1 2) u.gn (mAsk0 v)
  unfold xAsk mAsk
  rw [hw]
  by_cases c : (mWhy x y (v.1 2) u.gn (mAsk0 v)).1 ≤ 0
  · rw [if_pos c, if_pos c]
    obtain ⟨-, w1, w2, w3, w4, w5, w6, w7, w8⟩ := hok c
    have w1' : isIn x u.np = true := by rw [h.2.2.1.1]; exact w1
    have w6' : nI u.T.1 = u.V 2 := by rw [h.1.1, h.2.1.1 2 (by decide)]; exact w6
    have w7' : cOthers u.np u.T.2 u.T.1 x = true := by
      rw [others_iff h.2.2.1.2.1 w1']
      refine bad6_iff.mp ?_
      rw [h.1.2.2, h.1.1, h.2.2.1.1]
      exact w7
    have hn100 := h.2.2.2.2.1.2.1
    obtain ⟨g', a1, a2⟩ := rel_lent h hx hN x y (whyFar x y (v.1 2) u.gn (mAsk0 v)) w1' w2 (by rw [h.2.1.1 0 (by decide)]; exact w3) (by have w4' : ¬ v.1 42 = 100 := w4; omega) w6' w7' w8 rfl
    exact ⟨g', by rw [hn], a1, a2⟩
  · rw [if_neg c, if_neg c]
    exact ⟨g, rfl, h.cut _, hx⟩
end ASK
