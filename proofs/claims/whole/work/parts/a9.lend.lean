/-! ===== a LOAN is made: what the FUNDS give, alike ===== -/
abbrev AskS : Type := Int32 × (Nat → Int32) × (Nat → Int32)
def LI (n F Y ab : Nat) (pn c : Nat → Nat) (w41 : Nat → Int32) (i : Nat) (t : LES) (p : AskS) (L : Nat) (pn' tk' : Nat → Nat) : Prop :=
  (t.1 = nI L ∧ p.1 = nI L) ∧ (∀ f, f < 6 → t.2.1 f = nI (pn' f) ∧ p.2.2 f = nI (pn' f) ∧ t.2.2.1 f = nI (tk' f) ∧ t.2.2.2 f = nI (tk' f) ∧ p.2.1 (6 * n + f) = nI (tk' f)) ∧ (∀ a, (a < 6 * n ∨ 6 * n + 6 ≤ a) → p.2.1 a = w41 a) ∧ pn' 0 = pn 0 ∧ tk' 0 = 0 ∧ (∀ f, i ≤ f → pn' f = pn f ∧ tk' f = 0) ∧ L + sumN tk' 6 = Y ∧ sumN pn' 6 + sumN tk' 6 = sumN pn 6 ∧ L + sumN c i ≤ ab + sumN c F
theorem lend_step {n F Y ab : Nat} {pn : Nat → Nat} {w41 : Nat → Int32} {tg : Int32} {ft ft' : Nat → Int32} (hF : F ≤ 6) (hft : ∀ f, f < 6 → ft f = ft' f) (hpn : ∀ f, f < 6 → pn f < 2 ^ 30) (hY : Y < 2 ^ 30) {i : Nat} (h1 : 1 ≤ i) (hi : i < F) {t : LES} {p : AskS} {L : Nat} {pn' tk' : Nat → Nat} (h : LI n F Y ab pn (cN tg ft pn) w41 i t p L pn' tk') :
    ∃ L1 pn1 tk1, LI n F Y ab pn (cN tg ft pn) w41 (i + 1) (leStep tg ft i t) (askStep tg ft' n i p) L1 pn1 tk1 := by
  obtain ⟨⟨a1, a2⟩, a3, a4, a5, a6, a7, a8, a9, a10⟩ := h
  have hc : sumN (cN tg ft pn) (i + 1) = sumN (cN tg ft pn) i + cN tg ft pn i := rfl
  have hci : cN tg ft pn i = if cIsFor tg ft i = false then 0 else pn i := by
    unfold cN
    rw [if_neg (by omega)]
  have hmono := sumN_mono (cN tg ft pn) (show i + 1 ≤ F by omega)
  unfold leStep askStep
  rw [← hft i (by omega)]
  by_cases c : cIsFor tg ft i = false
  · have c2 : (tg >>> (ft i &&& 31)) &&& 1 = 0 := by
      unfold cIsFor at c
      simpa using c
    rw [if_pos c, if_pos c2]
    rw [if_pos c] at hci
    exact ⟨L, pn', tk', ⟨a1, a2⟩, a3, a4, a5, a6, fun f hf => a7 f (by omega), a8, a9, by omega⟩
  · have c2 : ¬ (tg >>> (ft i &&& 31)) &&& 1 = 0 := by
      intro z9
      apply c
      unfold cIsFor
      rw [z9]
      rfl
    rw [if_neg c, if_neg c2]
    rw [if_neg c] at hci
    obtain ⟨b1, b2, b3, b4, b5⟩ := a3 i (by omega)
    obtain ⟨d1, d2⟩ := a7 i (Nat.le_refl _)
    have hpi := hpn i (by omega)
    have em : cMin t.1 (t.2.1 i) = nI (min L (pn i)) := by rw [a1, b1, d1, cMin_n (by omega) (by omega)]
    have em2 : (if p.2.2 i ≤ p.1 then p.2.2 i else p.1) = nI (min L (pn i)) := by rw [a2, b2, d1, le_min (by omega) (by omega)]
    rw [em, em2]
    have s1 := sumN_up tk' i (min L (pn i)) 6 (by omega)
    have s2 := sumN_up pn' i (pn i - min L (pn i)) 6 (by omega)
    refine ⟨L - min L (pn i), up pn' i (pn i - min L (pn i)), up tk' i (min L (pn i)), ⟨?_, ?_⟩, fun f hf => ?_, fun a ha => ?_, ?_, ?_, fun f hf => ?_, by omega, by omega, by omega⟩
    · show t.1 - nI (min L (pn i)) = _
      rw [a1, pk_sub (by omega)]
    · show p.1 - nI (min L (pn i)) = _
      rw [a2, pk_sub (by omega)]
    · obtain ⟨e1, e2, e3, e4, e5⟩ := a3 f hf
      show upd t.2.1 i (t.2.1 i - nI (min L (pn i))) f = _ ∧ upd p.2.2 i (p.2.2 i - nI (min L (pn i))) f = _ ∧ upd t.2.2.1 i (nI (min L (pn i))) f = _ ∧ upd t.2.2.2 i (nI (min L (pn i))) f = _ ∧ upd p.2.1 (6 * n + i) (nI (min L (pn i))) (6 * n + f) = _
      by_cases cf : f = i
      · subst cf
        rw [upd_eq, upd_eq, upd_eq, upd_eq, upd_eq, up_eq, up_eq, b1, b2, d1, pk_sub (by omega)]
        exact ⟨rfl, rfl, rfl, rfl, rfl⟩
      · rw [upd_ne _ _ cf, upd_ne _ _ cf, upd_ne _ _ cf, upd_ne _ _ cf, upd_ne _ _ (by omega), up_ne _ _ cf, up_ne _ _ cf]
        exact ⟨e1, e2, e3, e4, e5⟩
    · show upd p.2.1 (6 * n + i) (nI (min L (pn i))) a = w41 a
      rw [upd_ne _ _ (by omega)]
      exact a4 a ha
    · rw [up_ne _ _ (by omega)]; exact a5
    · rw [up_ne _ _ (by omega)]; exact a6
    · rw [up_ne _ _ (by omega), up_ne _ _ (by omega)]
      exact a7 f (by omega)
theorem lend_loop {n F Y ab : Nat} {pn : Nat → Nat} {w41 : Nat → Int32} {tg : Int32} {ft ft' : Nat → Int32} (hF : F ≤ 6) (hft : ∀ f, f < 6 → ft f = ft' f) (hpn : ∀ f, f < 6 → pn f < 2 ^ 30) (hY : Y < 2 ^ 30) : ∀ (r i : Nat) (t : LES) (p : AskS) (L : Nat) (pn' tk' : Nat → Nat), 1 ≤ i → i + r = F → LI n F Y ab pn (cN tg ft pn) w41 i t p L pn' tk' → ∃ L1 pn1 tk1, LI n F Y ab pn (cN tg ft pn) w41 F (lp (leStep tg ft) r i t) (lp (askStep tg ft' n) r i p) L1 pn1 tk1
  | 0, i, t, p, L, pn', tk', _, hi, h => by
    have : i = F := by omega
    subst this
    exact ⟨L, pn', tk', h⟩
  | r + 1, i, t, p, L, pn', tk', h1, hi, h => by
    obtain ⟨L1, pn1, tk1, h2⟩ := lend_step hF hft hpn hY h1 (by omega) h
    exact lend_loop hF hft hpn hY r (i + 1) _ _ L1 pn1 tk1 (by omega) (by omega) h2
section LEND
variable {N : Nat} {u : CSt} {v : MSt} {g : GH}
/-- all that a LOAN of Y takes, as naturals -/
theorem lend_all (h : Rel N u v g) (hx : RX v) (hN : N ≤ 512) (x y : Int32) {Y : Nat} (hn : u.n < 100) (ey : y = nI Y) (hY : Y ≤ 9999) (hhas : y ≤ fHas x v) :
    ∃ (pn1 tk1 : Nat → Nat), sumN tk1 6 = Y ∧ sumN pn1 6 + Y = sumN g.2.2.1 6 ∧ (∀ f, f < 6 → (xLE x y u).2.1 f = nI (pn1 f) ∧ upd (askP x y v).2.2 0 ((askP x y v).2.2 0 - (askP x y v).1) f = nI (pn1 f) ∧ (xLE x y u).2.2.1 f = nI (tk1 f) ∧ (xLE x y u).2.2.2 f = nI (tk1 f) ∧ upd (askP x y v).2.1 (6 * v.1 42) (askP x y v).1 (6 * u.n + f) = nI (tk1 f)) ∧ (∀ a, (a < 6 * u.n ∨ 6 * u.n + 6 ≤ a) → upd (askP x y v).2.1 (6 * v.1 42) (askP x y v).1 a = v.2.2.2 41 a) := by
  have h0 := h
  have hpn := fun f (hf : f < 6) => h.pn_le hf
  obtain ⟨K, hK, eK⟩ := h.keep
  obtain ⟨hc1, hc2⟩ := h.can hN x hK eK
  rw [h.has hN x] at hc1
  have hYH : Y ≤ g.2.2.1 0 - K + sumN (cN (u.ft x.toNatClampNeg) (u.F.2.2 2) g.2.2.1) u.F.1 := by
    rw [ey, hc1] at hhas
    exact (nI_leI (by omega) (by omega)).mp hhas
  obtain ⟨k1, k2, k3, k4, k5, k6, ⟨q1, q2, q3, q4⟩⟩ := h
  obtain ⟨b1, b2, b3, b4, b5, b6, -⟩ := k4
  have hn42 : u.n = v.1 42 := k5.1
  have h41 : ∀ f, f < 6 → v.2.2.2 41 (6 * u.n + f) = 0 := fun f hf => (hx.1 u.n (by omega)).2 f hf
  have hst : LI u.n u.F.1 Y (g.2.2.1 0 - K) g.2.2.1 (cN (u.ft x.toNatClampNeg) (u.F.2.2 2) g.2.2.1) (v.2.2.2 41) 1 (lF (nI u.n) x y (nI u.wk) u.V 2, u.F.2.2 1, fun _ => 0, fun _ => 0) (y, v.2.2.2 41, v.2.2.2 19) Y g.2.2.1 (fun _ => 0) := by
    refine ⟨⟨ey, ey⟩, fun f hf => ⟨q1 f hf, (b5 f hf).symm.trans (q1 f hf), rfl, rfl, h41 f hf⟩, fun _ _ => rfl, rfl, rfl, fun _ _ => ⟨rfl, rfl⟩, rfl, rfl, ?_⟩
    have e0 : sumN (cN (u.ft x.toNatClampNeg) (u.F.2.2 2) g.2.2.1) 1 = 0 := rfl
    omega
  obtain ⟨L, pn1, tk1, ⟨c1, c2⟩, c3, c4, c5, c6, c7, c8, c9, c10⟩ := lend_loop (n := u.n) (F := u.F.1) (Y := Y) (ab := g.2.2.1 0 - K) (pn := g.2.2.1) (w41 := v.2.2.2 41) (tg := u.ft x.toNatClampNeg) (ft := u.F.2.2 2) (ft' := v.2.2.2 18) b3 (fun f hf => b6 f hf) (fun f hf => by have := hpn f hf; omega) (by omega) (u.F.1 - 1) 1 _ _ Y g.2.2.1 (fun _ => 0) (Nat.le_refl _) (by omega) hst
  have hp0 := hpn 0 (by decide)
  have eP : askP x y v = lp (askStep (u.ft x.toNatClampNeg) (v.2.2.2 18) u.n) (u.F.1 - 1) 1 (y, v.2.2.2 41, v.2.2.2 19) := by
    unfold askP
    rw [k3.2.2.2.2, b1, hn42]
  rw [← eP] at c2 c3 c4
  generalize askP x y v = p at *
  have eL : xLE x y u = leEnd (u.V 6) (lp (leStep (u.ft x.toNatClampNeg) (u.F.2.2 2)) (u.F.1 - 1) 1 (lF (nI u.n) x y (nI u.wk) u.V 2, u.F.2.2 1, fun _ => 0, fun _ => 0)) := rfl
  rw [eL]
  generalize lp (leStep (u.ft x.toNatClampNeg) (u.F.2.2 2)) (u.F.1 - 1) 1 (lF (nI u.n) x y (nI u.wk) u.V 2, u.F.2.2 1, fun _ => 0, fun _ => 0) = t at *
  have em : cMin t.1 (cAbove (t.2.1 0) (u.V 6)) = nI L := by
    rw [c1, (c3 0 (by decide)).1, c5, eK, above_n (by omega) (by omega), cMin_n (by omega) (by omega)]
    congr 1
    omega
  have eE : leEnd (u.V 6) t = (t.1 - nI L, upd t.2.1 0 (t.2.1 0 - nI L), upd t.2.2.1 0 (nI L), upd t.2.2.2 0 (nI L)) := by
    unfold leEnd
    rw [em]
    rfl
  rw [eE, ← hn42, c2]
  have s1 := sumN_up tk1 0 L 6 (by decide)
  have s2 := sumN_up pn1 0 (g.2.2.1 0 - L) 6 (by decide)
  refine ⟨up pn1 0 (g.2.2.1 0 - L), up tk1 0 L, by omega, by omega, fun f hf => ?_, fun a ha => ?_⟩
  · obtain ⟨e1, e2, e3, e4, e5⟩ := c3 f hf
    show upd t.2.1 0 (t.2.1 0 - nI L) f = _ ∧ upd p.2.2 0 (p.2.2 0 - nI L) f = _ ∧ upd t.2.2.1 0 (nI L) f = _ ∧ upd t.2.2.2 0 (nI L) f = _ ∧ upd p.2.1 (6 * u.n) (nI L) (6 * u.n + f) = _
    by_cases cf : f = 0
    · subst cf
      rw [upd_eq, upd_eq, upd_eq, upd_eq, Nat.add_zero, upd_eq, up_eq, up_eq, e1, e2, c5, pk_sub (by omega)]
      exact ⟨rfl, rfl, rfl, rfl, rfl⟩
    · rw [upd_ne _ _ cf, upd_ne _ _ cf, upd_ne _ _ cf, upd_ne _ _ cf, upd_ne _ _ (by omega), up_ne _ _ cf, up_ne _ _ cf]
      exact ⟨e1, e2, e3, e4, e5⟩
  · rw [upd_ne _ _ (by omega)]
    exact c4 a ha
end LEND
