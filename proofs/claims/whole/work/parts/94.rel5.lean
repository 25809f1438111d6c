/-! ===== alike: ring ===== -/
theorem cSur_congr {who who' st st' : Nat → Int32} {gt : Nat → Int64} {n : Nat} (h : ∀ k, k < n → who k = who' k ∧ st k = st' k) (z : Int64) : cSur who st gt n z = cSur who' st' gt n z :=
  lp_congr _ _ _ (fun j t _ h2 => by rw [(h j (by omega)).1, (h j (by omega)).2])
theorem cRing_congr {who who' st st' : Nat → Int32} {gt : Nat → Int64} {n : Nat} (h : ∀ k, k < n → who k = who' k ∧ st k = st' k) (x : Int32) : ∀ (r i : Nat) (z : Int64), cRing who st gt n x r i z = cRing who' st' gt n x r i z
  | 0, _, _ => rfl
  | r + 1, i, z => by
    rw [cRing, cRing, cSur_congr h z, cRing_congr h x r (i + 1)]
theorem seed_char (sur : Nat → Int32) (j n : Nat) (f : Nat → Int32) (p : Nat) : ((∃ i, i < n ∧ (sur (3 * j + i)).toNatClampNeg = p) → fSeed sur j n f p = 1) ∧ ((¬ ∃ i, i < n ∧ (sur (3 * j + i)).toNatClampNeg = p) → fSeed sur j n f p = f p) := by
  unfold fSeed
  have h := lp_ind (f := fun i f => upd f (sur (3 * j + i)).toNatClampNeg 1) (fun m t => ((∃ i, i < m ∧ (sur (3 * j + i)).toNatClampNeg = p) → t p = 1) ∧ ((¬ ∃ i, i < m ∧ (sur (3 * j + i)).toNatClampNeg = p) → t p = f p)) n 0 f ?_ ?_
  · rw [Nat.zero_add] at h
    exact h
  · exact ⟨fun ⟨i, hi, _⟩ => by omega, fun _ => rfl⟩
  · intro m t _ hm ih
    by_cases e : p = (sur (3 * j + m)).toNatClampNeg
    · show (_ → upd t (sur (3 * j + m)).toNatClampNeg 1 p = 1) ∧ (_ → upd t (sur (3 * j + m)).toNatClampNeg 1 p = f p)
      rw [← e, upd_eq]
      exact ⟨fun _ => rfl, fun hno => absurd ⟨m, by omega, e.symm⟩ hno⟩
    · show (_ → upd t (sur (3 * j + m)).toNatClampNeg 1 p = 1) ∧ (_ → upd t (sur (3 * j + m)).toNatClampNeg 1 p = f p)
      rw [upd_ne _ _ e]
      refine ⟨fun ⟨i, hi, h2⟩ => ih.1 ⟨i, ?_, h2⟩, fun hno => ih.2 (fun ⟨i, hi, h2⟩ => hno ⟨i, by omega, h2⟩)⟩
      have : i ≠ m := fun ee => e (by rw [← h2, ee])
      omega
theorem clear_char (f : Nat → Int32) : ∀ p, p < 40 → fClear f p = -1 := by
  unfold fClear
  have h := lp_ind (f := fun i f => upd f i (-1)) (fun m t => ∀ p, p < m → t p = -1) 40 0 f ?_ ?_
  · rw [Nat.zero_add] at h
    exact h
  · intro p hp; omega
  · intro m t _ _ ih p hp
    show upd t m (-1) p = -1
    by_cases e : p = m
    · rw [e, upd_eq]
    · rw [upd_ne _ _ e]
      exact ih p (by omega)
/-- a row's bits are its persons -/
theorem bits_row {f : Nat → Int32} {n b : Nat} (hb : b < 64) (h : ∀ j, j < n → isIn (f j) 40 = true) : bL (cBits f n) b = true ↔ ∃ i, i < n ∧ (f i).toNatClampNeg = b := by
  rw [bits_bit hb h]
  constructor
  · intro hs
    cases q : fnd (fun j => decide (f j = nI b)) n 0 with
    | none => rw [q] at hs; cases hs
    | some i =>
      obtain ⟨_, h2, h3, _⟩ := (fnd_some _ _ _).mp q
      have e : f i = nI b := by simpa using h3
      exact ⟨i, by omega, by rw [e, nI_clamp (by omega)]⟩
  · intro ⟨i, hi, e⟩
    cases q : fnd (fun j => decide (f j = nI b)) n 0 with
    | some j => rfl
    | none =>
      have := (fnd_none _ _).mp q i (Nat.zero_le _) (by omega)
      have e2 : f i = nI b := by rw [(isIn_spec (h i hi) (by decide)).1, e]
      rw [e2] at this
      simp at this
section RE5
variable {N : Nat} {u : CSt} {v : MSt} {g : GH}
theorem Rel.rg (h : Rel N u v g) : RG (v.2.2.2 26) (v.2.2.2 37) (v.2.2.2 40) u.gn u.n u.gt := by
  obtain ⟨-, -, ⟨-, p2, -⟩, -, ⟨-, -, -, hL⟩, -, -⟩ := h
  refine ⟨fun k hk => ?_, fun k i hk hi => ?_, fun k b hk hb => ?_⟩
  · obtain ⟨l1, l2, l3, l4, l5, l6, l7, l8, l9, l10, l11⟩ := hL k hk
    rw [← ls1 l1]
    exact isIn_up l9 p2 (by decide)
  · obtain ⟨l1, l2, l3, l4, l5, l6, l7, l8, l9, l10, l11⟩ := hL k hk
    rw [← (l5 i hi).1]
    exact isIn_up (l5 i hi).2 p2 (by decide)
  · obtain ⟨l1, l2, l3, l4, l5, l6, l7, l8, l9, l10, l11⟩ := hL k hk
    rw [l8, bits_row hb (fun i hi => isIn_up (l5 i hi).2 p2 (by decide))]
    constructor
    · intro ⟨i, hi, e⟩; exact ⟨i, hi, by rw [← (l5 i hi).1]; exact e⟩
    · intro ⟨i, hi, e⟩; exact ⟨i, hi, by rw [(l5 i hi).1]; exact e⟩
theorem Rel.ringC (h : Rel N u v g) (x : Int32) (r i : Nat) (z : Int64) : cRing (col u.ga 1) (col u.ga 16) u.gt u.n x r i z = cRing (v.2.2.2 26) (v.2.2.2 37) u.gt u.n x r i z := by
  obtain ⟨-, -, -, -, ⟨-, -, -, hL⟩, -, -⟩ := h
  exact cRing_congr (fun k hk => ⟨ls1 (hL k hk).1, ls16 (hL k hk).1⟩) x r i z
theorem rel_ring (h : Rel N u v g) (x : Int32) : xRing x u = (mRing x u.gn v).1 ∧ Rel N u (mRing x u.gn v).2 g := by
  have h0 := h
  have hrg := h.rg
  have hrc := h.ringC
  have ho1 := h.opn x
  obtain ⟨-, -, ⟨p1, p2, -⟩, -, ⟨n1, -, -, hL⟩, -, -⟩ := h
  unfold xRing mRing
  rw [← p1]
  by_cases c : isIn x u.np = false
  · rw [if_pos c, if_pos c]
    exact ⟨rfl, h0⟩
  · rw [if_neg c, if_neg c, ← ho1]
    have hx : isIn x u.np = true := by simpa using c
    obtain ⟨ex, hxl⟩ := isIn_spec hx (by omega)
    cases ho : fOpen (col u.ga 1) (col u.ga 16) x u.n with
    | none => exact ⟨rfl, h0⟩
    | some j =>
      have hj : j < u.n := by have := (fnd_lt ho).2.1; omega
      refine ⟨?_, h0⟩
      show cRing (col u.ga 1) (col u.ga 16) u.gt u.n x 40 1 (u.gt j) = fRingF j u.gn v x.toNatClampNeg
      unfold fRingF
      rw [hrc, ← n1]
      have hbit : ∀ p, p < 64 → (bL (u.gt j) p = true ↔ ∃ i, i < u.gn j ∧ (v.2.2.2 40 (3 * j + i)).toNatClampNeg = p) := fun p hp => hrg.2.2 j p hj hp
      have e := ring_eq (z := u.gt j) hrg (f0 := fSeed (v.2.2.2 40) j (u.gn j) (fClear (v.2.2.2 47))) (fun p hp => ?_) (x := x.toNatClampNeg) (by omega)
      · rw [← ex] at e
        exact e
      · obtain ⟨s1, s2⟩ := seed_char (v.2.2.2 40) j (u.gn j) (fClear (v.2.2.2 47)) p
        by_cases q : bL (u.gt j) p = true
        · rw [if_pos q, s1 ((hbit p (by omega)).mp q)]
        · rw [if_neg q, s2 (fun w => q ((hbit p (by omega)).mpr w)), clear_char _ p hp]
end RE5
