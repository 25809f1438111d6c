/-! ===== rings: the two agree ===== -/
def g1 (o : Option Nat) : Int32 := match o with | none => -1 | some j => nI (j + 1)
theorem nI_nm1 {j : Nat} (h : j < 2 ^ 31) : ¬ nI j = -1 := by
  intro e
  have h1 : (nI j).toInt = (-1 : Int32).toInt := congrArg Int32.toInt e
  rw [nI_toInt h] at h1
  have h2 : (-1 : Int32).toInt = -1 := by decide
  omega
theorem cnt_full {f : Nat → Int32} : ∀ n, cnt f n = n → ∀ p, p < n → f p = -1
  | 0, _, p, hp => absurd hp (Nat.not_lt_zero _)
  | n + 1, h, p, hp => by
    have h1 : cnt f n + (if f n = -1 then 1 else 0) = n + 1 := h
    have h2 := cnt_le f n
    by_cases c : f n = -1
    · rw [if_pos c] at h1
      by_cases e : p = n
      · rw [e]; exact c
      · exact cnt_full n (by omega) p (by omega)
    · rw [if_neg c] at h1
      omega
section RING2
variable {who st sur : Nat → Int32} {sn : Nat → Nat} {n : Nat} {gt : Nat → Int64} {z : Int64}
/-- the first level with p among d of them -/
def fst1 (who st : Nat → Int32) (gt : Nat → Int64) (n : Nat) (z : Int64) (d p : Nat) : Option Nat := fnd (fun j => bL (lvl who st gt n z j) p) d 0
def RG (who st sur : Nat → Int32) (sn : Nat → Nat) (n : Nat) (gt : Nat → Int64) : Prop := (∀ k, k < n → isIn (who k) 40 = true) ∧ (∀ k i, k < n → i < sn k → isIn (sur (3 * k + i)) 40 = true) ∧ ∀ k b, k < n → b < 64 → (bL (gt k) b = true ↔ ∃ i, i < sn k ∧ (sur (3 * k + i)).toNatClampNeg = b)
theorem lvl_edg (hR : RG who st sur sn n gt) {d b : Nat} (hb : b < 64) : bL (lvl who st gt n z (d + 1)) b = true ↔ ∃ a, a < 40 ∧ bL (lvl who st gt n z d) a = true ∧ edg who st sur sn n a b := by
  show bL (cSur who st gt n (lvl who st gt n z d)) b = true ↔ _
  rw [cSur_bit hR.1]
  constructor
  · intro ⟨k, hk, h1, h2, h3⟩
    exact ⟨_, (isIn_spec (hR.1 k hk) (by decide)).2, h2, k, hk, h1, rfl, (hR.2.2 k b hk hb).mp h3⟩
  · intro ⟨a, _, h1, k, hk, h2, h3, h4⟩
    exact ⟨k, hk, h2, by rw [h3]; exact h1, (hR.2.2 k b hk hb).mpr h4⟩
theorem fst_up {d p : Nat} {j : Nat} (h : fst1 who st gt n z d p = some j) {D : Nat} (hD : d ≤ D) : fst1 who st gt n z D p = some j := by
  obtain ⟨h1, h2, h3, h4⟩ := (fnd_some _ _ _).mp h
  exact (fnd_some _ _ _).mpr ⟨h1, by omega, h3, h4⟩
theorem ring_step (hR : RG who st sur sn n gt) {d : Nat} (h1 : 1 ≤ d) (h2 : d < 1000) {f : Nat → Int32} (hf : ∀ p, p < 40 → f p = g1 (fst1 who st gt n z d p)) : ∀ p, p < 40 → (fSteps who st sur sn n (nI d) f).1 p = g1 (fst1 who st gt n z (d + 1) p) := by
  intro p hp
  have hd1 : ¬ nI d = -1 := nI_nm1 (by omega)
  have hd2 : ¬ nI d + 1 = nI d := by
    rw [nI_1]
    intro e
    have := (nI_eq (by omega) (by omega)).mp e
    omega
  obtain ⟨c1, c2, c3⟩ := steps_char (who := who) (st := st) (sur := sur) (sn := sn) (n := n) (f := f) hd1 hd2 p
  -- who has distance d just now lies in level d - 1, first there
  have hat : ∀ a, a < 40 → (f a = nI d ↔ fst1 who st gt n z d a = some (d - 1)) := by
    intro a ha
    rw [hf a ha]
    cases q : fst1 who st gt n z d a with
    | none => exact ⟨fun e => absurd e.symm hd1, fun e => by cases e⟩
    | some j =>
      have hj := ((fnd_some _ _ _).mp q).2.1
      constructor
      · intro e
        have := (nI_eq (by omega) (by omega)).mp (show nI (j + 1) = nI d from e)
        rw [show d - 1 = j by omega]
      · intro e
        cases e
        show nI (d - 1 + 1) = nI d
        rw [show d - 1 + 1 = d by omega]
  cases q : fst1 who st gt n z d p with
  | some j =>
    have hj := ((fnd_some _ _ _).mp q).2.1
    have e : f p = nI (j + 1) := by rw [hf p hp, q]; rfl
    rw [c1 (by rw [e]; exact nI_nm1 (by omega)), e, fst_up q (Nat.le_succ _)]
    rfl
  | none =>
    have e : f p = -1 := by rw [hf p hp, q]; rfl
    have hno := (fnd_none _ _).mp q
    have hit : (∃ k, k < n ∧ st k = 0 ∧ f (who k).toNatClampNeg = nI d ∧ ∃ i, i < sn k ∧ (sur (3 * k + i)).toNatClampNeg = p) ↔ bL (lvl who st gt n z d) p = true := by
      obtain ⟨d', rfl⟩ : ∃ d', d = d' + 1 := ⟨d - 1, by omega⟩
      rw [lvl_edg hR (by omega)]
      constructor
      · intro ⟨k, hk, k1, k2, k3⟩
        have hwk := (isIn_spec (hR.1 k hk) (by decide)).2
        have := (hat _ hwk).mp k2
        have h5 := ((fnd_some _ _ _).mp this).2.2.1
        exact ⟨_, hwk, h5, k, hk, k1, rfl, k3⟩
      · intro ⟨a, ha, k1, k, hk, k2, k3, k4⟩
        refine ⟨k, hk, k2, ?_, k4⟩
        rw [k3]
        refine (hat a ha).mpr ?_
        cases w : fst1 who st gt n z (d' + 1) a with
        | none =>
          have := (fnd_none _ _).mp w d' (Nat.zero_le _) (by omega)
          rw [k1] at this
          cases this
        | some j =>
          obtain ⟨_, w2, w3, w4⟩ := (fnd_some _ _ _).mp w
          by_cases ej : j = d'
          · rw [ej]; rfl
          · have hjd : j < d' := by omega
            have h6 : bL (lvl who st gt n z (j + 1)) p = true := (lvl_edg hR (by omega)).mpr ⟨a, ha, w3, k, hk, k2, k3, k4⟩
            have h7 := hno (j + 1) (Nat.zero_le _) (by omega)
            rw [h6] at h7
            cases h7
    by_cases w : bL (lvl who st gt n z d) p = true
    · rw [c2 e (hit.mpr w)]
      have : fst1 who st gt n z (d + 1) p = some d := (fnd_some _ _ _).mpr ⟨Nat.zero_le _, by omega, w, fun a h3 h4 => hno a h3 (by omega)⟩
      rw [this, nI_1]
      rfl
    · rw [c3 e (fun z9 => w (hit.mp z9))]
      have : fst1 who st gt n z (d + 1) p = none := (fnd_none _ _).mpr (fun a h3 h4 => by
        by_cases ea : a = d
        · rw [ea]; simpa using w
        · exact hno a h3 (by omega))
      rw [this]
      rfl
theorem steps_flag {d : Int32} {f : Nat → Int32} : (fSteps who st sur sn n d f).2 = false → (fSteps who st sur sn n d f).1 = f := by
  unfold fSteps
  refine lp_inv (I := fun t => t.2 = false → t.1 = f) n 0 (f, false) (fun k t _ _ ht => ?_) (fun _ => rfl)
  unfold fStepO
  split
  · split
    · refine lp_inv (I := fun t => t.2 = false → t.1 = f) (sn k) 0 t (fun i x _ _ hx => ?_) ht
      unfold fStepI
      split
      · intro h; cases h
      · exact hx
    · exact ht
  · exact ht
theorem ring_stab (hR : RG who st sur sn n gt) {d : Nat} (h : ∀ p, p < 40 → fst1 who st gt n z (d + 1) p = fst1 who st gt n z d p) : ∀ D, d ≤ D → ∀ p, p < 40 → fst1 who st gt n z D p = fst1 who st gt n z d p := by
  have seen0 : ∀ p, p < 40 → bL (lvl who st gt n z d) p = true → ∃ j, j < d ∧ bL (lvl who st gt n z j) p = true := by
    intro p hp hb
    have h1 := h p hp
    cases q : fst1 who st gt n z d p with
    | some j =>
      obtain ⟨_, w2, w3, _⟩ := (fnd_some _ _ _).mp q
      exact ⟨j, by omega, w3⟩
    | none =>
      rw [q] at h1
      have := (fnd_none _ _).mp h1 d (Nat.zero_le _) (by omega)
      rw [hb] at this
      cases this
  have seen : ∀ r p, p < 40 → bL (lvl who st gt n z (d + r)) p = true → ∃ j, j < d ∧ bL (lvl who st gt n z j) p = true := by
    intro r
    induction r with
    | zero => exact seen0
    | succ r ih =>
      intro p hp hb
      obtain ⟨a, ha, k1, k2⟩ := (lvl_edg hR (by omega)).mp (show bL (lvl who st gt n z (d + r + 1)) p = true from hb)
      obtain ⟨j, hj, k3⟩ := ih a ha k1
      have k4 : bL (lvl who st gt n z (j + 1)) p = true := (lvl_edg hR (by omega)).mpr ⟨a, ha, k3, k2⟩
      by_cases e : j + 1 = d
      · rw [e] at k4
        exact seen0 p hp k4
      · exact ⟨j + 1, by omega, k4⟩
  intro D hD p hp
  cases q : fst1 who st gt n z d p with
  | some j => exact fst_up q hD
  | none =>
    have hno := (fnd_none _ _).mp q
    refine (fnd_none _ _).mpr (fun a h1 h2 => ?_)
    by_cases c : a < d
    · exact hno a h1 (by omega)
    · cases w : bL (lvl who st gt n z a) p with
      | false => rfl
      | true =>
        obtain ⟨j, hj, k1⟩ := seen (a - d) p hp (by rw [show d + (a - d) = a by omega]; exact w)
        have := hno j (Nat.zero_le _) (by omega)
        rw [k1] at this
        cases this
theorem ring_spread (hR : RG who st sur sn n gt) : ∀ (r d : Nat) (f : Nat → Int32), 1 ≤ d → d + r ≤ 1000 → (∀ p, p < 40 → f p = g1 (fst1 who st gt n z d p)) → cnt f 40 < r → ∃ D, d ≤ D ∧ D ≤ d + cnt f 40 ∧ (∀ p, p < 40 → fSpread who st sur sn n r d f p = g1 (fst1 who st gt n z D p)) ∧ ∀ D', D ≤ D' → ∀ p, p < 40 → fst1 who st gt n z D' p = fst1 who st gt n z D p
  | 0, _, _, _, _, _, h => absurd h (Nat.not_lt_zero _)
  | r + 1, d, f, h1, h2, hf, hc => by
    have hs := ring_step hR h1 (by omega) hf
    rw [fSpread]
    by_cases c : (fSteps who st sur sn n (nI d) f).2 = false
    · rw [if_pos c]
      have ef := steps_flag c
      refine ⟨d, Nat.le_refl _, Nat.le_add_right _ _, fun p hp => by rw [ef]; exact hf p hp, ring_stab hR (fun p hp => ?_)⟩
      have h3 := hs p hp
      rw [ef, hf p hp] at h3
      have inj : ∀ a b : Option Nat, (∀ j, a = some j → j < 2000) → (∀ j, b = some j → j < 2000) → g1 a = g1 b → a = b := by
        intro a b ha hb e
        cases a with
        | none =>
          cases b with
          | none => rfl
          | some j => exact absurd e.symm (nI_nm1 (by have := hb j rfl; omega))
        | some i =>
          cases b with
          | none => exact absurd e (nI_nm1 (by have := ha i rfl; omega))
          | some j =>
            have k1 := ha i rfl
            have k2 := hb j rfl
            have := (nI_eq (by omega) (by omega)).mp (show nI (i + 1) = nI (j + 1) from e)
            rw [show i = j by omega]
      exact (inj _ _ (fun j hj => by have := ((fnd_some _ _ _).mp hj).2.1; omega) (fun j hj => by have := ((fnd_some _ _ _).mp hj).2.1; omega) h3).symm
    · rw [if_neg c]
      have ct : (fSteps who st sur sn n (nI d) f).2 = true := by simpa using c
      have hlt := (fSteps_cnt (N := 40) (by decide) (who := who) (st := st) (d := nI d) (f := f) (nI_nem1 (by omega)) hR.2.1).2 ct
      obtain ⟨D, k1, k2, k3, k4⟩ := ring_spread hR r (d + 1) _ (by omega) (by omega) hs (by omega)
      exact ⟨D, by omega, by omega, k3, k4⟩
theorem lvl_zero (hR : RG who st sur sn n gt) {i : Nat} (h : lvl who st gt n z i = 0) : ∀ r, lvl who st gt n z (i + r) = 0
  | 0 => h
  | r + 1 => by
    have ih := lvl_zero hR h r
    show cSur who st gt n (lvl who st gt n z (i + r)) = 0
    rw [ih]
    refine bL_ext (fun b hb => ?_)
    rw [bL_0]
    cases w : bL (cSur who st gt n 0) b with
    | false => rfl
    | true =>
      obtain ⟨k, _, _, k3, _⟩ := (cSur_bit hR.1).mp w
      rw [bL_0] at k3
      cases k3
theorem ring_c (hR : RG who st sur sn n gt) {x : Nat} (hx : x < 40) : ∀ (r i : Nat), cRing who st gt n (nI x) r (i + 1) (lvl who st gt n z i) = g1 (fnd (fun j => bL (lvl who st gt n z j) x) r i)
  | 0, _ => rfl
  | r + 1, i => by
    rw [cRing]
    by_cases c : lvl who st gt n z i = 0
    · rw [if_pos c]
      have : fnd (fun j => bL (lvl who st gt n z j) x) (r + 1) i = none := (fnd_none _ _).mpr (fun a h1 h2 => by
        have := lvl_zero hR c (a - i)
        rw [show i + (a - i) = a by omega] at this
        rw [this, bL_0])
      rw [this]
      rfl
    · rw [if_neg c, fnd]
      have hb := and_bit (x := lvl who st gt n z i) hx
      by_cases c2 : lvl who st gt n z i &&& cBit (nI x) = 0
      · rw [if_pos c2, if_neg (by rw [hb.mp c2]; decide)]
        exact ring_c hR hx r (i + 1)
      · have w : bL (lvl who st gt n z i) x = true := by
          cases w : bL (lvl who st gt n z i) x with
          | true => rfl
          | false => exact absurd (hb.mpr w) c2
        rw [if_neg c2, if_pos w]
        rfl
/-- the class's rings are the reference's -/
theorem ring_eq (hR : RG who st sur sn n gt) {f0 : Nat → Int32} (hf : ∀ p, p < 40 → f0 p = if bL z p = true then 1 else -1) {x : Nat} (hx : x < 40) : cRing who st gt n (nI x) 40 1 z = fSpread who st sur sn n 41 1 f0 x := by
  have h0 : ∀ p, p < 40 → f0 p = g1 (fst1 who st gt n z 1 p) := by
    intro p hp
    rw [hf p hp]
    show _ = g1 (if bL (lvl who st gt n z 0) p = true then some 0 else none)
    show (if bL z p = true then (1 : Int32) else -1) = g1 (if bL z p = true then some 0 else none)
    by_cases c : bL z p = true
    · rw [if_pos c, if_pos c]; rfl
    · rw [if_neg c, if_neg c]; rfl
  have hc := cnt_le f0 40
  obtain ⟨D, k1, k2, k3, k4⟩ := ring_spread hR 41 1 f0 (by decide) (by decide) h0 (by omega)
  rw [k3 x hx]
  have e := ring_c (z := z) hR hx 40 0
  rw [show (0 : Nat) + 1 = 1 from rfl] at e
  rw [show cRing who st gt n (nI x) 40 1 z = g1 (fst1 who st gt n z 40 x) from e]
  by_cases c : cnt f0 40 ≤ 39
  · rw [k4 40 (by omega) x hx]
  · have hfull := cnt_full (f := f0) 40 (by omega)
    have hn1 : ∀ p, p < 40 → fst1 who st gt n z 1 p = none := by
      intro p hp
      have := hfull p hp
      rw [h0 p hp] at this
      cases q : fst1 who st gt n z 1 p with
      | none => rfl
      | some j =>
        rw [q] at this
        have hj := ((fnd_some _ _ _).mp q).2.1
        exact absurd this (nI_nm1 (by omega))
    have hs0 := ring_stab (z := z) (d := 0) hR (fun p hp => by rw [hn1 p hp]; rfl)
    rw [hs0 40 (Nat.zero_le _) x hx, hs0 D (Nat.zero_le _) x hx]
end RING2
