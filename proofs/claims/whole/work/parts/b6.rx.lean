/-! ===== what else holds of the reference stays so ===== -/
section RXS
variable {v : MSt}
theorem rx_feed (h : RX v) (x y z w t : Int32) : RX (mFeed x y z w t v).2 := by
  unfold mFeed
  split
  · exact h
  · exact h
theorem rx_end (h : RX v) (x : Int32) : RX (mEnd x v).2 := by
  unfold mEnd
  split
  · exact h
  · split
    · exact h
    · exact h
theorem rx_person (h : RX v) (x : Int32) : RX (mPerson x v).2 := by
  unfold mPerson
  split
  · exact h
  · split
    · exact h
    · split
      · exact h
      · exact h
theorem rx_tag (h : RX v) (x y z : Int32) : RX (mTag x y z v).2 := by
  unfold mTag
  repeat' split
  all_goals exact h
theorem rx_fund (h : RX v) (x y : Int32) : RX (mFund x y v).2 := by
  unfold mFund
  split
  · exact h
  · split
    · exact h
    · split
      · exact h
      · split
        · exact h
        · split
          · exact h
          · exact h
theorem rx_gift (h : RX v) (x y : Int32) : RX (mGift x y v).2 := by
  unfold mGift
  split
  · exact h
  · split
    · exact h
    · split
      · exact h
      · split
        · exact h
        · exact h
theorem rx_loan (h : RX v) (x y : Int32) : RX (mLoan x y v).2 := by
  unfold mLoan
  split
  · exact h
  · split
    · exact h
    · split
      · exact h
      · exact h
theorem rx_surety (h : RX v) (x y : Int32) : RX (mSurety x y v).2 := by
  unfold mSurety
  split
  · exact h
  · split
    · exact h
    · split
      · exact h
      · exact h
theorem rx_taken (h : RX v) (x y : Int32) : RX (mTaken x y v).2 := by
  unfold mTaken
  split
  · exact h
  · split
    · exact h
    · exact h
theorem rx_about (h : RX v) (x y : Int32) (sn : Nat → Nat) : RX (mAbout x y sn v).2 := by
  unfold mAbout
  split
  · exact h
  · split
    · exact h
    · split
      · exact h
      · exact h
theorem rx_ring (h : RX v) (x : Int32) (sn : Nat → Nat) : RX (mRing x sn v).2 := by
  unfold mRing
  split
  · exact h
  · split
    · exact h
    · exact h
theorem late_new {sur st : Nat → Int32} {z n : Nat} {y : Int32} (hz : z < 2 ^ 31) {p : Nat × (Nat → Int32) × (Nat → Int32) × (Nat → Int32)} (h : ∀ i, i < p.1 → ¬ upd st z 2 (p.2.2.1 i).toNatClampNeg = 0) : ∀ i, i < (lp (lateStep sur z n y) n 0 p).1 → ¬ upd st z 2 ((lp (lateStep sur z n y) n 0 p).2.2.1 i).toNatClampNeg = 0 := by
  refine lp_inv (I := fun p : Nat × (Nat → Int32) × (Nat → Int32) × (Nat → Int32) => ∀ i, i < p.1 → ¬ upd st z 2 (p.2.2.1 i).toNatClampNeg = 0) n 0 p ?_ h
  intro j t _ _ ht i hi
  unfold lateStep at hi ⊢
  by_cases c : lateV n y j = 0
  · rw [if_pos c] at hi ⊢
    exact ht i hi
  · rw [if_neg c] at hi ⊢
    replace hi : i < t.1 + 1 := hi
    show ¬ upd st z 2 (upd t.2.2.1 t.1 (nI z) i).toNatClampNeg = 0
    by_cases e : i = t.1
    · rw [e, upd_eq, nI_clamp hz, upd_eq]
      decide
    · rw [upd_ne _ _ e]
      exact ht i (by omega)
theorem rx_step {sn : Nat → Nat} {i : Nat} (h : RX v) (hi : i < v.1 42) (h2 : i < 2 ^ 31) : RX (nextStep sn i v) ∧ (nextStep sn i v).1 42 = v.1 42 := by
  have h0 := h
  obtain ⟨h1, h3⟩ := h
  unfold nextStep
  by_cases c1 : v.2.2.2 37 i = 0
  · rw [if_pos c1]
    by_cases c2 : v.2.2.2 28 i < nI (v.1 23)
    · rw [if_pos c2]
      by_cases c3 : fDue i (v.1 23) v ≤ v.2.2.2 32 i
      · rw [if_pos c3]
        refine ⟨⟨fun k hk => ?_, h3⟩, rfl⟩
        replace hk : v.1 42 ≤ k := hk
        obtain ⟨⟨b1, b2, b3, b4, b5, b6, b7⟩, b8⟩ := h1 k hk
        exact ⟨⟨b1, b2, b3, b4, by show upd (v.2.2.2 36) i 0 k = 0; rw [upd_ne _ _ (by omega)]; exact b5, b6, b7⟩, b8⟩
      · rw [if_neg c3]
        unfold mLate
        have hA : ∀ k, v.1 42 ≤ k → (mLateA i v 32 k = 0 ∧ mLateA i v 33 k = 0 ∧ mLateA i v 34 k = 0 ∧ mLateA i v 35 k = 0 ∧ mLateA i v 36 k = 0 ∧ mLateA i v 37 k = 0 ∧ mLateA i v 38 k = 0) ∧ ∀ f, f < 6 → mLateA i v 41 (6 * k + f) = 0 := by
          intro k hk
          obtain ⟨⟨b1, b2, b3, b4, b5, b6, b7⟩, b8⟩ := h1 k hk
          refine ⟨⟨b1, ?_, b3, ?_, ?_, b6, b7⟩, b8⟩
          · show upd (v.2.2.2 33) i _ k = 0
            rw [upd_ne _ _ (by omega)]; exact b2
          · show upd (v.2.2.2 35) i _ k = 0
            rw [upd_ne _ _ (by omega)]; exact b4
          · show upd (v.2.2.2 36) i _ k = 0
            rw [upd_ne _ _ (by omega)]; exact b5
        by_cases c4 : v.2.2.2 31 i ≤ v.2.2.2 36 i + 1
        · rw [if_pos c4]
          refine ⟨⟨fun k hk => ?_, fun k hk => ?_⟩, rfl⟩
          · replace hk : v.1 42 ≤ k := hk
            obtain ⟨⟨b1, b2, b3, b4, b5, b6, b7⟩, b8⟩ := hA k hk
            refine ⟨⟨b1, b2, b3, b4, b5, ?_, b7⟩, b8⟩
            show upd (v.2.2.2 37) i 2 k = 0
            rw [upd_ne _ _ (by omega)]; exact b6
          · show ¬ upd (v.2.2.2 37) i 2 ((mLateP i (sn i) v).2.2.1 k).toNatClampNeg = 0
            refine late_new h2 (fun j hj => ?_) k hk
            show ¬ upd (v.2.2.2 37) i 2 (v.2.2.2 44 j).toNatClampNeg = 0
            have h4 := h3 j hj
            by_cases e : (v.2.2.2 44 j).toNatClampNeg = i
            · rw [e, upd_eq]; decide
            · rw [upd_ne _ _ e]; exact h4
        · rw [if_neg c4]
          exact ⟨⟨hA, h3⟩, rfl⟩
    · rw [if_neg c2]
      exact ⟨h0, rfl⟩
  · rw [if_neg c1]
    exact ⟨h0, rfl⟩
theorem rx_next {N : Nat} {u : CSt} {g : GH} (h : Rel N u v g) (hx : RX v) (sn : Nat → Nat) : RX (mNext sn v).2 := by
  have hn : u.n = v.1 42 := h.2.2.2.2.1.1
  have hn2 : u.n ≤ 100 := h.2.2.2.2.1.2.1
  unfold mNext
  split
  · exact hx
  · have key : RX (mNextU sn v) ∧ (mNextU sn v).1 42 = v.1 42 := by
      unfold mNextU
      refine lp_inv (I := fun t => RX t ∧ t.1 42 = v.1 42) (v.1 42) 0 (mT0 v) ?_ ⟨hx, rfl⟩
      intro j t _ hj ht
      obtain ⟨a1, a2⟩ := rx_step (sn := sn) (i := j) ht.1 (by rw [ht.2]; omega) (by omega)
      exact ⟨a1, a2.trans ht.2⟩
    exact key.1
end RXS
