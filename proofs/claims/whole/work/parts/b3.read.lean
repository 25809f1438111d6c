/-! ===== the text of RULES: a step, alike ===== -/
def TR (f : Nat → Int32) (n : Nat) (r : RSt) (w : MSt) : Prop := r.2.1 = w.1 12 ∧ r.2.1 ≤ 320 ∧
  ((r.1 = 4 ∧ w.2.1 13 = 0) ∨ (r.1 = 0 ∧ w.2.1 13 = 1) ∨ (r.1 = 1 ∧ w.2.1 13 = 2 ∧ r.2.2.1 = w.1 11 ∧ r.2.2.1 ≤ n ∧ kindIs f r.2.1 r.2.2.1 = ruleOf w.2.2.1) ∨ (r.1 = 2 ∧ w.2.1 13 = 3 ∧ r.2.2.1 = w.1 11 ∧ r.2.2.1 ≤ n ∧ rNum f r.2.1 r.2.2.1 = w.2.1 14) ∨ (r.1 = 3 ∧ w.2.1 13 = 4 ∧ r.2.2.1 = w.1 11 ∧ r.2.2.1 ≤ n))
theorem rTok_1 (f : Nat → Int32) {r i : Nat} (h : isLD (f i) = true) (hr : 0 < r) : i < (rTok f r i 0 0).1 ∧ (dig (f i) = true → 1 ≤ (rTok f r i 0 0).2.2) ∧ (¬ dig (f i) = true → 1 ≤ (rTok f r i 0 0).2.1) := by
  cases r with
  | zero => omega
  | succ r =>
    rw [rTok, if_pos h]
    by_cases d : dig (f i) = true
    · rw [if_pos d]
      have h1 := rTok_bd f r (i + 1) 0 (0 + 1)
      have h2 := tok_rt f 0 true r (i + 1) 0 (0 + 1) (true, 0, 0)
      exact ⟨by omega, fun _ => by omega, fun z => absurd d z⟩
    · rw [if_neg d]
      have h1 := rTok_bd f r (i + 1) (0 + 1) 0
      have h2 := tok_rt f 0 true r (i + 1) (0 + 1) 0 (true, 0, 0)
      exact ⟨by omega, fun z => absurd z d, fun _ => by omega⟩
theorem step_sign {f : Nat → Int32} {n : Nat} {r : RSt} {w : MSt} {s : Nat} (hn : n ≤ 320) (h10 : w.1 10 = n) (hf : w.2.2.2 1 = f) (hs : goI w = s) (hsn : s < n) : TR f n (rTokU f n (r.1, s, r.2.2.1, r.2.2.2)) (goB w) ∧ (rTokU f n (r.1, s, r.2.2.1, r.2.2.2)).2.2.2 = r.2.2.2 := by
  have hbd := rTok_bd f (n - s) s 0 0
  unfold rTokU goB
  rw [hs, h10, hf, if_pos hsn]
  show TR f n (if (rTok f (n - s) s 0 0).2.1 ≤ 0 then (if (rTok f (n - s) s 0 0).2.2 ≤ 0 then (if f s = 59 then 3 else 0, s, s + 1, r.2.2.2) else (if 5 < (rTok f (n - s) s 0 0).2.2 then 0 else 2, s, (rTok f (n - s) s 0 0).1, r.2.2.2)) else (if (rTok f (n - s) s 0 0).2.2 = 0 then 1 else 0, s, (rTok f (n - s) s 0 0).1, r.2.2.2)) _ ∧ (if (rTok f (n - s) s 0 0).2.1 ≤ 0 then (if (rTok f (n - s) s 0 0).2.2 ≤ 0 then ((if f s = 59 then 3 else 0, s, s + 1, r.2.2.2) : RSt) else (if 5 < (rTok f (n - s) s 0 0).2.2 then 0 else 2, s, (rTok f (n - s) s 0 0).1, r.2.2.2)) else (if (rTok f (n - s) s 0 0).2.2 = 0 then 1 else 0, s, (rTok f (n - s) s 0 0).1, r.2.2.2)).2.2.2 = r.2.2.2
  by_cases c : isLD (f s) = true
  · obtain ⟨g1, g2, g3⟩ := rTok_1 f (r := n - s) c (by omega)
    have eW : (if let_ (f s) = true then goW w else if dig (f s) = true then goW w else (up (up (up w.1 11 s) 12 s) 11 (s + 1), up w.2.1 13 (if f s = 59 then 4 else 1), w.2.2.1, w.2.2.2)) = goW w := by
      by_cases q : let_ (f s) = true
      · rw [if_pos q]
      · rw [if_neg q]
        by_cases q2 : dig (f s) = true
        · rw [if_pos q2]
        · exact absurd (isLD_nd c q2) q
    rw [eW]
    have eT : goT w = tok f s (let_ (f s)) (n - s) s (true, 0, 0) := by
      unfold goT
      rw [hs, h10, hf]
    obtain ⟨t1, t2, t3, t4⟩ := tok_rt f s (let_ (f s)) (n - s) s 0 0 (true, 0, 0)
    have t5 := tok_all f s (let_ (f s)) (n - s) s (true, 0, 0)
    have t6 := tok_num f s (let_ (f s)) (n - s) s (true, 0, 0)
    have t7 := tok_name f s (let_ (f s)) (n - s) s (true, 0, 0)
    have w11 : (goW w).1 11 = (rTok f (n - s) s 0 0).1 := by
      show (goT w).1 = _
      rw [eT, t1]
    have w12 : (goW w).1 12 = s := hs
    have w13 : (goW w).2.1 13 = goK (let_ (f s)) (goT w).2.1 ((rTok f (n - s) s 0 0).1 - s) := by
      show goK (let_ (w.2.2.2 1 (goI w))) (goT w).2.1 ((goT w).1 - goI w) = _
      rw [hs, hf, eT, t1]
    have w14 : (goW w).2.1 14 = (goT w).2.2.2 := rfl
    have wnm : (goW w).2.2.1 = if (rTok f (n - s) s 0 0).1 - s ≤ 10 then (goT w).2.2.1 else -1 := by
      show (if (goT w).1 - goI w ≤ 10 then (goT w).2.2.1 else -1) = _
      rw [hs, eT, t1]
    rw [eT] at w13 w14 wnm
    rw [t1] at t5 t6 t7
    generalize tok f s (let_ (f s)) (n - s) s (true, 0, 0) = K at *
    generalize hT : rTok f (n - s) s 0 0 = T at *
    by_cases c1 : T.2.1 ≤ 0
    · rw [if_pos c1]
      have hd : dig (f s) = true := by
        cases q : dig (f s) with
        | true => rfl
        | false => have := g3 (by rw [q]; decide); omega
      have hl : let_ (f s) = false := by
        cases q : let_ (f s) with
        | false => rfl
        | true => rw [let_dig q] at hd; cases hd
      have hgood : K.2.1 = true := by
        rw [t4, hl, if_neg (by decide)]
        exact ⟨rfl, by omega⟩
      have c2 : ¬ T.2.2 ≤ 0 := by have := g2 hd; omega
      rw [if_neg c2]
      rw [hl, hgood] at w13
      by_cases c3 : 5 < T.2.2
      · refine ⟨⟨w12.symm, by show s ≤ 320; omega, Or.inr (Or.inl ⟨?_, ?_⟩)⟩, rfl⟩
        · show (if 5 < T.2.2 then (0 : Int32) else 2) = 0
          rw [if_pos c3]
        · rw [w13, goK, if_neg (by decide), if_neg (by decide), if_neg (by omega)]
      · refine ⟨⟨w12.symm, by show s ≤ 320; omega, Or.inr (Or.inr (Or.inr (Or.inl ⟨?_, ?_, w11.symm, by show T.1 ≤ n; omega, ?_⟩)))⟩, rfl⟩
        · show (if 5 < T.2.2 then (0 : Int32) else 2) = 2
          rw [if_neg c3]
        · rw [w13, goK, if_neg (by decide), if_neg (by decide), if_pos (by omega)]
        · rw [w14]
          exact (t6 (by omega) (Nat.le_refl _)).symm
    · rw [if_neg c1]
      by_cases c2 : T.2.2 = 0
      · have hd : ¬ dig (f s) = true := fun z => by have := g2 z; omega
        have hl : let_ (f s) = true := isLD_nd c hd
        have hgood : K.2.1 = true := by
          rw [t4, hl, if_pos rfl]
          exact ⟨rfl, c2⟩
        rw [hl, hgood] at w13
        have hall := (t5 hgood).2
        rw [hl] at hall
        refine ⟨⟨w12.symm, by show s ≤ 320; omega, Or.inr (Or.inr (Or.inl ⟨?_, ?_, w11.symm, by show T.1 ≤ n; omega, ?_⟩))⟩, rfl⟩
        · show (if T.2.2 = 0 then (1 : Int32) else 0) = 1
          rw [if_pos c2]
        · rw [w13, goK, if_neg (by decide), if_pos rfl]
        · show kindIs f s T.1 = _
          rw [wnm, ← word_all (by omega) hall]
          by_cases c4 : T.1 - s ≤ 10
          · rw [if_pos c4, if_pos c4, t7 c4 (Nat.le_refl _) hall (by show (0 : Int64) = lN (wV _ (s - s)); rw [Nat.sub_self]; rfl)]
          · rw [if_neg c4, if_neg c4]
      · have hgood : K.2.1 = false := by
          cases q : K.2.1 with
          | false => rfl
          | true =>
            have h9 := (t4.mp q).2
            by_cases q2 : let_ (f s) = true
            · rw [if_pos q2] at h9; exact absurd h9 c2
            · rw [if_neg q2] at h9; omega
        rw [hgood] at w13
        refine ⟨⟨w12.symm, by show s ≤ 320; omega, Or.inr (Or.inl ⟨?_, ?_⟩)⟩, rfl⟩
        · show (if T.2.2 = 0 then (1 : Int32) else 0) = 0
          rw [if_neg c2]
        · rw [w13, goK, if_pos rfl]
  · have hT : rTok f (n - s) s 0 0 = (s, 0, 0) := by
      rw [show n - s = (n - s - 1) + 1 by omega, rTok, if_neg c]
    have hl : ¬ let_ (f s) = true := fun z => c (by unfold isLD; rw [z]; rfl)
    have hd : ¬ dig (f s) = true := fun z => c (by unfold isLD; rw [z, Bool.or_true])
    rw [hT, if_neg hl, if_neg hd]
    show TR f n (if f s = 59 then 3 else 0, s, s + 1, r.2.2.2) _ ∧ r.2.2.2 = r.2.2.2
    refine ⟨⟨rfl, by show s ≤ 320; omega, ?_⟩, rfl⟩
    by_cases c3 : f s = 59
    · exact Or.inr (Or.inr (Or.inr (Or.inr ⟨by show (if f s = 59 then (3 : Int32) else 0) = 3; rw [if_pos c3], by show (if f s = 59 then (4 : Int32) else 1) = 4; rw [if_pos c3], rfl, by show s + 1 ≤ n; omega⟩)))
    · exact Or.inr (Or.inl ⟨by show (if f s = 59 then (3 : Int32) else 0) = 0; rw [if_neg c3], by show (if f s = 59 then (4 : Int32) else 1) = 1; rw [if_neg c3]⟩)
theorem step_tok {f : Nat → Int32} {n : Nat} {r : RSt} {w : MSt} (hn : n ≤ 320) (hb : r.2.2.1 = w.1 11) (hbn : r.2.2.1 ≤ n) (h10 : w.1 10 = n) (hf : w.2.2.2 1 = f) : TR f n (rStepU f n r) (mGo w) ∧ (rStepU f n r).2.2.2 = r.2.2.2 := by
  have hI : goI w = rSkp f (n - r.2.2.1) r.2.2.1 := by
    unfold goI
    rw [skp_eq, hf, h10, ← hb]
  have hIb := rSkp_bd f (n - r.2.2.1) r.2.2.1
  unfold rStepU mGo
  rw [h10]
  by_cases c : n ≤ 300
  · have hS : rS f n r.2.2.1 = goI w := by
      unfold rS
      rw [Nat.min_eq_left c, Nat.min_eq_left hbn, hI]
    rw [hS, Nat.min_eq_left c, if_pos c, if_pos c]
    by_cases c2 : n ≤ goI w
    · rw [if_pos c2]
      unfold goB
      rw [h10, if_neg (by omega)]
      exact ⟨⟨rfl, by show goI w ≤ 320; omega, Or.inl ⟨rfl, rfl⟩⟩, rfl⟩
    · rw [if_neg c2]
      exact step_sign hn h10 hf rfl (by omega)
  · rw [if_neg c, if_neg c, Nat.min_eq_right (show 300 ≤ n by omega)]
    by_cases c2 : 300 ≤ r.2.2.1
    · have hS : rS f n r.2.2.1 = 300 := by
        unfold rS
        rw [Nat.min_eq_right (show 300 ≤ n by omega), Nat.min_eq_right c2]
        rfl
      rw [hS, if_pos (Nat.le_refl _), if_neg (by omega)]
      exact ⟨⟨rfl, (show (300 : Nat) ≤ 320 by decide), Or.inr (Or.inl ⟨rfl, rfl⟩)⟩, rfl⟩
    · have hS : rS f n r.2.2.1 = rSkp f (300 - r.2.2.1) r.2.2.1 := by
        unfold rS
        rw [Nat.min_eq_right (show 300 ≤ n by omega), Nat.min_eq_left (by omega)]
      obtain ⟨a1, a2⟩ := rSkp_add f (n - 300) (300 - r.2.2.1) r.2.2.1
      have hsb := rSkp_bd f (300 - r.2.2.1) r.2.2.1
      rw [show 300 - r.2.2.1 + (n - 300) = n - r.2.2.1 by omega] at a1 a2
      rw [hS]
      by_cases c3 : 300 ≤ rSkp f (300 - r.2.2.1) r.2.2.1
      · have a3 := a2 (by omega)
        have a4 := rSkp_bd f (n - 300) (r.2.2.1 + (300 - r.2.2.1))
        rw [if_pos c3, if_neg (show ¬ goI w < 300 by rw [hI, a3]; omega)]
        refine ⟨⟨?_, ?_, Or.inr (Or.inl ⟨rfl, rfl⟩)⟩, rfl⟩
        · show rSkp f (300 - r.2.2.1) r.2.2.1 = 300
          omega
        · show rSkp f (300 - r.2.2.1) r.2.2.1 ≤ 320
          omega
      · have a3 := a1 (by omega)
        rw [← a3, ← hI]
        rw [← a3, ← hI] at c3
        rw [if_neg c3, if_pos (by omega)]
        exact step_sign hn h10 hf rfl (by omega)
theorem mGo_kp (u : MSt) : (∀ k, k ≠ 11 → k ≠ 12 → (mGo u).1 k = u.1 k) ∧ (∀ k, k ≠ 13 → k ≠ 14 → (mGo u).2.1 k = u.2.1 k) ∧ (mGo u).2.2.2 = u.2.2.2 := by
  have hW : (∀ k, k ≠ 11 → k ≠ 12 → (goW u).1 k = u.1 k) ∧ (∀ k, k ≠ 13 → k ≠ 14 → (goW u).2.1 k = u.2.1 k) ∧ (goW u).2.2.2 = u.2.2.2 := by
    refine ⟨fun k h1 h2 => ?_, fun k h1 h2 => ?_, rfl⟩
    · show up (up (up u.1 11 (goI u)) 12 (goI u)) 11 (goT u).1 k = u.1 k
      rw [up_ne _ _ h1, up_ne _ _ h2, up_ne _ _ h1]
    · show up (up u.2.1 14 _) 13 _ k = u.2.1 k
      rw [up_ne _ _ h1, up_ne _ _ h2]
  have hB : (∀ k, k ≠ 11 → k ≠ 12 → (goB u).1 k = u.1 k) ∧ (∀ k, k ≠ 13 → k ≠ 14 → (goB u).2.1 k = u.2.1 k) ∧ (goB u).2.2.2 = u.2.2.2 := by
    unfold goB
    split
    · split
      · exact hW
      · split
        · exact hW
        · refine ⟨fun k h1 h2 => ?_, fun k h1 h2 => ?_, rfl⟩
          · show up (up (up u.1 11 (goI u)) 12 (goI u)) 11 (goI u + 1) k = u.1 k
            rw [up_ne _ _ h1, up_ne _ _ h2, up_ne _ _ h1]
          · show up u.2.1 13 _ k = u.2.1 k
            rw [up_ne _ _ h1]
    · refine ⟨fun k h1 h2 => ?_, fun k h1 h2 => ?_, rfl⟩
      · show up (up u.1 11 (goI u)) 12 (goI u) k = u.1 k
        rw [up_ne _ _ h2, up_ne _ _ h1]
      · show up u.2.1 13 _ k = u.2.1 k
        rw [up_ne _ _ h1]
  unfold mGo
  split
  · exact hB
  · split
    · exact hB
    · refine ⟨fun k h1 h2 => ?_, fun k h1 h2 => ?_, rfl⟩
      · show up (up u.1 11 (goI u)) 12 300 k = u.1 k
        rw [up_ne _ _ h2, up_ne _ _ h1]
      · show up u.2.1 13 _ k = u.2.1 k
        rw [up_ne _ _ h1]
