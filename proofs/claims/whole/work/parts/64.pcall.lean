/-! ===== CALLS are made: the list of them grows ===== -/
def gT : Nat → Nat
  | 0 => 0
  | n + 1 => gT n + gSl n
theorem gT_mono {a b : Nat} (h : a ≤ b) : gT a ≤ gT b := by
  induction h with
  | refl => exact Nat.le_refl _
  | step _ ih => exact Nat.le_trans ih (Nat.le_add_right _ _)
abbrev KSt : Type := Nat × (Nat → Nat → Int32) × (Nat → Nat)
def kNew (pe sm : Int32) : Nat → Int32 := up (up (fun _ => 0) 0 pe) 2 sm
def kStep (g : Nat → Int32) (n : Nat) (y : Int32) (p_ : Nat) (i : Nat) (u : KSt) : KSt := if lateV n y i ≤ 0 then u else (u.1 + 1, up u.2.1 u.1 (kNew (g i) (lateV n y i)), up u.2.2 u.1 p_)
def kAll (g : Nat → Int32) (n : Nat) (y : Int32) (p_ : Nat) (u : KSt) : KSt := lp (kStep g n y p_) n 0 u
theorem kStep_le {g : Nat → Int32} {n : Nat} {y : Int32} {p_ i : Nat} (u : KSt) : u.1 ≤ (kStep g n y p_ i u).1 ∧ (kStep g n y p_ i u).1 ≤ u.1 + 1 := by
  unfold kStep
  split
  · exact ⟨Nat.le_refl _, Nat.le_succ _⟩
  · exact ⟨Nat.le_succ _, Nat.le_refl _⟩
theorem kLp_le {g : Nat → Int32} {n : Nat} {y : Int32} {p_ : Nat} : ∀ (r i : Nat) (u : KSt), u.1 ≤ (lp (kStep g n y p_) r i u).1 ∧ (lp (kStep g n y p_) r i u).1 ≤ u.1 + r
  | 0, _, u => ⟨Nat.le_refl _, Nat.le_refl _⟩
  | r + 1, i, u => by
    have h1 := kLp_le (g := g) (n := n) (y := y) (p_ := p_) r (i + 1) (kStep g n y p_ i u)
    have h2 := kStep_le (g := g) (n := n) (y := y) (p_ := p_) (i := i) u
    exact ⟨Nat.le_trans h2.1 h1.1, by show (lp (kStep g n y p_) r (i + 1) (kStep g n y p_ i u)).1 ≤ _; omega⟩
/-- the calls in their places -/
def kS (pl : Nat → Nat) (gc : Nat → Nat → Int32) (lo : Nat → Nat) (mm : Nat) : va_W := sg mm (fun i => [cK (pl i) (gc i 0) (lo i) (gc i 2) (gc i 3)])
def kV (gc : Nat → Nat → Int32) (lo : Nat → Nat) (i : Nat) : List Value := [.int (gc i 0), .ref (lo i), .int (gc i 2), .int (gc i 3)]
theorem els_congr {n : Nat} {pl pl' : Nat → Nat} (h : ∀ i, i < n → pl i = pl' i) : els n pl = els n pl' := by
  funext i
  unfold els
  by_cases c : i < n
  · rw [if_pos c, if_pos c, h i c]
  · rw [if_neg c, if_neg c]
theorem bA_congr {la qa dz : Nat} {md : Int32} {k : Nat → ClassId} {n : Nat} {pl pl' : Nat → Nat} (h : ∀ i, i < n → pl i = pl' i) : bA la qa dz md k n pl = bA la qa dz md k n pl' := by
  unfold bA lA
  rw [els_congr h]
theorem kS_push (pl : Nat → Nat) (gc : Nat → Nat → Int32) (lo : Nat → Nat) (mm q9 p_ : Nat) (pe sm : Int32) : kS (up pl mm q9) (up gc mm (kNew pe sm)) (up lo mm p_) (mm + 1) = kS pl gc lo mm ++ [(q9, .inr (1, [.int pe, .ref p_, .int sm, .int 0]))] := by
  unfold kS
  rw [sg_succ, up_eq, up_eq, up_eq, sg_congr (g := fun i => [cK (pl i) (gc i 0) (lo i) (gc i 2) (gc i 3)]) (fun i hi => by rw [up_ne pl _ (by omega), up_ne gc _ (by omega), up_ne lo _ (by omega)])]
  rfl
theorem kW_push (lc qc dz : Nat) (md : Int32) (k : Nat → ClassId) (pl : Nat → Nat) (gc : Nat → Nat → Int32) (lo : Nat → Nat) (mm q9 p_ : Nat) (pe sm : Int32) (x : Nat × va_E) :
    cn x (bA lc qc dz md k mm pl) + cn x (kS pl gc lo mm) + cn1 x (q9, .inr (1, [.int pe, .ref p_, .int sm, .int 0])) = cn x (bA lc qc dz md k mm (up pl mm q9)) + cn x (kS (up pl mm q9) (up gc mm (kNew pe sm)) (up lo mm p_) (mm + 1)) := by
  rw [kS_push, cn_app, cn_cons, cn_nil, bA_congr (pl' := up pl mm q9) (fun i hi => (up_ne pl q9 (by omega)).symm)]
  omega
theorem bA_at {la qa dz : Nat} {md : Int32} {k : Nat → ClassId} {n : Nat} {pl : Nat → Nat} {t : va_W} : (bA la qa dz md k n pl ++ t)[0]? = some (la, .inr (0, [.int md, .ref (if n = 0 then dz else qa), .int (nI n)])) := by
  unfold bA lO
  split <;> rfl
