/-! ===== the ledger, one LOAN taken out and put back ===== -/
theorem kLp_map {g : Nat → Int32} {n : Nat} {y : Int32} (f : Nat → Nat) (p : Nat) : ∀ (r i : Nat) (m : Nat) (gc : Nat → Nat → Int32) (lo : Nat → Nat), lp (kStep g n y (f p)) r i (m, gc, fun j => f (lo j)) = ((lp (kStep g n y p) r i (m, gc, lo)).1, (lp (kStep g n y p) r i (m, gc, lo)).2.1, fun j => f ((lp (kStep g n y p) r i (m, gc, lo)).2.2 j))
  | 0, _, _, _, _ => rfl
  | r + 1, i, m, gc, lo => by
    show lp (kStep g n y (f p)) r (i + 1) (kStep g n y (f p) i (m, gc, fun j => f (lo j))) = ((lp (kStep g n y p) r (i + 1) (kStep g n y p i (m, gc, lo))).1, (lp (kStep g n y p) r (i + 1) (kStep g n y p i (m, gc, lo))).2.1, fun j => f ((lp (kStep g n y p) r (i + 1) (kStep g n y p i (m, gc, lo))).2.2 j))
    by_cases c : lateV n y i ≤ 0
    · rw [show kStep g n y (f p) i (m, gc, fun j => f (lo j)) = (m, gc, fun j => f (lo j)) from if_pos c, show kStep g n y p i (m, gc, lo) = (m, gc, lo) from if_pos c]
      exact kLp_map f p r (i + 1) m gc lo
    · rw [show kStep g n y (f p) i (m, gc, fun j => f (lo j)) = (m + 1, up gc m (kNew (g i) (lateV n y i)), up (fun j => f (lo j)) m (f p)) from if_neg c, show kStep g n y p i (m, gc, lo) = (m + 1, up gc m (kNew (g i) (lateV n y i)), up lo m p) from if_neg c]
      rw [show up (fun j => f (lo j)) m (f p) = fun j => f (up lo m p j) from funext (fun j => by rw [up_if, up_if]; split <;> rfl)]
      exact kLp_map f p r (i + 1) (m + 1) _ _
theorem kAll_map {g : Nat → Int32} {n : Nat} {y : Int32} (f : Nat → Nat) (p : Nat) (m : Nat) (gc : Nat → Nat → Int32) (lo : Nat → Nat) : kAll g n y (f p) (m, gc, fun j => f (lo j)) = ((kAll g n y p (m, gc, lo)).1, (kAll g n y p (m, gc, lo)).2.1, fun j => f ((kAll g n y p (m, gc, lo)).2.2 j)) := kLp_map f p n 0 m gc lo
/-- (the loans' ints, lost, the calls) -/
abbrev EWS : Type := (Nat → Nat → Int32) × Int32 × KSt
def ewLate (x : Int32) (j : Nat) (ga : Nat → Nat → Int32) : Nat → Nat → Int32 := up ga j (cLate (ga j) x).2
def ewCall (gn : Nat → Nat) (g1 : Nat → Nat → Int32) (j : Nat) (u : EWS) : EWS := (up u.1 j (up (u.1 j) 16 2), (if gn j = 0 then u.2.1 + cRest (u.1 j) else u.2.1), kAll (g1 j) (gn j) (cRest (u.1 j)) j u.2.2)
def ewStep (x : Int32) (gn : Nat → Nat) (g1 : Nat → Nat → Int32) (j : Nat) (u : EWS) : EWS :=
  if u.1 j 16 = 0 then (if x ≤ u.1 j 3 then u else if (cLate (u.1 j) x).1 = 0 then (ewLate x j u.1, u.2) else ewCall gn g1 j (ewLate x j u.1, u.2)) else u
def ewAll (x : Int32) (n : Nat) (gn : Nat → Nat) (g1 : Nat → Nat → Int32) (u : EWS) : EWS := lp (ewStep x gn g1) n 0 u
theorem ewStep_le {x : Int32} {gn : Nat → Nat} {g1 : Nat → Nat → Int32} {j : Nat} (u : EWS) : u.2.2.1 ≤ (ewStep x gn g1 j u).2.2.1 ∧ (ewStep x gn g1 j u).2.2.1 ≤ u.2.2.1 + gn j := by
  unfold ewStep
  split
  · split
    · exact ⟨Nat.le_refl _, Nat.le_add_right _ _⟩
    · split
      · exact ⟨Nat.le_refl _, Nat.le_add_right _ _⟩
      · exact kLp_le (gn j) 0 u.2.2
  · exact ⟨Nat.le_refl _, Nat.le_add_right _ _⟩
theorem ewLp_le {x : Int32} {gn : Nat → Nat} {g1 : Nat → Nat → Int32} : ∀ (r i : Nat) (u : EWS), u.2.2.1 ≤ (lp (ewStep x gn g1) r i u).2.2.1
  | 0, _, _ => Nat.le_refl _
  | r + 1, i, u => Nat.le_trans (ewStep_le u).1 (ewLp_le r (i + 1) (ewStep x gn g1 i u))
section GX
variable {k : Nat → ClassId} {dz : Nat} {q : Nat → Nat → Nat} {n : Nat} {gt : Nat → Int64} {gn : Nat → Nat} {gr : Nat → Nat → Nat → Int32} {ga : Nat → Nat → Int32} {lost : Int32} {mm : Nat} {gc : Nat → Nat → Int32} {gl : Nat → Nat} {d1 d2 : Int32} {i : Nat}
/-- all but LOAN i's own cell -/
def gxL (k : Nat → ClassId) (dz : Nat) (q : Nat → Nat → Nat) (n : Nat) (gt : Nat → Int64) (gn : Nat → Nat) (gr : Nat → Nat → Nat → Int32) (ga : Nat → Nat → Int32) (lost : Int32) (mm : Nat) (gc : Nat → Nat → Int32) (gl : Nat → Nat) (d1 d2 : Int32) (i : Nat) : va_W :=
  [gO q lost] ++ (bA (q 5 1) (q 5 3) dz d1 k n (q 0) ++ (bA (q 5 2) (q 5 4) dz d2 k mm (q 4) ++ (sgx n (fun i => [eL q ga gt i]) i ++ (sK q mm gc gl ++ sR q k n gn gr))))
theorem bG_xL (hi : i < n) (x : Nat × va_E) : cn x (bG k dz q n gt gn gr ga lost mm gc gl d1 d2) = cn x ([] ++ ([cL (q 0 i) (ga i) (q 1 i) (q 2 i) (q 3 i) (gt i)] ++ gxL k dz q n gt gn gr ga lost mm gc gl d1 d2 i)) := by
  have e1 : cn x (sL q n ga gt) = cn x [cL (q 0 i) (ga i) (q 1 i) (q 2 i) (q 3 i) (gt i)] + cn x (sgx n (fun i => [eL q ga gt i]) i) := sg_ext hi _ x
  unfold bG gxL
  simp only [cn_app, cn_nil]
  rw [e1]
  omega
theorem sgx_eL (F' : Nat → Int32) : sgx n (fun j => [eL q (up ga i F') gt j]) i = sgx n (fun j => [eL q ga gt j]) i := sgx_congr (fun j _ hj => by unfold eL; rw [up_ne ga _ hj])
theorem sL_up (hi : i < n) (F' : Nat → Int32) (x : Nat × va_E) : cn x (sL q n (up ga i F') gt) = cn x [cL (q 0 i) F' (q 1 i) (q 2 i) (q 3 i) (gt i)] + cn x (sgx n (fun i => [eL q ga gt i]) i) := by
  have e1 : cn x (sL q n (up ga i F') gt) = cn x [cL (q 0 i) (up ga i F' i) (q 1 i) (q 2 i) (q 3 i) (gt i)] + cn x (sgx n (fun j => [eL q (up ga i F') gt j]) i) := sg_ext hi _ x
  rw [e1, up_eq, sgx_eL]
theorem bG_yL (hi : i < n) (F' : Nat → Int32) (x : Nat × va_E) : cn x ([] ++ ([cL (q 0 i) F' (q 1 i) (q 2 i) (q 3 i) (gt i)] ++ gxL k dz q n gt gn gr ga lost mm gc gl d1 d2 i)) = cn x (bG k dz q n gt gn gr (up ga i F') lost mm gc gl d1 d2) := by
  have e1 := sL_up (q := q) (ga := ga) (gt := gt) hi F' x
  unfold bG gxL
  simp only [cn_app, cn_nil]
  rw [e1]
  omega
/-- all but what callIn sees -/
def gxC (k : Nat → ClassId) (dz : Nat) (q : Nat → Nat → Nat) (n : Nat) (gt : Nat → Int64) (gn : Nat → Nat) (gr : Nat → Nat → Nat → Int32) (ga : Nat → Nat → Int32) (d1 : Int32) (i : Nat) : va_W :=
  bA (q 5 1) (q 5 3) dz d1 k n (q 0) ++ (sgx n (fun i => [eL q ga gt i]) i ++ ([(q 2 i, .inl (k 0, 6, .inl (gr 2 i))), (q 3 i, .inl (k 0, 6, .inl (gr 3 i)))] ++ sgx n (fun i => eR q k gn gr i) i))
theorem sR_x (hi : i < n) (x : Nat × va_E) : cn x (sR q k n gn gr) = cn1 x (q 1 i, .inl (k 0, gn i, .inl (gr 1 i))) + (cn x [(q 2 i, .inl (k 0, 6, .inl (gr 2 i))), (q 3 i, .inl (k 0, 6, .inl (gr 3 i)))] + cn x (sgx n (fun i => eR q k gn gr i) i)) := by
  have e1 : cn x (sR q k n gn gr) = cn x (eR q k gn gr i) + cn x (sgx n (fun i => eR q k gn gr i) i) := sg_ext hi _ x
  rw [e1]
  unfold eR
  rw [cn_cons]
  omega
theorem bG_xC (hi : i < n) (x : Nat × va_E) : cn x (bG k dz q n gt gn gr ga lost mm gc gl d1 d2) = cn x ([] ++ (([(q 5 0, .inr (3, [.ref (q 5 1), .ref (q 5 2), .int lost])), cL (q 0 i) (ga i) (q 1 i) (q 2 i) (q 3 i) (gt i), (q 1 i, .inl (k 0, gn i, .inl (gr 1 i)))] ++ (bA (q 5 2) (q 5 4) dz d2 k mm (q 4) ++ kS (q 4) gc (fun j => q 0 (gl j)) mm)) ++ gxC k dz q n gt gn gr ga d1 i)) := by
  have e1 : cn x (sL q n ga gt) = cn x [cL (q 0 i) (ga i) (q 1 i) (q 2 i) (q 3 i) (gt i)] + cn x (sgx n (fun i => [eL q ga gt i]) i) := sg_ext hi _ x
  have e2 := sR_x (q := q) (k := k) (gn := gn) (gr := gr) hi x
  show cn x ([(q 5 0, .inr (3, [.ref (q 5 1), .ref (q 5 2), .int lost]))] ++ (bA (q 5 1) (q 5 3) dz d1 k n (q 0) ++ (bA (q 5 2) (q 5 4) dz d2 k mm (q 4) ++ (sL q n ga gt ++ (kS (q 4) gc (fun j => q 0 (gl j)) mm ++ sR q k n gn gr))))) = _
  unfold gxC
  simp only [cn_app, cn_cons, cn_nil] at e1 e2 ⊢
  omega
theorem bG_yC (hi : i < n) (F' : Nat → Int32) (lost' : Int32) (m' : Nat) (gc' : Nat → Nat → Int32) (gl' : Nat → Nat) (qc' : Nat) (pl' : Nat → Nat) (md' : Int32) (x : Nat × va_E) : cn x ([] ++ (([(q 5 0, .inr (3, [.ref (q 5 1), .ref (q 5 2), .int lost'])), cL (q 0 i) F' (q 1 i) (q 2 i) (q 3 i) (gt i), (q 1 i, .inl (k 0, gn i, .inl (gr 1 i)))] ++ (bA (q 5 2) qc' dz md' k m' pl' ++ kS pl' gc' (fun j => q 0 (gl' j)) m')) ++ gxC k dz q n gt gn gr ga d1 i)) = cn x (bG k dz (up (up q 4 pl') 5 (up (q 5) 4 qc')) n gt gn gr (up ga i F') lost' m' gc' gl' d1 md') := by
  have e1 := sL_up (q := q) (ga := ga) (gt := gt) hi F' x
  have e2 := sR_x (q := q) (k := k) (gn := gn) (gr := gr) hi x
  show _ = cn x ([(q 5 0, .inr (3, [.ref (q 5 1), .ref (q 5 2), .int lost']))] ++ (bA (q 5 1) (q 5 3) dz d1 k n (q 0) ++ (bA (q 5 2) qc' dz md' k m' pl' ++ (sL q n (up ga i F') gt ++ (kS pl' gc' (fun j => q 0 (gl' j)) m' ++ sR q k n gn gr)))))
  unfold gxC
  simp only [cn_app, cn_cons, cn_nil] at e1 e2 ⊢
  omega
end GX
