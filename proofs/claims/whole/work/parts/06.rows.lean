/-! ===== rows of our own beside the kit's: indices as naturals, tops rewritten ===== -/
def up {α : Type} (f : Nat → α) (k : Nat) (x : α) : Nat → α := fun j => cond (Nat.beq j k) x (f j)
theorem up_eq {α : Type} (f : Nat → α) (k : Nat) (x : α) : up f k x k = x := by simp [up]
theorem up_ne {α : Type} (f : Nat → α) {k j : Nat} (x : α) (h : j ≠ k) : up f k x j = f j := by
  unfold up
  cases hb : Nat.beq j k
  · rfl
  · exact absurd (Nat.eq_of_beq_eq_true hb) h
theorem up_same {α : Type} (f : Nat → α) (k : Nat) : up f k (f k) = f := by
  funext j
  by_cases h : j = k
  · subst h; exact up_eq _ _ _
  · exact up_ne _ _ h
theorem up_up {α : Type} (f : Nat → α) (k : Nat) (x y : α) : up (up f k x) k y = up f k y := by
  funext j
  by_cases h : j = k
  · subst h; rw [up_eq, up_eq]
  · rw [up_ne _ _ h, up_ne _ _ h, up_ne _ _ h]
theorem up_if {α : Type} (f : Nat → α) (k : Nat) (x : α) (j : Nat) : up f k x j = if j = k then x else f j := by
  by_cases h : j = k
  · subst h; rw [up_eq, if_pos rfl]
  · rw [up_ne _ _ h, if_neg h]
theorem upd_eq (f : Nat → Int32) (k : Nat) (x : Int32) : upd f k x k = x := by simp [upd]
theorem upd_ne (f : Nat → Int32) {k j : Nat} (x : Int32) (h : j ≠ k) : upd f k x j = f j := by simp [upd, h]
section ROWS
variable {p : Program} {l : Launch} {e : Env} {R : Room} {s : State} {m : MethodId} {args : Array Value} {below : List Frame} {meth : Method} {c : Code} {H H0 : Heap} {locs : List Loc} {cells slots : Nat} {Q : State → Prop} {cc : ByteArray} {pc : Nat} {ls : Array Slot} {rest : List Value} {D : va_G} {cl : List vw_C} {tys : TyL} {A : Nat → Prop} {ws : va_W} {a : Nat}
theorem rw_topi {x y : Int32} (h : x = y) (k : W p l e R s m args below meth c H locs cells slots Q (F0 m pc ls (.int y :: rest))) : W p l e R s m args below meth c H locs cells slots Q (F0 m pc ls (.int x :: rest)) := by rw [h]; exact k
theorem rw_topl {x y : Int64} (h : x = y) (k : W p l e R s m args below meth c H locs cells slots Q (F0 m pc ls (.long y :: rest))) : W p l e R s m args below meth c H locs cells slots Q (F0 m pc ls (.long x :: rest)) := by rw [h]; exact k
theorem rw_topv {x y : Value} (h : x = y) (k : W p l e R s m args below meth c H locs cells slots Q (F0 m pc ls (y :: rest))) : W p l e R s m args below meth c H locs cells slots Q (F0 m pc ls (x :: rest)) := by rw [h]; exact k
theorem ra_iald (hexec : p.tables.exec = Jvm.exec) (hb : c.code = cc) (hK : va_K D cl tys s) (hP : va_P D cl ws H) (q0 t0 : Nat) {cA : ClassId} {n : Nat} {f : Nat → Int32} (ha : ws[q0]? = some (a, .inl (cA, n, .inl f))) (ht : tys[t0]? = some (cA, .int)) {i : Int32} (j : Nat) (hi : i = nI j) (hj : j < n) (hn : n < 2 ^ 31) (hdg : decode cc pc = .ok (.iaload, 1))
    (kk : W p l e R s m args below meth c H locs cells slots Q (F0 m (pc + 1) ls (.int (f j) :: rest))) : W p l e R s m args below meth c H locs cells slots Q (F0 m pc ls (.int i :: .ref a :: rest)) := by
  subst hi
  refine va_iald hexec hb hK hP q0 t0 ha ht (vp_in_nI hj hn) hdg ?_
  rw [nI_clamp (Nat.lt_trans hj hn)]
  exact kk
theorem ra_zald (hexec : p.tables.exec = Jvm.exec) (hb : c.code = cc) (hK : va_K D cl tys s) (hP : va_P D cl ws H) (q0 t0 : Nat) {cA : ClassId} {n : Nat} {f : Nat → Int32} (ha : ws[q0]? = some (a, .inl (cA, n, .inl f))) (ht : tys[t0]? = some (cA, .boolean)) {i : Int32} (j : Nat) (hi : i = nI j) (hj : j < n) (hn : n < 2 ^ 31) (hdg : decode cc pc = .ok (.baload, 1))
    (kk : W p l e R s m args below meth c H locs cells slots Q (F0 m (pc + 1) ls (.int (f j) :: rest))) : W p l e R s m args below meth c H locs cells slots Q (F0 m pc ls (.int i :: .ref a :: rest)) := by
  subst hi
  refine va_zald hexec hb hK hP q0 t0 ha ht (vp_in_nI hj hn) hdg ?_
  rw [nI_clamp (Nat.lt_trans hj hn)]
  exact kk
theorem ra_iast (hexec : p.tables.exec = Jvm.exec) (hb : c.code = cc) (hK : va_K D cl tys s) (hP : va_P D cl ws H) (hD : va_D A ws) (hS : va_S A H0 H locs) (q0 t0 : Nat) {cA : ClassId} {n : Nat} {f : Nat → Int32} (ha : ws[q0]? = some (a, .inl (cA, n, .inl f))) (ht : tys[t0]? = some (cA, .int)) {i : Int32} {x : Int32} (j : Nat) (hi : i = nI j) (hj : j < n) (hn : n < 2 ^ 31) (hdg : decode cc pc = .ok (.iastore, 1))
    (kk : ∀ (H1 : Heap) (locs1 : List Loc), va_P D cl (ws.set q0 (a, .inl (cA, n, .inl (upd f j x)))) H1 → va_D A (ws.set q0 (a, .inl (cA, n, .inl (upd f j x)))) → va_S A H0 H1 locs1 → W p l e R s m args below meth c H1 locs1 cells slots Q (F0 m (pc + 1) ls rest)) : W p l e R s m args below meth c H locs cells slots Q (F0 m pc ls (.int x :: .int i :: .ref a :: rest)) := by
  subst hi
  refine va_iast hexec hb hK hP hD hS q0 t0 ha ht (vp_in_nI hj hn) hdg ?_
  rw [nI_clamp (Nat.lt_trans hj hn)]
  exact kk
theorem ra_zast (hexec : p.tables.exec = Jvm.exec) (hb : c.code = cc) (hK : va_K D cl tys s) (hP : va_P D cl ws H) (hD : va_D A ws) (hS : va_S A H0 H locs) (q0 t0 : Nat) {cA : ClassId} {n : Nat} {f : Nat → Int32} (ha : ws[q0]? = some (a, .inl (cA, n, .inl f))) (ht : tys[t0]? = some (cA, .boolean)) {i : Int32} {x : Int32} (j : Nat) (hi : i = nI j) (hj : j < n) (hn : n < 2 ^ 31) (hx1 : vp_nar .boolean x = x) (hdg : decode cc pc = .ok (.bastore, 1))
    (kk : ∀ (H1 : Heap) (locs1 : List Loc), va_P D cl (ws.set q0 (a, .inl (cA, n, .inl (upd f j x)))) H1 → va_D A (ws.set q0 (a, .inl (cA, n, .inl (upd f j x)))) → va_S A H0 H1 locs1 → W p l e R s m args below meth c H1 locs1 cells slots Q (F0 m (pc + 1) ls rest)) : W p l e R s m args below meth c H locs cells slots Q (F0 m pc ls (.int x :: .int i :: .ref a :: rest)) := by
  subst hi
  refine va_zast hexec hb hK hP hD hS q0 t0 ha ht (vp_in_nI hj hn) hdg ?_
  rw [nI_clamp (Nat.lt_trans hj hn), hx1]
  exact kk
end ROWS
/-- which arm of a switch 0 .. n takes x; n + 1: none -/
def swN (x : Int32) (n : Nat) : Nat := if 0 ≤ x.toInt ∧ x.toInt ≤ n then x.toInt.toNat else n + 1
theorem sw_cases (x : Int32) (n : Nat) : (x.toInt < 0 ∨ (n : Int) < x.toInt) ∨ ∃ j : Nat, j ≤ n ∧ x = nI j := by
  by_cases h : x < 0
  · left; left; exact Int32.lt_iff_toInt_lt.mp h
  · obtain ⟨j, hj, rfl⟩ := nI_of h
    by_cases h2 : j ≤ n
    · right; exact ⟨j, h2, rfl⟩
    · left; right; rw [nI_toInt hj]; omega
theorem swN_out {x : Int32} {n : Nat} (h : x.toInt < 0 ∨ (n : Int) < x.toInt) : swN x n = n + 1 := by
  unfold swN; rw [if_neg (by omega)]
theorem swN_in {j n : Nat} (h : j ≤ n) (hn : n < 2 ^ 31) : swN (nI j) n = j := by
  unfold swN; rw [nI_toInt (by omega), if_pos (by omega)]; omega
section ROWS2
variable {p : Program} {l : Launch} {e : Env} {R : Room} {s : State} {m : MethodId} {args : Array Value} {below : List Frame} {meth : Method} {c : Code} {H H0 : Heap} {locs : List Loc} {cells slots : Nat} {Q : State → Prop}
  {cc bytes : ByteArray} {nL maxL index n mc ms d pc : Nat} {own C : String} {y : MethodName} {ret : Option FieldType} {b : Addr} {As rest st0 st1 : List Value} {ls : Array Slot} {D : va_G} {tys : TyL} {G : Gr} {A : Nat → Prop} {ws : va_W}
theorem fs_Vw {S0 : Type} {val : S0 → Option Value} {post : S0 → Prop} {B : S0 → va_W} (S : CallFix p m c cc nL s args BW own) (gd : Gd G) (hG : G A s s.heap) (hS : va_S A s.heap H locs) (hA : ∀ q, s.heap.size ≤ q → A q) (hK : va_K D vwCl tys s) (hP : va_P D vwCl ws H) (hD : va_D A ws) (hM : Fs l y bytes maxL ret d mc ms D tys G (.ref b :: As) ws val post B) (mi : MI C y bytes maxL ret n) (hin : Cond.instanceMethod y ∈ BW) (hse : Cond.selects C y y ∈ BW) (hl : Cond.methodLink own index y ∈ BW) (hR : d + 1 ≤ R.frames ∧ 8 + (maxL + 11) + 30 * d ≤ R.locals)
    (q0 : Nat) {ci : Nat} {fs : List Value} {T : u_T} {N : Nat} (he : ws[q0]? = some (b, .inr (ci, fs))) (hc : vwCl[ci]? = some (C, T, N)) (hn : As.length = n) (hsize : ls.size = nL) (h0 : st0 = As.reverse ++ .ref b :: rest) (hW : (rest.map fun v => v.category).sum ≤ 8) (hcs : cells + mc ≤ R.cells ∧ slots + ms ≤ R.slots) (hdg : decode cc pc = .ok (.invokevirtual index, 3))
    (kk : ∀ (u : S0) (H1 : Heap) (locs1 : List Loc), post u → va_P D vwCl (B u) H1 → va_D A (B u) → va_S A s.heap H1 locs1 → W p l e R s m args below meth c H1 locs1 (cells + mc) (slots + ms) Q (F0 m (pc + 3) ls ((val u).toList ++ rest))) : W p l e R s m args below meth c H locs cells slots Q (F0 m pc ls st0) := by
  have ea : ∀ w : va_W, ([] : va_W) ++ (w ++ []) = w := fun w => by simp
  refine fs_Vf [] [] S gd hG hS hA hK (by rw [ea]; exact hP) (by rw [ea]; exact hD) hM mi hin hse hl hR q0 he hc hn hsize h0 hW hcs hdg (fun u H1 locs1 hu hP1 hD1 hS1 => ?_)
  rw [ea] at hP1 hD1
  exact kk u H1 locs1 hu hP1 hD1 hS1
theorem fs_Sw {S0 : Type} {val : S0 → Option Value} {post : S0 → Prop} {B : S0 → va_W} (S : CallFix p m c cc nL s args BW own) (gd : Gd G) (hG : G A s s.heap) (hS : va_S A s.heap H locs) (hA : ∀ q, s.heap.size ≤ q → A q) (hK : va_K D vwCl tys s) (hP : va_P D vwCl ws H) (hD : va_D A ws) (hM : Fs l y bytes maxL ret d mc ms D tys G As ws val post B) (mi : MI C y bytes maxL ret n) (hst : Cond.static y ∈ BW) (hl : Cond.methodLink own index y ∈ BW) (hR : d + 1 ≤ R.frames ∧ 8 + (maxL + 11) + 30 * d ≤ R.locals)
    (hn : As.length = n) (hsize : ls.size = nL) (h0 : st0 = As.reverse ++ rest) (hW : (rest.map fun v => v.category).sum ≤ 8) (hcs : cells + mc ≤ R.cells ∧ slots + ms ≤ R.slots) (hdg : decode cc pc = .ok (.invokestatic index, 3))
    (kk : ∀ (u : S0) (H1 : Heap) (locs1 : List Loc), post u → va_P D vwCl (B u) H1 → va_D A (B u) → va_S A s.heap H1 locs1 → W p l e R s m args below meth c H1 locs1 (cells + mc) (slots + ms) Q (F0 m (pc + 3) ls ((val u).toList ++ rest))) : W p l e R s m args below meth c H locs cells slots Q (F0 m pc ls st0) := by
  have ea : ∀ w : va_W, ([] : va_W) ++ (w ++ []) = w := fun w => by simp
  refine fs_Sf [] [] S gd hG hS hA hK (by rw [ea]; exact hP) (by rw [ea]; exact hD) hM mi hst hl hR hn hsize h0 hW hcs hdg (fun u H1 locs1 hu hP1 hD1 hS1 => ?_)
  rw [ea] at hP1 hD1
  exact kk u H1 locs1 hu hP1 hD1 hS1
end ROWS2
def bI (b : Bool) : Int32 := cond b 1 0
theorem bI_0 {b : Bool} : bI b = 0 ↔ b = false := by cases b <;> simp [bI]
theorem bI_n {b : Bool} : ¬ bI b = 0 ↔ b = true := by cases b <;> simp [bI]
theorem bI_nar (b : Bool) : narrow .boolean (.int (bI b)) = .int (bI b) := by cases b <;> rfl
/-- x is one of 0 .. n - 1 -/
def isIn (x : Int32) (n : Nat) : Bool := !decide (x < 0) && !decide (nI n ≤ x)
theorem nI_self {x : Int32} (h : ¬ x < 0) : x = nI x.toNatClampNeg := by
  obtain ⟨j, hj, rfl⟩ := nI_of h
  rw [nI_clamp hj]
theorem isIn_spec {x : Int32} {n : Nat} (h : isIn x n = true) (hn : n < 2 ^ 31) : x = nI x.toNatClampNeg ∧ x.toNatClampNeg < n := by
  simp only [isIn, Bool.and_eq_true, Bool.not_eq_true', decide_eq_false_iff_not] at h
  obtain ⟨j, hj, rfl⟩ := nI_of h.1
  rw [nI_clamp hj]
  refine ⟨rfl, ?_⟩
  rcases Nat.lt_or_ge j n with q | q
  · exact q
  · exact absurd (nI_le q hj) h.2
theorem isIn_nI {j n : Nat} (h : j < n) (hn : n < 2 ^ 31) : isIn (nI j) n = true := by
  simp only [isIn, Bool.and_eq_true, Bool.not_eq_true', decide_eq_false_iff_not]
  exact ⟨nI_pos (by omega), nI_ge h hn⟩
/-- 'none' as -1 -/
def oI (o : Option Nat) : Int32 := match o with | none => -1 | some i => nI i
/-- a counted loop: r rounds from i on -/
def lp {σ : Type} (f : Nat → σ → σ) : Nat → Nat → σ → σ
  | 0, _, s => s
  | r + 1, i, s => lp f r (i + 1) (f i s)
/-- a search: the first of r from i on -/
def fnd (P : Nat → Bool) : Nat → Nat → Option Nat
  | 0, _ => none
  | r + 1, i => if P i = true then some i else fnd P r (i + 1)
theorem fnd_lt {P : Nat → Bool} : ∀ {r i j : Nat}, fnd P r i = some j → i ≤ j ∧ j < i + r ∧ P j = true
  | 0, i, j, h => by cases h
  | r + 1, i, j, h => by
    unfold fnd at h
    by_cases hp : P i = true
    · rw [if_pos hp] at h
      cases h
      exact ⟨Nat.le_refl _, by omega, hp⟩
    · rw [if_neg hp] at h
      have := fnd_lt h
      exact ⟨by omega, by omega, this.2.2⟩
theorem oI_none {o : Option Nat} (h : oI o = -1) (hb : ∀ j, o = some j → j < 2 ^ 31) : o = none := by
  cases o with
  | none => rfl
  | some j =>
    have h1 : (nI j).toInt = (-1 : Int32).toInt := congrArg Int32.toInt h
    rw [nI_toInt (hb j rfl)] at h1
    have h2 : (-1 : Int32).toInt = -1 := by decide
    omega
theorem oI_some {o : Option Nat} (h : ¬ oI o = -1) : ∃ j, o = some j ∧ oI o = nI j := by
  cases o with
  | none => exact absurd rfl h
  | some j => exact ⟨j, rfl, rfl⟩
theorem clamp_lt {y : Int32} {n : Nat} (h0 : ¬ y < 0) (h : y < nI n) (hn : n < 2 ^ 31) : y.toNatClampNeg < n := by
  obtain ⟨j, hj, rfl⟩ := nI_of h0
  rw [nI_clamp hj]
  exact (nI_ltI hj hn).mp h
theorem clamp_le {y : Int32} {n : Nat} (h0 : ¬ y < 0) (h : y ≤ nI n) (hn : n < 2 ^ 31) : y.toNatClampNeg ≤ n := by
  obtain ⟨j, hj, rfl⟩ := nI_of h0
  rw [nI_clamp hj]
  exact (nI_leI hj hn).mp h
theorem toInt_lt0 {y : Int32} (h : ¬ y < 0) : 0 ≤ y.toInt := by
  obtain ⟨j, hj, rfl⟩ := nI_of h
  rw [nI_toInt hj]; omega
theorem toInt_le_nI {y : Int32} {n : Nat} (h : y ≤ nI n) (hn : n < 2 ^ 31) : y.toInt ≤ n := by
  have := Int32.le_iff_toInt_le.mp h
  rwa [nI_toInt hn] at this
