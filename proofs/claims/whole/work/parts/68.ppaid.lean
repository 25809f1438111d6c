/-! ===== payments: the purse with one LOAN, one CALL ===== -/
section GP
variable {k : Nat → ClassId} {dz : Nat} {q : Nat → Nat → Nat} {n : Nat} {gt : Nat → Int64} {gn : Nat → Nat} {gr : Nat → Nat → Nat → Int32} {ga : Nat → Nat → Int32} {lost : Int32} {mm : Nat} {gc : Nat → Nat → Int32} {gl : Nat → Nat} {d1 d2 : Int32} {i j : Nat} {t : Nat → Nat} {u : FSt}
theorem sR_z (hj : j < n) (x : Nat × va_E) : cn x (sR q k n gn gr) = cn x [(q 2 j, .inl (k 0, 6, .inl (gr 2 j))), (q 3 j, .inl (k 0, 6, .inl (gr 3 j)))] + (cn x [(q 1 j, .inl (k 0, gn j, .inl (gr 1 j)))] + cn x (sgx n (fun i => eR q k gn gr i) j)) := by
  rw [sR_x hj, show cn x [(q 1 j, .inl (k 0, gn j, .inl (gr 1 j)))] = cn1 x (q 1 j, .inl (k 0, gn j, .inl (gr 1 j))) + 0 from by rw [cn_cons, cn_nil]]
  omega
theorem sgx_eR (f' : Nat → Int32) : sgx n (fun i => eR q k gn (up gr 3 (up (gr 3) j f')) i) j = sgx n (fun i => eR q k gn gr i) j := sgx_congr (fun i _ hi => by
  have e9 : up (gr 3) j f' i = gr 3 i := up_ne (gr 3) _ hi
  have e8 : eR q k gn (up gr 3 (up (gr 3) j f')) i = ([(q 1 i, .inl (k 0, gn i, .inl (gr 1 i))), (q 2 i, .inl (k 0, 6, .inl (gr 2 i))), (q 3 i, .inl (k 0, 6, .inl (up (gr 3) j f' i)))] : va_W) := rfl
  rw [e8, e9]
  rfl)
theorem sR_up (hj : j < n) (f' : Nat → Int32) (x : Nat × va_E) : cn x (sR q k n gn (up gr 3 (up (gr 3) j f'))) = cn x [(q 2 j, .inl (k 0, 6, .inl (gr 2 j))), (q 3 j, .inl (k 0, 6, .inl f'))] + (cn x [(q 1 j, .inl (k 0, gn j, .inl (gr 1 j)))] + cn x (sgx n (fun i => eR q k gn gr i) j)) := by
  have e1 := sR_z (q := q) (k := k) (gn := gn) (gr := up gr 3 (up (gr 3) j f')) hj x
  rw [sgx_eR] at e1
  rw [e1]
  show cn x [(q 2 j, .inl (k 0, 6, .inl (gr 2 j))), (q 3 j, .inl (k 0, 6, .inl (up (gr 3) j f' j)))] + _ = _
  rw [up_eq]
  rfl
theorem sK_x (hi : i < mm) (x : Nat × va_E) : cn x (sK q mm gc gl) = cn x [cK (q 4 i) (gc i 0) (q 0 (gl i)) (gc i 2) (gc i 3)] + cn x (sgx mm (fun i => [eK q gc gl i]) i) := sg_ext hi _ x
theorem sK_up (hi : i < mm) (pa : Int32) (x : Nat × va_E) : cn x (sK q mm (up gc i (up (gc i) 3 pa)) gl) = cn x [cK (q 4 i) (gc i 0) (q 0 (gl i)) (gc i 2) pa] + cn x (sgx mm (fun i => [eK q gc gl i]) i) := by
  have e1 := sK_x (q := q) (gl := gl) (gc := up gc i (up (gc i) 3 pa)) hi x
  rw [e1, up_eq, sgx_congr (g := fun i => [eK q gc gl i]) (fun j _ hj => by unfold eK; rw [up_ne gc _ hj])]
  rfl
/-- all but what a payment to LOAN j sees -/
def gxP (k : Nat → ClassId) (dz : Nat) (q : Nat → Nat → Nat) (n : Nat) (gt : Nat → Int64) (gn : Nat → Nat) (gr : Nat → Nat → Nat → Int32) (ga : Nat → Nat → Int32) (lost : Int32) (mm : Nat) (d1 d2 : Int32) (j : Nat) (ks : va_W) : va_W :=
  [gO q lost] ++ (bA (q 5 1) (q 5 3) dz d1 k n (q 0) ++ (bA (q 5 2) (q 5 4) dz d2 k mm (q 4) ++ (sgx n (fun i => [eL q ga gt i]) j ++ (ks ++ ([(q 1 j, .inl (k 0, gn j, .inl (gr 1 j)))] ++ sgx n (fun i => eR q k gn gr i) j)))))
theorem bP_x (hj : j < n) (x : Nat × va_E) : cn x (bF t k u ++ bG k dz q n gt gn gr ga lost mm gc gl d1 d2) = cn x ([] ++ (bFL t k (q 0 j) (ga j) (q 1 j) (q 2 j) (q 3 j) (gt j) (u, gr 2 j, gr 3 j) ++ gxP k dz q n gt gn gr ga lost mm d1 d2 j (sK q mm gc gl))) := by
  have e1 : cn x (sL q n ga gt) = cn x [cL (q 0 j) (ga j) (q 1 j) (q 2 j) (q 3 j) (gt j)] + cn x (sgx n (fun i => [eL q ga gt i]) j) := sg_ext hj _ x
  have e2 := sR_z (q := q) (k := k) (gn := gn) (gr := gr) hj x
  show _ = cn x ([] ++ ((bF t k u ++ ([cL (q 0 j) (ga j) (q 1 j) (q 2 j) (q 3 j) (gt j)] ++ [(q 2 j, .inl (k 0, 6, .inl (gr 2 j))), (q 3 j, .inl (k 0, 6, .inl (gr 3 j)))])) ++ gxP k dz q n gt gn gr ga lost mm d1 d2 j (sK q mm gc gl)))
  unfold bG gxP
  simp only [cn_app, cn_nil] at e1 e2 ⊢
  omega
theorem bP_y (hj : j < n) (u' : FSt) (F' f' : Nat → Int32) (x : Nat × va_E) : cn x ([] ++ (bFL t k (q 0 j) F' (q 1 j) (q 2 j) (q 3 j) (gt j) (u', gr 2 j, f') ++ gxP k dz q n gt gn gr ga lost mm d1 d2 j (sK q mm gc gl))) = cn x (bF t k u' ++ bG k dz q n gt gn (up gr 3 (up (gr 3) j f')) (up ga j F') lost mm gc gl d1 d2) := by
  have e1 := sL_up (q := q) (ga := ga) (gt := gt) hj F' x
  have e2 := sR_up (q := q) (k := k) (gn := gn) (gr := gr) hj f' x
  show cn x ([] ++ ((bF t k u' ++ ([cL (q 0 j) F' (q 1 j) (q 2 j) (q 3 j) (gt j)] ++ [(q 2 j, .inl (k 0, 6, .inl (gr 2 j))), (q 3 j, .inl (k 0, 6, .inl f'))])) ++ gxP k dz q n gt gn gr ga lost mm d1 d2 j (sK q mm gc gl))) = _
  unfold bG gxP
  simp only [cn_app, cn_nil] at e1 e2 ⊢
  omega
theorem bQ_x (hi : i < mm) (hj : gl i < n) (x : Nat × va_E) : cn x (bF t k u ++ bG k dz q n gt gn gr ga lost mm gc gl d1 d2) = cn x ([] ++ ((bFL t k (q 0 (gl i)) (ga (gl i)) (q 1 (gl i)) (q 2 (gl i)) (q 3 (gl i)) (gt (gl i)) (u, gr 2 (gl i), gr 3 (gl i)) ++ [cK (q 4 i) (gc i 0) (q 0 (gl i)) (gc i 2) (gc i 3)]) ++ gxP k dz q n gt gn gr ga lost mm d1 d2 (gl i) (sgx mm (fun i => [eK q gc gl i]) i))) := by
  have e0 := bP_x (t := t) (u := u) (k := k) (dz := dz) (q := q) (gt := gt) (gn := gn) (gr := gr) (ga := ga) (lost := lost) (mm := mm) (gc := gc) (gl := gl) (d1 := d1) (d2 := d2) hj x
  have e1 := sK_x (q := q) (gl := gl) (gc := gc) hi x
  rw [e0]
  unfold gxP
  simp only [cn_app, cn_nil] at e1 ⊢
  omega
theorem bQ_y (hi : i < mm) (hj : gl i < n) (u' : FSt) (F' f' : Nat → Int32) (pa : Int32) (x : Nat × va_E) : cn x ([] ++ ((bFL t k (q 0 (gl i)) F' (q 1 (gl i)) (q 2 (gl i)) (q 3 (gl i)) (gt (gl i)) (u', gr 2 (gl i), f') ++ [cK (q 4 i) (gc i 0) (q 0 (gl i)) (gc i 2) pa]) ++ gxP k dz q n gt gn gr ga lost mm d1 d2 (gl i) (sgx mm (fun i => [eK q gc gl i]) i))) = cn x (bF t k u' ++ bG k dz q n gt gn (up gr 3 (up (gr 3) (gl i) f')) (up ga (gl i) F') lost mm (up gc i (up (gc i) 3 pa)) gl d1 d2) := by
  have e0 := bP_y (t := t) (k := k) (dz := dz) (q := q) (gt := gt) (gn := gn) (gr := gr) (ga := ga) (lost := lost) (mm := mm) (gc := up gc i (up (gc i) 3 pa)) (gl := gl) (d1 := d1) (d2 := d2) hj u' F' f' x
  have e1 := sK_up (q := q) (gl := gl) (gc := gc) hi pa x
  rw [← e0]
  unfold gxP
  simp only [cn_app, cn_nil] at e1 ⊢
  omega
end GP
/-- a payment: (what is left of it, the funds' arrays, the loans' ints, the rows, the calls' ints) -/
abbrev TPS : Type := Int32 × (Nat → Nat → Int32) × (Nat → Nat → Int32) × (Nat → Nat → Nat → Int32) × (Nat → Nat → Int32)
def tpK (gl : Nat → Nat) (i : Nat) (u : TPS) : Int32 × PLS × Int32 := pkAll (u.2.2.1 (gl i)) u.1 (u.2.2.2.2 i 2) (u.2.2.2.2 i 3) (u.2.1 1) (u.2.2.2.1 3 (gl i))
def tpStep (x : Int32) (gl : Nat → Nat) (i : Nat) (u : TPS) : TPS := if u.2.2.2.2 i 0 = x then (u.1 - (tpK gl i u).1, up u.2.1 1 (tpK gl i u).2.1.2.1, up u.2.2.1 (gl i) (tpK gl i u).2.1.1, up u.2.2.2.1 3 (up (u.2.2.2.1 3) (gl i) (tpK gl i u).2.1.2.2), up u.2.2.2.2 i (up (u.2.2.2.2 i) 3 (tpK gl i u).2.2)) else u
def tpL (j : Nat) (u : TPS) : PLS := plAll (u.2.2.1 j) u.1 (u.2.1 1) (u.2.2.2.1 3 j)
def tpLoan (j : Nat) (u : TPS) : TPS := (u.1, up u.2.1 1 (tpL j u).2.1, up u.2.2.1 j (tpL j u).1, up u.2.2.2.1 3 (up (u.2.2.2.1 3) j (tpL j u).2.2), u.2.2.2.2)
def tpEnd (x : Int32) (n : Nat) (u : TPS) : TPS := match fOpen (col u.2.2.1 1) (col u.2.2.1 16) x n with | none => u | some j => tpLoan j u
def tpAll (x : Int32) (n mm : Nat) (gl : Nat → Nat) (u : TPS) : TPS := tpEnd x n (lp (tpStep x gl) mm 0 u)
