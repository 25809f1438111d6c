/-! ===== what class and reference ask of their states, out of Rel; the contracts over whole states ===== -/
def XB (u : CSt) : Prop := u.np ≤ 40 ∧ u.wk ≤ 400 ∧ u.T.1 ≤ 320 ∧ u.F.1 ≤ 6 ∧ 1 ≤ u.F.1 ∧ u.n ≤ 100 ∧ u.mm ≤ 300 ∧ (∀ i, i < u.mm → u.gl i < u.n) ∧ (∀ i, i < u.n → u.gn i ≤ 3)
def MB (sn : Nat → Nat) (w : MSt) : Prop := w.1 2 ≤ 320 ∧ w.1 21 ≤ 40 ∧ 1 ≤ w.1 22 ∧ w.1 22 ≤ 6 ∧ w.1 23 ≤ 400 ∧ w.1 42 ≤ 100 ∧ w.1 46 ≤ 300 ∧ (∀ k, k < w.1 42 → w.2.2.2 39 k = nI (sn k) ∧ sn k ≤ 3) ∧ (∀ k, k < w.1 42 → isIn (w.2.2.2 26 k) 40 = true) ∧ (∀ k i, k < w.1 42 → i < sn k → isIn (w.2.2.2 40 (3 * k + i)) 40 = true) ∧ NI (w.1 42) (w.1 23) sn w ∧ (∀ i, i < w.1 46 → isIn (w.2.2.2 44 i) 100 = true) ∧ (∀ t, t ≤ 320 → nI t = w.2.2.2 3 2 → t ≤ 3)
section BNDS
variable {N : Nat} {u : CSt} {v : MSt} {g : GH}
theorem Rel.mm3 (h : Rel N u v g) : u.mm ≤ 300 := by
  have h1 := h.2.2.2.2.2.1.2.1
  have h2 := ncl_le (v.2.2.2 37) u.n
  have h3 := h.2.2.2.2.1.2.1
  omega
theorem Rel.xb (h : Rel N u v g) : XB u :=
  ⟨h.2.2.1.2.1, h.2.2.1.2.2.2.1, h.1.2.1, h.2.2.2.1.2.2.1, h.2.2.2.1.2.1, h.2.2.2.2.1.2.1, h.mm3, fun i hi => (h.2.2.2.2.2.1.2.2 i hi).2.2.1, fun i hi => (h.2.2.2.2.1.2.2.2 i hi).2.2.2.1⟩
theorem Rel.mb (h : Rel N u v g) : MB u.gn v := by
  have hmm := h.mm3
  obtain ⟨⟨t1, t2, t3⟩, ⟨v1, v2, -⟩, ⟨p1, p2, p3, p4, -⟩, ⟨f1, f2, f3, -⟩, ⟨n1, n2, -, hL⟩, ⟨m1, m2, hK⟩, -⟩ := h
  have hs : ∀ k, k < v.1 42 → v.2.2.2 39 k = nI (u.gn k) ∧ u.gn k ≤ 3 := fun k hk => ⟨(hL k (by omega)).2.2.1, (hL k (by omega)).2.2.2.1⟩
  refine ⟨by omega, by omega, by omega, by omega, by omega, by omega, by omega, hs, fun k hk => ?_, fun k i hk hi => ?_, ⟨rfl, rfl, by omega, ?_, hs, fun k hk z => ?_⟩, fun i hi => ?_, fun t ht e => ?_⟩
  · obtain ⟨l1, l2, l3, l4, l5, l6, l7, l8, l9, l10, l11⟩ := hL k (by omega)
    rw [← ls1 l1]
    exact isIn_up l9 p2 (by decide)
  · obtain ⟨l1, l2, l3, l4, l5, l6, l7, l8, l9, l10, l11⟩ := hL k (by omega)
    rw [← (l5 i hi).1]
    exact isIn_up (l5 i hi).2 p2 (by decide)
  · rw [← n1, ← m1]; exact m2
  · obtain ⟨l1, l2, l3, l4, l5, l6, l7, l8, l9, l10, l11⟩ := hL k (by omega)
    rw [ls6 l1, z] at l11
    exact absurd l11 (by decide)
  · obtain ⟨c1, c2, c3, c4⟩ := hK i (by omega)
    rw [c2]
    exact isIn_nI (by omega) (by decide)
  · rw [← v1 2 (by decide)] at e
    have h3 : nI t ≤ nI 3 := by rw [e]; exact (v2 2 (by decide)).2
    exact (nI_leI (by omega) (by decide)).mp h3
end BNDS
theorem cu_feed (l : Launch) (D : va_G) (k : Nat → ClassId) (dz : Nat) (q : Nat → Nat → Nat) (uu : CSt) (d1 d2 : Int32) (x y z w v : Int32) (hu : XB uu) : Fs (S := Int32 × (CSt)) l yX8_feed cX8_feed 6 (some .int) 1 0 0 D (TY k) G0 [.ref (q 6 0), .int x, .int y, .int z, .int w, .int v] (bX k dz q d1 d2 uu) (fun u => some (.int u.1)) (fun u => u = xFeed x y z w v uu) (fun u => bX k dz q d1 d2 u.2) := by
  obtain ⟨⟨np, wk, ft⟩, fV, ⟨fm, st, be, fk, rd, mt⟩, ⟨nT, fT⟩, ⟨nf, g, a⟩, n, gt, gn, gr, ga, lost, mm, gc, gl⟩ := uu
  obtain ⟨h1, h2, h3, h4, h5, h6, h7, h8, h9⟩ := hu
  exact c_X8_feed l D k dz q np wk ft fV fm st be fk rd mt nT fT nf g a n gt gn gr ga lost mm gc gl d1 d2 x y z w v h1 h2 h3 h4 h5 h6 (Nat.le_trans h7 (by decide))
theorem cu_end (l : Launch) (D : va_G) (k : Nat → ClassId) (dz : Nat) (q : Nat → Nat → Nat) (uu : CSt) (d1 d2 : Int32) (x : Int32) (hu : XB uu) : Fs (S := Int32 × (CSt)) l yX8_end cX8_end 2 (some .boolean) 1 0 0 D (TY k) G0 [.ref (q 6 0), .int x] (bX k dz q d1 d2 uu) (fun u => some (.int u.1)) (fun u => u = xEnd x uu) (fun u => bX k dz q d1 d2 u.2) := by
  obtain ⟨⟨np, wk, ft⟩, fV, ⟨fm, st, be, fk, rd, mt⟩, ⟨nT, fT⟩, ⟨nf, g, a⟩, n, gt, gn, gr, ga, lost, mm, gc, gl⟩ := uu
  obtain ⟨h1, h2, h3, h4, h5, h6, h7, h8, h9⟩ := hu
  exact c_X8_end l D k dz q np wk ft fV fm st be fk rd mt nT fT nf g a n gt gn gr ga lost mm gc gl d1 d2 x h1 h2 h3 h4 h5 h6 (Nat.le_trans h7 (by decide))
theorem cu_rules (l : Launch) (D : va_G) (k : Nat → ClassId) (kz : Nat) (ke sK sV : Nat → Nat) (dz mi : Nat) (q : Nat → Nat → Nat) (uu : CSt) (d1 d2 : Int32) (hu : XB uu) : Fs (S := Int32 × (CSt)) l yX8_rules cX8_rules 2 (some .int) 8 0 0 D (TY k) (GA kz ke sK sV dz mi) [.ref (q 6 0)] (bX k dz q d1 d2 uu) (fun u => some (.int u.1)) (fun u => u = xRules uu) (fun u => bX k dz q d1 d2 u.2) := by
  obtain ⟨⟨np, wk, ft⟩, fV, ⟨fm, st, be, fk, rd, mt⟩, ⟨nT, fT⟩, ⟨nf, g, a⟩, n, gt, gn, gr, ga, lost, mm, gc, gl⟩ := uu
  obtain ⟨h1, h2, h3, h4, h5, h6, h7, h8, h9⟩ := hu
  exact c_X8_rules l D k kz ke sK sV dz mi q np wk ft fV fm st be fk rd mt nT fT nf g a n gt gn gr ga lost mm gc gl d1 d2 h1 h2 h3 h4 h5 h6 (Nat.le_trans h7 (by decide))
theorem cu_fault (l : Launch) (D : va_G) (k : Nat → ClassId) (dz : Nat) (q : Nat → Nat → Nat) (uu : CSt) (d1 d2 : Int32) (hu : XB uu) : Ro l yX8_fault cX8_fault 1 (some .int) 1 D (TY k) G0 [.ref (q 6 0)] (bX k dz q d1 d2 uu) (some (.int uu.R.2.2.2.1)) := by
  obtain ⟨⟨np, wk, ft⟩, fV, ⟨fm, st, be, fk, rd, mt⟩, ⟨nT, fT⟩, ⟨nf, g, a⟩, n, gt, gn, gr, ga, lost, mm, gc, gl⟩ := uu
  obtain ⟨h1, h2, h3, h4, h5, h6, h7, h8, h9⟩ := hu
  exact c_X8_fault l D k dz q np wk ft fV fm st be fk rd mt nT fT nf g a n gt gn gr ga lost mm gc gl d1 d2 h1 h2 h3 h4 h5 h6 (Nat.le_trans h7 (by decide))
theorem cu_rule (l : Launch) (D : va_G) (k : Nat → ClassId) (kz : Nat) (ke sK sV : Nat → Nat) (dz mi : Nat) (q : Nat → Nat → Nat) (uu : CSt) (d1 d2 : Int32) (x : Int32) (hu : XB uu) : Ro l yX8_rule cX8_rule 2 (some .int) 1 D (TY k) (GA kz ke sK sV dz mi) [.ref (q 6 0), .int x] (bX k dz q d1 d2 uu) (some (.int (xRule x uu))) := by
  obtain ⟨⟨np, wk, ft⟩, fV, ⟨fm, st, be, fk, rd, mt⟩, ⟨nT, fT⟩, ⟨nf, g, a⟩, n, gt, gn, gr, ga, lost, mm, gc, gl⟩ := uu
  obtain ⟨h1, h2, h3, h4, h5, h6, h7, h8, h9⟩ := hu
  exact c_X8_rule l D k kz ke sK sV dz mi q np wk ft fV fm st be fk rd mt nT fT nf g a n gt gn gr ga lost mm gc gl d1 d2 x h1 h2 h3 h4 h5 h6 (Nat.le_trans h7 (by decide))
theorem cu_person (l : Launch) (D : va_G) (k : Nat → ClassId) (dz : Nat) (q : Nat → Nat → Nat) (uu : CSt) (d1 d2 : Int32) (x : Int32) (hu : XB uu) : Fs (S := Int32 × (CSt)) l yX8_person cX8_person 2 (some .int) 1 0 0 D (TY k) G0 [.ref (q 6 0), .int x] (bX k dz q d1 d2 uu) (fun u => some (.int u.1)) (fun u => u = xPerson x uu) (fun u => bX k dz q d1 d2 u.2) := by
  obtain ⟨⟨np, wk, ft⟩, fV, ⟨fm, st, be, fk, rd, mt⟩, ⟨nT, fT⟩, ⟨nf, g, a⟩, n, gt, gn, gr, ga, lost, mm, gc, gl⟩ := uu
  obtain ⟨h1, h2, h3, h4, h5, h6, h7, h8, h9⟩ := hu
  exact c_X8_person l D k dz q np wk ft fV fm st be fk rd mt nT fT nf g a n gt gn gr ga lost mm gc gl d1 d2 x h1 h2 h3 h4 h5 h6 (Nat.le_trans h7 (by decide))
theorem cu_tag (l : Launch) (D : va_G) (k : Nat → ClassId) (dz : Nat) (q : Nat → Nat → Nat) (uu : CSt) (d1 d2 : Int32) (x y z : Int32) (hu : XB uu) : Fs (S := Int32 × (CSt)) l yX8_tag cX8_tag 5 (some .boolean) 1 0 0 D (TY k) G0 [.ref (q 6 0), .int x, .int y, .int z] (bX k dz q d1 d2 uu) (fun u => some (.int u.1)) (fun u => u = xTag x y z uu) (fun u => bX k dz q d1 d2 u.2) := by
  obtain ⟨⟨np, wk, ft⟩, fV, ⟨fm, st, be, fk, rd, mt⟩, ⟨nT, fT⟩, ⟨nf, g, a⟩, n, gt, gn, gr, ga, lost, mm, gc, gl⟩ := uu
  obtain ⟨h1, h2, h3, h4, h5, h6, h7, h8, h9⟩ := hu
  exact c_X8_tag l D k dz q np wk ft fV fm st be fk rd mt nT fT nf g a n gt gn gr ga lost mm gc gl d1 d2 x y z h1 h2 h3 h4 h5 h6 (Nat.le_trans h7 (by decide))
theorem cu_fund (l : Launch) (D : va_G) (k : Nat → ClassId) (dz : Nat) (q : Nat → Nat → Nat) (uu : CSt) (d1 d2 : Int32) (x y : Int32) (hu : XB uu) : Fs (S := Int32 × (CSt)) l yX8_fund cX8_fund 3 (some .int) 1 0 0 D (TY k) G0 [.ref (q 6 0), .int x, .int y] (bX k dz q d1 d2 uu) (fun u => some (.int u.1)) (fun u => u = xFund x y uu) (fun u => bX k dz q d1 d2 u.2) := by
  obtain ⟨⟨np, wk, ft⟩, fV, ⟨fm, st, be, fk, rd, mt⟩, ⟨nT, fT⟩, ⟨nf, g, a⟩, n, gt, gn, gr, ga, lost, mm, gc, gl⟩ := uu
  obtain ⟨h1, h2, h3, h4, h5, h6, h7, h8, h9⟩ := hu
  exact c_X8_fund l D k dz q np wk ft fV fm st be fk rd mt nT fT nf g a n gt gn gr ga lost mm gc gl d1 d2 x y h1 h2 h3 h4 h5 h6 (Nat.le_trans h7 (by decide))
theorem cu_gift (l : Launch) (D : va_G) (k : Nat → ClassId) (dz : Nat) (q : Nat → Nat → Nat) (uu : CSt) (d1 d2 : Int32) (x y : Int32) (hu : XB uu) : Fs (S := Int32 × (CSt)) l yX8_gift cX8_gift 3 (some .int) 1 0 0 D (TY k) G0 [.ref (q 6 0), .int x, .int y] (bX k dz q d1 d2 uu) (fun u => some (.int u.1)) (fun u => u = xGift x y uu) (fun u => bX k dz q d1 d2 u.2) := by
  obtain ⟨⟨np, wk, ft⟩, fV, ⟨fm, st, be, fk, rd, mt⟩, ⟨nT, fT⟩, ⟨nf, g, a⟩, n, gt, gn, gr, ga, lost, mm, gc, gl⟩ := uu
  obtain ⟨h1, h2, h3, h4, h5, h6, h7, h8, h9⟩ := hu
  exact c_X8_gift l D k dz q np wk ft fV fm st be fk rd mt nT fT nf g a n gt gn gr ga lost mm gc gl d1 d2 x y h1 h2 h3 h4 h5 h6 (Nat.le_trans h7 (by decide))
theorem cu_ask (l : Launch) (D : va_G) (k : Nat → ClassId) (kz : Nat) (ke sK sV : Nat → Nat) (dz mi : Nat) (q : Nat → Nat → Nat) (uu : CSt) (d1 d2 : Int32) (x y : Int32) (hu : XB uu) : Fs (S := (Int32 × CSt) × (Nat → Nat → Nat) × Int32) l yX8_ask cX8_ask 5 (some .int) 9 5 (30 + uu.T.1 + gSl uu.n) D (TY k) (GA kz ke sK sV dz mi) [.ref (q 6 0), .int x, .int y] (bX k dz q d1 d2 uu) (fun u => some (.int u.1.1)) (fun u => u.1 = xAsk x y uu ∧ u.2.1 6 0 = q 6 0) (fun u => bX k dz u.2.1 u.2.2 d2 u.1.2) := by
  obtain ⟨⟨np, wk, ft⟩, fV, ⟨fm, st, be, fk, rd, mt⟩, ⟨nT, fT⟩, ⟨nf, g, a⟩, n, gt, gn, gr, ga, lost, mm, gc, gl⟩ := uu
  obtain ⟨h1, h2, h3, h4, h5, h6, h7, h8, h9⟩ := hu
  exact c_X8_ask l D k kz ke sK sV dz mi q np wk ft fV fm st be fk rd mt nT fT nf g a n gt gn gr ga lost mm gc gl d1 d2 x y h1 h2 h3 h4 h5 h6 (Nat.le_trans h7 (by decide)) h8
theorem cu_pay (l : Launch) (D : va_G) (k : Nat → ClassId) (dz : Nat) (q : Nat → Nat → Nat) (uu : CSt) (d1 d2 : Int32) (x y : Int32) (hu : XB uu) : Fs (S := Int32 × (CSt)) l yX8_pay cX8_pay 3 (some .boolean) 5 0 0 D (TY k) G0 [.ref (q 6 0), .int x, .int y] (bX k dz q d1 d2 uu) (fun u => some (.int u.1)) (fun u => u = xPay x y uu) (fun u => bX k dz q d1 d2 u.2) := by
  obtain ⟨⟨np, wk, ft⟩, fV, ⟨fm, st, be, fk, rd, mt⟩, ⟨nT, fT⟩, ⟨nf, g, a⟩, n, gt, gn, gr, ga, lost, mm, gc, gl⟩ := uu
  obtain ⟨h1, h2, h3, h4, h5, h6, h7, h8, h9⟩ := hu
  exact c_X8_pay l D k dz q np wk ft fV fm st be fk rd mt nT fT nf g a n gt gn gr ga lost mm gc gl d1 d2 x y h1 h2 h3 h4 h5 h6 (Nat.le_trans h7 (by decide)) h8
theorem cu_owes (l : Launch) (D : va_G) (k : Nat → ClassId) (dz : Nat) (q : Nat → Nat → Nat) (uu : CSt) (d1 d2 : Int32) (x : Int32) (hu : XB uu) : Ro l yX8_owes cX8_owes 2 (some .int) 5 D (TY k) G0 [.ref (q 6 0), .int x] (bX k dz q d1 d2 uu) (some (.int (xOwes x uu))) := by
  obtain ⟨⟨np, wk, ft⟩, fV, ⟨fm, st, be, fk, rd, mt⟩, ⟨nT, fT⟩, ⟨nf, g, a⟩, n, gt, gn, gr, ga, lost, mm, gc, gl⟩ := uu
  obtain ⟨h1, h2, h3, h4, h5, h6, h7, h8, h9⟩ := hu
  exact c_X8_owes l D k dz q np wk ft fV fm st be fk rd mt nT fT nf g a n gt gn gr ga lost mm gc gl d1 d2 x h1 h2 h3 h4 h5 h6 (Nat.le_trans h7 (by decide))
theorem cu_next (l : Launch) (D : va_G) (k : Nat → ClassId) (kz : Nat) (ke sK sV : Nat → Nat) (dz mi : Nat) (q : Nat → Nat → Nat) (uu : CSt) (d1 d2 : Int32) (hu : XB uu) : Fs (S := (Int32 × CSt) × (Nat → Nat → Nat) × Int32) l yX8_next cX8_next 1 (some .int) 9 600 (1200 + (gT (ewAll (nI uu.wk) uu.n uu.gn (uu.gr 1) uu.E).2.2.1 - gT uu.mm)) D (TY k) (GA kz ke sK sV dz mi) [.ref (q 6 0)] (bX k dz q d1 d2 uu) (fun u => some (.int u.1.1)) (fun u => u.1 = xNext uu ∧ u.2.1 5 0 = q 5 0) (fun u => bX k dz (qMix q u.2.1) d1 u.2.2 u.1.2) := by
  obtain ⟨⟨np, wk, ft⟩, fV, ⟨fm, st, be, fk, rd, mt⟩, ⟨nT, fT⟩, ⟨nf, g, a⟩, n, gt, gn, gr, ga, lost, mm, gc, gl⟩ := uu
  obtain ⟨h1, h2, h3, h4, h5, h6, h7, h8, h9⟩ := hu
  exact c_X8_next l D k kz ke sK sV dz mi q np wk ft fV fm st be fk rd mt nT fT nf g a n gt gn gr ga lost mm gc gl d1 d2 h1 h2 h3 h4 h5 h6 (Nat.le_trans h7 (by decide)) h7 h9
theorem cu_chest (l : Launch) (D : va_G) (k : Nat → ClassId) (dz : Nat) (q : Nat → Nat → Nat) (uu : CSt) (d1 d2 : Int32) (x y : Int32) (hu : XB uu) : Ro l yX8_chest cX8_chest 3 (some .int) 1 D (TY k) G0 [.ref (q 6 0), .int x, .int y] (bX k dz q d1 d2 uu) (some (.int (xChest x y uu))) := by
  obtain ⟨⟨np, wk, ft⟩, fV, ⟨fm, st, be, fk, rd, mt⟩, ⟨nT, fT⟩, ⟨nf, g, a⟩, n, gt, gn, gr, ga, lost, mm, gc, gl⟩ := uu
  obtain ⟨h1, h2, h3, h4, h5, h6, h7, h8, h9⟩ := hu
  exact c_X8_chest l D k dz q np wk ft fV fm st be fk rd mt nT fT nf g a n gt gn gr ga lost mm gc gl d1 d2 x y h1 h2 h3 h4 h5 h6 (Nat.le_trans h7 (by decide))
theorem cu_ring (l : Launch) (D : va_G) (k : Nat → ClassId) (kz : Nat) (ke sK sV : Nat → Nat) (dz mi : Nat) (q : Nat → Nat → Nat) (uu : CSt) (d1 d2 : Int32) (x : Int32) (hu : XB uu) : Ro l yX8_ring cX8_ring 3 (some .int) 5 D (TY k) (GA kz ke sK sV dz mi) [.ref (q 6 0), .int x] (bX k dz q d1 d2 uu) (some (.int (xRing x uu))) := by
  obtain ⟨⟨np, wk, ft⟩, fV, ⟨fm, st, be, fk, rd, mt⟩, ⟨nT, fT⟩, ⟨nf, g, a⟩, n, gt, gn, gr, ga, lost, mm, gc, gl⟩ := uu
  obtain ⟨h1, h2, h3, h4, h5, h6, h7, h8, h9⟩ := hu
  exact c_X8_ring l D k kz ke sK sV dz mi q np wk ft fV fm st be fk rd mt nT fT nf g a n gt gn gr ga lost mm gc gl d1 d2 x h1 h2 h3 h4 h5 h6 (Nat.le_trans h7 (by decide))
theorem cu_count (l : Launch) (D : va_G) (k : Nat → ClassId) (dz : Nat) (q : Nat → Nat → Nat) (uu : CSt) (d1 d2 : Int32) (x : Int32) (hu : XB uu) : Ro l yX8_count cX8_count 2 (some .int) 4 D (TY k) G0 [.ref (q 6 0), .int x] (bX k dz q d1 d2 uu) (some (.int (xCount x uu))) := by
  obtain ⟨⟨np, wk, ft⟩, fV, ⟨fm, st, be, fk, rd, mt⟩, ⟨nT, fT⟩, ⟨nf, g, a⟩, n, gt, gn, gr, ga, lost, mm, gc, gl⟩ := uu
  obtain ⟨h1, h2, h3, h4, h5, h6, h7, h8, h9⟩ := hu
  exact c_X8_count l D k dz q np wk ft fV fm st be fk rd mt nT fT nf g a n gt gn gr ga lost mm gc gl d1 d2 x h1 h2 h3 h4 h5 h6 (Nat.le_trans h7 (by decide))
theorem cu_h_loan (l : Launch) (hst : l.stackTraces = false) (D : va_G) (k : Nat → ClassId) (kz : Nat) (ke sK sV : Nat → Nat) (dz mi : Nat) (q : Nat → Nat → Nat) (uu : CSt) (d1 d2 : Int32) (sx : Nat → Nat) (x y : Int32) (ad : Nat) (f : Nat → Int64) (hu : XB uu) : FsW (S := Unit) l yL_loan cL_loan 5 (some .int) [(0, 10, 13, 13)] 7 1 6 D (TY k) (GAT kz ke sK sV dz mi sx) [.ref (q 6 0), .int x, .int y, .ref ad] (bX k dz q d1 d2 uu ++ [(ad, .inl (k 3, 1, .inr (.inl f)))]) (fun _ => some (.int (hV (xLoanV x y uu)))) (fun _ => True) (fun _ => bX k dz q d1 d2 uu ++ [(ad, .inl (k 3, 1, .inr (.inl (hO (xLoanV x y uu) f))))]) := by
  obtain ⟨⟨np, wk, ft⟩, fV, ⟨fm, st, be, fk, rd, mt⟩, ⟨nT, fT⟩, ⟨nf, g, a⟩, n, gt, gn, gr, ga, lost, mm, gc, gl⟩ := uu
  obtain ⟨h1, h2, h3, h4, h5, h6, h7, h8, h9⟩ := hu
  exact c_L_loan l hst D k kz ke sK sV dz mi q np wk ft fV fm st be fk rd mt nT fT nf g a n gt gn gr ga lost mm gc gl d1 d2 sx x y ad f h1 h2 h3 h4 h5 h6 (Nat.le_trans h7 (by decide))
theorem cu_h_surety (l : Launch) (hst : l.stackTraces = false) (D : va_G) (k : Nat → ClassId) (kz : Nat) (ke sK sV : Nat → Nat) (dz mi : Nat) (q : Nat → Nat → Nat) (uu : CSt) (d1 d2 : Int32) (sx : Nat → Nat) (x y : Int32) (ad : Nat) (f : Nat → Int64) (hu : XB uu) : FsW (S := Unit) l yL_surety cL_surety 5 (some .int) [(0, 10, 13, 13)] 7 1 6 D (TY k) (GAT kz ke sK sV dz mi sx) [.ref (q 6 0), .int x, .int y, .ref ad] (bX k dz q d1 d2 uu ++ [(ad, .inl (k 3, 1, .inr (.inl f)))]) (fun _ => some (.int (hV (xSuretyV x y uu)))) (fun _ => True) (fun _ => bX k dz q d1 d2 uu ++ [(ad, .inl (k 3, 1, .inr (.inl (hO (xSuretyV x y uu) f))))]) := by
  obtain ⟨⟨np, wk, ft⟩, fV, ⟨fm, st, be, fk, rd, mt⟩, ⟨nT, fT⟩, ⟨nf, g, a⟩, n, gt, gn, gr, ga, lost, mm, gc, gl⟩ := uu
  obtain ⟨h1, h2, h3, h4, h5, h6, h7, h8, h9⟩ := hu
  exact c_L_surety l hst D k kz ke sK sV dz mi q np wk ft fV fm st be fk rd mt nT fT nf g a n gt gn gr ga lost mm gc gl d1 d2 sx x y ad f h1 h2 h3 h4 h5 h6 (Nat.le_trans h7 (by decide)) h9
theorem cu_h_taken (l : Launch) (hst : l.stackTraces = false) (D : va_G) (k : Nat → ClassId) (kz : Nat) (ke sK sV : Nat → Nat) (dz mi : Nat) (q : Nat → Nat → Nat) (uu : CSt) (d1 d2 : Int32) (sx : Nat → Nat) (x y : Int32) (ad : Nat) (f : Nat → Int64) (hu : XB uu) : FsW (S := Unit) l yL_taken cL_taken 5 (some .int) [(0, 10, 13, 13)] 7 1 6 D (TY k) (GAT kz ke sK sV dz mi sx) [.ref (q 6 0), .int x, .int y, .ref ad] (bX k dz q d1 d2 uu ++ [(ad, .inl (k 3, 1, .inr (.inl f)))]) (fun _ => some (.int (hV (xTakenV x y uu)))) (fun _ => True) (fun _ => bX k dz q d1 d2 uu ++ [(ad, .inl (k 3, 1, .inr (.inl (hO (xTakenV x y uu) f))))]) := by
  obtain ⟨⟨np, wk, ft⟩, fV, ⟨fm, st, be, fk, rd, mt⟩, ⟨nT, fT⟩, ⟨nf, g, a⟩, n, gt, gn, gr, ga, lost, mm, gc, gl⟩ := uu
  obtain ⟨h1, h2, h3, h4, h5, h6, h7, h8, h9⟩ := hu
  exact c_L_taken l hst D k kz ke sK sV dz mi q np wk ft fV fm st be fk rd mt nT fT nf g a n gt gn gr ga lost mm gc gl d1 d2 sx x y ad f h1 h2 h3 h4 h5 h6 (Nat.le_trans h7 (by decide))
theorem cu_h_about (l : Launch) (hst : l.stackTraces = false) (D : va_G) (k : Nat → ClassId) (kz : Nat) (ke sK sV : Nat → Nat) (dz mi : Nat) (q : Nat → Nat → Nat) (uu : CSt) (d1 d2 : Int32) (sx : Nat → Nat) (x y : Int32) (ad : Nat) (f : Nat → Int64) (hu : XB uu) : FsW (S := Unit) l yL_about cL_about 5 (some .int) [(0, 10, 13, 13)] 7 1 6 D (TY k) (GAT kz ke sK sV dz mi sx) [.ref (q 6 0), .int x, .int y, .ref ad] (bX k dz q d1 d2 uu ++ [(ad, .inl (k 3, 1, .inr (.inl f)))]) (fun _ => some (.int (hV (xAboutV x y uu)))) (fun _ => True) (fun _ => bX k dz q d1 d2 uu ++ [(ad, .inl (k 3, 1, .inr (.inl (hO (xAboutV x y uu) f))))]) := by
  obtain ⟨⟨np, wk, ft⟩, fV, ⟨fm, st, be, fk, rd, mt⟩, ⟨nT, fT⟩, ⟨nf, g, a⟩, n, gt, gn, gr, ga, lost, mm, gc, gl⟩ := uu
  obtain ⟨h1, h2, h3, h4, h5, h6, h7, h8, h9⟩ := hu
  exact c_L_about l hst D k kz ke sK sV dz mi q np wk ft fV fm st be fk rd mt nT fT nf g a n gt gn gr ga lost mm gc gl d1 d2 sx x y ad f h1 h2 h3 h4 h5 h6 (Nat.le_trans h7 (by decide))
theorem cv_feed (l : Launch) (D : va_G) (h : Nat) (q : Nat → Nat) (k : Nat → ClassId) (w : MSt) (x : Int32) (y : Int32) (z : Int32) (w9 : Int32) (t : Int32) (sn : Nat → Nat) (hv : MB sn w) : Fs (S := Int32 × MSt) l yX9_feed cX9_feed 6 (some .int) 1 0 0 D (TY k) G0 [.ref h, .int x, .int y, .int z, .int w9, .int t] (MwU h q k w) (fun u => some (.int u.1)) (fun u => u = mFeed x y z w9 t w) (fun u => MwU h q k u.2) := by
  obtain ⟨b1, b2, b3, b4, b5, b6, b7, b8, b9, b10, b11, b12, b13⟩ := hv
  exact c_X9_feed l D h q k w.1 w.2.1 w.2.2.1 w.2.2.2 x y z w9 t b1
theorem cv_end (l : Launch) (D : va_G) (h : Nat) (q : Nat → Nat) (k : Nat → ClassId) (w : MSt) (x : Int32) (sn : Nat → Nat) (hv : MB sn w) : Fs (S := Int32 × MSt) l yX9_end cX9_end 2 (some .boolean) 0 0 0 D (TY k) G0 [.ref h, .int x] (MwU h q k w) (fun u => some (.int u.1)) (fun u => u = mEnd x w) (fun u => MwU h q k u.2) := by
  obtain ⟨b1, b2, b3, b4, b5, b6, b7, b8, b9, b10, b11, b12, b13⟩ := hv
  exact c_X9_end l D h q k w.1 w.2.1 w.2.2.1 w.2.2.2 x b1
theorem cv_rules (l : Launch) (D : va_G) (h : Nat) (q : Nat → Nat) (k : Nat → ClassId) (w : MSt) (sn : Nat → Nat) (hv : MB sn w) : Fs (S := Int32 × MSt) l yX9_rules cX9_rules 2 (some .int) 3 0 0 D (TY k) G0 [.ref h] (MwU h q k w) (fun u => some (.int u.1)) (fun u => u = mRules w) (fun u => MwU h q k u.2) := by
  obtain ⟨b1, b2, b3, b4, b5, b6, b7, b8, b9, b10, b11, b12, b13⟩ := hv
  exact c_X9_rules l D h q k w.1 w.2.1 w.2.2.1 w.2.2.2 b1
theorem cv_fault (l : Launch) (D : va_G) (h : Nat) (q : Nat → Nat) (k : Nat → ClassId) (w : MSt) (sn : Nat → Nat) (hv : MB sn w) : Fs (S := Int32 × MSt) l yX9_fault cX9_fault 1 (some .int) 0 0 0 D (TY k) G0 [.ref h] (MwU h q k w) (fun u => some (.int u.1)) (fun u => u = (w.2.1 8, mT0 w)) (fun u => MwU h q k u.2) := by
  obtain ⟨b1, b2, b3, b4, b5, b6, b7, b8, b9, b10, b11, b12, b13⟩ := hv
  exact c_X9_fault l D h q k w.1 w.2.1 w.2.2.1 w.2.2.2
theorem cv_rule (l : Launch) (D : va_G) (h : Nat) (q : Nat → Nat) (k : Nat → ClassId) (w : MSt) (x : Int32) (sn : Nat → Nat) (hv : MB sn w) : Fs (S := Int32 × MSt) l yX9_rule cX9_rule 2 (some .int) 0 0 0 D (TY k) G0 [.ref h, .int x] (MwU h q k w) (fun u => some (.int u.1)) (fun u => u = (mRule x w, mT0 w)) (fun u => MwU h q k u.2) := by
  obtain ⟨b1, b2, b3, b4, b5, b6, b7, b8, b9, b10, b11, b12, b13⟩ := hv
  exact c_X9_rule l D h q k w.1 w.2.1 w.2.2.1 w.2.2.2 x
theorem cv_person (l : Launch) (D : va_G) (h : Nat) (q : Nat → Nat) (k : Nat → ClassId) (w : MSt) (x : Int32) (sn : Nat → Nat) (hv : MB sn w) : Fs (S := Int32 × MSt) l yX9_person cX9_person 2 (some .int) 0 0 0 D (TY k) G0 [.ref h, .int x] (MwU h q k w) (fun u => some (.int u.1)) (fun u => u = mPerson x w) (fun u => MwU h q k u.2) := by
  obtain ⟨b1, b2, b3, b4, b5, b6, b7, b8, b9, b10, b11, b12, b13⟩ := hv
  exact c_X9_person l D h q k w.1 w.2.1 w.2.2.1 w.2.2.2 x b2
theorem cv_tag (l : Launch) (D : va_G) (h : Nat) (q : Nat → Nat) (k : Nat → ClassId) (w : MSt) (x : Int32) (y : Int32) (z : Int32) (sn : Nat → Nat) (hv : MB sn w) : Fs (S := Int32 × MSt) l yX9_tag cX9_tag 4 (some .boolean) 1 0 0 D (TY k) G0 [.ref h, .int x, .int y, .int z] (MwU h q k w) (fun u => some (.int u.1)) (fun u => u = mTag x y z w) (fun u => MwU h q k u.2) := by
  obtain ⟨b1, b2, b3, b4, b5, b6, b7, b8, b9, b10, b11, b12, b13⟩ := hv
  exact c_X9_tag l D h q k w.1 w.2.1 w.2.2.1 w.2.2.2 x y z b2
theorem cv_fund (l : Launch) (D : va_G) (h : Nat) (q : Nat → Nat) (k : Nat → ClassId) (w : MSt) (x : Int32) (y : Int32) (sn : Nat → Nat) (hv : MB sn w) : Fs (S := Int32 × MSt) l yX9_fund cX9_fund 3 (some .int) 0 0 0 D (TY k) G0 [.ref h, .int x, .int y] (MwU h q k w) (fun u => some (.int u.1)) (fun u => u = mFund x y w) (fun u => MwU h q k u.2) := by
  obtain ⟨b1, b2, b3, b4, b5, b6, b7, b8, b9, b10, b11, b12, b13⟩ := hv
  exact c_X9_fund l D h q k w.1 w.2.1 w.2.2.1 w.2.2.2 x y b4
theorem cv_gift (l : Launch) (D : va_G) (h : Nat) (q : Nat → Nat) (k : Nat → ClassId) (w : MSt) (x : Int32) (y : Int32) (sn : Nat → Nat) (hv : MB sn w) : Fs (S := Int32 × MSt) l yX9_gift cX9_gift 3 (some .int) 1 0 0 D (TY k) G0 [.ref h, .int x, .int y] (MwU h q k w) (fun u => some (.int u.1)) (fun u => u = mGift x y w) (fun u => MwU h q k u.2) := by
  obtain ⟨b1, b2, b3, b4, b5, b6, b7, b8, b9, b10, b11, b12, b13⟩ := hv
  exact c_X9_gift l D h q k w.1 w.2.1 w.2.2.1 w.2.2.2 x y b4
theorem cv_ask (l : Launch) (D : va_G) (h : Nat) (q : Nat → Nat) (k : Nat → ClassId) (w : MSt) (x : Int32) (y : Int32) (sn : Nat → Nat) (hv : MB sn w) : Fs (S := Int32 × MSt) l yX9_ask cX9_ask 9 (some .int) 3 0 0 D (TY k) G0 [.ref h, .int x, .int y] (MwU h q k w) (fun u => some (.int u.1)) (fun u => u = mAsk x y sn w) (fun u => MwU h q k u.2) := by
  obtain ⟨b1, b2, b3, b4, b5, b6, b7, b8, b9, b10, b11, b12, b13⟩ := hv
  exact c_X9_ask l D h q k w.1 w.2.1 w.2.2.1 w.2.2.2 x y b1 b2 b3 b4 b6 b7 b13 sn b8 b9 b10
theorem cv_pay (l : Launch) (D : va_G) (h : Nat) (q : Nat → Nat) (k : Nat → ClassId) (w : MSt) (x : Int32) (y : Int32) (sn : Nat → Nat) (hv : MB sn w) : Fs (S := Int32 × MSt) l yX9_pay cX9_pay 8 (some .boolean) 2 0 0 D (TY k) G0 [.ref h, .int x, .int y] (MwU h q k w) (fun u => some (.int u.1)) (fun u => u = mPay x y w) (fun u => MwU h q k u.2) := by
  obtain ⟨b1, b2, b3, b4, b5, b6, b7, b8, b9, b10, b11, b12, b13⟩ := hv
  exact c_X9_pay l D h q k w.1 w.2.1 w.2.2.1 w.2.2.2 x y b2 b6 b7 b12
theorem cv_owes (l : Launch) (D : va_G) (h : Nat) (q : Nat → Nat) (k : Nat → ClassId) (w : MSt) (x : Int32) (sn : Nat → Nat) (hv : MB sn w) : Fs (S := Int32 × MSt) l yX9_owes cX9_owes 2 (some .int) 2 0 0 D (TY k) G0 [.ref h, .int x] (MwU h q k w) (fun u => some (.int u.1)) (fun u => u = mOwes x w) (fun u => MwU h q k u.2) := by
  obtain ⟨b1, b2, b3, b4, b5, b6, b7, b8, b9, b10, b11, b12, b13⟩ := hv
  exact c_X9_owes l D h q k w.1 w.2.1 w.2.2.1 w.2.2.2 x b2 b6 b7
theorem cv_next (l : Launch) (D : va_G) (h : Nat) (q : Nat → Nat) (k : Nat → ClassId) (w : MSt) (sn : Nat → Nat) (hv : MB sn w) : Fs (S := Int32 × MSt) l yX9_next cX9_next 4 (some .int) 1 0 0 D (TY k) G0 [.ref h] (MwU h q k w) (fun u => some (.int u.1)) (fun u => u = mNext sn w) (fun u => MwU h q k u.2) := by
  obtain ⟨b1, b2, b3, b4, b5, b6, b7, b8, b9, b10, b11, b12, b13⟩ := hv
  exact c_X9_next l D h q k w.1 w.2.1 w.2.2.1 w.2.2.2 b6 b5 sn b11
theorem cv_chest (l : Launch) (D : va_G) (h : Nat) (q : Nat → Nat) (k : Nat → ClassId) (w : MSt) (x : Int32) (y : Int32) (sn : Nat → Nat) (hv : MB sn w) : Fs (S := Int32 × MSt) l yX9_chest cX9_chest 3 (some .int) 1 0 0 D (TY k) G0 [.ref h, .int x, .int y] (MwU h q k w) (fun u => some (.int u.1)) (fun u => u = mChest x y w) (fun u => MwU h q k u.2) := by
  obtain ⟨b1, b2, b3, b4, b5, b6, b7, b8, b9, b10, b11, b12, b13⟩ := hv
  exact c_X9_chest l D h q k w.1 w.2.1 w.2.2.1 w.2.2.2 x y b4 b5
theorem cv_ring (l : Launch) (D : va_G) (h : Nat) (q : Nat → Nat) (k : Nat → ClassId) (w : MSt) (x : Int32) (sn : Nat → Nat) (hv : MB sn w) : Fs (S := Int32 × MSt) l yX9_ring cX9_ring 4 (some .int) 2 0 0 D (TY k) G0 [.ref h, .int x] (MwU h q k w) (fun u => some (.int u.1)) (fun u => u = mRing x sn w) (fun u => MwU h q k u.2) := by
  obtain ⟨b1, b2, b3, b4, b5, b6, b7, b8, b9, b10, b11, b12, b13⟩ := hv
  exact c_X9_ring l D h q k w.1 w.2.1 w.2.2.1 w.2.2.2 x b2 b6 sn b8 b9 b10
theorem cv_count (l : Launch) (D : va_G) (h : Nat) (q : Nat → Nat) (k : Nat → ClassId) (w : MSt) (x : Int32) (sn : Nat → Nat) (hv : MB sn w) : Fs (S := Int32 × MSt) l yX9_count cX9_count 4 (some .int) 0 0 0 D (TY k) G0 [.ref h, .int x] (MwU h q k w) (fun u => some (.int u.1)) (fun u => u = (mCount x w, mT0 w)) (fun u => MwU h q k u.2) := by
  obtain ⟨b1, b2, b3, b4, b5, b6, b7, b8, b9, b10, b11, b12, b13⟩ := hv
  exact c_X9_count l D h q k w.1 w.2.1 w.2.2.1 w.2.2.2 x b6
theorem cv_loan (l : Launch) (D : va_G) (h : Nat) (q : Nat → Nat) (k : Nat → ClassId) (w : MSt) (x : Int32) (y : Int32) (sn : Nat → Nat) (hv : MB sn w) : Fs (S := Int32 × MSt) l yX9_loan cX9_loan 3 (some .int) 1 0 0 D (TY k) G0 [.ref h, .int x, .int y] (MwU h q k w) (fun u => some (.int u.1)) (fun u => u = mLoan x y w) (fun u => MwU h q k u.2) := by
  obtain ⟨b1, b2, b3, b4, b5, b6, b7, b8, b9, b10, b11, b12, b13⟩ := hv
  exact c_X9_loan l D h q k w.1 w.2.1 w.2.2.1 w.2.2.2 x y b6
theorem cv_surety (l : Launch) (D : va_G) (h : Nat) (q : Nat → Nat) (k : Nat → ClassId) (w : MSt) (x : Int32) (y : Int32) (sn : Nat → Nat) (hv : MB sn w) : Fs (S := Int32 × MSt) l yX9_surety cX9_surety 3 (some .int) 1 0 0 D (TY k) G0 [.ref h, .int x, .int y] (MwU h q k w) (fun u => some (.int u.1)) (fun u => u = mSurety x y w) (fun u => MwU h q k u.2) := by
  obtain ⟨b1, b2, b3, b4, b5, b6, b7, b8, b9, b10, b11, b12, b13⟩ := hv
  exact c_X9_surety l D h q k w.1 w.2.1 w.2.2.1 w.2.2.2 x y b6 sn b8
theorem cv_taken (l : Launch) (D : va_G) (h : Nat) (q : Nat → Nat) (k : Nat → ClassId) (w : MSt) (x : Int32) (y : Int32) (sn : Nat → Nat) (hv : MB sn w) : Fs (S := Int32 × MSt) l yX9_taken cX9_taken 3 (some .int) 1 0 0 D (TY k) G0 [.ref h, .int x, .int y] (MwU h q k w) (fun u => some (.int u.1)) (fun u => u = mTaken x y w) (fun u => MwU h q k u.2) := by
  obtain ⟨b1, b2, b3, b4, b5, b6, b7, b8, b9, b10, b11, b12, b13⟩ := hv
  exact c_X9_taken l D h q k w.1 w.2.1 w.2.2.1 w.2.2.2 x y b6 b4
theorem cv_about (l : Launch) (D : va_G) (h : Nat) (q : Nat → Nat) (k : Nat → ClassId) (w : MSt) (x : Int32) (y : Int32) (sn : Nat → Nat) (hv : MB sn w) : Fs (S := Int32 × MSt) l yX9_about cX9_about 5 (some .int) 1 0 0 D (TY k) G0 [.ref h, .int x, .int y] (MwU h q k w) (fun u => some (.int u.1)) (fun u => u = mAbout x y sn w) (fun u => MwU h q k u.2) := by
  obtain ⟨b1, b2, b3, b4, b5, b6, b7, b8, b9, b10, b11, b12, b13⟩ := hv
  exact c_X9_about l D h q k w.1 w.2.1 w.2.2.1 w.2.2.2 x y b2 b6 b7 sn b8
theorem cv_thrown (l : Launch) (D : va_G) (h : Nat) (q : Nat → Nat) (k : Nat → ClassId) (w : MSt) (sn : Nat → Nat) (hv : MB sn w) : Ro l yX9_thrown cX9_thrown 1 (some .int) 0 D (TY k) G0 [.ref h] (MwU h q k w) (some (.int (w.2.1 0))) := by
  obtain ⟨b1, b2, b3, b4, b5, b6, b7, b8, b9, b10, b11, b12, b13⟩ := hv
  exact c_X9_thrown l D h q k w.1 w.2.1 w.2.2.1 w.2.2.2
