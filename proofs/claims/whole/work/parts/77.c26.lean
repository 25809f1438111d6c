def wB3 (o : Option Nat) (b : Bool) : Int32 := match o with | none => (if b = false then 0 else 4) | some _ => 3
def xWhyB (x y : Int32) (u : CSt) : Int32 := if isIn x u.np = false then 1 else if y < 1 then 2 else if u.V 0 < y then 2 else if u.n < 100 then wB3 (fOpen (col u.ga 1) (col u.ga 16) x u.n) (xBarred x u) else 2
def xWhyS (x : Int32) (u : CSt) : Int32 := if nI u.T.1 = u.V 2 then (if cOthers u.np u.T.2 u.T.1 x = false then 6 else if (fnd (fun i => xBarred (u.T.2 i) u) u.T.1 0).isSome = true then 7 else if (fnd (fun i => !decide (cStands (col u.ga 16) u.gt (u.T.2 i) u.n < u.V 3)) u.T.1 0).isSome = true then 8 else 0) else 5
def xCan (x y : Int32) (u : CSt) : Int32 := if y ≤ cCan (u.ft x.toNatClampNeg) (u.V 6) u.F then 0 else 10
def xWhyR (x y : Int32) (u : CSt) : Int32 := if cRing (col u.ga 1) (col u.ga 16) u.gt u.n x 40 1 (cBits u.T.2 u.T.1) = -1 then xCan x y u else if u.V 7 < cRing (col u.ga 1) (col u.ga 16) u.gt u.n x 40 1 (cBits u.T.2 u.T.1) then xCan x y u else 9
def xWhy (x y : Int32) (u : CSt) : Int32 := if xWhyB x y u = 0 then (if xWhyS x u = 0 then xWhyR x y u else xWhyS x u) else xWhyB x y u
theorem xWhyB_in {x y : Int32} {u : CSt} (h : xWhyB x y u = 0) : isIn x u.np = true := by
  by_cases c : isIn x u.np = false
  · rw [xWhyB, if_pos c] at h
    exact absurd h (by decide)
  · simpa using c
theorem xWhy_in {x y : Int32} {u : CSt} (h : xWhy x y u ≤ 0) : isIn x u.np = true := by
  by_cases c : isIn x u.np = false
  · have e : xWhyB x y u = 1 := by rw [xWhyB, if_pos c]
    rw [xWhy, e, if_neg (by decide)] at h
    exact absurd h (by decide)
  · simpa using c
set_option maxHeartbeats 4000000 in
set_option maxRecDepth 100000 in
theorem c_X8_whyRefusedForBorrower (l : Launch) (D : va_G) (k : Nat → ClassId) (kz : Nat) (ke sK sV : Nat → Nat) (dz mi : Nat) (q : Nat → Nat → Nat) (np wk : Nat) (ft fV : Nat → Int32) (fm : Int32) (st be : Nat) (fk : Int32) (rd mt : Nat → Int32) (nT : Nat) (fT : Nat → Int32) (nf : Nat) (g : Int32) (a : Nat → Nat → Int32) (n : Nat) (gt : Nat → Int64) (gn : Nat → Nat) (gr : Nat → Nat → Nat → Int32) (ga : Nat → Nat → Int32) (lost : Int32) (mm : Nat) (gc : Nat → Nat → Int32) (gl : Nat → Nat) (d1 d2 : Int32) (x y : Int32) (hp : np ≤ 40) (hw : wk ≤ 400) (hT : nT ≤ 320) (hf : nf ≤ 6) (hf1 : 1 ≤ nf) (hn : n ≤ 100) (hm : mm ≤ 600) : Ro l yX8_whyRefusedForBorrower cX8_whyRefusedForBorrower 3 (some .int) 5 D (TY k) (GA kz ke sK sV dz mi) [.ref (q 6 0), .int x, .int y] (bX k dz q d1 d2 ((np, wk, ft), fV, (fm, st, be, fk, rd, mt), (nT, fT), (nf, g, a), (n, gt, gn, gr, ga, lost, mm, gc, gl))) (some (.int (xWhyB x y ((np, wk, ft), fV, (fm, st, be, fk, rd, mt), (nT, fT), (nf, g, a), (n, gt, gn, gr, ga, lost, mm, gc, gl))))) := by
  refine ro_body (by decide +kernel) (Nat.le_of_ble_eq_true rfl) ?_
  intro p e s m args below meth c_ Q hx hb hml hown hts hK hP hS hG hr hq hlocks ls hl
  replace hl : lv_has ls 3 [(0, .ref (q 6 0)), (1, .int x), (2, .int y)] := hl
  change s.vm.findClass RX8 = some m.cls at hown
  replace hP : va_P D vwCl ([(q 6 0, .inr (8, [.ref (q 7 0), .ref (q 8 0), .ref (q 9 0), .ref (q 10 0), .ref (q 5 0), .ref (q 6 1), .int (nI np), .int (nI wk)])), (q 6 1, .inl (k 0, 40, .inl ft)), (q 9 0, .inr (6, [.ref (q 9 1)])), (q 9 1, .inl (k 0, 9, .inl fV)), (q 8 0, .inr (5, [.ref (q 8 1), .ref (q 8 2), .int fm, .int (nI st), .int (nI be), .int fk])), (q 8 1, .inl (k 0, 9, .inl rd)), (q 8 2, .inl (k 1, 9, .inl mt)), (q 7 0, .inr (7, [.ref (q 7 1), .int (nI nT)])), (q 7 1, .inl (k 0, 320, .inl fT)), (q 10 0, .inr (2, [.ref (q 10 1), .ref (q 10 2), .ref (q 10 3), .ref (q 10 4), .int (nI nf), .int g])), (q 10 1, .inl (k 0, 6, .inl (a 1))), (q 10 2, .inl (k 0, 6, .inl (a 2))), (q 10 3, .inl (k 0, 6, .inl (a 3))), (q 10 4, .inl (k 0, 2400, .inl (a 4)))] ++ bG k dz q n gt gn gr ga lost mm gc gl d1 d2) s.heap := hP
  have hGA := hG
  have hGL := hG.2
  replace hG := hG.1
  refine lv_aload_n hx hb dX8_whyRefusedForBorrower_0 rfl (lv_at hl 0 rfl) ?_
  refine lv_iload_n hx hb dX8_whyRefusedForBorrower_1 rfl (lv_at hl 1 rfl) ?_
  refine ro_V (rest := []) (st1 := [.int (bI (isIn x np))]) (As := [.int x]) ⟨hx, hb, hml, hown, hts⟩ Gd0 trivial hS hK (c_X8_isPerson l D k dz q np wk ft fV fm st be fk rd mt nT fT nf g a n gt gn gr ga lost mm gc gl d1 d2 x) mi_X8_isPerson wd_2_101 wp_1_7 wd_2_99 ⟨Nat.le_of_ble_eq_true rfl, Nat.le_of_ble_eq_true rfl⟩ (hP) 0 rfl rfl rfl hl.1 rfl (Nat.le_of_ble_eq_true rfl) rfl ⟨Nat.le_of_ble_eq_true rfl, Nat.le_of_ble_eq_true rfl⟩ dX8_whyRefusedForBorrower_2 ?_
  refine lv_if_ne (tgt := 10) hx hb dX8_whyRefusedForBorrower_5 (by decide) (fun c5 => ?_) (fun c5 => ?_)
  · replace c5 : (isIn x np) = true := bI_n.mp c5
    refine lv_iload_n hx hb dX8_whyRefusedForBorrower_10 rfl (lv_at hl 2 rfl) ?_
    refine lv_iconst (v := 1) hx hb dX8_whyRefusedForBorrower_11 (by decide) ?_
    refine lv_icmp_lt (tgt := 41) hx hb dX8_whyRefusedForBorrower_12 (by decide) (fun c12 => ?_) (fun c12 => ?_)
    · refine lv_iconst (v := 2) hx hb dX8_whyRefusedForBorrower_41 (by decide) ?_
      exact ro_i hx hb hr hlocks hq dX8_whyRefusedForBorrower_42 (by rw [xWhyB, if_neg (ntf c5), if_pos c12])
    · refine lv_iload_n hx hb dX8_whyRefusedForBorrower_15 rfl (lv_at hl 2 rfl) ?_
      refine lv_aload_n hx hb dX8_whyRefusedForBorrower_16 rfl (lv_at hl 0 rfl) ?_
      refine va_get (D := D) (ci := 8) (v := .ref (q 9 0)) (C := RX8) (T := TX8) (N := 8) hx hb hts inX8 hown hK hP 0 rfl rfl 2 (by decide) (hts _ wd_1_158) (fun _ h9 => h9) rfl dX8_whyRefusedForBorrower_17 ?_
      refine va_gets (n := "MOST") (v := .ref (ke 0)) hx hb (hG.2.2.2.2.2.2.2.2.1 0 (by decide)) hS hown (hts _ wd_2_140) (fun _ h9 => h9) dX8_whyRefusedForBorrower_20 ?_
      refine ro_V (rest := [.int y]) (st1 := [.int (fV 0), .int y]) (As := [.ref (ke 0)]) ⟨hx, hb, hml, hown, hts⟩ GdK hG hS hK (c_X6_current l D k kz ke sK sV (q 9) fV 0 (by omega)) mi_X6_current wd_2_88 wd_2_89 wd_2_87 ⟨Nat.le_of_ble_eq_true rfl, Nat.le_of_ble_eq_true rfl⟩ (hP.sub [2, 3] rfl) 0 rfl rfl rfl hl.1 rfl (Nat.le_of_ble_eq_true rfl) rfl ⟨Nat.le_of_ble_eq_true rfl, Nat.le_of_ble_eq_true rfl⟩ dX8_whyRefusedForBorrower_23 ?_
      refine lv_icmp_gt (tgt := 41) hx hb dX8_whyRefusedForBorrower_26 (by decide) (fun c26 => ?_) (fun c26 => ?_)
      · refine lv_iconst (v := 2) hx hb dX8_whyRefusedForBorrower_41 (by decide) ?_
        exact ro_i hx hb hr hlocks hq dX8_whyRefusedForBorrower_42 (by rw [xWhyB, if_neg (ntf c5), if_neg c12, if_pos c26])
      · refine lv_aload_n hx hb dX8_whyRefusedForBorrower_29 rfl (lv_at hl 0 rfl) ?_
        refine va_get (D := D) (ci := 8) (v := .ref (q 5 0)) (C := RX8) (T := TX8) (N := 8) hx hb hts inX8 hown hK hP 0 rfl rfl 4 (by decide) (hts _ wd_1_160) (fun _ h9 => h9) rfl dX8_whyRefusedForBorrower_30 ?_
        refine ro_V (rest := []) (st1 := [.int (nI n)]) (As := []) ⟨hx, hb, hml, hown, hts⟩ Gd0 trivial hS hK (c_X3_howManyLoans l D k dz q n gt gn gr ga lost mm gc gl d1 d2) mi_X3_howManyLoans wd_2_143 wd_2_144 wd_2_142 ⟨Nat.le_of_ble_eq_true rfl, Nat.le_of_ble_eq_true rfl⟩ ((hP.low (fun c hc => List.mem_append_right _ hc))) 0 rfl rfl rfl hl.1 rfl (Nat.le_of_ble_eq_true rfl) rfl ⟨Nat.le_of_ble_eq_true rfl, Nat.le_of_ble_eq_true rfl⟩ dX8_whyRefusedForBorrower_33 ?_
        refine lv_bipush (v := 100) hx hb dX8_whyRefusedForBorrower_36 (by decide) ?_
        refine lv_icmp_lt (tgt := 43) hx hb dX8_whyRefusedForBorrower_38 (by decide) (fun c38 => ?_) (fun c38 => ?_)
        · replace c38 : n < 100 := (nI_ltI (a := n) (b := 100) (by omega) (by omega)).mp c38
          refine lv_aload_n hx hb dX8_whyRefusedForBorrower_43 rfl (lv_at hl 0 rfl) ?_
          refine va_get (D := D) (ci := 8) (v := .ref (q 5 0)) (C := RX8) (T := TX8) (N := 8) hx hb hts inX8 hown hK hP 0 rfl rfl 4 (by decide) (hts _ wd_1_160) (fun _ h9 => h9) rfl dX8_whyRefusedForBorrower_44 ?_
          refine lv_iload_n hx hb dX8_whyRefusedForBorrower_47 rfl (lv_at hl 1 rfl) ?_
          refine ro_V (rest := []) (st1 := oR (q 0) (fOpen (col ga 1) (col ga 16) x n) :: []) (As := [.int x]) ⟨hx, hb, hml, hown, hts⟩ Gd0 trivial hS hK (c_X3_openLoanOf l D k dz q n gt gn gr ga lost mm gc gl d1 d2 x hn hm) mi_X3_openLoanOf wd_2_151 wd_2_152 wd_2_150 ⟨Nat.le_of_ble_eq_true rfl, Nat.le_of_ble_eq_true rfl⟩ ((hP.low (fun c hc => List.mem_append_right _ hc))) 0 rfl rfl rfl hl.1 rfl (Nat.le_of_ble_eq_true rfl) rfl ⟨Nat.le_of_ble_eq_true rfl, Nat.le_of_ble_eq_true rfl⟩ dX8_whyRefusedForBorrower_48 ?_
          cases o48 : fOpen (col ga 1) (col ga 16) x n with
          | none =>
            refine W.eq (g2 := F0 m 51 ls [.null]) rfl ?_
            refine lv_ifnullN (tgt := 56) hx hb dX8_whyRefusedForBorrower_51 (by decide) ?_
            refine lv_aload_n hx hb dX8_whyRefusedForBorrower_56 rfl (lv_at hl 0 rfl) ?_
            refine lv_iload_n hx hb dX8_whyRefusedForBorrower_57 rfl (lv_at hl 1 rfl) ?_
            refine ro_V (rest := []) (st1 := [.int (bI (xBarred x ((np, wk, ft), fV, (fm, st, be, fk, rd, mt), (nT, fT), (nf, g, a), (n, gt, gn, gr, ga, lost, mm, gc, gl))))]) (As := [.int x]) ⟨hx, hb, hml, hown, hts⟩ GdA hGA hS hK (c_X8_isBarred l D k kz ke sK sV dz mi q np wk ft fV fm st be fk rd mt nT fT nf g a n gt gn gr ga lost mm gc gl d1 d2 x hp hw hT hf hf1 hn hm) mi_X8_isBarred wd_2_173 wp_1_10 wd_2_171 ⟨Nat.le_of_ble_eq_true rfl, Nat.le_of_ble_eq_true rfl⟩ (hP) 0 rfl rfl rfl hl.1 rfl (Nat.le_of_ble_eq_true rfl) rfl ⟨Nat.le_of_ble_eq_true rfl, Nat.le_of_ble_eq_true rfl⟩ dX8_whyRefusedForBorrower_58 ?_
            refine lv_if_eq (tgt := 68) hx hb dX8_whyRefusedForBorrower_61 (by decide) (fun c61 => ?_) (fun c61 => ?_)
            · replace c61 : (xBarred x ((np, wk, ft), fV, (fm, st, be, fk, rd, mt), (nT, fT), (nf, g, a), (n, gt, gn, gr, ga, lost, mm, gc, gl))) = false := bI_0.mp c61
              refine lv_iconst (v := 0) hx hb dX8_whyRefusedForBorrower_68 (by decide) ?_
              exact ro_i hx hb hr hlocks hq dX8_whyRefusedForBorrower_69 (by rw [xWhyB, if_neg (ntf c5), if_neg c12, if_neg c26, if_pos c38]; rw [show fOpen (col (CSt.ga ((np, wk, ft), fV, (fm, st, be, fk, rd, mt), (nT, fT), (nf, g, a), (n, gt, gn, gr, ga, lost, mm, gc, gl))) 1) (col (CSt.ga ((np, wk, ft), fV, (fm, st, be, fk, rd, mt), (nT, fT), (nf, g, a), (n, gt, gn, gr, ga, lost, mm, gc, gl))) 16) x (CSt.n ((np, wk, ft), fV, (fm, st, be, fk, rd, mt), (nT, fT), (nf, g, a), (n, gt, gn, gr, ga, lost, mm, gc, gl))) = _ from o48]; show _ = some (Value.int (if xBarred x ((np, wk, ft), fV, (fm, st, be, fk, rd, mt), (nT, fT), (nf, g, a), (n, gt, gn, gr, ga, lost, mm, gc, gl)) = false then 0 else 4)); rw [if_pos c61])
            · replace c61 : (xBarred x ((np, wk, ft), fV, (fm, st, be, fk, rd, mt), (nT, fT), (nf, g, a), (n, gt, gn, gr, ga, lost, mm, gc, gl))) = true := bI_n.mp c61
              refine lv_iconst (v := 4) hx hb dX8_whyRefusedForBorrower_64 (by decide) ?_
              refine lv_goto (tgt := 69) hx hb dX8_whyRefusedForBorrower_65 (by decide) ?_
              exact ro_i hx hb hr hlocks hq dX8_whyRefusedForBorrower_69 (by rw [xWhyB, if_neg (ntf c5), if_neg c12, if_neg c26, if_pos c38]; rw [show fOpen (col (CSt.ga ((np, wk, ft), fV, (fm, st, be, fk, rd, mt), (nT, fT), (nf, g, a), (n, gt, gn, gr, ga, lost, mm, gc, gl))) 1) (col (CSt.ga ((np, wk, ft), fV, (fm, st, be, fk, rd, mt), (nT, fT), (nf, g, a), (n, gt, gn, gr, ga, lost, mm, gc, gl))) 16) x (CSt.n ((np, wk, ft), fV, (fm, st, be, fk, rd, mt), (nT, fT), (nf, g, a), (n, gt, gn, gr, ga, lost, mm, gc, gl))) = _ from o48]; show _ = some (Value.int (if xBarred x ((np, wk, ft), fV, (fm, st, be, fk, rd, mt), (nT, fT), (nf, g, a), (n, gt, gn, gr, ga, lost, mm, gc, gl)) = false then 0 else 4)); rw [if_neg (ntf c61)])
          | some j48 =>
            refine W.eq (g2 := F0 m 51 ls [.ref (q 0 j48)]) rfl ?_
            have hj48 : j48 < n := by have := (fnd_lt o48).2.1; omega
            refine lv_ifnull hx hb dX8_whyRefusedForBorrower_51 ?_
            refine lv_iconst (v := 3) hx hb dX8_whyRefusedForBorrower_54 (by decide) ?_
            exact ro_i hx hb hr hlocks hq dX8_whyRefusedForBorrower_55 (by rw [xWhyB, if_neg (ntf c5), if_neg c12, if_neg c26, if_pos c38]; rw [show fOpen (col (CSt.ga ((np, wk, ft), fV, (fm, st, be, fk, rd, mt), (nT, fT), (nf, g, a), (n, gt, gn, gr, ga, lost, mm, gc, gl))) 1) (col (CSt.ga ((np, wk, ft), fV, (fm, st, be, fk, rd, mt), (nT, fT), (nf, g, a), (n, gt, gn, gr, ga, lost, mm, gc, gl))) 16) x (CSt.n ((np, wk, ft), fV, (fm, st, be, fk, rd, mt), (nT, fT), (nf, g, a), (n, gt, gn, gr, ga, lost, mm, gc, gl))) = _ from o48]; rfl)
        · replace c38 : ¬ (n < 100) := fun z => c38 ((nI_ltI (a := n) (b := 100) (by omega) (by omega)).mpr z)
          refine lv_iconst (v := 2) hx hb dX8_whyRefusedForBorrower_41 (by decide) ?_
          exact ro_i hx hb hr hlocks hq dX8_whyRefusedForBorrower_42 (by rw [xWhyB, if_neg (ntf c5), if_neg c12, if_neg c26, if_neg c38])
  · replace c5 : (isIn x np) = false := bI_0.mp c5
    refine lv_iconst (v := 1) hx hb dX8_whyRefusedForBorrower_8 (by decide) ?_
    exact ro_i hx hb hr hlocks hq dX8_whyRefusedForBorrower_9 (by rw [xWhyB, if_pos c5])
set_option maxHeartbeats 4000000 in
set_option maxRecDepth 100000 in
theorem c_X8_whyRefusedForSureties (l : Launch) (D : va_G) (k : Nat → ClassId) (kz : Nat) (ke sK sV : Nat → Nat) (dz mi : Nat) (q : Nat → Nat → Nat) (np wk : Nat) (ft fV : Nat → Int32) (fm : Int32) (st be : Nat) (fk : Int32) (rd mt : Nat → Int32) (nT : Nat) (fT : Nat → Int32) (nf : Nat) (g : Int32) (a : Nat → Nat → Int32) (n : Nat) (gt : Nat → Int64) (gn : Nat → Nat) (gr : Nat → Nat → Nat → Int32) (ga : Nat → Nat → Int32) (lost : Int32) (mm : Nat) (gc : Nat → Nat → Int32) (gl : Nat → Nat) (d1 d2 : Int32) (x : Int32) (hp : np ≤ 40) (hw : wk ≤ 400) (hT : nT ≤ 320) (hf : nf ≤ 6) (hf1 : 1 ≤ nf) (hn : n ≤ 100) (hm : mm ≤ 600) : Ro l yX8_whyRefusedForSureties cX8_whyRefusedForSureties 3 (some .int) 5 D (TY k) (GA kz ke sK sV dz mi) [.ref (q 6 0), .int x] (bX k dz q d1 d2 ((np, wk, ft), fV, (fm, st, be, fk, rd, mt), (nT, fT), (nf, g, a), (n, gt, gn, gr, ga, lost, mm, gc, gl))) (some (.int (xWhyS x ((np, wk, ft), fV, (fm, st, be, fk, rd, mt), (nT, fT), (nf, g, a), (n, gt, gn, gr, ga, lost, mm, gc, gl))))) := by
  refine ro_body (by decide +kernel) (Nat.le_of_ble_eq_true rfl) ?_
  intro p e s m args below meth c_ Q hx hb hml hown hts hK hP hS hG hr hq hlocks ls hl
  replace hl : lv_has ls 3 [(0, .ref (q 6 0)), (1, .int x)] := hl
  change s.vm.findClass RX8 = some m.cls at hown
  replace hP : va_P D vwCl ([(q 6 0, .inr (8, [.ref (q 7 0), .ref (q 8 0), .ref (q 9 0), .ref (q 10 0), .ref (q 5 0), .ref (q 6 1), .int (nI np), .int (nI wk)])), (q 6 1, .inl (k 0, 40, .inl ft)), (q 9 0, .inr (6, [.ref (q 9 1)])), (q 9 1, .inl (k 0, 9, .inl fV)), (q 8 0, .inr (5, [.ref (q 8 1), .ref (q 8 2), .int fm, .int (nI st), .int (nI be), .int fk])), (q 8 1, .inl (k 0, 9, .inl rd)), (q 8 2, .inl (k 1, 9, .inl mt)), (q 7 0, .inr (7, [.ref (q 7 1), .int (nI nT)])), (q 7 1, .inl (k 0, 320, .inl fT)), (q 10 0, .inr (2, [.ref (q 10 1), .ref (q 10 2), .ref (q 10 3), .ref (q 10 4), .int (nI nf), .int g])), (q 10 1, .inl (k 0, 6, .inl (a 1))), (q 10 2, .inl (k 0, 6, .inl (a 2))), (q 10 3, .inl (k 0, 6, .inl (a 3))), (q 10 4, .inl (k 0, 2400, .inl (a 4)))] ++ bG k dz q n gt gn gr ga lost mm gc gl d1 d2) s.heap := hP
  have hGA := hG
  have hGL := hG.2
  replace hG := hG.1
  have L2 : ∀ (r i : Nat), i + r = nT → (if (fnd (fun i => !decide (cStands (col ga 16) gt (fT i) n < fV 3)) r i).isSome = true then (8 : Int32) else 0) = xWhyS x ((np, wk, ft), fV, (fm, st, be, fk, rd, mt), (nT, fT), (nf, g, a), (n, gt, gn, gr, ga, lost, mm, gc, gl)) → ∀ (ls : Array Slot), lv_has ls 3 [(0, .ref (q 6 0)), (1, .int x), (2, .int (nI i))] → W p l e (rmd 5 0 0) s m args below meth c_ s.heap [] 0 0 Q (F0 m 72 ls []) := by
    intro r
    induction r with
    | zero =>
      intro i hi he ls hl
      refine lv_iload_n hx hb dX8_whyRefusedForSureties_72 rfl (lv_at hl 2 rfl) ?_
      refine lv_aload_n hx hb dX8_whyRefusedForSureties_73 rfl (lv_at hl 0 rfl) ?_
      refine va_get (D := D) (ci := 8) (v := .ref (q 7 0)) (C := RX8) (T := TX8) (N := 8) hx hb hts inX8 hown hK hP 0 rfl rfl 0 (by decide) (hts _ wd_1_156) (fun _ h9 => h9) rfl dX8_whyRefusedForSureties_74 ?_
      refine ro_V (rest := [.int (nI i)]) (st1 := [.int (nI nT), .int (nI i)]) (As := []) ⟨hx, hb, hml, hown, hts⟩ Gd0 trivial hS hK (c_X7_length l D k (q 7) nT fT) mi_X7_length wd_1_194 wd_1_195 wd_1_193 ⟨Nat.le_of_ble_eq_true rfl, Nat.le_of_ble_eq_true rfl⟩ (hP.sub [7, 8] rfl) 0 rfl rfl rfl hl.1 rfl (Nat.le_of_ble_eq_true rfl) rfl ⟨Nat.le_of_ble_eq_true rfl, Nat.le_of_ble_eq_true rfl⟩ dX8_whyRefusedForSureties_77 ?_
      refine lv_icmp_ge (tgt := 120) hx hb dX8_whyRefusedForSureties_80 (by decide) (fun c80 => ?_) (fun c80 => absurd (nI_le (by omega) (by omega)) c80)
      refine lv_iconst (v := 0) hx hb dX8_whyRefusedForSureties_120 (by decide) ?_
      exact ro_i hx hb hr hlocks hq dX8_whyRefusedForSureties_121 (by rw [← he]; rfl)
    | succ r ih =>
      intro i hi he ls hl
      refine lv_iload_n hx hb dX8_whyRefusedForSureties_72 rfl (lv_at hl 2 rfl) ?_
      refine lv_aload_n hx hb dX8_whyRefusedForSureties_73 rfl (lv_at hl 0 rfl) ?_
      refine va_get (D := D) (ci := 8) (v := .ref (q 7 0)) (C := RX8) (T := TX8) (N := 8) hx hb hts inX8 hown hK hP 0 rfl rfl 0 (by decide) (hts _ wd_1_156) (fun _ h9 => h9) rfl dX8_whyRefusedForSureties_74 ?_
      refine ro_V (rest := [.int (nI i)]) (st1 := [.int (nI nT), .int (nI i)]) (As := []) ⟨hx, hb, hml, hown, hts⟩ Gd0 trivial hS hK (c_X7_length l D k (q 7) nT fT) mi_X7_length wd_1_194 wd_1_195 wd_1_193 ⟨Nat.le_of_ble_eq_true rfl, Nat.le_of_ble_eq_true rfl⟩ (hP.sub [7, 8] rfl) 0 rfl rfl rfl hl.1 rfl (Nat.le_of_ble_eq_true rfl) rfl ⟨Nat.le_of_ble_eq_true rfl, Nat.le_of_ble_eq_true rfl⟩ dX8_whyRefusedForSureties_77 ?_
      refine lv_icmp_ge (tgt := 120) hx hb dX8_whyRefusedForSureties_80 (by decide) (fun c80 => absurd c80 (nI_ge (by omega) (by omega))) (fun c80 => ?_)
      refine lv_aload_n hx hb dX8_whyRefusedForSureties_83 rfl (lv_at hl 0 rfl) ?_
      refine va_get (D := D) (ci := 8) (v := .ref (q 5 0)) (C := RX8) (T := TX8) (N := 8) hx hb hts inX8 hown hK hP 0 rfl rfl 4 (by decide) (hts _ wd_1_160) (fun _ h9 => h9) rfl dX8_whyRefusedForSureties_84 ?_
      refine lv_aload_n hx hb dX8_whyRefusedForSureties_87 rfl (lv_at hl 0 rfl) ?_
      refine va_get (D := D) (ci := 8) (v := .ref (q 7 0)) (C := RX8) (T := TX8) (N := 8) hx hb hts inX8 hown hK hP 0 rfl rfl 0 (by decide) (hts _ wd_1_156) (fun _ h9 => h9) rfl dX8_whyRefusedForSureties_88 ?_
      refine lv_iload_n hx hb dX8_whyRefusedForSureties_91 rfl (lv_at hl 2 rfl) ?_
      refine ro_V (rest := [.ref (q 5 0)]) (st1 := [.int (byteF nT fT (nI i)), .ref (q 5 0)]) (As := [.int (nI i)]) ⟨hx, hb, hml, hown, hts⟩ Gd0 trivial hS hK (c_X7_byteAt l D k (q 7) nT fT (nI i) hT) mi_X7_byteAt wd_1_226 wd_1_227 wd_2_203 ⟨Nat.le_of_ble_eq_true rfl, Nat.le_of_ble_eq_true rfl⟩ (hP.sub [7, 8] rfl) 0 rfl rfl rfl hl.1 rfl (Nat.le_of_ble_eq_true rfl) rfl ⟨Nat.le_of_ble_eq_true rfl, Nat.le_of_ble_eq_true rfl⟩ dX8_whyRefusedForSureties_92 ?_
      refine rw_topi (y := fT i) (byteF_in (by omega) hT) ?_
      refine ro_V (rest := []) (st1 := [.int (cStands (col ga 16) gt (fT i) n)]) (As := [.int (fT i)]) ⟨hx, hb, hml, hown, hts⟩ GdK hG hS hK (c_X3_standsFor l D k kz ke sK sV dz q n gt gn gr ga lost mm gc gl d1 d2 (fT i) hn hm) mi_X3_standsFor wd_2_205 wd_2_206 wd_2_204 ⟨Nat.le_of_ble_eq_true rfl, Nat.le_of_ble_eq_true rfl⟩ ((hP.low (fun c hc => List.mem_append_right _ hc))) 0 rfl rfl rfl hl.1 rfl (Nat.le_of_ble_eq_true rfl) rfl ⟨Nat.le_of_ble_eq_true rfl, Nat.le_of_ble_eq_true rfl⟩ dX8_whyRefusedForSureties_95 ?_
      refine lv_aload_n hx hb dX8_whyRefusedForSureties_98 rfl (lv_at hl 0 rfl) ?_
      refine va_get (D := D) (ci := 8) (v := .ref (q 9 0)) (C := RX8) (T := TX8) (N := 8) hx hb hts inX8 hown hK hP 0 rfl rfl 2 (by decide) (hts _ wd_1_158) (fun _ h9 => h9) rfl dX8_whyRefusedForSureties_99 ?_
      refine va_gets (n := "STANDS") (v := .ref (ke 3)) hx hb (hG.2.2.2.2.2.2.2.2.1 3 (by decide)) hS hown (hts _ wd_2_213) (fun _ h9 => h9) dX8_whyRefusedForSureties_102 ?_
      refine ro_V (rest := [.int (cStands (col ga 16) gt (fT i) n)]) (st1 := [.int (fV 3), .int (cStands (col ga 16) gt (fT i) n)]) (As := [.ref (ke 3)]) ⟨hx, hb, hml, hown, hts⟩ GdK hG hS hK (c_X6_current l D k kz ke sK sV (q 9) fV 3 (by omega)) mi_X6_current wd_2_88 wd_2_89 wd_2_87 ⟨Nat.le_of_ble_eq_true rfl, Nat.le_of_ble_eq_true rfl⟩ (hP.sub [2, 3] rfl) 0 rfl rfl rfl hl.1 rfl (Nat.le_of_ble_eq_true rfl) rfl ⟨Nat.le_of_ble_eq_true rfl, Nat.le_of_ble_eq_true rfl⟩ dX8_whyRefusedForSureties_105 ?_
      refine lv_icmp_lt (tgt := 114) hx hb dX8_whyRefusedForSureties_108 (by decide) (fun c108 => ?_) (fun c108 => ?_)
      · refine lv_iinc (v := nI (i + 1)) (lv' := [(2, .int (nI (i + 1))), (0, .ref (q 6 0)), (1, .int x)]) hx hb dX8_whyRefusedForSureties_114 hl (k := 2) rfl (nI_1 _) (by decide) rfl (fun ls hl => ?_)
        refine lv_goto (tgt := 72) hx hb dX8_whyRefusedForSureties_117 (by decide) ?_
        exact ih (i + 1)  (by omega) (by rw [← he, fnd, if_neg (show ¬ ((!decide (cStands (col ga 16) gt (fT i) n < fV 3)) = true) by simp [c108])]) ls (lv_sub hl [1, 2, 0] rfl)
      · refine lv_bipush (v := 8) hx hb dX8_whyRefusedForSureties_111 (by decide) ?_
        exact ro_i hx hb hr hlocks hq dX8_whyRefusedForSureties_113 (by rw [← he, fnd, if_pos (show (!decide (cStands (col ga 16) gt (fT i) n < fV 3)) = true by simp [c108])]; rfl)
  have L1 : ∀ (r i : Nat), i + r = nT → (if (fnd (fun i => xBarred (fT i) ((np, wk, ft), fV, (fm, st, be, fk, rd, mt), (nT, fT), (nf, g, a), (n, gt, gn, gr, ga, lost, mm, gc, gl))) r i).isSome = true then (7 : Int32) else (if (fnd (fun i => !decide (cStands (col ga 16) gt (fT i) n < fV 3)) nT 0).isSome = true then (8 : Int32) else 0)) = xWhyS x ((np, wk, ft), fV, (fm, st, be, fk, rd, mt), (nT, fT), (nf, g, a), (n, gt, gn, gr, ga, lost, mm, gc, gl)) → ∀ (ls : Array Slot), lv_has ls 3 [(0, .ref (q 6 0)), (1, .int x), (2, .int (nI i))] → W p l e (rmd 5 0 0) s m args below meth c_ s.heap [] 0 0 Q (F0 m 35 ls []) := by
    intro r
    induction r with
    | zero =>
      intro i hi he ls hl
      refine lv_iload_n hx hb dX8_whyRefusedForSureties_35 rfl (lv_at hl 2 rfl) ?_
      refine lv_aload_n hx hb dX8_whyRefusedForSureties_36 rfl (lv_at hl 0 rfl) ?_
      refine va_get (D := D) (ci := 8) (v := .ref (q 7 0)) (C := RX8) (T := TX8) (N := 8) hx hb hts inX8 hown hK hP 0 rfl rfl 0 (by decide) (hts _ wd_1_156) (fun _ h9 => h9) rfl dX8_whyRefusedForSureties_37 ?_
      refine ro_V (rest := [.int (nI i)]) (st1 := [.int (nI nT), .int (nI i)]) (As := []) ⟨hx, hb, hml, hown, hts⟩ Gd0 trivial hS hK (c_X7_length l D k (q 7) nT fT) mi_X7_length wd_1_194 wd_1_195 wd_1_193 ⟨Nat.le_of_ble_eq_true rfl, Nat.le_of_ble_eq_true rfl⟩ (hP.sub [7, 8] rfl) 0 rfl rfl rfl hl.1 rfl (Nat.le_of_ble_eq_true rfl) rfl ⟨Nat.le_of_ble_eq_true rfl, Nat.le_of_ble_eq_true rfl⟩ dX8_whyRefusedForSureties_40 ?_
      refine lv_icmp_ge (tgt := 70) hx hb dX8_whyRefusedForSureties_43 (by decide) (fun c43 => ?_) (fun c43 => absurd (nI_le (by omega) (by omega)) c43)
      refine lv_iconst (v := 0) hx hb dX8_whyRefusedForSureties_70 (by decide) ?_
      refine lv_istore_n (lv' := [(2, .int 0), (0, .ref (q 6 0)), (1, .int x)]) hx hb dX8_whyRefusedForSureties_71 rfl hl (by decide) rfl (fun ls hl => ?_)
      exact L2 nT 0 (by omega) (by rw [← he]; rfl) ls (lv_sub hl [1, 2, 0] rfl)
    | succ r ih =>
      intro i hi he ls hl
      refine lv_iload_n hx hb dX8_whyRefusedForSureties_35 rfl (lv_at hl 2 rfl) ?_
      refine lv_aload_n hx hb dX8_whyRefusedForSureties_36 rfl (lv_at hl 0 rfl) ?_
      refine va_get (D := D) (ci := 8) (v := .ref (q 7 0)) (C := RX8) (T := TX8) (N := 8) hx hb hts inX8 hown hK hP 0 rfl rfl 0 (by decide) (hts _ wd_1_156) (fun _ h9 => h9) rfl dX8_whyRefusedForSureties_37 ?_
      refine ro_V (rest := [.int (nI i)]) (st1 := [.int (nI nT), .int (nI i)]) (As := []) ⟨hx, hb, hml, hown, hts⟩ Gd0 trivial hS hK (c_X7_length l D k (q 7) nT fT) mi_X7_length wd_1_194 wd_1_195 wd_1_193 ⟨Nat.le_of_ble_eq_true rfl, Nat.le_of_ble_eq_true rfl⟩ (hP.sub [7, 8] rfl) 0 rfl rfl rfl hl.1 rfl (Nat.le_of_ble_eq_true rfl) rfl ⟨Nat.le_of_ble_eq_true rfl, Nat.le_of_ble_eq_true rfl⟩ dX8_whyRefusedForSureties_40 ?_
      refine lv_icmp_ge (tgt := 70) hx hb dX8_whyRefusedForSureties_43 (by decide) (fun c43 => absurd c43 (nI_ge (by omega) (by omega))) (fun c43 => ?_)
      refine lv_aload_n hx hb dX8_whyRefusedForSureties_46 rfl (lv_at hl 0 rfl) ?_
      refine lv_aload_n hx hb dX8_whyRefusedForSureties_47 rfl (lv_at hl 0 rfl) ?_
      refine va_get (D := D) (ci := 8) (v := .ref (q 7 0)) (C := RX8) (T := TX8) (N := 8) hx hb hts inX8 hown hK hP 0 rfl rfl 0 (by decide) (hts _ wd_1_156) (fun _ h9 => h9) rfl dX8_whyRefusedForSureties_48 ?_
      refine lv_iload_n hx hb dX8_whyRefusedForSureties_51 rfl (lv_at hl 2 rfl) ?_
      refine ro_V (rest := [.ref (q 6 0)]) (st1 := [.int (byteF nT fT (nI i)), .ref (q 6 0)]) (As := [.int (nI i)]) ⟨hx, hb, hml, hown, hts⟩ Gd0 trivial hS hK (c_X7_byteAt l D k (q 7) nT fT (nI i) hT) mi_X7_byteAt wd_1_226 wd_1_227 wd_2_203 ⟨Nat.le_of_ble_eq_true rfl, Nat.le_of_ble_eq_true rfl⟩ (hP.sub [7, 8] rfl) 0 rfl rfl rfl hl.1 rfl (Nat.le_of_ble_eq_true rfl) rfl ⟨Nat.le_of_ble_eq_true rfl, Nat.le_of_ble_eq_true rfl⟩ dX8_whyRefusedForSureties_52 ?_
      refine rw_topi (y := fT i) (byteF_in (by omega) hT) ?_
      refine ro_V (rest := []) (st1 := [.int (bI (xBarred (fT i) ((np, wk, ft), fV, (fm, st, be, fk, rd, mt), (nT, fT), (nf, g, a), (n, gt, gn, gr, ga, lost, mm, gc, gl))))]) (As := [.int (fT i)]) ⟨hx, hb, hml, hown, hts⟩ GdA hGA hS hK (c_X8_isBarred l D k kz ke sK sV dz mi q np wk ft fV fm st be fk rd mt nT fT nf g a n gt gn gr ga lost mm gc gl d1 d2 (fT i) hp hw hT hf hf1 hn hm) mi_X8_isBarred wd_2_173 wp_1_10 wd_2_171 ⟨Nat.le_of_ble_eq_true rfl, Nat.le_of_ble_eq_true rfl⟩ (hP) 0 rfl rfl rfl hl.1 rfl (Nat.le_of_ble_eq_true rfl) rfl ⟨Nat.le_of_ble_eq_true rfl, Nat.le_of_ble_eq_true rfl⟩ dX8_whyRefusedForSureties_55 ?_
      refine lv_if_eq (tgt := 64) hx hb dX8_whyRefusedForSureties_58 (by decide) (fun c58 => ?_) (fun c58 => ?_)
      · replace c58 : (xBarred (fT i) ((np, wk, ft), fV, (fm, st, be, fk, rd, mt), (nT, fT), (nf, g, a), (n, gt, gn, gr, ga, lost, mm, gc, gl))) = false := bI_0.mp c58
        refine lv_iinc (v := nI (i + 1)) (lv' := [(2, .int (nI (i + 1))), (0, .ref (q 6 0)), (1, .int x)]) hx hb dX8_whyRefusedForSureties_64 hl (k := 2) rfl (nI_1 _) (by decide) rfl (fun ls hl => ?_)
        refine lv_goto (tgt := 35) hx hb dX8_whyRefusedForSureties_67 (by decide) ?_
        exact ih (i + 1)  (by omega) (by rw [← he, fnd, if_neg (show ¬ (xBarred (fT i) ((np, wk, ft), fV, (fm, st, be, fk, rd, mt), (nT, fT), (nf, g, a), (n, gt, gn, gr, ga, lost, mm, gc, gl)) = true) by rw [c58]; decide)]) ls (lv_sub hl [1, 2, 0] rfl)
      · replace c58 : (xBarred (fT i) ((np, wk, ft), fV, (fm, st, be, fk, rd, mt), (nT, fT), (nf, g, a), (n, gt, gn, gr, ga, lost, mm, gc, gl))) = true := bI_n.mp c58
        refine lv_bipush (v := 7) hx hb dX8_whyRefusedForSureties_61 (by decide) ?_
        exact ro_i hx hb hr hlocks hq dX8_whyRefusedForSureties_63 (by rw [← he, fnd, if_pos c58]; rfl)
  refine lv_aload_n hx hb dX8_whyRefusedForSureties_0 rfl (lv_at hl 0 rfl) ?_
  refine va_get (D := D) (ci := 8) (v := .ref (q 7 0)) (C := RX8) (T := TX8) (N := 8) hx hb hts inX8 hown hK hP 0 rfl rfl 0 (by decide) (hts _ wd_1_156) (fun _ h9 => h9) rfl dX8_whyRefusedForSureties_1 ?_
  refine ro_V (rest := []) (st1 := [.int (nI nT)]) (As := []) ⟨hx, hb, hml, hown, hts⟩ Gd0 trivial hS hK (c_X7_length l D k (q 7) nT fT) mi_X7_length wd_1_194 wd_1_195 wd_1_193 ⟨Nat.le_of_ble_eq_true rfl, Nat.le_of_ble_eq_true rfl⟩ (hP.sub [7, 8] rfl) 0 rfl rfl rfl hl.1 rfl (Nat.le_of_ble_eq_true rfl) rfl ⟨Nat.le_of_ble_eq_true rfl, Nat.le_of_ble_eq_true rfl⟩ dX8_whyRefusedForSureties_4 ?_
  refine lv_aload_n hx hb dX8_whyRefusedForSureties_7 rfl (lv_at hl 0 rfl) ?_
  refine va_get (D := D) (ci := 8) (v := .ref (q 9 0)) (C := RX8) (T := TX8) (N := 8) hx hb hts inX8 hown hK hP 0 rfl rfl 2 (by decide) (hts _ wd_1_158) (fun _ h9 => h9) rfl dX8_whyRefusedForSureties_8 ?_
  refine va_gets (n := "SURETIES") (v := .ref (ke 2)) hx hb (hG.2.2.2.2.2.2.2.2.1 2 (by decide)) hS hown (hts _ wd_2_194) (fun _ h9 => h9) dX8_whyRefusedForSureties_11 ?_
  refine ro_V (rest := [.int (nI nT)]) (st1 := [.int (fV 2), .int (nI nT)]) (As := [.ref (ke 2)]) ⟨hx, hb, hml, hown, hts⟩ GdK hG hS hK (c_X6_current l D k kz ke sK sV (q 9) fV 2 (by omega)) mi_X6_current wd_2_88 wd_2_89 wd_2_87 ⟨Nat.le_of_ble_eq_true rfl, Nat.le_of_ble_eq_true rfl⟩ (hP.sub [2, 3] rfl) 0 rfl rfl rfl hl.1 rfl (Nat.le_of_ble_eq_true rfl) rfl ⟨Nat.le_of_ble_eq_true rfl, Nat.le_of_ble_eq_true rfl⟩ dX8_whyRefusedForSureties_14 ?_
  refine lv_icmp_eq (tgt := 22) hx hb dX8_whyRefusedForSureties_17 (by decide) (fun c17 => ?_) (fun c17 => ?_)
  · refine lv_aload_n hx hb dX8_whyRefusedForSureties_22 rfl (lv_at hl 0 rfl) ?_
    refine lv_iload_n hx hb dX8_whyRefusedForSureties_23 rfl (lv_at hl 1 rfl) ?_
    refine ro_V (rest := []) (st1 := [.int (bI (cOthers np fT nT x))]) (As := [.int x]) ⟨hx, hb, hml, hown, hts⟩ Gd0 trivial hS hK (c_X8_areOthersAllDifferent l D k dz q np wk ft fV fm st be fk rd mt nT fT nf g a n gt gn gr ga lost mm gc gl d1 d2 x hp hw hT hf hf1 hn hm) mi_X8_areOthersAllDifferent wd_2_198 wp_1_12 wd_2_196 ⟨Nat.le_of_ble_eq_true rfl, Nat.le_of_ble_eq_true rfl⟩ (hP) 0 rfl rfl rfl hl.1 rfl (Nat.le_of_ble_eq_true rfl) rfl ⟨Nat.le_of_ble_eq_true rfl, Nat.le_of_ble_eq_true rfl⟩ dX8_whyRefusedForSureties_24 ?_
    refine lv_if_ne (tgt := 33) hx hb dX8_whyRefusedForSureties_27 (by decide) (fun c27 => ?_) (fun c27 => ?_)
    · replace c27 : (cOthers np fT nT x) = true := bI_n.mp c27
      refine lv_iconst (v := 0) hx hb dX8_whyRefusedForSureties_33 (by decide) ?_
      refine lv_istore_n (lv' := [(2, .int 0), (0, .ref (q 6 0)), (1, .int x)]) hx hb dX8_whyRefusedForSureties_34 rfl hl (by decide) rfl (fun ls hl => ?_)
      exact L1 nT 0 (by omega) (by rw [xWhyS, if_pos c17, if_neg (ntf c27)]) ls (lv_sub hl [1, 2, 0] rfl)
    · replace c27 : (cOthers np fT nT x) = false := bI_0.mp c27
      refine lv_bipush (v := 6) hx hb dX8_whyRefusedForSureties_30 (by decide) ?_
      exact ro_i hx hb hr hlocks hq dX8_whyRefusedForSureties_32 (by rw [xWhyS, if_pos c17, if_pos c27])
  · refine lv_iconst (v := 5) hx hb dX8_whyRefusedForSureties_20 (by decide) ?_
    exact ro_i hx hb hr hlocks hq dX8_whyRefusedForSureties_21 (by rw [xWhyS, if_neg c17])
set_option maxHeartbeats 4000000 in
set_option maxRecDepth 100000 in
theorem c_X8_whyRefused (l : Launch) (D : va_G) (k : Nat → ClassId) (kz : Nat) (ke sK sV : Nat → Nat) (dz mi : Nat) (q : Nat → Nat → Nat) (np wk : Nat) (ft fV : Nat → Int32) (fm : Int32) (st be : Nat) (fk : Int32) (rd mt : Nat → Int32) (nT : Nat) (fT : Nat → Int32) (nf : Nat) (g : Int32) (a : Nat → Nat → Int32) (n : Nat) (gt : Nat → Int64) (gn : Nat → Nat) (gr : Nat → Nat → Nat → Int32) (ga : Nat → Nat → Int32) (lost : Int32) (mm : Nat) (gc : Nat → Nat → Int32) (gl : Nat → Nat) (d1 d2 : Int32) (x y : Int32) (hp : np ≤ 40) (hw : wk ≤ 400) (hT : nT ≤ 320) (hf : nf ≤ 6) (hf1 : 1 ≤ nf) (hn : n ≤ 100) (hm : mm ≤ 600) : Ro l yX8_whyRefused cX8_whyRefused 5 (some .int) 6 D (TY k) (GA kz ke sK sV dz mi) [.ref (q 6 0), .int x, .int y] (bX k dz q d1 d2 ((np, wk, ft), fV, (fm, st, be, fk, rd, mt), (nT, fT), (nf, g, a), (n, gt, gn, gr, ga, lost, mm, gc, gl))) (some (.int (xWhy x y ((np, wk, ft), fV, (fm, st, be, fk, rd, mt), (nT, fT), (nf, g, a), (n, gt, gn, gr, ga, lost, mm, gc, gl))))) := by
  refine ro_body (by decide +kernel) (Nat.le_of_ble_eq_true rfl) ?_
  intro p e s m args below meth c_ Q hx hb hml hown hts hK hP hS hG hr hq hlocks ls hl
  replace hl : lv_has ls 5 [(0, .ref (q 6 0)), (1, .int x), (2, .int y)] := hl
  change s.vm.findClass RX8 = some m.cls at hown
  replace hP : va_P D vwCl ([(q 6 0, .inr (8, [.ref (q 7 0), .ref (q 8 0), .ref (q 9 0), .ref (q 10 0), .ref (q 5 0), .ref (q 6 1), .int (nI np), .int (nI wk)])), (q 6 1, .inl (k 0, 40, .inl ft)), (q 9 0, .inr (6, [.ref (q 9 1)])), (q 9 1, .inl (k 0, 9, .inl fV)), (q 8 0, .inr (5, [.ref (q 8 1), .ref (q 8 2), .int fm, .int (nI st), .int (nI be), .int fk])), (q 8 1, .inl (k 0, 9, .inl rd)), (q 8 2, .inl (k 1, 9, .inl mt)), (q 7 0, .inr (7, [.ref (q 7 1), .int (nI nT)])), (q 7 1, .inl (k 0, 320, .inl fT)), (q 10 0, .inr (2, [.ref (q 10 1), .ref (q 10 2), .ref (q 10 3), .ref (q 10 4), .int (nI nf), .int g])), (q 10 1, .inl (k 0, 6, .inl (a 1))), (q 10 2, .inl (k 0, 6, .inl (a 2))), (q 10 3, .inl (k 0, 6, .inl (a 3))), (q 10 4, .inl (k 0, 2400, .inl (a 4)))] ++ bG k dz q n gt gn gr ga lost mm gc gl d1 d2) s.heap := hP
  have hGA := hG
  have hGL := hG.2
  replace hG := hG.1
  refine lv_aload_n hx hb dX8_whyRefused_0 rfl (lv_at hl 0 rfl) ?_
  refine lv_iload_n hx hb dX8_whyRefused_1 rfl (lv_at hl 1 rfl) ?_
  refine lv_iload_n hx hb dX8_whyRefused_2 rfl (lv_at hl 2 rfl) ?_
  refine ro_V (rest := []) (st1 := [.int (xWhyB x y ((np, wk, ft), fV, (fm, st, be, fk, rd, mt), (nT, fT), (nf, g, a), (n, gt, gn, gr, ga, lost, mm, gc, gl)))]) (As := [.int x, .int y]) ⟨hx, hb, hml, hown, hts⟩ GdA hGA hS hK (c_X8_whyRefusedForBorrower l D k kz ke sK sV dz mi q np wk ft fV fm st be fk rd mt nT fT nf g a n gt gn gr ga lost mm gc gl d1 d2 x y hp hw hT hf hf1 hn hm) mi_X8_whyRefusedForBorrower wd_2_138 wp_1_9 wd_2_136 ⟨Nat.le_of_ble_eq_true rfl, Nat.le_of_ble_eq_true rfl⟩ (hP) 0 rfl rfl rfl hl.1 rfl (Nat.le_of_ble_eq_true rfl) rfl ⟨Nat.le_of_ble_eq_true rfl, Nat.le_of_ble_eq_true rfl⟩ dX8_whyRefused_3 ?_
  refine lv_istore_n (lv' := [(3, .int (xWhyB x y ((np, wk, ft), fV, (fm, st, be, fk, rd, mt), (nT, fT), (nf, g, a), (n, gt, gn, gr, ga, lost, mm, gc, gl)))), (0, .ref (q 6 0)), (1, .int x), (2, .int y)]) hx hb dX8_whyRefused_6 rfl hl (by decide) rfl (fun ls hl => ?_)
  refine lv_iload_n hx hb dX8_whyRefused_7 rfl (lv_at hl 0 rfl) ?_
  refine lv_if_ne (tgt := 17) hx hb dX8_whyRefused_8 (by decide) (fun c8 => ?_) (fun c8 => ?_)
  · refine lv_iload_n hx hb dX8_whyRefused_17 rfl (lv_at hl 0 rfl) ?_
    refine lv_if_eq (tgt := 23) hx hb dX8_whyRefused_18 (by decide) (fun c18 => absurd c18 (c8)) (fun c18 => ?_)
    refine lv_iload_n hx hb dX8_whyRefused_21 rfl (lv_at hl 0 rfl) ?_
    exact ro_i hx hb hr hlocks hq dX8_whyRefused_22 (by rw [xWhy, if_neg c8])
  · have hxi : isIn x np = true := xWhyB_in c8
    have hxn := (isIn_spec hxi (by omega)).2
    refine lv_aload_n hx hb dX8_whyRefused_11 rfl (lv_at hl 1 rfl) ?_
    refine lv_iload_n hx hb dX8_whyRefused_12 rfl (lv_at hl 2 rfl) ?_
    refine ro_V (rest := []) (st1 := [.int (xWhyS x ((np, wk, ft), fV, (fm, st, be, fk, rd, mt), (nT, fT), (nf, g, a), (n, gt, gn, gr, ga, lost, mm, gc, gl)))]) (As := [.int x]) ⟨hx, hb, hml, hown, hts⟩ GdA hGA hS hK (c_X8_whyRefusedForSureties l D k kz ke sK sV dz mi q np wk ft fV fm st be fk rd mt nT fT nf g a n gt gn gr ga lost mm gc gl d1 d2 x hp hw hT hf hf1 hn hm) mi_X8_whyRefusedForSureties wd_2_192 wp_1_11 wd_2_190 ⟨Nat.le_of_ble_eq_true rfl, Nat.le_of_ble_eq_true rfl⟩ (hP) 0 rfl rfl rfl hl.1 rfl (Nat.le_of_ble_eq_true rfl) rfl ⟨Nat.le_of_ble_eq_true rfl, Nat.le_of_ble_eq_true rfl⟩ dX8_whyRefused_13 ?_
    refine lv_istore_n (lv' := [(3, .int (xWhyS x ((np, wk, ft), fV, (fm, st, be, fk, rd, mt), (nT, fT), (nf, g, a), (n, gt, gn, gr, ga, lost, mm, gc, gl)))), (0, .ref (q 6 0)), (1, .int x), (2, .int y)]) hx hb dX8_whyRefused_16 rfl hl (by decide) rfl (fun ls hl => ?_)
    refine lv_iload_n hx hb dX8_whyRefused_17 rfl (lv_at hl 0 rfl) ?_
    refine lv_if_eq (tgt := 23) hx hb dX8_whyRefused_18 (by decide) (fun c18 => ?_) (fun c18 => ?_)
    · refine lv_aload_n hx hb dX8_whyRefused_23 rfl (lv_at hl 1 rfl) ?_
      refine va_get (D := D) (ci := 8) (v := .ref (q 5 0)) (C := RX8) (T := TX8) (N := 8) hx hb hts inX8 hown hK hP 0 rfl rfl 4 (by decide) (hts _ wd_1_160) (fun _ h9 => h9) rfl dX8_whyRefused_24 ?_
      refine lv_iload_n hx hb dX8_whyRefused_27 rfl (lv_at hl 2 rfl) ?_
      refine lv_aload_n hx hb dX8_whyRefused_28 rfl (lv_at hl 1 rfl) ?_
      refine ro_V (rest := [.int x, .ref (q 5 0)]) (st1 := [.long (cBits fT nT), .int x, .ref (q 5 0)]) (As := []) ⟨hx, hb, hml, hown, hts⟩ Gd0 trivial hS hK (c_X8_bitsOnTape l D k dz q np wk ft fV fm st be fk rd mt nT fT nf g a n gt gn gr ga lost mm gc gl d1 d2 hp hw hT hf hf1 hn hm) mi_X8_bitsOnTape wd_2_217 wp_1_13 wd_2_215 ⟨Nat.le_of_ble_eq_true rfl, Nat.le_of_ble_eq_true rfl⟩ (hP) 0 rfl rfl rfl hl.1 rfl (Nat.le_of_ble_eq_true rfl) rfl ⟨Nat.le_of_ble_eq_true rfl, Nat.le_of_ble_eq_true rfl⟩ dX8_whyRefused_29 ?_
      refine ro_V (rest := []) (st1 := [.int (cRing (col ga 1) (col ga 16) gt n x 40 1 (cBits fT nT))]) (As := [.int x, .long (cBits fT nT)]) ⟨hx, hb, hml, hown, hts⟩ GdK hG hS hK (c_X3_shortestRing l D k kz ke sK sV dz q n gt gn gr ga lost mm gc gl d1 d2 x (cBits fT nT) hn hm) mi_X3_shortestRing wd_2_220 wd_2_221 wd_2_219 ⟨Nat.le_of_ble_eq_true rfl, Nat.le_of_ble_eq_true rfl⟩ ((hP.low (fun c hc => List.mem_append_right _ hc))) 0 rfl rfl rfl hl.1 rfl (Nat.le_of_ble_eq_true rfl) rfl ⟨Nat.le_of_ble_eq_true rfl, Nat.le_of_ble_eq_true rfl⟩ dX8_whyRefused_32 ?_
      refine lv_istore (lv' := [(4, .int (cRing (col ga 1) (col ga 16) gt n x 40 1 (cBits fT nT))), (3, .int (xWhyS x ((np, wk, ft), fV, (fm, st, be, fk, rd, mt), (nT, fT), (nf, g, a), (n, gt, gn, gr, ga, lost, mm, gc, gl)))), (0, .ref (q 6 0)), (1, .int x), (2, .int y)]) hx hb dX8_whyRefused_35 hl (by decide) rfl (fun ls hl => ?_)
      refine lv_iload hx hb dX8_whyRefused_37 (lv_at hl 0 rfl) ?_
      refine lv_iconst (v := (-1)) hx hb dX8_whyRefused_39 (by decide) ?_
      refine lv_icmp_eq (tgt := 61) hx hb dX8_whyRefused_40 (by decide) (fun c40 => ?_) (fun c40 => ?_)
      · refine lv_aload_n hx hb dX8_whyRefused_61 rfl (lv_at hl 2 rfl) ?_
        refine va_get (D := D) (ci := 8) (v := .ref (q 10 0)) (C := RX8) (T := TX8) (N := 8) hx hb hts inX8 hown hK hP 0 rfl rfl 3 (by decide) (hts _ wd_1_159) (fun _ h9 => h9) rfl dX8_whyRefused_62 ?_
        refine lv_aload_n hx hb dX8_whyRefused_65 rfl (lv_at hl 2 rfl) ?_
        refine va_get (D := D) (ci := 8) (v := .ref (q 6 1)) (C := RX8) (T := TX8) (N := 8) hx hb hts inX8 hown hK hP 0 rfl rfl 5 (by decide) (hts _ wd_1_161) (fun _ h9 => h9) rfl dX8_whyRefused_66 ?_
        refine lv_iload_n hx hb dX8_whyRefused_69 rfl (lv_at hl 3 rfl) ?_
        refine ra_iald (n := 40) (f := ft) hx hb hK hP 1 0 rfl rfl x.toNatClampNeg ((isIn_spec hxi (by omega)).1) (by omega) (by decide) dX8_whyRefused_70 ?_
        refine lv_aload_n hx hb dX8_whyRefused_71 rfl (lv_at hl 2 rfl) ?_
        refine va_get (D := D) (ci := 8) (v := .ref (q 9 0)) (C := RX8) (T := TX8) (N := 8) hx hb hts inX8 hown hK hP 0 rfl rfl 2 (by decide) (hts _ wd_1_158) (fun _ h9 => h9) rfl dX8_whyRefused_72 ?_
        refine va_gets (n := "KEEP") (v := .ref (ke 6)) hx hb (hG.2.2.2.2.2.2.2.2.1 6 (by decide)) hS hown (hts _ wd_2_230) (fun _ h9 => h9) dX8_whyRefused_75 ?_
        refine ro_V (rest := [.int (ft x.toNatClampNeg), .ref (q 10 0)]) (st1 := [.int (fV 6), .int (ft x.toNatClampNeg), .ref (q 10 0)]) (As := [.ref (ke 6)]) ⟨hx, hb, hml, hown, hts⟩ GdK hG hS hK (c_X6_current l D k kz ke sK sV (q 9) fV 6 (by omega)) mi_X6_current wd_2_88 wd_2_89 wd_2_87 ⟨Nat.le_of_ble_eq_true rfl, Nat.le_of_ble_eq_true rfl⟩ (hP.sub [2, 3] rfl) 0 rfl rfl rfl hl.1 rfl (Nat.le_of_ble_eq_true rfl) rfl ⟨Nat.le_of_ble_eq_true rfl, Nat.le_of_ble_eq_true rfl⟩ dX8_whyRefused_78 ?_
        refine ro_V (rest := []) (st1 := [.int (cCan (ft x.toNatClampNeg) (fV 6) (nf, g, a))]) (As := [.int (ft x.toNatClampNeg), .int (fV 6)]) ⟨hx, hb, hml, hown, hts⟩ Gd0 trivial hS hK (c_X1_canLend l D k (q 10) nf g a (ft x.toNatClampNeg) (fV 6) hf hf1) mi_X1_canLend wd_2_233 wd_2_234 wd_2_232 ⟨Nat.le_of_ble_eq_true rfl, Nat.le_of_ble_eq_true rfl⟩ (hP.sub [9, 10, 11, 12, 13] rfl) 0 rfl rfl rfl hl.1 rfl (Nat.le_of_ble_eq_true rfl) rfl ⟨Nat.le_of_ble_eq_true rfl, Nat.le_of_ble_eq_true rfl⟩ dX8_whyRefused_81 ?_
        refine lv_iload_n hx hb dX8_whyRefused_84 rfl (lv_at hl 4 rfl) ?_
        refine lv_icmp_ge (tgt := 93) hx hb dX8_whyRefused_85 (by decide) (fun c85 => ?_) (fun c85 => ?_)
        · refine lv_iconst (v := 0) hx hb dX8_whyRefused_93 (by decide) ?_
          exact ro_i hx hb hr hlocks hq dX8_whyRefused_94 (by rw [xWhy, if_pos c8, if_pos c18, xWhyR, if_pos c40, xCan, if_pos c85])
        · refine lv_bipush (v := 10) hx hb dX8_whyRefused_88 (by decide) ?_
          refine lv_goto (tgt := 94) hx hb dX8_whyRefused_90 (by decide) ?_
          exact ro_i hx hb hr hlocks hq dX8_whyRefused_94 (by rw [xWhy, if_pos c8, if_pos c18, xWhyR, if_pos c40, xCan, if_neg c85])
      · refine lv_iload hx hb dX8_whyRefused_43 (lv_at hl 0 rfl) ?_
        refine lv_aload_n hx hb dX8_whyRefused_45 rfl (lv_at hl 2 rfl) ?_
        refine va_get (D := D) (ci := 8) (v := .ref (q 9 0)) (C := RX8) (T := TX8) (N := 8) hx hb hts inX8 hown hK hP 0 rfl rfl 2 (by decide) (hts _ wd_1_158) (fun _ h9 => h9) rfl dX8_whyRefused_46 ?_
        refine va_gets (n := "RING") (v := .ref (ke 7)) hx hb (hG.2.2.2.2.2.2.2.2.1 7 (by decide)) hS hown (hts _ wd_2_228) (fun _ h9 => h9) dX8_whyRefused_49 ?_
        refine ro_V (rest := [.int (cRing (col ga 1) (col ga 16) gt n x 40 1 (cBits fT nT))]) (st1 := [.int (fV 7), .int (cRing (col ga 1) (col ga 16) gt n x 40 1 (cBits fT nT))]) (As := [.ref (ke 7)]) ⟨hx, hb, hml, hown, hts⟩ GdK hG hS hK (c_X6_current l D k kz ke sK sV (q 9) fV 7 (by omega)) mi_X6_current wd_2_88 wd_2_89 wd_2_87 ⟨Nat.le_of_ble_eq_true rfl, Nat.le_of_ble_eq_true rfl⟩ (hP.sub [2, 3] rfl) 0 rfl rfl rfl hl.1 rfl (Nat.le_of_ble_eq_true rfl) rfl ⟨Nat.le_of_ble_eq_true rfl, Nat.le_of_ble_eq_true rfl⟩ dX8_whyRefused_52 ?_
        refine lv_icmp_gt (tgt := 61) hx hb dX8_whyRefused_55 (by decide) (fun c55 => ?_) (fun c55 => ?_)
        · refine lv_aload_n hx hb dX8_whyRefused_61 rfl (lv_at hl 2 rfl) ?_
          refine va_get (D := D) (ci := 8) (v := .ref (q 10 0)) (C := RX8) (T := TX8) (N := 8) hx hb hts inX8 hown hK hP 0 rfl rfl 3 (by decide) (hts _ wd_1_159) (fun _ h9 => h9) rfl dX8_whyRefused_62 ?_
          refine lv_aload_n hx hb dX8_whyRefused_65 rfl (lv_at hl 2 rfl) ?_
          refine va_get (D := D) (ci := 8) (v := .ref (q 6 1)) (C := RX8) (T := TX8) (N := 8) hx hb hts inX8 hown hK hP 0 rfl rfl 5 (by decide) (hts _ wd_1_161) (fun _ h9 => h9) rfl dX8_whyRefused_66 ?_
          refine lv_iload_n hx hb dX8_whyRefused_69 rfl (lv_at hl 3 rfl) ?_
          refine ra_iald (n := 40) (f := ft) hx hb hK hP 1 0 rfl rfl x.toNatClampNeg ((isIn_spec hxi (by omega)).1) (by omega) (by decide) dX8_whyRefused_70 ?_
          refine lv_aload_n hx hb dX8_whyRefused_71 rfl (lv_at hl 2 rfl) ?_
          refine va_get (D := D) (ci := 8) (v := .ref (q 9 0)) (C := RX8) (T := TX8) (N := 8) hx hb hts inX8 hown hK hP 0 rfl rfl 2 (by decide) (hts _ wd_1_158) (fun _ h9 => h9) rfl dX8_whyRefused_72 ?_
          refine va_gets (n := "KEEP") (v := .ref (ke 6)) hx hb (hG.2.2.2.2.2.2.2.2.1 6 (by decide)) hS hown (hts _ wd_2_230) (fun _ h9 => h9) dX8_whyRefused_75 ?_
          refine ro_V (rest := [.int (ft x.toNatClampNeg), .ref (q 10 0)]) (st1 := [.int (fV 6), .int (ft x.toNatClampNeg), .ref (q 10 0)]) (As := [.ref (ke 6)]) ⟨hx, hb, hml, hown, hts⟩ GdK hG hS hK (c_X6_current l D k kz ke sK sV (q 9) fV 6 (by omega)) mi_X6_current wd_2_88 wd_2_89 wd_2_87 ⟨Nat.le_of_ble_eq_true rfl, Nat.le_of_ble_eq_true rfl⟩ (hP.sub [2, 3] rfl) 0 rfl rfl rfl hl.1 rfl (Nat.le_of_ble_eq_true rfl) rfl ⟨Nat.le_of_ble_eq_true rfl, Nat.le_of_ble_eq_true rfl⟩ dX8_whyRefused_78 ?_
          refine ro_V (rest := []) (st1 := [.int (cCan (ft x.toNatClampNeg) (fV 6) (nf, g, a))]) (As := [.int (ft x.toNatClampNeg), .int (fV 6)]) ⟨hx, hb, hml, hown, hts⟩ Gd0 trivial hS hK (c_X1_canLend l D k (q 10) nf g a (ft x.toNatClampNeg) (fV 6) hf hf1) mi_X1_canLend wd_2_233 wd_2_234 wd_2_232 ⟨Nat.le_of_ble_eq_true rfl, Nat.le_of_ble_eq_true rfl⟩ (hP.sub [9, 10, 11, 12, 13] rfl) 0 rfl rfl rfl hl.1 rfl (Nat.le_of_ble_eq_true rfl) rfl ⟨Nat.le_of_ble_eq_true rfl, Nat.le_of_ble_eq_true rfl⟩ dX8_whyRefused_81 ?_
          refine lv_iload_n hx hb dX8_whyRefused_84 rfl (lv_at hl 4 rfl) ?_
          refine lv_icmp_ge (tgt := 93) hx hb dX8_whyRefused_85 (by decide) (fun c85 => ?_) (fun c85 => ?_)
          · refine lv_iconst (v := 0) hx hb dX8_whyRefused_93 (by decide) ?_
            exact ro_i hx hb hr hlocks hq dX8_whyRefused_94 (by rw [xWhy, if_pos c8, if_pos c18, xWhyR, if_neg c40, if_pos c55, xCan, if_pos c85])
          · refine lv_bipush (v := 10) hx hb dX8_whyRefused_88 (by decide) ?_
            refine lv_goto (tgt := 94) hx hb dX8_whyRefused_90 (by decide) ?_
            exact ro_i hx hb hr hlocks hq dX8_whyRefused_94 (by rw [xWhy, if_pos c8, if_pos c18, xWhyR, if_neg c40, if_pos c55, xCan, if_neg c85])
        · refine lv_bipush (v := 9) hx hb dX8_whyRefused_58 (by decide) ?_
          exact ro_i hx hb hr hlocks hq dX8_whyRefused_60 (by rw [xWhy, if_pos c8, if_pos c18, xWhyR, if_neg c40, if_neg c55])
    · refine lv_iload_n hx hb dX8_whyRefused_21 rfl (lv_at hl 0 rfl) ?_
      exact ro_i hx hb hr hlocks hq dX8_whyRefused_22 (by rw [xWhy, if_pos c8, if_neg c18])
