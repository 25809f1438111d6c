def xLoanV (x y : Int32) (u : CSt) : Option Int32 := match atO x u.n with
  | none => none
  | some j => match swN y 9 with
    | 0 => some (u.ga j 1) | 1 => some (u.ga j 2) | 2 => some (u.ga j 3) | 3 => some (u.ga j 11) | 4 => some (u.ga j 12) | 5 => some (u.ga j 13) | 6 => some (u.ga j 14) | 7 => some (u.ga j 16) | 8 => some (nI (u.gn j)) | 9 => some (u.ga j 17) | _ => none
def xSuretyV (x y : Int32) (u : CSt) : Option Int32 := match atO x u.n with
  | none => none
  | some j => if y < 0 then none else if y < nI (u.gn j) then some (u.gr 1 j y.toNatClampNeg) else none
def xTakenV (x y : Int32) (u : CSt) : Option Int32 := match atO x u.n with
  | none => none
  | some j => if isIn y u.F.1 = false then none else some (u.gr 2 j y.toNatClampNeg)
def xAboutV (x y : Int32) (u : CSt) : Option Int32 := if isIn x u.np = false then none else match swN y 6 with
  | 0 => some (u.ft x.toNatClampNeg) | 1 => some (cClamp (cChar (col u.ga 1) (col u.ga 16) (col u.ga 14) x u.n)) | 2 => some (bI (xBarred x u)) | 3 => some (xOpenNo x u) | 4 => some (cStands (col u.ga 16) u.gt x u.n) | 5 => some (fUnpaid (col u.gc 0) (leftOf u.gc) x u.mm) | 6 => some (fCallsOf (col u.gc 0) (leftOf u.gc) x u.mm) | _ => none
set_option maxHeartbeats 4000000 in
set_option maxRecDepth 100000 in
theorem c_X8_loan (l : Launch) (hst : l.stackTraces = false) (D : va_G) (k : Nat → ClassId) (kz : Nat) (ke sK sV : Nat → Nat) (dz mi : Nat) (q : Nat → Nat → Nat) (np wk : Nat) (ft fV : Nat → Int32) (fm : Int32) (st be : Nat) (fk : Int32) (rd mt : Nat → Int32) (nT : Nat) (fT : Nat → Int32) (nf : Nat) (g : Int32) (a : Nat → Nat → Int32) (n : Nat) (gt : Nat → Int64) (gn : Nat → Nat) (gr : Nat → Nat → Nat → Int32) (ga : Nat → Nat → Int32) (lost : Int32) (mm : Nat) (gc : Nat → Nat → Int32) (gl : Nat → Nat) (d1 d2 : Int32) (sx : Nat → Nat) (x y : Int32) (hp : np ≤ 40) (hw : wk ≤ 400) (hT : nT ≤ 320) (hf : nf ≤ 6) (hf1 : 1 ≤ nf) (hn : n ≤ 100) (hm : mm ≤ 600) : Rx l yX8_loan cX8_loan 4 (some .int) 6 D (TY k) (GAT kz ke sK sV dz mi sx) [.ref (q 6 0), .int x, .int y] (bX k dz q d1 d2 ((np, wk, ft), fV, (fm, st, be, fk, rd, mt), (nT, fT), (nf, g, a), (n, gt, gn, gr, ga, lost, mm, gc, gl))) (xLoanV x y ((np, wk, ft), fV, (fm, st, be, fk, rd, mt), (nT, fT), (nf, g, a), (n, gt, gn, gr, ga, lost, mm, gc, gl))) := by
  refine rx_body (by decide +kernel) (Nat.le_of_ble_eq_true rfl) ?_
  intro p e s m args below meth c_ hx hb hml hown hts hK hP hS hG hr hout hlocks ls hl
  replace hl : lv_has ls 4 [(0, .ref (q 6 0)), (1, .int x), (2, .int y)] := hl
  change s.vm.findClass RX8 = some m.cls at hown
  replace hP : va_P D vwCl ([(q 6 0, .inr (8, [.ref (q 7 0), .ref (q 8 0), .ref (q 9 0), .ref (q 10 0), .ref (q 5 0), .ref (q 6 1), .int (nI np), .int (nI wk)])), (q 6 1, .inl (k 0, 40, .inl ft)), (q 9 0, .inr (6, [.ref (q 9 1)])), (q 9 1, .inl (k 0, 9, .inl fV)), (q 8 0, .inr (5, [.ref (q 8 1), .ref (q 8 2), .int fm, .int (nI st), .int (nI be), .int fk])), (q 8 1, .inl (k 0, 9, .inl rd)), (q 8 2, .inl (k 1, 9, .inl mt)), (q 7 0, .inr (7, [.ref (q 7 1), .int (nI nT)])), (q 7 1, .inl (k 0, 320, .inl fT)), (q 10 0, .inr (2, [.ref (q 10 1), .ref (q 10 2), .ref (q 10 3), .ref (q 10 4), .int (nI nf), .int g])), (q 10 1, .inl (k 0, 6, .inl (a 1))), (q 10 2, .inl (k 0, 6, .inl (a 2))), (q 10 3, .inl (k 0, 6, .inl (a 3))), (q 10 4, .inl (k 0, 2400, .inl (a 4)))] ++ bG k dz q n gt gn gr ga lost mm gc gl d1 d2) s.heap := hP
  have hGT := hG.2
  replace hG := hG.1
  have hGA := hG
  have hGL := hG.2
  replace hG := hG.1
  refine lv_aload_n hx hb dX8_loan_0 rfl (lv_at hl 0 rfl) ?_
  refine va_get (D := D) (ci := 8) (v := .ref (q 5 0)) (C := RX8) (T := TX8) (N := 8) hx hb hts inX8 hown hK hP 0 rfl rfl 4 (by decide) (hts _ wd_1_160) (fun _ h9 => h9) rfl dX8_loan_1 ?_
  refine lv_iload_n hx hb dX8_loan_4 rfl (lv_at hl 1 rfl) ?_
  refine ro_V (rest := []) (st1 := oR (q 0) (atO x n) :: []) (As := [.int x]) ⟨hx, hb, hml, hown, hts⟩ Gd0 trivial hS hK (c_X3_loanAt l D k dz q n gt gn gr ga lost mm gc gl d1 d2 x hn hm) mi_X3_loanAt wd_4_78 wd_4_79 wd_4_77 ⟨Nat.le_of_ble_eq_true rfl, Nat.le_of_ble_eq_true rfl⟩ ((hP.low (fun c hc => List.mem_append_right _ hc))) 0 rfl rfl rfl hl.1 rfl (Nat.le_of_ble_eq_true rfl) rfl ⟨Nat.le_of_ble_eq_true rfl, Nat.le_of_ble_eq_true rfl⟩ dX8_loan_5 ?_
  cases o5 : atO x n with
  | none =>
    refine W.eq (g2 := F0 m 8 ls [.null]) rfl ?_
    refine lv_astore_nN (lv' := [(3, .null), (0, .ref (q 6 0)), (1, .int x), (2, .int y)]) hx hb dX8_loan_8 rfl hl (by decide) rfl (fun ls hl => ?_)
    refine lv_aload_nN hx hb dX8_loan_9 rfl (lv_at hl 0 rfl) ?_
    refine lv_ifnonnullN hx hb dX8_loan_10 ?_
    exact rx_t hst hx hb hown hts hGT (hGT.2.2.2.2.2.2.1) hS (hml.trans hl.1.symm).symm wd_4_81 wd_1_27 dX8_loan_13 dX8_loan_16 dX8_loan_17 dX8_loan_19 dX8_loan_22 hout hlocks (by unfold xLoanV; rw [show atO x (CSt.n ((np, wk, ft), fV, (fm, st, be, fk, rd, mt), (nT, fT), (nf, g, a), (n, gt, gn, gr, ga, lost, mm, gc, gl))) = none from o5])
  | some j5 =>
    refine W.eq (g2 := F0 m 8 ls [.ref (q 0 j5)]) rfl ?_
    have hj5 : j5 < n := atO_lt o5 (by omega)
    refine lv_astore_n (lv' := [(3, .ref (q 0 j5)), (0, .ref (q 6 0)), (1, .int x), (2, .int y)]) hx hb dX8_loan_8 rfl hl (by decide) rfl (fun ls hl => ?_)
    refine lv_aload_n hx hb dX8_loan_9 rfl (lv_at hl 0 rfl) ?_
    refine lv_ifnonnull (tgt := 23) hx hb dX8_loan_10 (by decide) ?_
    refine lv_iload_n hx hb dX8_loan_23 rfl (lv_at hl 3 rfl) ?_
    rcases sw_cases y 9 with sw_2 | ⟨j_1, hj_1, ej_1⟩
    · refine lv_tableOut (tgt := 131) hx hb dX8_loan_24 sw_2 (by decide) ?_
      exact rx_t hst hx hb hown hts hGT (hGT.2.2.2.2.2.2.2.1) hS (hml.trans hl.1.symm).symm wd_4_81 wd_1_27 dX8_loan_131 dX8_loan_134 dX8_loan_135 dX8_loan_137 dX8_loan_140 hout hlocks (by unfold xLoanV; rw [show atO x (CSt.n ((np, wk, ft), fV, (fm, st, be, fk, rd, mt), (nT, fT), (nf, g, a), (n, gt, gn, gr, ga, lost, mm, gc, gl))) = some j5 from o5]; simp only [swN_out sw_2])
    · subst ej_1
      rcases (show j_1 = 0 ∨ j_1 = 1 ∨ j_1 = 2 ∨ j_1 = 3 ∨ j_1 = 4 ∨ j_1 = 5 ∨ j_1 = 6 ∨ j_1 = 7 ∨ j_1 = 8 ∨ j_1 = 9 by omega) with rfl | rfl | rfl | rfl | rfl | rfl | rfl | rfl | rfl | rfl
      · refine lv_tableIn (off := 56) (tgt := 80) hx hb dX8_loan_24 (by decide) (by decide) (by decide) (by decide) ?_
        refine lv_aload_n hx hb dX8_loan_80 rfl (lv_at hl 0 rfl) ?_
        refine va_get (D := D) (ci := 4) (v := .int (ga j5 1)) (C := RX4) (T := TX4) (N := 18) hx hb hts inX4 hown hK (hP.mem (List.mem_append_right _ (bG_L (i := j5) (by omega)))) 0 rfl rfl 1 (by decide) (hts _ wd_3_35) (fun _ h9 => h9) rfl dX8_loan_81 ?_
        exact rx_i hx hb hr hlocks dX8_loan_84 (by unfold xLoanV; rw [show atO x (CSt.n ((np, wk, ft), fV, (fm, st, be, fk, rd, mt), (nT, fT), (nf, g, a), (n, gt, gn, gr, ga, lost, mm, gc, gl))) = some j5 from o5]; simp only [swN_in (show 0 ≤ 9 by decide) (by decide)])
      · refine lv_tableIn (off := 61) (tgt := 85) hx hb dX8_loan_24 (by decide) (by decide) (by decide) (by decide) ?_
        refine lv_aload_n hx hb dX8_loan_85 rfl (lv_at hl 0 rfl) ?_
        refine va_get (D := D) (ci := 4) (v := .int (ga j5 2)) (C := RX4) (T := TX4) (N := 18) hx hb hts inX4 hown hK (hP.mem (List.mem_append_right _ (bG_L (i := j5) (by omega)))) 0 rfl rfl 2 (by decide) (hts _ wd_3_38) (fun _ h9 => h9) rfl dX8_loan_86 ?_
        exact rx_i hx hb hr hlocks dX8_loan_89 (by unfold xLoanV; rw [show atO x (CSt.n ((np, wk, ft), fV, (fm, st, be, fk, rd, mt), (nT, fT), (nf, g, a), (n, gt, gn, gr, ga, lost, mm, gc, gl))) = some j5 from o5]; simp only [swN_in (show 1 ≤ 9 by decide) (by decide)])
      · refine lv_tableIn (off := 66) (tgt := 90) hx hb dX8_loan_24 (by decide) (by decide) (by decide) (by decide) ?_
        refine lv_aload_n hx hb dX8_loan_90 rfl (lv_at hl 0 rfl) ?_
        refine va_get (D := D) (ci := 4) (v := .int (ga j5 3)) (C := RX4) (T := TX4) (N := 18) hx hb hts inX4 hown hK (hP.mem (List.mem_append_right _ (bG_L (i := j5) (by omega)))) 0 rfl rfl 3 (by decide) (hts _ wd_3_41) (fun _ h9 => h9) rfl dX8_loan_91 ?_
        exact rx_i hx hb hr hlocks dX8_loan_94 (by unfold xLoanV; rw [show atO x (CSt.n ((np, wk, ft), fV, (fm, st, be, fk, rd, mt), (nT, fT), (nf, g, a), (n, gt, gn, gr, ga, lost, mm, gc, gl))) = some j5 from o5]; simp only [swN_in (show 2 ≤ 9 by decide) (by decide)])
      · refine lv_tableIn (off := 71) (tgt := 95) hx hb dX8_loan_24 (by decide) (by decide) (by decide) (by decide) ?_
        refine lv_aload_n hx hb dX8_loan_95 rfl (lv_at hl 0 rfl) ?_
        refine va_get (D := D) (ci := 4) (v := .int (ga j5 11)) (C := RX4) (T := TX4) (N := 18) hx hb hts inX4 hown hK (hP.mem (List.mem_append_right _ (bG_L (i := j5) (by omega)))) 0 rfl rfl 11 (by decide) (hts _ wd_3_58) (fun _ h9 => h9) rfl dX8_loan_96 ?_
        exact rx_i hx hb hr hlocks dX8_loan_99 (by unfold xLoanV; rw [show atO x (CSt.n ((np, wk, ft), fV, (fm, st, be, fk, rd, mt), (nT, fT), (nf, g, a), (n, gt, gn, gr, ga, lost, mm, gc, gl))) = some j5 from o5]; simp only [swN_in (show 3 ≤ 9 by decide) (by decide)])
      · refine lv_tableIn (off := 76) (tgt := 100) hx hb dX8_loan_24 (by decide) (by decide) (by decide) (by decide) ?_
        refine lv_aload_n hx hb dX8_loan_100 rfl (lv_at hl 0 rfl) ?_
        refine va_get (D := D) (ci := 4) (v := .int (ga j5 12)) (C := RX4) (T := TX4) (N := 18) hx hb hts inX4 hown hK (hP.mem (List.mem_append_right _ (bG_L (i := j5) (by omega)))) 0 rfl rfl 12 (by decide) (hts _ wd_3_61) (fun _ h9 => h9) rfl dX8_loan_101 ?_
        exact rx_i hx hb hr hlocks dX8_loan_104 (by unfold xLoanV; rw [show atO x (CSt.n ((np, wk, ft), fV, (fm, st, be, fk, rd, mt), (nT, fT), (nf, g, a), (n, gt, gn, gr, ga, lost, mm, gc, gl))) = some j5 from o5]; simp only [swN_in (show 4 ≤ 9 by decide) (by decide)])
      · refine lv_tableIn (off := 81) (tgt := 105) hx hb dX8_loan_24 (by decide) (by decide) (by decide) (by decide) ?_
        refine lv_aload_n hx hb dX8_loan_105 rfl (lv_at hl 0 rfl) ?_
        refine va_get (D := D) (ci := 4) (v := .int (ga j5 13)) (C := RX4) (T := TX4) (N := 18) hx hb hts inX4 hown hK (hP.mem (List.mem_append_right _ (bG_L (i := j5) (by omega)))) 0 rfl rfl 13 (by decide) (hts _ wd_3_64) (fun _ h9 => h9) rfl dX8_loan_106 ?_
        exact rx_i hx hb hr hlocks dX8_loan_109 (by unfold xLoanV; rw [show atO x (CSt.n ((np, wk, ft), fV, (fm, st, be, fk, rd, mt), (nT, fT), (nf, g, a), (n, gt, gn, gr, ga, lost, mm, gc, gl))) = some j5 from o5]; simp only [swN_in (show 5 ≤ 9 by decide) (by decide)])
      · refine lv_tableIn (off := 86) (tgt := 110) hx hb dX8_loan_24 (by decide) (by decide) (by decide) (by decide) ?_
        refine lv_aload_n hx hb dX8_loan_110 rfl (lv_at hl 0 rfl) ?_
        refine va_get (D := D) (ci := 4) (v := .int (ga j5 14)) (C := RX4) (T := TX4) (N := 18) hx hb hts inX4 hown hK (hP.mem (List.mem_append_right _ (bG_L (i := j5) (by omega)))) 0 rfl rfl 14 (by decide) (hts _ wd_3_68) (fun _ h9 => h9) rfl dX8_loan_111 ?_
        exact rx_i hx hb hr hlocks dX8_loan_114 (by unfold xLoanV; rw [show atO x (CSt.n ((np, wk, ft), fV, (fm, st, be, fk, rd, mt), (nT, fT), (nf, g, a), (n, gt, gn, gr, ga, lost, mm, gc, gl))) = some j5 from o5]; simp only [swN_in (show 6 ≤ 9 by decide) (by decide)])
      · refine lv_tableIn (off := 91) (tgt := 115) hx hb dX8_loan_24 (by decide) (by decide) (by decide) (by decide) ?_
        refine lv_aload_n hx hb dX8_loan_115 rfl (lv_at hl 0 rfl) ?_
        refine va_get (D := D) (ci := 4) (v := .int (ga j5 16)) (C := RX4) (T := TX4) (N := 18) hx hb hts inX4 hown hK (hP.mem (List.mem_append_right _ (bG_L (i := j5) (by omega)))) 0 rfl rfl 16 (by decide) (hts _ wd_3_72) (fun _ h9 => h9) rfl dX8_loan_116 ?_
        exact rx_i hx hb hr hlocks dX8_loan_119 (by unfold xLoanV; rw [show atO x (CSt.n ((np, wk, ft), fV, (fm, st, be, fk, rd, mt), (nT, fT), (nf, g, a), (n, gt, gn, gr, ga, lost, mm, gc, gl))) = some j5 from o5]; simp only [swN_in (show 7 ≤ 9 by decide) (by decide)])
      · refine lv_tableIn (off := 96) (tgt := 120) hx hb dX8_loan_24 (by decide) (by decide) (by decide) (by decide) ?_
        refine lv_aload_n hx hb dX8_loan_120 rfl (lv_at hl 0 rfl) ?_
        refine va_get (D := D) (ci := 4) (v := .ref (q 1 j5)) (C := RX4) (T := TX4) (N := 18) hx hb hts inX4 hown hK (hP.mem (List.mem_append_right _ (bG_L (i := j5) (hj5)))) 0 rfl rfl 4 (by decide) (hts _ wd_3_44) (fun _ h9 => h9) rfl dX8_loan_121 ?_
        refine va_alen (v := nI (gn j5)) hx hb hK (hP.mem (List.mem_append_right _ (bG_R (i := j5) (hj5) List.mem_cons_self))) 0 0 rfl rfl (rfl) dX8_loan_124 ?_
        exact rx_i hx hb hr hlocks dX8_loan_125 (by unfold xLoanV; rw [show atO x (CSt.n ((np, wk, ft), fV, (fm, st, be, fk, rd, mt), (nT, fT), (nf, g, a), (n, gt, gn, gr, ga, lost, mm, gc, gl))) = some j5 from o5]; simp only [swN_in (show 8 ≤ 9 by decide) (by decide)])
      · refine lv_tableIn (off := 102) (tgt := 126) hx hb dX8_loan_24 (by decide) (by decide) (by decide) (by decide) ?_
        refine lv_aload_n hx hb dX8_loan_126 rfl (lv_at hl 0 rfl) ?_
        refine va_get (D := D) (ci := 4) (v := .int (ga j5 17)) (C := RX4) (T := TX4) (N := 18) hx hb hts inX4 hown hK (hP.mem (List.mem_append_right _ (bG_L (i := j5) (by omega)))) 0 rfl rfl 17 (by decide) (hts _ wd_3_75) (fun _ h9 => h9) rfl dX8_loan_127 ?_
        exact rx_i hx hb hr hlocks dX8_loan_130 (by unfold xLoanV; rw [show atO x (CSt.n ((np, wk, ft), fV, (fm, st, be, fk, rd, mt), (nT, fT), (nf, g, a), (n, gt, gn, gr, ga, lost, mm, gc, gl))) = some j5 from o5]; simp only [swN_in (show 9 ≤ 9 by decide) (by decide)])
set_option maxHeartbeats 4000000 in
set_option maxRecDepth 100000 in
theorem c_X8_surety (l : Launch) (hst : l.stackTraces = false) (D : va_G) (k : Nat → ClassId) (kz : Nat) (ke sK sV : Nat → Nat) (dz mi : Nat) (q : Nat → Nat → Nat) (np wk : Nat) (ft fV : Nat → Int32) (fm : Int32) (st be : Nat) (fk : Int32) (rd mt : Nat → Int32) (nT : Nat) (fT : Nat → Int32) (nf : Nat) (g : Int32) (a : Nat → Nat → Int32) (n : Nat) (gt : Nat → Int64) (gn : Nat → Nat) (gr : Nat → Nat → Nat → Int32) (ga : Nat → Nat → Int32) (lost : Int32) (mm : Nat) (gc : Nat → Nat → Int32) (gl : Nat → Nat) (d1 d2 : Int32) (sx : Nat → Nat) (x y : Int32) (hp : np ≤ 40) (hw : wk ≤ 400) (hT : nT ≤ 320) (hf : nf ≤ 6) (hf1 : 1 ≤ nf) (hn : n ≤ 100) (hm : mm ≤ 600) (hg3 : ∀ i, i < n → gn i ≤ 3) : Rx l yX8_surety cX8_surety 4 (some .int) 6 D (TY k) (GAT kz ke sK sV dz mi sx) [.ref (q 6 0), .int x, .int y] (bX k dz q d1 d2 ((np, wk, ft), fV, (fm, st, be, fk, rd, mt), (nT, fT), (nf, g, a), (n, gt, gn, gr, ga, lost, mm, gc, gl))) (xSuretyV x y ((np, wk, ft), fV, (fm, st, be, fk, rd, mt), (nT, fT), (nf, g, a), (n, gt, gn, gr, ga, lost, mm, gc, gl))) := by
  refine rx_body (by decide +kernel) (Nat.le_of_ble_eq_true rfl) ?_
  intro p e s m args below meth c_ hx hb hml hown hts hK hP hS hG hr hout hlocks ls hl
  replace hl : lv_has ls 4 [(0, .ref (q 6 0)), (1, .int x), (2, .int y)] := hl
  change s.vm.findClass RX8 = some m.cls at hown
  replace hP : va_P D vwCl ([(q 6 0, .inr (8, [.ref (q 7 0), .ref (q 8 0), .ref (q 9 0), .ref (q 10 0), .ref (q 5 0), .ref (q 6 1), .int (nI np), .int (nI wk)])), (q 6 1, .inl (k 0, 40, .inl ft)), (q 9 0, .inr (6, [.ref (q 9 1)])), (q 9 1, .inl (k 0, 9, .inl fV)), (q 8 0, .inr (5, [.ref (q 8 1), .ref (q 8 2), .int fm, .int (nI st), .int (nI be), .int fk])), (q 8 1, .inl (k 0, 9, .inl rd)), (q 8 2, .inl (k 1, 9, .inl mt)), (q 7 0, .inr (7, [.ref (q 7 1), .int (nI nT)])), (q 7 1, .inl (k 0, 320, .inl fT)), (q 10 0, .inr (2, [.ref (q 10 1), .ref (q 10 2), .ref (q 10 3), .ref (q 10 4), .int (nI nf), .int g])), (q 10 1, .inl (k 0, 6, .inl (a 1))), (q 10 2, .inl (k 0, 6, .inl (a 2))), (q 10 3, .inl (k 0, 6, .inl (a 3))), (q 10 4, .inl (k 0, 2400, .inl (a 4)))] ++ bG k dz q n gt gn gr ga lost mm gc gl d1 d2) s.heap := hP
  have hGT := hG.2
  replace hG := hG.1
  have hGA := hG
  have hGL := hG.2
  replace hG := hG.1
  refine lv_aload_n hx hb dX8_surety_0 rfl (lv_at hl 0 rfl) ?_
  refine va_get (D := D) (ci := 8) (v := .ref (q 5 0)) (C := RX8) (T := TX8) (N := 8) hx hb hts inX8 hown hK hP 0 rfl rfl 4 (by decide) (hts _ wd_1_160) (fun _ h9 => h9) rfl dX8_surety_1 ?_
  refine lv_iload_n hx hb dX8_surety_4 rfl (lv_at hl 1 rfl) ?_
  refine ro_V (rest := []) (st1 := oR (q 0) (atO x n) :: []) (As := [.int x]) ⟨hx, hb, hml, hown, hts⟩ Gd0 trivial hS hK (c_X3_loanAt l D k dz q n gt gn gr ga lost mm gc gl d1 d2 x hn hm) mi_X3_loanAt wd_4_78 wd_4_79 wd_4_77 ⟨Nat.le_of_ble_eq_true rfl, Nat.le_of_ble_eq_true rfl⟩ ((hP.low (fun c hc => List.mem_append_right _ hc))) 0 rfl rfl rfl hl.1 rfl (Nat.le_of_ble_eq_true rfl) rfl ⟨Nat.le_of_ble_eq_true rfl, Nat.le_of_ble_eq_true rfl⟩ dX8_surety_5 ?_
  cases o5 : atO x n with
  | none =>
    refine W.eq (g2 := F0 m 8 ls [.null]) rfl ?_
    refine lv_astore_nN (lv' := [(3, .null), (0, .ref (q 6 0)), (1, .int x), (2, .int y)]) hx hb dX8_surety_8 rfl hl (by decide) rfl (fun ls hl => ?_)
    refine lv_aload_nN hx hb dX8_surety_9 rfl (lv_at hl 0 rfl) ?_
    refine lv_ifnullN (tgt := 26) hx hb dX8_surety_10 (by decide) ?_
    exact rx_t hst hx hb hown hts hGT (hGT.2.2.2.2.2.2.2.2.1) hS (hml.trans hl.1.symm).symm wd_4_81 wd_1_27 dX8_surety_26 dX8_surety_29 dX8_surety_30 dX8_surety_32 dX8_surety_35 hout hlocks (by unfold xSuretyV; rw [show atO x (CSt.n ((np, wk, ft), fV, (fm, st, be, fk, rd, mt), (nT, fT), (nf, g, a), (n, gt, gn, gr, ga, lost, mm, gc, gl))) = none from o5])
  | some j5 =>
    refine W.eq (g2 := F0 m 8 ls [.ref (q 0 j5)]) rfl ?_
    have hj5 : j5 < n := atO_lt o5 (by omega)
    refine lv_astore_n (lv' := [(3, .ref (q 0 j5)), (0, .ref (q 6 0)), (1, .int x), (2, .int y)]) hx hb dX8_surety_8 rfl hl (by decide) rfl (fun ls hl => ?_)
    refine lv_aload_n hx hb dX8_surety_9 rfl (lv_at hl 0 rfl) ?_
    refine lv_ifnull hx hb dX8_surety_10 ?_
    refine lv_iload_n hx hb dX8_surety_13 rfl (lv_at hl 3 rfl) ?_
    refine lv_if_lt (tgt := 26) hx hb dX8_surety_14 (by decide) (fun c14 => ?_) (fun c14 => ?_)
    · exact rx_t hst hx hb hown hts hGT (hGT.2.2.2.2.2.2.2.2.1) hS (hml.trans hl.1.symm).symm wd_4_81 wd_1_27 dX8_surety_26 dX8_surety_29 dX8_surety_30 dX8_surety_32 dX8_surety_35 hout hlocks (by unfold xSuretyV; rw [show atO x (CSt.n ((np, wk, ft), fV, (fm, st, be, fk, rd, mt), (nT, fT), (nf, g, a), (n, gt, gn, gr, ga, lost, mm, gc, gl))) = some j5 from o5]; show (if y < 0 then none else if y < nI (gn j5) then some (gr 1 j5 y.toNatClampNeg) else none) = _; rw [if_pos c14])
    · refine lv_iload_n hx hb dX8_surety_17 rfl (lv_at hl 3 rfl) ?_
      refine lv_aload_n hx hb dX8_surety_18 rfl (lv_at hl 0 rfl) ?_
      refine va_get (D := D) (ci := 4) (v := .ref (q 1 j5)) (C := RX4) (T := TX4) (N := 18) hx hb hts inX4 hown hK (hP.mem (List.mem_append_right _ (bG_L (i := j5) (by omega)))) 0 rfl rfl 4 (by decide) (hts _ wd_3_44) (fun _ h9 => h9) rfl dX8_surety_19 ?_
      refine va_alen (v := nI (gn j5)) hx hb hK (hP.mem (List.mem_append_right _ (bG_R (i := j5) (by omega) List.mem_cons_self))) 0 0 rfl rfl (rfl) dX8_surety_22 ?_
      refine lv_icmp_lt (tgt := 36) hx hb dX8_surety_23 (by decide) (fun c23 => ?_) (fun c23 => ?_)
      · have hg3j := hg3 j5 hj5
        have hyn : y.toNatClampNeg < gn j5 := clamp_lt c14 c23 (by omega)
        refine lv_aload_n hx hb dX8_surety_36 rfl (lv_at hl 0 rfl) ?_
        refine va_get (D := D) (ci := 4) (v := .ref (q 1 j5)) (C := RX4) (T := TX4) (N := 18) hx hb hts inX4 hown hK (hP.mem (List.mem_append_right _ (bG_L (i := j5) (by omega)))) 0 rfl rfl 4 (by decide) (hts _ wd_3_44) (fun _ h9 => h9) rfl dX8_surety_37 ?_
        refine lv_iload_n hx hb dX8_surety_40 rfl (lv_at hl 3 rfl) ?_
        refine ra_iald (n := gn j5) (f := (gr 1 j5)) hx hb hK (hP.mem (List.mem_append_right _ (bG_R (i := j5) (hj5) List.mem_cons_self))) 0 0 rfl rfl y.toNatClampNeg (nI_self c14) (by omega) (by omega) dX8_surety_41 ?_
        exact rx_i hx hb hr hlocks dX8_surety_42 (by unfold xSuretyV; rw [show atO x (CSt.n ((np, wk, ft), fV, (fm, st, be, fk, rd, mt), (nT, fT), (nf, g, a), (n, gt, gn, gr, ga, lost, mm, gc, gl))) = some j5 from o5]; show (if y < 0 then none else if y < nI (gn j5) then some (gr 1 j5 y.toNatClampNeg) else none) = _; rw [if_neg c14, if_pos c23])
      · exact rx_t hst hx hb hown hts hGT (hGT.2.2.2.2.2.2.2.2.1) hS (hml.trans hl.1.symm).symm wd_4_81 wd_1_27 dX8_surety_26 dX8_surety_29 dX8_surety_30 dX8_surety_32 dX8_surety_35 hout hlocks (by unfold xSuretyV; rw [show atO x (CSt.n ((np, wk, ft), fV, (fm, st, be, fk, rd, mt), (nT, fT), (nf, g, a), (n, gt, gn, gr, ga, lost, mm, gc, gl))) = some j5 from o5]; show (if y < 0 then none else if y < nI (gn j5) then some (gr 1 j5 y.toNatClampNeg) else none) = _; rw [if_neg c14, if_neg c23])
set_option maxHeartbeats 4000000 in
set_option maxRecDepth 100000 in
theorem c_X8_taken (l : Launch) (hst : l.stackTraces = false) (D : va_G) (k : Nat → ClassId) (kz : Nat) (ke sK sV : Nat → Nat) (dz mi : Nat) (q : Nat → Nat → Nat) (np wk : Nat) (ft fV : Nat → Int32) (fm : Int32) (st be : Nat) (fk : Int32) (rd mt : Nat → Int32) (nT : Nat) (fT : Nat → Int32) (nf : Nat) (g : Int32) (a : Nat → Nat → Int32) (n : Nat) (gt : Nat → Int64) (gn : Nat → Nat) (gr : Nat → Nat → Nat → Int32) (ga : Nat → Nat → Int32) (lost : Int32) (mm : Nat) (gc : Nat → Nat → Int32) (gl : Nat → Nat) (d1 d2 : Int32) (sx : Nat → Nat) (x y : Int32) (hp : np ≤ 40) (hw : wk ≤ 400) (hT : nT ≤ 320) (hf : nf ≤ 6) (hf1 : 1 ≤ nf) (hn : n ≤ 100) (hm : mm ≤ 600) : Rx l yX8_taken cX8_taken 4 (some .int) 6 D (TY k) (GAT kz ke sK sV dz mi sx) [.ref (q 6 0), .int x, .int y] (bX k dz q d1 d2 ((np, wk, ft), fV, (fm, st, be, fk, rd, mt), (nT, fT), (nf, g, a), (n, gt, gn, gr, ga, lost, mm, gc, gl))) (xTakenV x y ((np, wk, ft), fV, (fm, st, be, fk, rd, mt), (nT, fT), (nf, g, a), (n, gt, gn, gr, ga, lost, mm, gc, gl))) := by
  refine rx_body (by decide +kernel) (Nat.le_of_ble_eq_true rfl) ?_
  intro p e s m args below meth c_ hx hb hml hown hts hK hP hS hG hr hout hlocks ls hl
  replace hl : lv_has ls 4 [(0, .ref (q 6 0)), (1, .int x), (2, .int y)] := hl
  change s.vm.findClass RX8 = some m.cls at hown
  replace hP : va_P D vwCl ([(q 6 0, .inr (8, [.ref (q 7 0), .ref (q 8 0), .ref (q 9 0), .ref (q 10 0), .ref (q 5 0), .ref (q 6 1), .int (nI np), .int (nI wk)])), (q 6 1, .inl (k 0, 40, .inl ft)), (q 9 0, .inr (6, [.ref (q 9 1)])), (q 9 1, .inl (k 0, 9, .inl fV)), (q 8 0, .inr (5, [.ref (q 8 1), .ref (q 8 2), .int fm, .int (nI st), .int (nI be), .int fk])), (q 8 1, .inl (k 0, 9, .inl rd)), (q 8 2, .inl (k 1, 9, .inl mt)), (q 7 0, .inr (7, [.ref (q 7 1), .int (nI nT)])), (q 7 1, .inl (k 0, 320, .inl fT)), (q 10 0, .inr (2, [.ref (q 10 1), .ref (q 10 2), .ref (q 10 3), .ref (q 10 4), .int (nI nf), .int g])), (q 10 1, .inl (k 0, 6, .inl (a 1))), (q 10 2, .inl (k 0, 6, .inl (a 2))), (q 10 3, .inl (k 0, 6, .inl (a 3))), (q 10 4, .inl (k 0, 2400, .inl (a 4)))] ++ bG k dz q n gt gn gr ga lost mm gc gl d1 d2) s.heap := hP
  have hGT := hG.2
  replace hG := hG.1
  have hGA := hG
  have hGL := hG.2
  replace hG := hG.1
  refine lv_aload_n hx hb dX8_taken_0 rfl (lv_at hl 0 rfl) ?_
  refine va_get (D := D) (ci := 8) (v := .ref (q 5 0)) (C := RX8) (T := TX8) (N := 8) hx hb hts inX8 hown hK hP 0 rfl rfl 4 (by decide) (hts _ wd_1_160) (fun _ h9 => h9) rfl dX8_taken_1 ?_
  refine lv_iload_n hx hb dX8_taken_4 rfl (lv_at hl 1 rfl) ?_
  refine ro_V (rest := []) (st1 := oR (q 0) (atO x n) :: []) (As := [.int x]) ⟨hx, hb, hml, hown, hts⟩ Gd0 trivial hS hK (c_X3_loanAt l D k dz q n gt gn gr ga lost mm gc gl d1 d2 x hn hm) mi_X3_loanAt wd_4_78 wd_4_79 wd_4_77 ⟨Nat.le_of_ble_eq_true rfl, Nat.le_of_ble_eq_true rfl⟩ ((hP.low (fun c hc => List.mem_append_right _ hc))) 0 rfl rfl rfl hl.1 rfl (Nat.le_of_ble_eq_true rfl) rfl ⟨Nat.le_of_ble_eq_true rfl, Nat.le_of_ble_eq_true rfl⟩ dX8_taken_5 ?_
  cases o5 : atO x n with
  | none =>
    refine W.eq (g2 := F0 m 8 ls [.null]) rfl ?_
    refine lv_astore_nN (lv' := [(3, .null), (0, .ref (q 6 0)), (1, .int x), (2, .int y)]) hx hb dX8_taken_8 rfl hl (by decide) rfl (fun ls hl => ?_)
    refine lv_aload_nN hx hb dX8_taken_9 rfl (lv_at hl 0 rfl) ?_
    refine lv_ifnullN (tgt := 24) hx hb dX8_taken_10 (by decide) ?_
    exact rx_t hst hx hb hown hts hGT (hGT.2.2.2.2.2.2.2.2.2.1) hS (hml.trans hl.1.symm).symm wd_4_81 wd_1_27 dX8_taken_24 dX8_taken_27 dX8_taken_28 dX8_taken_30 dX8_taken_33 hout hlocks (by unfold xTakenV; rw [show atO x (CSt.n ((np, wk, ft), fV, (fm, st, be, fk, rd, mt), (nT, fT), (nf, g, a), (n, gt, gn, gr, ga, lost, mm, gc, gl))) = none from o5])
  | some j5 =>
    refine W.eq (g2 := F0 m 8 ls [.ref (q 0 j5)]) rfl ?_
    have hj5 : j5 < n := atO_lt o5 (by omega)
    refine lv_astore_n (lv' := [(3, .ref (q 0 j5)), (0, .ref (q 6 0)), (1, .int x), (2, .int y)]) hx hb dX8_taken_8 rfl hl (by decide) rfl (fun ls hl => ?_)
    refine lv_aload_n hx hb dX8_taken_9 rfl (lv_at hl 0 rfl) ?_
    refine lv_ifnull hx hb dX8_taken_10 ?_
    refine lv_aload_n hx hb dX8_taken_13 rfl (lv_at hl 1 rfl) ?_
    refine va_get (D := D) (ci := 8) (v := .ref (q 10 0)) (C := RX8) (T := TX8) (N := 8) hx hb hts inX8 hown hK hP 0 rfl rfl 3 (by decide) (hts _ wd_1_159) (fun _ h9 => h9) rfl dX8_taken_14 ?_
    refine lv_iload_n hx hb dX8_taken_17 rfl (lv_at hl 3 rfl) ?_
    refine ro_V (rest := []) (st1 := [.int (bI (isIn y nf))]) (As := [.int y]) ⟨hx, hb, hml, hown, hts⟩ Gd0 trivial hS hK (c_X1_has l D k (q 10) nf g a y) mi_X1_has wd_2_120 wd_2_121 wd_2_119 ⟨Nat.le_of_ble_eq_true rfl, Nat.le_of_ble_eq_true rfl⟩ (hP.sub [9, 10, 11, 12, 13] rfl) 0 rfl rfl rfl hl.1 rfl (Nat.le_of_ble_eq_true rfl) rfl ⟨Nat.le_of_ble_eq_true rfl, Nat.le_of_ble_eq_true rfl⟩ dX8_taken_18 ?_
    refine lv_if_ne (tgt := 34) hx hb dX8_taken_21 (by decide) (fun c21 => ?_) (fun c21 => ?_)
    · replace c21 : (isIn y nf) = true := bI_n.mp c21
      have hyn := isIn_spec c21 (by omega)
      refine lv_aload_n hx hb dX8_taken_34 rfl (lv_at hl 0 rfl) ?_
      refine va_get (D := D) (ci := 4) (v := .ref (q 2 j5)) (C := RX4) (T := TX4) (N := 18) hx hb hts inX4 hown hK (hP.mem (List.mem_append_right _ (bG_L (i := j5) (by omega)))) 0 rfl rfl 9 (by decide) (hts _ wd_3_54) (fun _ h9 => h9) rfl dX8_taken_35 ?_
      refine lv_iload_n hx hb dX8_taken_38 rfl (lv_at hl 3 rfl) ?_
      refine ra_iald (n := 6) (f := (gr 2 j5)) hx hb hK (hP.mem (List.mem_append_right _ (bG_R (i := j5) (hj5) (List.mem_cons_of_mem _ List.mem_cons_self)))) 0 0 rfl rfl y.toNatClampNeg hyn.1 (by have := hyn.2; omega) (by decide) dX8_taken_39 ?_
      exact rx_i hx hb hr hlocks dX8_taken_40 (by unfold xTakenV; rw [show atO x (CSt.n ((np, wk, ft), fV, (fm, st, be, fk, rd, mt), (nT, fT), (nf, g, a), (n, gt, gn, gr, ga, lost, mm, gc, gl))) = some j5 from o5]; show (if isIn y nf = false then none else some (gr 2 j5 y.toNatClampNeg)) = _; rw [if_neg (ntf c21)])
    · replace c21 : (isIn y nf) = false := bI_0.mp c21
      exact rx_t hst hx hb hown hts hGT (hGT.2.2.2.2.2.2.2.2.2.1) hS (hml.trans hl.1.symm).symm wd_4_81 wd_1_27 dX8_taken_24 dX8_taken_27 dX8_taken_28 dX8_taken_30 dX8_taken_33 hout hlocks (by unfold xTakenV; rw [show atO x (CSt.n ((np, wk, ft), fV, (fm, st, be, fk, rd, mt), (nT, fT), (nf, g, a), (n, gt, gn, gr, ga, lost, mm, gc, gl))) = some j5 from o5]; show (if isIn y nf = false then none else some (gr 2 j5 y.toNatClampNeg)) = _; rw [if_pos c21])
set_option maxHeartbeats 4000000 in
set_option maxRecDepth 100000 in
theorem c_X8_about (l : Launch) (hst : l.stackTraces = false) (D : va_G) (k : Nat → ClassId) (kz : Nat) (ke sK sV : Nat → Nat) (dz mi : Nat) (q : Nat → Nat → Nat) (np wk : Nat) (ft fV : Nat → Int32) (fm : Int32) (st be : Nat) (fk : Int32) (rd mt : Nat → Int32) (nT : Nat) (fT : Nat → Int32) (nf : Nat) (g : Int32) (a : Nat → Nat → Int32) (n : Nat) (gt : Nat → Int64) (gn : Nat → Nat) (gr : Nat → Nat → Nat → Int32) (ga : Nat → Nat → Int32) (lost : Int32) (mm : Nat) (gc : Nat → Nat → Int32) (gl : Nat → Nat) (d1 d2 : Int32) (sx : Nat → Nat) (x y : Int32) (hp : np ≤ 40) (hw : wk ≤ 400) (hT : nT ≤ 320) (hf : nf ≤ 6) (hf1 : 1 ≤ nf) (hn : n ≤ 100) (hm : mm ≤ 600) : Rx l yX8_about cX8_about 3 (some .int) 6 D (TY k) (GAT kz ke sK sV dz mi sx) [.ref (q 6 0), .int x, .int y] (bX k dz q d1 d2 ((np, wk, ft), fV, (fm, st, be, fk, rd, mt), (nT, fT), (nf, g, a), (n, gt, gn, gr, ga, lost, mm, gc, gl))) (xAboutV x y ((np, wk, ft), fV, (fm, st, be, fk, rd, mt), (nT, fT), (nf, g, a), (n, gt, gn, gr, ga, lost, mm, gc, gl))) := by
  refine rx_body (by decide +kernel) (Nat.le_of_ble_eq_true rfl) ?_
  intro p e s m args below meth c_ hx hb hml hown hts hK hP hS hG hr hout hlocks ls hl
  replace hl : lv_has ls 3 [(0, .ref (q 6 0)), (1, .int x), (2, .int y)] := hl
  change s.vm.findClass RX8 = some m.cls at hown
  replace hP : va_P D vwCl ([(q 6 0, .inr (8, [.ref (q 7 0), .ref (q 8 0), .ref (q 9 0), .ref (q 10 0), .ref (q 5 0), .ref (q 6 1), .int (nI np), .int (nI wk)])), (q 6 1, .inl (k 0, 40, .inl ft)), (q 9 0, .inr (6, [.ref (q 9 1)])), (q 9 1, .inl (k 0, 9, .inl fV)), (q 8 0, .inr (5, [.ref (q 8 1), .ref (q 8 2), .int fm, .int (nI st), .int (nI be), .int fk])), (q 8 1, .inl (k 0, 9, .inl rd)), (q 8 2, .inl (k 1, 9, .inl mt)), (q 7 0, .inr (7, [.ref (q 7 1), .int (nI nT)])), (q 7 1, .inl (k 0, 320, .inl fT)), (q 10 0, .inr (2, [.ref (q 10 1), .ref (q 10 2), .ref (q 10 3), .ref (q 10 4), .int (nI nf), .int g])), (q 10 1, .inl (k 0, 6, .inl (a 1))), (q 10 2, .inl (k 0, 6, .inl (a 2))), (q 10 3, .inl (k 0, 6, .inl (a 3))), (q 10 4, .inl (k 0, 2400, .inl (a 4)))] ++ bG k dz q n gt gn gr ga lost mm gc gl d1 d2) s.heap := hP
  have hGT := hG.2
  replace hG := hG.1
  have hGA := hG
  have hGL := hG.2
  replace hG := hG.1
  refine lv_aload_n hx hb dX8_about_0 rfl (lv_at hl 0 rfl) ?_
  refine lv_iload_n hx hb dX8_about_1 rfl (lv_at hl 1 rfl) ?_
  refine ro_V (rest := []) (st1 := [.int (bI (isIn x np))]) (As := [.int x]) ⟨hx, hb, hml, hown, hts⟩ Gd0 trivial hS hK (c_X8_isPerson l D k dz q np wk ft fV fm st be fk rd mt nT fT nf g a n gt gn gr ga lost mm gc gl d1 d2 x) mi_X8_isPerson wd_2_101 wp_1_7 wd_2_99 ⟨Nat.le_of_ble_eq_true rfl, Nat.le_of_ble_eq_true rfl⟩ (hP) 0 rfl rfl rfl hl.1 rfl (Nat.le_of_ble_eq_true rfl) rfl ⟨Nat.le_of_ble_eq_true rfl, Nat.le_of_ble_eq_true rfl⟩ dX8_about_2 ?_
  refine lv_if_ne (tgt := 18) hx hb dX8_about_5 (by decide) (fun c5 => ?_) (fun c5 => ?_)
  · replace c5 : (isIn x np) = true := bI_n.mp c5
    refine lv_iload_n hx hb dX8_about_18 rfl (lv_at hl 2 rfl) ?_
    rcases sw_cases y 6 with sw_2 | ⟨j_1, hj_1, ej_1⟩
    · refine lv_tableOut (tgt := 123) hx hb dX8_about_19 sw_2 (by decide) ?_
      exact rx_t hst hx hb hown hts hGT (hGT.2.2.2.2.2.2.2.2.2.2.2) hS (hml.trans hl.1.symm).symm wd_4_81 wd_1_27 dX8_about_123 dX8_about_126 dX8_about_127 dX8_about_129 dX8_about_132 hout hlocks (by rw [xAboutV, if_neg (ntf c5)]; simp only [swN_out sw_2])
    · subst ej_1
      rcases (show j_1 = 0 ∨ j_1 = 1 ∨ j_1 = 2 ∨ j_1 = 3 ∨ j_1 = 4 ∨ j_1 = 5 ∨ j_1 = 6 by omega) with rfl | rfl | rfl | rfl | rfl | rfl | rfl
      · refine lv_tableIn (off := 41) (tgt := 60) hx hb dX8_about_19 (by decide) (by decide) (by decide) (by decide) ?_
        refine lv_aload_n hx hb dX8_about_60 rfl (lv_at hl 0 rfl) ?_
        refine va_get (D := D) (ci := 8) (v := .ref (q 6 1)) (C := RX8) (T := TX8) (N := 8) hx hb hts inX8 hown hK hP 0 rfl rfl 5 (by decide) (hts _ wd_1_161) (fun _ h9 => h9) rfl dX8_about_61 ?_
        refine lv_iload_n hx hb dX8_about_64 rfl (lv_at hl 1 rfl) ?_
        refine ra_iald (n := 40) (f := ft) hx hb hK hP 1 0 rfl rfl x.toNatClampNeg ((isIn_spec c5 (by omega)).1) (by have := (isIn_spec c5 (by omega)).2; omega) (by decide) dX8_about_65 ?_
        exact rx_i hx hb hr hlocks dX8_about_66 (by rw [xAboutV, if_neg (ntf c5)]; simp only [swN_in (show 0 ≤ 6 by decide) (by decide)])
      · refine lv_tableIn (off := 48) (tgt := 67) hx hb dX8_about_19 (by decide) (by decide) (by decide) (by decide) ?_
        refine lv_aload_n hx hb dX8_about_67 rfl (lv_at hl 0 rfl) ?_
        refine va_get (D := D) (ci := 8) (v := .ref (q 5 0)) (C := RX8) (T := TX8) (N := 8) hx hb hts inX8 hown hK hP 0 rfl rfl 4 (by decide) (hts _ wd_1_160) (fun _ h9 => h9) rfl dX8_about_68 ?_
        refine lv_iload_n hx hb dX8_about_71 rfl (lv_at hl 1 rfl) ?_
        refine ro_V (rest := []) (st1 := [.int (cClamp (cChar (col ga 1) (col ga 16) (col ga 14) x n))]) (As := [.int x]) ⟨hx, hb, hml, hown, hts⟩ Gd0 trivial hS hK (c_X3_characterOf l D k dz q n gt gn gr ga lost mm gc gl d1 d2 x hn hm) mi_X3_characterOf wd_4_173 wd_4_174 wd_4_172 ⟨Nat.le_of_ble_eq_true rfl, Nat.le_of_ble_eq_true rfl⟩ ((hP.low (fun c hc => List.mem_append_right _ hc))) 0 rfl rfl rfl hl.1 rfl (Nat.le_of_ble_eq_true rfl) rfl ⟨Nat.le_of_ble_eq_true rfl, Nat.le_of_ble_eq_true rfl⟩ dX8_about_72 ?_
        exact rx_i hx hb hr hlocks dX8_about_75 (by rw [xAboutV, if_neg (ntf c5)]; simp only [swN_in (show 1 ≤ 6 by decide) (by decide)])
      · refine lv_tableIn (off := 57) (tgt := 76) hx hb dX8_about_19 (by decide) (by decide) (by decide) (by decide) ?_
        refine lv_aload_n hx hb dX8_about_76 rfl (lv_at hl 0 rfl) ?_
        refine lv_iload_n hx hb dX8_about_77 rfl (lv_at hl 1 rfl) ?_
        refine ro_V (rest := []) (st1 := [.int (bI (xBarred x ((np, wk, ft), fV, (fm, st, be, fk, rd, mt), (nT, fT), (nf, g, a), (n, gt, gn, gr, ga, lost, mm, gc, gl))))]) (As := [.int x]) ⟨hx, hb, hml, hown, hts⟩ GdA hGA hS hK (c_X8_isBarred l D k kz ke sK sV dz mi q np wk ft fV fm st be fk rd mt nT fT nf g a n gt gn gr ga lost mm gc gl d1 d2 x hp hw hT hf hf1 hn hm) mi_X8_isBarred wd_2_173 wp_1_10 wd_2_171 ⟨Nat.le_of_ble_eq_true rfl, Nat.le_of_ble_eq_true rfl⟩ (hP) 0 rfl rfl rfl hl.1 rfl (Nat.le_of_ble_eq_true rfl) rfl ⟨Nat.le_of_ble_eq_true rfl, Nat.le_of_ble_eq_true rfl⟩ dX8_about_78 ?_
        refine lv_if_eq (tgt := 88) hx hb dX8_about_81 (by decide) (fun c81 => ?_) (fun c81 => ?_)
        · replace c81 : (xBarred x ((np, wk, ft), fV, (fm, st, be, fk, rd, mt), (nT, fT), (nf, g, a), (n, gt, gn, gr, ga, lost, mm, gc, gl))) = false := bI_0.mp c81
          refine lv_iconst (v := 0) hx hb dX8_about_88 (by decide) ?_
          exact rx_i hx hb hr hlocks dX8_about_89 (by rw [xAboutV, if_neg (ntf c5)]; simp only [swN_in (show 2 ≤ 6 by decide) (by decide)]; rw [c81]; rfl)
        · replace c81 : (xBarred x ((np, wk, ft), fV, (fm, st, be, fk, rd, mt), (nT, fT), (nf, g, a), (n, gt, gn, gr, ga, lost, mm, gc, gl))) = true := bI_n.mp c81
          refine lv_iconst (v := 1) hx hb dX8_about_84 (by decide) ?_
          refine lv_goto (tgt := 89) hx hb dX8_about_85 (by decide) ?_
          exact rx_i hx hb hr hlocks dX8_about_89 (by rw [xAboutV, if_neg (ntf c5)]; simp only [swN_in (show 2 ≤ 6 by decide) (by decide)]; rw [c81]; rfl)
      · refine lv_tableIn (off := 71) (tgt := 90) hx hb dX8_about_19 (by decide) (by decide) (by decide) (by decide) ?_
        refine lv_aload_n hx hb dX8_about_90 rfl (lv_at hl 0 rfl) ?_
        refine lv_iload_n hx hb dX8_about_91 rfl (lv_at hl 1 rfl) ?_
        refine ro_V (rest := []) (st1 := [.int (xOpenNo x ((np, wk, ft), fV, (fm, st, be, fk, rd, mt), (nT, fT), (nf, g, a), (n, gt, gn, gr, ga, lost, mm, gc, gl)))]) (As := [.int x]) ⟨hx, hb, hml, hown, hts⟩ Gd0 trivial hS hK (c_X8_openLoanNumber l D k dz q np wk ft fV fm st be fk rd mt nT fT nf g a n gt gn gr ga lost mm gc gl d1 d2 x hp hw hT hf hf1 hn hm) mi_X8_openLoanNumber wd_4_182 wp_2_9 wd_4_180 ⟨Nat.le_of_ble_eq_true rfl, Nat.le_of_ble_eq_true rfl⟩ (hP) 0 rfl rfl rfl hl.1 rfl (Nat.le_of_ble_eq_true rfl) rfl ⟨Nat.le_of_ble_eq_true rfl, Nat.le_of_ble_eq_true rfl⟩ dX8_about_92 ?_
        exact rx_i hx hb hr hlocks dX8_about_95 (by rw [xAboutV, if_neg (ntf c5)]; simp only [swN_in (show 3 ≤ 6 by decide) (by decide)])
      · refine lv_tableIn (off := 77) (tgt := 96) hx hb dX8_about_19 (by decide) (by decide) (by decide) (by decide) ?_
        refine lv_aload_n hx hb dX8_about_96 rfl (lv_at hl 0 rfl) ?_
        refine va_get (D := D) (ci := 8) (v := .ref (q 5 0)) (C := RX8) (T := TX8) (N := 8) hx hb hts inX8 hown hK hP 0 rfl rfl 4 (by decide) (hts _ wd_1_160) (fun _ h9 => h9) rfl dX8_about_97 ?_
        refine lv_iload_n hx hb dX8_about_100 rfl (lv_at hl 1 rfl) ?_
        refine ro_V (rest := []) (st1 := [.int (cStands (col ga 16) gt x n)]) (As := [.int x]) ⟨hx, hb, hml, hown, hts⟩ GdK hG hS hK (c_X3_standsFor l D k kz ke sK sV dz q n gt gn gr ga lost mm gc gl d1 d2 x hn hm) mi_X3_standsFor wd_2_205 wd_2_206 wd_2_204 ⟨Nat.le_of_ble_eq_true rfl, Nat.le_of_ble_eq_true rfl⟩ ((hP.low (fun c hc => List.mem_append_right _ hc))) 0 rfl rfl rfl hl.1 rfl (Nat.le_of_ble_eq_true rfl) rfl ⟨Nat.le_of_ble_eq_true rfl, Nat.le_of_ble_eq_true rfl⟩ dX8_about_101 ?_
        exact rx_i hx hb hr hlocks dX8_about_104 (by rw [xAboutV, if_neg (ntf c5)]; simp only [swN_in (show 4 ≤ 6 by decide) (by decide)])
      · refine lv_tableIn (off := 86) (tgt := 105) hx hb dX8_about_19 (by decide) (by decide) (by decide) (by decide) ?_
        refine lv_aload_n hx hb dX8_about_105 rfl (lv_at hl 0 rfl) ?_
        refine va_get (D := D) (ci := 8) (v := .ref (q 5 0)) (C := RX8) (T := TX8) (N := 8) hx hb hts inX8 hown hK hP 0 rfl rfl 4 (by decide) (hts _ wd_1_160) (fun _ h9 => h9) rfl dX8_about_106 ?_
        refine lv_iload_n hx hb dX8_about_109 rfl (lv_at hl 1 rfl) ?_
        refine ro_V (rest := []) (st1 := [.int (fUnpaid (col gc 0) (leftOf gc) x mm)]) (As := [.int x]) ⟨hx, hb, hml, hown, hts⟩ Gd0 trivial hS hK (c_X3_unpaidCalls l D k dz q n gt gn gr ga lost mm gc gl d1 d2 x hn hm) mi_X3_unpaidCalls wd_2_176 wd_2_177 wd_2_175 ⟨Nat.le_of_ble_eq_true rfl, Nat.le_of_ble_eq_true rfl⟩ ((hP.low (fun c hc => List.mem_append_right _ hc))) 0 rfl rfl rfl hl.1 rfl (Nat.le_of_ble_eq_true rfl) rfl ⟨Nat.le_of_ble_eq_true rfl, Nat.le_of_ble_eq_true rfl⟩ dX8_about_110 ?_
        exact rx_i hx hb hr hlocks dX8_about_113 (by rw [xAboutV, if_neg (ntf c5)]; simp only [swN_in (show 5 ≤ 6 by decide) (by decide)])
      · refine lv_tableIn (off := 95) (tgt := 114) hx hb dX8_about_19 (by decide) (by decide) (by decide) (by decide) ?_
        refine lv_aload_n hx hb dX8_about_114 rfl (lv_at hl 0 rfl) ?_
        refine va_get (D := D) (ci := 8) (v := .ref (q 5 0)) (C := RX8) (T := TX8) (N := 8) hx hb hts inX8 hown hK hP 0 rfl rfl 4 (by decide) (hts _ wd_1_160) (fun _ h9 => h9) rfl dX8_about_115 ?_
        refine lv_iload_n hx hb dX8_about_118 rfl (lv_at hl 1 rfl) ?_
        refine ro_V (rest := []) (st1 := [.int (fCallsOf (col gc 0) (leftOf gc) x mm)]) (As := [.int x]) ⟨hx, hb, hml, hown, hts⟩ Gd0 trivial hS hK (c_X3_owedByCalls l D k dz q n gt gn gr ga lost mm gc gl d1 d2 x hn hm) mi_X3_owedByCalls wd_3_190 wd_3_191 wd_4_184 ⟨Nat.le_of_ble_eq_true rfl, Nat.le_of_ble_eq_true rfl⟩ ((hP.low (fun c hc => List.mem_append_right _ hc))) 0 rfl rfl rfl hl.1 rfl (Nat.le_of_ble_eq_true rfl) rfl ⟨Nat.le_of_ble_eq_true rfl, Nat.le_of_ble_eq_true rfl⟩ dX8_about_119 ?_
        exact rx_i hx hb hr hlocks dX8_about_122 (by rw [xAboutV, if_neg (ntf c5)]; simp only [swN_in (show 6 ≤ 6 by decide) (by decide)])
  · replace c5 : (isIn x np) = false := bI_0.mp c5
    exact rx_t hst hx hb hown hts hGT (hGT.2.2.2.2.2.2.2.2.2.2.1) hS (hml.trans hl.1.symm).symm wd_4_81 wd_1_27 dX8_about_8 dX8_about_11 dX8_about_12 dX8_about_14 dX8_about_17 hout hlocks (by rw [xAboutV, if_pos c5])
