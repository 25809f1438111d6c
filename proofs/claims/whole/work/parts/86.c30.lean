set_option maxHeartbeats 4000000 in
set_option maxRecDepth 100000 in
theorem c_L_loan (l : Launch) (hst : l.stackTraces = false) (D : va_G) (k : Nat → ClassId) (kz : Nat) (ke sK sV : Nat → Nat) (dz mi : Nat) (q : Nat → Nat → Nat) (np wk : Nat) (ft fV : Nat → Int32) (fm : Int32) (st be : Nat) (fk : Int32) (rd mt : Nat → Int32) (nT : Nat) (fT : Nat → Int32) (nf : Nat) (g : Int32) (a : Nat → Nat → Int32) (n : Nat) (gt : Nat → Int64) (gn : Nat → Nat) (gr : Nat → Nat → Nat → Int32) (ga : Nat → Nat → Int32) (lost : Int32) (mm : Nat) (gc : Nat → Nat → Int32) (gl : Nat → Nat) (d1 d2 : Int32) (sx : Nat → Nat) (x y : Int32) (ad : Nat) (f : Nat → Int64) (hp : np ≤ 40) (hw : wk ≤ 400) (hT : nT ≤ 320) (hf : nf ≤ 6) (hf1 : 1 ≤ nf) (hn : n ≤ 100) (hm : mm ≤ 600) : FsW (S := Unit) l yL_loan cL_loan 5 (some .int) [(0, 10, 13, 13)] 7 1 6 D (TY k) (GAT kz ke sK sV dz mi sx) [.ref (q 6 0), .int x, .int y, .ref ad] (bX k dz q d1 d2 ((np, wk, ft), fV, (fm, st, be, fk, rd, mt), (nT, fT), (nf, g, a), (n, gt, gn, gr, ga, lost, mm, gc, gl)) ++ [(ad, .inl (k 3, 1, .inr (.inl f)))]) (fun _ => some (.int (hV (xLoanV x y ((np, wk, ft), fV, (fm, st, be, fk, rd, mt), (nT, fT), (nf, g, a), (n, gt, gn, gr, ga, lost, mm, gc, gl)))))) (fun _ => True) (fun _ => bX k dz q d1 d2 ((np, wk, ft), fV, (fm, st, be, fk, rd, mt), (nT, fT), (nf, g, a), (n, gt, gn, gr, ga, lost, mm, gc, gl)) ++ [(ad, .inl (k 3, 1, .inr (.inl (hO (xLoanV x y ((np, wk, ft), fV, (fm, st, be, fk, rd, mt), (nT, fT), (nf, g, a), (n, gt, gn, gr, ga, lost, mm, gc, gl))) f))))]) := by
  refine fsw_body (by decide +kernel) (Nat.le_of_ble_eq_true rfl) ?_
  intro p e s m args below meth c_ Q A hx hb hml hown hts htab hK hP hD hS hA hG hr hq hlocks ls hl
  replace hl : lv_has ls 5 [(0, .ref (q 6 0)), (1, .int x), (2, .int y), (3, .ref ad)] := hl
  change s.vm.findClass RL = some m.cls at hown
  have hGT := hG.2
  obtain ⟨o, ho9⟩ : ∃ o, o = xLoanV x y ((np, wk, ft), fV, (fm, st, be, fk, rd, mt), (nT, fT), (nf, g, a), (n, gt, gn, gr, ga, lost, mm, gc, gl)) := ⟨_, rfl⟩
  have hM := c_X8_loan l hst D k kz ke sK sV dz mi q np wk ft fV fm st be fk rd mt nT fT nf g a n gt gn gr ga lost mm gc gl d1 d2 sx x y hp hw hT hf hf1 hn hm
  rw [← ho9] at hM hq
  refine lv_aload_n hx hb dL_loan_0 rfl (lv_at hl 3 rfl) ?_
  refine lv_iconst (v := 0) hx hb dL_loan_1 (by decide) ?_
  refine lv_aload_n hx hb dL_loan_2 rfl (lv_at hl 0 rfl) ?_
  refine lv_iload_n hx hb dL_loan_3 rfl (lv_at hl 1 rfl) ?_
  refine lv_iload_n hx hb dL_loan_4 rfl (lv_at hl 2 rfl) ?_
  refine rx_V (rest := [.int 0, .ref ad]) (As := [.int x, .int y]) ⟨hx, hb, hml, hown, hts⟩ GdAT hG hS hK hM mi_X8_loan wd_4_74 wd_4_75 wd_4_73 ⟨Nat.le_of_ble_eq_true rfl, Nat.le_of_ble_eq_true rfl⟩ (hP.low (fun c hc => List.mem_append_left _ hc)) 0 rfl rfl rfl hl.1 rfl (Nat.le_of_ble_eq_true rfl) ⟨Nat.le_of_ble_eq_true rfl, Nat.le_of_ble_eq_true rfl⟩ dL_loan_5 (fun v ho => ?_) (fun ce q9 H1 ho hz hk hce hcv hcl => ?_)
  · subst ho
    refine lv_i2l (v := v.toInt64) hx hb dL_loan_8 rfl ?_
    replace hP : va_P D vwCl ([(ad, .inl (k 3, 1, .inr (.inl f)))] ++ (bX k dz q d1 d2 ((np, wk, ft), fV, (fm, st, be, fk, rd, mt), (nT, fT), (nf, g, a), (n, gt, gn, gr, ga, lost, mm, gc, gl)))) s.heap := hP.prm (by intro x9; simp only [cn_app, cn_cons, cn_nil]; omega)
    replace hD : va_D A ([(ad, .inl (k 3, 1, .inr (.inl f)))] ++ (bX k dz q d1 d2 ((np, wk, ft), fV, (fm, st, be, fk, rd, mt), (nT, fT), (nf, g, a), (n, gt, gn, gr, ga, lost, mm, gc, gl)))) := hD.prm (by intro x9; simp only [cn_app, cn_cons, cn_nil]; omega)
    refine va_last hx hb hK hP hD hS 0 3 rfl rfl (pk_in 0 1 (by decide)) dL_loan_9 (fun H locs hP hD hS => ?_)
    replace hP : va_P D vwCl ([(ad, .inl (k 3, 1, .inr (.inl (hO (some v) f))))] ++ (bX k dz q d1 d2 ((np, wk, ft), fV, (fm, st, be, fk, rd, mt), (nT, fT), (nf, g, a), (n, gt, gn, gr, ga, lost, mm, gc, gl)))) H := hP
    replace hD : va_D A ([(ad, .inl (k 3, 1, .inr (.inl (hO (some v) f))))] ++ (bX k dz q d1 d2 ((np, wk, ft), fV, (fm, st, be, fk, rd, mt), (nT, fT), (nf, g, a), (n, gt, gn, gr, ga, lost, mm, gc, gl)))) := hD
    replace hP : va_P D vwCl (bX k dz q d1 d2 ((np, wk, ft), fV, (fm, st, be, fk, rd, mt), (nT, fT), (nf, g, a), (n, gt, gn, gr, ga, lost, mm, gc, gl)) ++ [(ad, .inl (k 3, 1, .inr (.inl (hO (some v) f))))]) H := hP.prm (by intro x9; simp only [cn_app, cn_cons, cn_nil]; omega)
    replace hD : va_D A (bX k dz q d1 d2 ((np, wk, ft), fV, (fm, st, be, fk, rd, mt), (nT, fT), (nf, g, a), (n, gt, gn, gr, ga, lost, mm, gc, gl)) ++ [(ad, .inl (k 3, 1, .inr (.inl (hO (some v) f))))]) := hD.prm (by intro x9; simp only [cn_app, cn_cons, cn_nil]; omega)
    refine lv_goto (tgt := 17) hx hb dL_loan_10 (by decide) ?_
    refine lv_iconst (v := 0) hx hb dL_loan_17 (by decide) ?_
    exact fs_i hx hb hr hlocks hq () trivial hP hD hS dL_loan_18 rfl
  · subst ho
    refine vx_catch (own := RL) (name := NSE) hown [] ⟨0, 10, 13, 13⟩ [] htab (fun z hz9 => by cases hz9) (by decide) (by decide) (hts _ wd_4_72) (va_Nw.use rfl hGT.2.2.1) hce hcv hcl ?_
    refine lv_astore (lv' := [(4, .ref q9), (0, .ref (q 6 0)), (1, .int x), (2, .int y), (3, .ref ad)]) hx hb dL_loan_13 hl (by decide) rfl (fun ls hl => ?_)
    refine lv_iconst (v := 1) hx hb dL_loan_15 (by decide) ?_
    exact fs_i hx hb hr hlocks hq () trivial (hP.grow hk) hD (hS.grow hz hk) dL_loan_16 rfl
set_option maxHeartbeats 4000000 in
set_option maxRecDepth 100000 in
theorem c_L_surety (l : Launch) (hst : l.stackTraces = false) (D : va_G) (k : Nat → ClassId) (kz : Nat) (ke sK sV : Nat → Nat) (dz mi : Nat) (q : Nat → Nat → Nat) (np wk : Nat) (ft fV : Nat → Int32) (fm : Int32) (st be : Nat) (fk : Int32) (rd mt : Nat → Int32) (nT : Nat) (fT : Nat → Int32) (nf : Nat) (g : Int32) (a : Nat → Nat → Int32) (n : Nat) (gt : Nat → Int64) (gn : Nat → Nat) (gr : Nat → Nat → Nat → Int32) (ga : Nat → Nat → Int32) (lost : Int32) (mm : Nat) (gc : Nat → Nat → Int32) (gl : Nat → Nat) (d1 d2 : Int32) (sx : Nat → Nat) (x y : Int32) (ad : Nat) (f : Nat → Int64) (hp : np ≤ 40) (hw : wk ≤ 400) (hT : nT ≤ 320) (hf : nf ≤ 6) (hf1 : 1 ≤ nf) (hn : n ≤ 100) (hm : mm ≤ 600) (hg3 : ∀ i, i < n → gn i ≤ 3) : FsW (S := Unit) l yL_surety cL_surety 5 (some .int) [(0, 10, 13, 13)] 7 1 6 D (TY k) (GAT kz ke sK sV dz mi sx) [.ref (q 6 0), .int x, .int y, .ref ad] (bX k dz q d1 d2 ((np, wk, ft), fV, (fm, st, be, fk, rd, mt), (nT, fT), (nf, g, a), (n, gt, gn, gr, ga, lost, mm, gc, gl)) ++ [(ad, .inl (k 3, 1, .inr (.inl f)))]) (fun _ => some (.int (hV (xSuretyV x y ((np, wk, ft), fV, (fm, st, be, fk, rd, mt), (nT, fT), (nf, g, a), (n, gt, gn, gr, ga, lost, mm, gc, gl)))))) (fun _ => True) (fun _ => bX k dz q d1 d2 ((np, wk, ft), fV, (fm, st, be, fk, rd, mt), (nT, fT), (nf, g, a), (n, gt, gn, gr, ga, lost, mm, gc, gl)) ++ [(ad, .inl (k 3, 1, .inr (.inl (hO (xSuretyV x y ((np, wk, ft), fV, (fm, st, be, fk, rd, mt), (nT, fT), (nf, g, a), (n, gt, gn, gr, ga, lost, mm, gc, gl))) f))))]) := by
  refine fsw_body (by decide +kernel) (Nat.le_of_ble_eq_true rfl) ?_
  intro p e s m args below meth c_ Q A hx hb hml hown hts htab hK hP hD hS hA hG hr hq hlocks ls hl
  replace hl : lv_has ls 5 [(0, .ref (q 6 0)), (1, .int x), (2, .int y), (3, .ref ad)] := hl
  change s.vm.findClass RL = some m.cls at hown
  have hGT := hG.2
  obtain ⟨o, ho9⟩ : ∃ o, o = xSuretyV x y ((np, wk, ft), fV, (fm, st, be, fk, rd, mt), (nT, fT), (nf, g, a), (n, gt, gn, gr, ga, lost, mm, gc, gl)) := ⟨_, rfl⟩
  have hM := c_X8_surety l hst D k kz ke sK sV dz mi q np wk ft fV fm st be fk rd mt nT fT nf g a n gt gn gr ga lost mm gc gl d1 d2 sx x y hp hw hT hf hf1 hn hm hg3
  rw [← ho9] at hM hq
  refine lv_aload_n hx hb dL_surety_0 rfl (lv_at hl 3 rfl) ?_
  refine lv_iconst (v := 0) hx hb dL_surety_1 (by decide) ?_
  refine lv_aload_n hx hb dL_surety_2 rfl (lv_at hl 0 rfl) ?_
  refine lv_iload_n hx hb dL_surety_3 rfl (lv_at hl 1 rfl) ?_
  refine lv_iload_n hx hb dL_surety_4 rfl (lv_at hl 2 rfl) ?_
  refine rx_V (rest := [.int 0, .ref ad]) (As := [.int x, .int y]) ⟨hx, hb, hml, hown, hts⟩ GdAT hG hS hK hM mi_X8_surety wd_4_152 wd_4_153 wd_4_151 ⟨Nat.le_of_ble_eq_true rfl, Nat.le_of_ble_eq_true rfl⟩ (hP.low (fun c hc => List.mem_append_left _ hc)) 0 rfl rfl rfl hl.1 rfl (Nat.le_of_ble_eq_true rfl) ⟨Nat.le_of_ble_eq_true rfl, Nat.le_of_ble_eq_true rfl⟩ dL_surety_5 (fun v ho => ?_) (fun ce q9 H1 ho hz hk hce hcv hcl => ?_)
  · subst ho
    refine lv_i2l (v := v.toInt64) hx hb dL_surety_8 rfl ?_
    replace hP : va_P D vwCl ([(ad, .inl (k 3, 1, .inr (.inl f)))] ++ (bX k dz q d1 d2 ((np, wk, ft), fV, (fm, st, be, fk, rd, mt), (nT, fT), (nf, g, a), (n, gt, gn, gr, ga, lost, mm, gc, gl)))) s.heap := hP.prm (by intro x9; simp only [cn_app, cn_cons, cn_nil]; omega)
    replace hD : va_D A ([(ad, .inl (k 3, 1, .inr (.inl f)))] ++ (bX k dz q d1 d2 ((np, wk, ft), fV, (fm, st, be, fk, rd, mt), (nT, fT), (nf, g, a), (n, gt, gn, gr, ga, lost, mm, gc, gl)))) := hD.prm (by intro x9; simp only [cn_app, cn_cons, cn_nil]; omega)
    refine va_last hx hb hK hP hD hS 0 3 rfl rfl (pk_in 0 1 (by decide)) dL_surety_9 (fun H locs hP hD hS => ?_)
    replace hP : va_P D vwCl ([(ad, .inl (k 3, 1, .inr (.inl (hO (some v) f))))] ++ (bX k dz q d1 d2 ((np, wk, ft), fV, (fm, st, be, fk, rd, mt), (nT, fT), (nf, g, a), (n, gt, gn, gr, ga, lost, mm, gc, gl)))) H := hP
    replace hD : va_D A ([(ad, .inl (k 3, 1, .inr (.inl (hO (some v) f))))] ++ (bX k dz q d1 d2 ((np, wk, ft), fV, (fm, st, be, fk, rd, mt), (nT, fT), (nf, g, a), (n, gt, gn, gr, ga, lost, mm, gc, gl)))) := hD
    replace hP : va_P D vwCl (bX k dz q d1 d2 ((np, wk, ft), fV, (fm, st, be, fk, rd, mt), (nT, fT), (nf, g, a), (n, gt, gn, gr, ga, lost, mm, gc, gl)) ++ [(ad, .inl (k 3, 1, .inr (.inl (hO (some v) f))))]) H := hP.prm (by intro x9; simp only [cn_app, cn_cons, cn_nil]; omega)
    replace hD : va_D A (bX k dz q d1 d2 ((np, wk, ft), fV, (fm, st, be, fk, rd, mt), (nT, fT), (nf, g, a), (n, gt, gn, gr, ga, lost, mm, gc, gl)) ++ [(ad, .inl (k 3, 1, .inr (.inl (hO (some v) f))))]) := hD.prm (by intro x9; simp only [cn_app, cn_cons, cn_nil]; omega)
    refine lv_goto (tgt := 17) hx hb dL_surety_10 (by decide) ?_
    refine lv_iconst (v := 0) hx hb dL_surety_17 (by decide) ?_
    exact fs_i hx hb hr hlocks hq () trivial hP hD hS dL_surety_18 rfl
  · subst ho
    refine vx_catch (own := RL) (name := NSE) hown [] ⟨0, 10, 13, 13⟩ [] htab (fun z hz9 => by cases hz9) (by decide) (by decide) (hts _ wd_4_72) (va_Nw.use rfl hGT.2.2.1) hce hcv hcl ?_
    refine lv_astore (lv' := [(4, .ref q9), (0, .ref (q 6 0)), (1, .int x), (2, .int y), (3, .ref ad)]) hx hb dL_surety_13 hl (by decide) rfl (fun ls hl => ?_)
    refine lv_iconst (v := 1) hx hb dL_surety_15 (by decide) ?_
    exact fs_i hx hb hr hlocks hq () trivial (hP.grow hk) hD (hS.grow hz hk) dL_surety_16 rfl
set_option maxHeartbeats 4000000 in
set_option maxRecDepth 100000 in
theorem c_L_taken (l : Launch) (hst : l.stackTraces = false) (D : va_G) (k : Nat → ClassId) (kz : Nat) (ke sK sV : Nat → Nat) (dz mi : Nat) (q : Nat → Nat → Nat) (np wk : Nat) (ft fV : Nat → Int32) (fm : Int32) (st be : Nat) (fk : Int32) (rd mt : Nat → Int32) (nT : Nat) (fT : Nat → Int32) (nf : Nat) (g : Int32) (a : Nat → Nat → Int32) (n : Nat) (gt : Nat → Int64) (gn : Nat → Nat) (gr : Nat → Nat → Nat → Int32) (ga : Nat → Nat → Int32) (lost : Int32) (mm : Nat) (gc : Nat → Nat → Int32) (gl : Nat → Nat) (d1 d2 : Int32) (sx : Nat → Nat) (x y : Int32) (ad : Nat) (f : Nat → Int64) (hp : np ≤ 40) (hw : wk ≤ 400) (hT : nT ≤ 320) (hf : nf ≤ 6) (hf1 : 1 ≤ nf) (hn : n ≤ 100) (hm : mm ≤ 600) : FsW (S := Unit) l yL_taken cL_taken 5 (some .int) [(0, 10, 13, 13)] 7 1 6 D (TY k) (GAT kz ke sK sV dz mi sx) [.ref (q 6 0), .int x, .int y, .ref ad] (bX k dz q d1 d2 ((np, wk, ft), fV, (fm, st, be, fk, rd, mt), (nT, fT), (nf, g, a), (n, gt, gn, gr, ga, lost, mm, gc, gl)) ++ [(ad, .inl (k 3, 1, .inr (.inl f)))]) (fun _ => some (.int (hV (xTakenV x y ((np, wk, ft), fV, (fm, st, be, fk, rd, mt), (nT, fT), (nf, g, a), (n, gt, gn, gr, ga, lost, mm, gc, gl)))))) (fun _ => True) (fun _ => bX k dz q d1 d2 ((np, wk, ft), fV, (fm, st, be, fk, rd, mt), (nT, fT), (nf, g, a), (n, gt, gn, gr, ga, lost, mm, gc, gl)) ++ [(ad, .inl (k 3, 1, .inr (.inl (hO (xTakenV x y ((np, wk, ft), fV, (fm, st, be, fk, rd, mt), (nT, fT), (nf, g, a), (n, gt, gn, gr, ga, lost, mm, gc, gl))) f))))]) := by
  refine fsw_body (by decide +kernel) (Nat.le_of_ble_eq_true rfl) ?_
  intro p e s m args below meth c_ Q A hx hb hml hown hts htab hK hP hD hS hA hG hr hq hlocks ls hl
  replace hl : lv_has ls 5 [(0, .ref (q 6 0)), (1, .int x), (2, .int y), (3, .ref ad)] := hl
  change s.vm.findClass RL = some m.cls at hown
  have hGT := hG.2
  obtain ⟨o, ho9⟩ : ∃ o, o = xTakenV x y ((np, wk, ft), fV, (fm, st, be, fk, rd, mt), (nT, fT), (nf, g, a), (n, gt, gn, gr, ga, lost, mm, gc, gl)) := ⟨_, rfl⟩
  have hM := c_X8_taken l hst D k kz ke sK sV dz mi q np wk ft fV fm st be fk rd mt nT fT nf g a n gt gn gr ga lost mm gc gl d1 d2 sx x y hp hw hT hf hf1 hn hm
  rw [← ho9] at hM hq
  refine lv_aload_n hx hb dL_taken_0 rfl (lv_at hl 3 rfl) ?_
  refine lv_iconst (v := 0) hx hb dL_taken_1 (by decide) ?_
  refine lv_aload_n hx hb dL_taken_2 rfl (lv_at hl 0 rfl) ?_
  refine lv_iload_n hx hb dL_taken_3 rfl (lv_at hl 1 rfl) ?_
  refine lv_iload_n hx hb dL_taken_4 rfl (lv_at hl 2 rfl) ?_
  refine rx_V (rest := [.int 0, .ref ad]) (As := [.int x, .int y]) ⟨hx, hb, hml, hown, hts⟩ GdAT hG hS hK hM mi_X8_taken wd_4_160 wd_4_161 wd_4_159 ⟨Nat.le_of_ble_eq_true rfl, Nat.le_of_ble_eq_true rfl⟩ (hP.low (fun c hc => List.mem_append_left _ hc)) 0 rfl rfl rfl hl.1 rfl (Nat.le_of_ble_eq_true rfl) ⟨Nat.le_of_ble_eq_true rfl, Nat.le_of_ble_eq_true rfl⟩ dL_taken_5 (fun v ho => ?_) (fun ce q9 H1 ho hz hk hce hcv hcl => ?_)
  · subst ho
    refine lv_i2l (v := v.toInt64) hx hb dL_taken_8 rfl ?_
    replace hP : va_P D vwCl ([(ad, .inl (k 3, 1, .inr (.inl f)))] ++ (bX k dz q d1 d2 ((np, wk, ft), fV, (fm, st, be, fk, rd, mt), (nT, fT), (nf, g, a), (n, gt, gn, gr, ga, lost, mm, gc, gl)))) s.heap := hP.prm (by intro x9; simp only [cn_app, cn_cons, cn_nil]; omega)
    replace hD : va_D A ([(ad, .inl (k 3, 1, .inr (.inl f)))] ++ (bX k dz q d1 d2 ((np, wk, ft), fV, (fm, st, be, fk, rd, mt), (nT, fT), (nf, g, a), (n, gt, gn, gr, ga, lost, mm, gc, gl)))) := hD.prm (by intro x9; simp only [cn_app, cn_cons, cn_nil]; omega)
    refine va_last hx hb hK hP hD hS 0 3 rfl rfl (pk_in 0 1 (by decide)) dL_taken_9 (fun H locs hP hD hS => ?_)
    replace hP : va_P D vwCl ([(ad, .inl (k 3, 1, .inr (.inl (hO (some v) f))))] ++ (bX k dz q d1 d2 ((np, wk, ft), fV, (fm, st, be, fk, rd, mt), (nT, fT), (nf, g, a), (n, gt, gn, gr, ga, lost, mm, gc, gl)))) H := hP
    replace hD : va_D A ([(ad, .inl (k 3, 1, .inr (.inl (hO (some v) f))))] ++ (bX k dz q d1 d2 ((np, wk, ft), fV, (fm, st, be, fk, rd, mt), (nT, fT), (nf, g, a), (n, gt, gn, gr, ga, lost, mm, gc, gl)))) := hD
    replace hP : va_P D vwCl (bX k dz q d1 d2 ((np, wk, ft), fV, (fm, st, be, fk, rd, mt), (nT, fT), (nf, g, a), (n, gt, gn, gr, ga, lost, mm, gc, gl)) ++ [(ad, .inl (k 3, 1, .inr (.inl (hO (some v) f))))]) H := hP.prm (by intro x9; simp only [cn_app, cn_cons, cn_nil]; omega)
    replace hD : va_D A (bX k dz q d1 d2 ((np, wk, ft), fV, (fm, st, be, fk, rd, mt), (nT, fT), (nf, g, a), (n, gt, gn, gr, ga, lost, mm, gc, gl)) ++ [(ad, .inl (k 3, 1, .inr (.inl (hO (some v) f))))]) := hD.prm (by intro x9; simp only [cn_app, cn_cons, cn_nil]; omega)
    refine lv_goto (tgt := 17) hx hb dL_taken_10 (by decide) ?_
    refine lv_iconst (v := 0) hx hb dL_taken_17 (by decide) ?_
    exact fs_i hx hb hr hlocks hq () trivial hP hD hS dL_taken_18 rfl
  · subst ho
    refine vx_catch (own := RL) (name := NSE) hown [] ⟨0, 10, 13, 13⟩ [] htab (fun z hz9 => by cases hz9) (by decide) (by decide) (hts _ wd_4_72) (va_Nw.use rfl hGT.2.2.1) hce hcv hcl ?_
    refine lv_astore (lv' := [(4, .ref q9), (0, .ref (q 6 0)), (1, .int x), (2, .int y), (3, .ref ad)]) hx hb dL_taken_13 hl (by decide) rfl (fun ls hl => ?_)
    refine lv_iconst (v := 1) hx hb dL_taken_15 (by decide) ?_
    exact fs_i hx hb hr hlocks hq () trivial (hP.grow hk) hD (hS.grow hz hk) dL_taken_16 rfl
set_option maxHeartbeats 4000000 in
set_option maxRecDepth 100000 in
theorem c_L_about (l : Launch) (hst : l.stackTraces = false) (D : va_G) (k : Nat → ClassId) (kz : Nat) (ke sK sV : Nat → Nat) (dz mi : Nat) (q : Nat → Nat → Nat) (np wk : Nat) (ft fV : Nat → Int32) (fm : Int32) (st be : Nat) (fk : Int32) (rd mt : Nat → Int32) (nT : Nat) (fT : Nat → Int32) (nf : Nat) (g : Int32) (a : Nat → Nat → Int32) (n : Nat) (gt : Nat → Int64) (gn : Nat → Nat) (gr : Nat → Nat → Nat → Int32) (ga : Nat → Nat → Int32) (lost : Int32) (mm : Nat) (gc : Nat → Nat → Int32) (gl : Nat → Nat) (d1 d2 : Int32) (sx : Nat → Nat) (x y : Int32) (ad : Nat) (f : Nat → Int64) (hp : np ≤ 40) (hw : wk ≤ 400) (hT : nT ≤ 320) (hf : nf ≤ 6) (hf1 : 1 ≤ nf) (hn : n ≤ 100) (hm : mm ≤ 600) : FsW (S := Unit) l yL_about cL_about 5 (some .int) [(0, 10, 13, 13)] 7 1 6 D (TY k) (GAT kz ke sK sV dz mi sx) [.ref (q 6 0), .int x, .int y, .ref ad] (bX k dz q d1 d2 ((np, wk, ft), fV, (fm, st, be, fk, rd, mt), (nT, fT), (nf, g, a), (n, gt, gn, gr, ga, lost, mm, gc, gl)) ++ [(ad, .inl (k 3, 1, .inr (.inl f)))]) (fun _ => some (.int (hV (xAboutV x y ((np, wk, ft), fV, (fm, st, be, fk, rd, mt), (nT, fT), (nf, g, a), (n, gt, gn, gr, ga, lost, mm, gc, gl)))))) (fun _ => True) (fun _ => bX k dz q d1 d2 ((np, wk, ft), fV, (fm, st, be, fk, rd, mt), (nT, fT), (nf, g, a), (n, gt, gn, gr, ga, lost, mm, gc, gl)) ++ [(ad, .inl (k 3, 1, .inr (.inl (hO (xAboutV x y ((np, wk, ft), fV, (fm, st, be, fk, rd, mt), (nT, fT), (nf, g, a), (n, gt, gn, gr, ga, lost, mm, gc, gl))) f))))]) := by
  refine fsw_body (by decide +kernel) (Nat.le_of_ble_eq_true rfl) ?_
  intro p e s m args below meth c_ Q A hx hb hml hown hts htab hK hP hD hS hA hG hr hq hlocks ls hl
  replace hl : lv_has ls 5 [(0, .ref (q 6 0)), (1, .int x), (2, .int y), (3, .ref ad)] := hl
  change s.vm.findClass RL = some m.cls at hown
  have hGT := hG.2
  obtain ⟨o, ho9⟩ : ∃ o, o = xAboutV x y ((np, wk, ft), fV, (fm, st, be, fk, rd, mt), (nT, fT), (nf, g, a), (n, gt, gn, gr, ga, lost, mm, gc, gl)) := ⟨_, rfl⟩
  have hM := c_X8_about l hst D k kz ke sK sV dz mi q np wk ft fV fm st be fk rd mt nT fT nf g a n gt gn gr ga lost mm gc gl d1 d2 sx x y hp hw hT hf hf1 hn hm
  rw [← ho9] at hM hq
  refine lv_aload_n hx hb dL_about_0 rfl (lv_at hl 3 rfl) ?_
  refine lv_iconst (v := 0) hx hb dL_about_1 (by decide) ?_
  refine lv_aload_n hx hb dL_about_2 rfl (lv_at hl 0 rfl) ?_
  refine lv_iload_n hx hb dL_about_3 rfl (lv_at hl 1 rfl) ?_
  refine lv_iload_n hx hb dL_about_4 rfl (lv_at hl 2 rfl) ?_
  refine rx_V (rest := [.int 0, .ref ad]) (As := [.int x, .int y]) ⟨hx, hb, hml, hown, hts⟩ GdAT hG hS hK hM mi_X8_about wd_4_168 wd_4_169 wd_4_167 ⟨Nat.le_of_ble_eq_true rfl, Nat.le_of_ble_eq_true rfl⟩ (hP.low (fun c hc => List.mem_append_left _ hc)) 0 rfl rfl rfl hl.1 rfl (Nat.le_of_ble_eq_true rfl) ⟨Nat.le_of_ble_eq_true rfl, Nat.le_of_ble_eq_true rfl⟩ dL_about_5 (fun v ho => ?_) (fun ce q9 H1 ho hz hk hce hcv hcl => ?_)
  · subst ho
    refine lv_i2l (v := v.toInt64) hx hb dL_about_8 rfl ?_
    replace hP : va_P D vwCl ([(ad, .inl (k 3, 1, .inr (.inl f)))] ++ (bX k dz q d1 d2 ((np, wk, ft), fV, (fm, st, be, fk, rd, mt), (nT, fT), (nf, g, a), (n, gt, gn, gr, ga, lost, mm, gc, gl)))) s.heap := hP.prm (by intro x9; simp only [cn_app, cn_cons, cn_nil]; omega)
    replace hD : va_D A ([(ad, .inl (k 3, 1, .inr (.inl f)))] ++ (bX k dz q d1 d2 ((np, wk, ft), fV, (fm, st, be, fk, rd, mt), (nT, fT), (nf, g, a), (n, gt, gn, gr, ga, lost, mm, gc, gl)))) := hD.prm (by intro x9; simp only [cn_app, cn_cons, cn_nil]; omega)
    refine va_last hx hb hK hP hD hS 0 3 rfl rfl (pk_in 0 1 (by decide)) dL_about_9 (fun H locs hP hD hS => ?_)
    replace hP : va_P D vwCl ([(ad, .inl (k 3, 1, .inr (.inl (hO (some v) f))))] ++ (bX k dz q d1 d2 ((np, wk, ft), fV, (fm, st, be, fk, rd, mt), (nT, fT), (nf, g, a), (n, gt, gn, gr, ga, lost, mm, gc, gl)))) H := hP
    replace hD : va_D A ([(ad, .inl (k 3, 1, .inr (.inl (hO (some v) f))))] ++ (bX k dz q d1 d2 ((np, wk, ft), fV, (fm, st, be, fk, rd, mt), (nT, fT), (nf, g, a), (n, gt, gn, gr, ga, lost, mm, gc, gl)))) := hD
    replace hP : va_P D vwCl (bX k dz q d1 d2 ((np, wk, ft), fV, (fm, st, be, fk, rd, mt), (nT, fT), (nf, g, a), (n, gt, gn, gr, ga, lost, mm, gc, gl)) ++ [(ad, .inl (k 3, 1, .inr (.inl (hO (some v) f))))]) H := hP.prm (by intro x9; simp only [cn_app, cn_cons, cn_nil]; omega)
    replace hD : va_D A (bX k dz q d1 d2 ((np, wk, ft), fV, (fm, st, be, fk, rd, mt), (nT, fT), (nf, g, a), (n, gt, gn, gr, ga, lost, mm, gc, gl)) ++ [(ad, .inl (k 3, 1, .inr (.inl (hO (some v) f))))]) := hD.prm (by intro x9; simp only [cn_app, cn_cons, cn_nil]; omega)
    refine lv_goto (tgt := 17) hx hb dL_about_10 (by decide) ?_
    refine lv_iconst (v := 0) hx hb dL_about_17 (by decide) ?_
    exact fs_i hx hb hr hlocks hq () trivial hP hD hS dL_about_18 rfl
  · subst ho
    refine vx_catch (own := RL) (name := NSE) hown [] ⟨0, 10, 13, 13⟩ [] htab (fun z hz9 => by cases hz9) (by decide) (by decide) (hts _ wd_4_72) (va_Nw.use rfl hGT.2.2.1) hce hcv hcl ?_
    refine lv_astore (lv' := [(4, .ref q9), (0, .ref (q 6 0)), (1, .int x), (2, .int y), (3, .ref ad)]) hx hb dL_about_13 hl (by decide) rfl (fun ls hl => ?_)
    refine lv_iconst (v := 1) hx hb dL_about_15 (by decide) ?_
    exact fs_i hx hb hr hlocks hq () trivial (hP.grow hk) hD (hS.grow hz hk) dL_about_16 rfl
