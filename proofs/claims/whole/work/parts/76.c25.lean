set_option maxHeartbeats 4000000 in
set_option maxRecDepth 100000 in
theorem c_X8_next (l : Launch) (D : va_G) (k : Nat → ClassId) (kz : Nat) (ke sK sV : Nat → Nat) (dz mi : Nat) (q : Nat → Nat → Nat) (np wk : Nat) (ft fV : Nat → Int32) (fm : Int32) (st be : Nat) (fk : Int32) (rd mt : Nat → Int32) (nT : Nat) (fT : Nat → Int32) (nf : Nat) (g : Int32) (a : Nat → Nat → Int32) (n : Nat) (gt : Nat → Int64) (gn : Nat → Nat) (gr : Nat → Nat → Nat → Int32) (ga : Nat → Nat → Int32) (lost : Int32) (mm : Nat) (gc : Nat → Nat → Int32) (gl : Nat → Nat) (d1 d2 : Int32) (hp : np ≤ 40) (hw : wk ≤ 400) (hT : nT ≤ 320) (hf : nf ≤ 6) (hf1 : 1 ≤ nf) (hn : n ≤ 100) (hm : mm ≤ 600) (hm3 : mm ≤ 300) (hg3 : ∀ i, i < n → gn i ≤ 3) : Fs (S := (Int32 × CSt) × (Nat → Nat → Nat) × Int32) l yX8_next cX8_next 1 (some .int) 9 600 (1200 + (gT (ewAll (nI wk) n gn (gr 1) (ga, lost, mm, gc, gl)).2.2.1 - gT mm)) D (TY k) (GA kz ke sK sV dz mi) [.ref (q 6 0)] (bX k dz q d1 d2 ((np, wk, ft), fV, (fm, st, be, fk, rd, mt), (nT, fT), (nf, g, a), (n, gt, gn, gr, ga, lost, mm, gc, gl))) (fun u => some (.int u.1.1)) (fun u => u.1 = xNext ((np, wk, ft), fV, (fm, st, be, fk, rd, mt), (nT, fT), (nf, g, a), (n, gt, gn, gr, ga, lost, mm, gc, gl)) ∧ u.2.1 5 0 = q 5 0) (fun u => bX k dz (qMix q u.2.1) d1 u.2.2 u.1.2) := by
  refine fs_body (by decide +kernel) (Nat.le_of_ble_eq_true rfl) ?_
  intro p e s m args below meth c_ Q A hx hb hml hown hts hK hP hD hS hA hG hin hr hq hlocks ls hl
  replace hl : lv_has ls 1 [(0, .ref (q 6 0))] := hl
  change s.vm.findClass RX8 = some m.cls at hown
  replace hP : va_P D vwCl ([(q 6 0, .inr (8, [.ref (q 7 0), .ref (q 8 0), .ref (q 9 0), .ref (q 10 0), .ref (q 5 0), .ref (q 6 1), .int (nI np), .int (nI wk)])), (q 6 1, .inl (k 0, 40, .inl ft)), (q 9 0, .inr (6, [.ref (q 9 1)])), (q 9 1, .inl (k 0, 9, .inl fV)), (q 8 0, .inr (5, [.ref (q 8 1), .ref (q 8 2), .int fm, .int (nI st), .int (nI be), .int fk])), (q 8 1, .inl (k 0, 9, .inl rd)), (q 8 2, .inl (k 1, 9, .inl mt)), (q 7 0, .inr (7, [.ref (q 7 1), .int (nI nT)])), (q 7 1, .inl (k 0, 320, .inl fT)), (q 10 0, .inr (2, [.ref (q 10 1), .ref (q 10 2), .ref (q 10 3), .ref (q 10 4), .int (nI nf), .int g])), (q 10 1, .inl (k 0, 6, .inl (a 1))), (q 10 2, .inl (k 0, 6, .inl (a 2))), (q 10 3, .inl (k 0, 6, .inl (a 3))), (q 10 4, .inl (k 0, 2400, .inl (a 4)))] ++ bG k dz q n gt gn gr ga lost mm gc gl d1 d2) s.heap := hP
  have hGA := hG
  have hGL := hG.2
  replace hG := hG.1
  refine lv_aload_n hx hb dX8_next_0 rfl (lv_at hl 0 rfl) ?_
  refine va_get (D := D) (ci := 8) (v := .int (nI wk)) (C := RX8) (T := TX8) (N := 8) hx hb hts inX8 hown hK hP 0 rfl rfl 7 (by decide) (hts _ wd_1_163) (fun _ h9 => h9) rfl dX8_next_1 ?_
  refine lv_sipush (v := 400) hx hb dX8_next_4 (by decide) ?_
  refine lv_icmp_lt (tgt := 12) hx hb dX8_next_7 (by decide) (fun c7 => ?_) (fun c7 => ?_)
  · replace c7 : wk < 400 := (nI_ltI (a := wk) (b := 400) (by omega) (by omega)).mp c7
    refine lv_aload_n hx hb dX8_next_12 rfl (lv_at hl 0 rfl) ?_
    refine va_get (D := D) (ci := 8) (v := .ref (q 10 0)) (C := RX8) (T := TX8) (N := 8) hx hb hts inX8 hown hK hP 0 rfl rfl 3 (by decide) (hts _ wd_1_159) (fun _ h9 => h9) rfl dX8_next_13 ?_
    refine lv_aload_n hx hb dX8_next_16 rfl (lv_at hl 0 rfl) ?_
    refine va_get (D := D) (ci := 8) (v := .int (nI wk)) (C := RX8) (T := TX8) (N := 8) hx hb hts inX8 hown hK hP 0 rfl rfl 7 (by decide) (hts _ wd_1_163) (fun _ h9 => h9) rfl dX8_next_17 ?_
    refine fs_Vf ([(q 6 0, .inr (8, [.ref (q 7 0), .ref (q 8 0), .ref (q 9 0), .ref (q 10 0), .ref (q 5 0), .ref (q 6 1), .int (nI np), .int (nI wk)])), (q 6 1, .inl (k 0, 40, .inl ft)), (q 9 0, .inr (6, [.ref (q 9 1)])), (q 9 1, .inl (k 0, 9, .inl fV)), (q 8 0, .inr (5, [.ref (q 8 1), .ref (q 8 2), .int fm, .int (nI st), .int (nI be), .int fk])), (q 8 1, .inl (k 0, 9, .inl rd)), (q 8 2, .inl (k 1, 9, .inl mt)), (q 7 0, .inr (7, [.ref (q 7 1), .int (nI nT)])), (q 7 1, .inl (k 0, 320, .inl fT))]) (bG k dz q n gt gn gr ga lost mm gc gl d1 d2) (rest := []) (As := [.int (nI wk)]) ⟨hx, hb, hml, hown, hts⟩ Gd0 trivial hS hA hK (hP) (hD) (c_X1_writeDown l D k (q 10) nf g a wk (by omega) (by omega)) mi_X1_writeDown wd_3_233 wd_3_234 wd_3_232 ⟨Nat.le_of_ble_eq_true rfl, Nat.le_of_ble_eq_true rfl⟩ 0 rfl rfl rfl hl.1 rfl (Nat.le_of_ble_eq_true rfl) ⟨Nat.le_of_ble_eq_true rfl, Nat.le_of_ble_eq_true rfl⟩ dX8_next_20 (fun u_1 H locs hu_2 hP hD hS => ?_)
    subst hu_2
    replace hP : va_P D vwCl ([(q 6 0, .inr (8, [.ref (q 7 0), .ref (q 8 0), .ref (q 9 0), .ref (q 10 0), .ref (q 5 0), .ref (q 6 1), .int (nI np), .int (nI wk)])), (q 6 1, .inl (k 0, 40, .inl ft)), (q 9 0, .inr (6, [.ref (q 9 1)])), (q 9 1, .inl (k 0, 9, .inl fV)), (q 8 0, .inr (5, [.ref (q 8 1), .ref (q 8 2), .int fm, .int (nI st), .int (nI be), .int fk])), (q 8 1, .inl (k 0, 9, .inl rd)), (q 8 2, .inl (k 1, 9, .inl mt)), (q 7 0, .inr (7, [.ref (q 7 1), .int (nI nT)])), (q 7 1, .inl (k 0, 320, .inl fT)), (q 10 0, .inr (2, [.ref (q 10 1), .ref (q 10 2), .ref (q 10 3), .ref (q 10 4), .int (nI nf), .int g])), (q 10 1, .inl (k 0, 6, .inl (a 1))), (q 10 2, .inl (k 0, 6, .inl (a 2))), (q 10 3, .inl (k 0, 6, .inl (a 3))), (q 10 4, .inl (k 0, 2400, .inl (cDown nf wk (a 1) (a 4))))] ++ bG k dz q n gt gn gr ga lost mm gc gl d1 d2) H := hP
    replace hD : va_D A ([(q 6 0, .inr (8, [.ref (q 7 0), .ref (q 8 0), .ref (q 9 0), .ref (q 10 0), .ref (q 5 0), .ref (q 6 1), .int (nI np), .int (nI wk)])), (q 6 1, .inl (k 0, 40, .inl ft)), (q 9 0, .inr (6, [.ref (q 9 1)])), (q 9 1, .inl (k 0, 9, .inl fV)), (q 8 0, .inr (5, [.ref (q 8 1), .ref (q 8 2), .int fm, .int (nI st), .int (nI be), .int fk])), (q 8 1, .inl (k 0, 9, .inl rd)), (q 8 2, .inl (k 1, 9, .inl mt)), (q 7 0, .inr (7, [.ref (q 7 1), .int (nI nT)])), (q 7 1, .inl (k 0, 320, .inl fT)), (q 10 0, .inr (2, [.ref (q 10 1), .ref (q 10 2), .ref (q 10 3), .ref (q 10 4), .int (nI nf), .int g])), (q 10 1, .inl (k 0, 6, .inl (a 1))), (q 10 2, .inl (k 0, 6, .inl (a 2))), (q 10 3, .inl (k 0, 6, .inl (a 3))), (q 10 4, .inl (k 0, 2400, .inl (cDown nf wk (a 1) (a 4))))] ++ bG k dz q n gt gn gr ga lost mm gc gl d1 d2) := hD
    refine W.eq (g2 := F0 m 23 ls []) rfl ?_
    refine lv_aload_n hx hb dX8_next_23 rfl (lv_at hl 0 rfl) ?_
    refine va_get (D := D) (ci := 8) (v := .ref (q 5 0)) (C := RX8) (T := TX8) (N := 8) hx hb hts inX8 hown hK hP 0 rfl rfl 4 (by decide) (hts _ wd_1_160) (fun _ h9 => h9) rfl dX8_next_24 ?_
    refine lv_aload_n hx hb dX8_next_27 rfl (lv_at hl 0 rfl) ?_
    refine va_get (D := D) (ci := 8) (v := .int (nI wk)) (C := RX8) (T := TX8) (N := 8) hx hb hts inX8 hown hK hP 0 rfl rfl 7 (by decide) (hts _ wd_1_163) (fun _ h9 => h9) rfl dX8_next_28 ?_
    refine fs_Vf (d := 8) ([(q 6 0, .inr (8, [.ref (q 7 0), .ref (q 8 0), .ref (q 9 0), .ref (q 10 0), .ref (q 5 0), .ref (q 6 1), .int (nI np), .int (nI wk)])), (q 6 1, .inl (k 0, 40, .inl ft)), (q 9 0, .inr (6, [.ref (q 9 1)])), (q 9 1, .inl (k 0, 9, .inl fV)), (q 8 0, .inr (5, [.ref (q 8 1), .ref (q 8 2), .int fm, .int (nI st), .int (nI be), .int fk])), (q 8 1, .inl (k 0, 9, .inl rd)), (q 8 2, .inl (k 1, 9, .inl mt)), (q 7 0, .inr (7, [.ref (q 7 1), .int (nI nT)])), (q 7 1, .inl (k 0, 320, .inl fT)), (q 10 0, .inr (2, [.ref (q 10 1), .ref (q 10 2), .ref (q 10 3), .ref (q 10 4), .int (nI nf), .int g])), (q 10 1, .inl (k 0, 6, .inl (a 1))), (q 10 2, .inl (k 0, 6, .inl (a 2))), (q 10 3, .inl (k 0, 6, .inl (a 3))), (q 10 4, .inl (k 0, 2400, .inl (cDown nf wk (a 1) (a 4))))]) ([]) (rest := []) (As := [.int (nI wk)]) ⟨hx, hb, hml, hown, hts⟩ GdL hGL hS hA hK (by rw [List.append_nil]; exact hP) (by rw [List.append_nil]; exact hD) (c_X3_endWeek l D k dz mi q n gt gn gr ga lost mm gc gl d1 d2 (nI wk) hn hm3 hg3) mi_X3_endWeek wd_3_237 wd_3_238 wd_3_236 ⟨Nat.le_of_ble_eq_true rfl, Nat.le_of_ble_eq_true rfl⟩ 0 rfl rfl rfl hl.1 rfl (Nat.le_of_ble_eq_true rfl) ⟨Nat.le_of_ble_eq_true rfl, by show 0 + 0 + (1200 + (gT (ewAll (nI wk) n gn (gr 1) (ga, lost, mm, gc, gl)).2.2.1 - gT mm)) ≤ 1200 + (gT (ewAll (nI wk) n gn (gr 1) (ga, lost, mm, gc, gl)).2.2.1 - gT mm); omega⟩ dX8_next_31 (fun u_3 H locs hu_4 hP hD hS => ?_)
    obtain ⟨e9, q9, d9⟩ := u_3
    obtain ⟨he9, hq9⟩ := hu_4
    replace he9 : e9 = (ewAll (nI wk) n gn (gr 1) (ga, lost, mm, gc, gl)) := he9
    replace hq9 : q9 5 0 = q 5 0 := hq9
    rw [List.append_nil] at hP hD
    replace hP : va_P D vwCl ([(q 6 0, .inr (8, [.ref (q 7 0), .ref (q 8 0), .ref (q 9 0), .ref (q 10 0), .ref (q 5 0), .ref (q 6 1), .int (nI np), .int (nI wk)])), (q 6 1, .inl (k 0, 40, .inl ft)), (q 9 0, .inr (6, [.ref (q 9 1)])), (q 9 1, .inl (k 0, 9, .inl fV)), (q 8 0, .inr (5, [.ref (q 8 1), .ref (q 8 2), .int fm, .int (nI st), .int (nI be), .int fk])), (q 8 1, .inl (k 0, 9, .inl rd)), (q 8 2, .inl (k 1, 9, .inl mt)), (q 7 0, .inr (7, [.ref (q 7 1), .int (nI nT)])), (q 7 1, .inl (k 0, 320, .inl fT)), (q 10 0, .inr (2, [.ref (q 10 1), .ref (q 10 2), .ref (q 10 3), .ref (q 10 4), .int (nI nf), .int g])), (q 10 1, .inl (k 0, 6, .inl (a 1))), (q 10 2, .inl (k 0, 6, .inl (a 2))), (q 10 3, .inl (k 0, 6, .inl (a 3))), (q 10 4, .inl (k 0, 2400, .inl (cDown nf wk (a 1) (a 4))))] ++ bG k dz q9 n gt gn gr e9.1 e9.2.1 e9.2.2.1 e9.2.2.2.1 e9.2.2.2.2 d1 d9) H := hP
    replace hD : va_D A ([(q 6 0, .inr (8, [.ref (q 7 0), .ref (q 8 0), .ref (q 9 0), .ref (q 10 0), .ref (q 5 0), .ref (q 6 1), .int (nI np), .int (nI wk)])), (q 6 1, .inl (k 0, 40, .inl ft)), (q 9 0, .inr (6, [.ref (q 9 1)])), (q 9 1, .inl (k 0, 9, .inl fV)), (q 8 0, .inr (5, [.ref (q 8 1), .ref (q 8 2), .int fm, .int (nI st), .int (nI be), .int fk])), (q 8 1, .inl (k 0, 9, .inl rd)), (q 8 2, .inl (k 1, 9, .inl mt)), (q 7 0, .inr (7, [.ref (q 7 1), .int (nI nT)])), (q 7 1, .inl (k 0, 320, .inl fT)), (q 10 0, .inr (2, [.ref (q 10 1), .ref (q 10 2), .ref (q 10 3), .ref (q 10 4), .int (nI nf), .int g])), (q 10 1, .inl (k 0, 6, .inl (a 1))), (q 10 2, .inl (k 0, 6, .inl (a 2))), (q 10 3, .inl (k 0, 6, .inl (a 3))), (q 10 4, .inl (k 0, 2400, .inl (cDown nf wk (a 1) (a 4))))] ++ bG k dz q9 n gt gn gr e9.1 e9.2.1 e9.2.2.1 e9.2.2.2.1 e9.2.2.2.2 d1 d9) := hD
    rw [← hq9] at hP hD
    refine W.widen (k := 600) (n := 1200 + (gT (ewAll (nI wk) n gn (gr 1) (ga, lost, mm, gc, gl)).2.2.1 - gT mm)) (by omega) (by omega) ?_
    refine W.eq (g2 := F0 m 34 ls []) rfl ?_
    refine lv_aload_n hx hb dX8_next_34 rfl (lv_at hl 0 rfl) ?_
    refine lv_dup hx hb dX8_next_35 rfl ?_
    refine va_get (D := D) (ci := 8) (v := .int (nI wk)) (C := RX8) (T := TX8) (N := 8) hx hb hts inX8 hown hK hP 0 rfl rfl 7 (by decide) (hts _ wd_1_163) (fun _ h9 => h9) rfl dX8_next_36 ?_
    refine lv_iconst (v := 1) hx hb dX8_next_39 (by decide) ?_
    refine lv_iadd hx hb dX8_next_40 ?_
    refine rw_topi (y := nI (wk + 1)) (nI_add _ _) ?_
    refine va_put (D := D) (ci := 8) (v := .int (nI (wk + 1))) (C := RX8) (T := TX8) (N := 8) hx hb hts inX8 tyX8 tyX8_ok nmX8 hown hK hP hD hS 0 rfl rfl 7 (by decide) (hts _ wd_1_163) (fun _ h9 => h9) rfl (tyX8_ok 7 (by decide)) rfl rfl (Nat.le_of_ble_eq_true rfl) dX8_next_41 (fun H locs hP hD hS => ?_)
    replace hP : va_P D vwCl ([(q 6 0, .inr (8, [.ref (q 7 0), .ref (q 8 0), .ref (q 9 0), .ref (q 10 0), .ref (q9 5 0), .ref (q 6 1), .int (nI np), .int (nI (wk + 1))])), (q 6 1, .inl (k 0, 40, .inl ft)), (q 9 0, .inr (6, [.ref (q 9 1)])), (q 9 1, .inl (k 0, 9, .inl fV)), (q 8 0, .inr (5, [.ref (q 8 1), .ref (q 8 2), .int fm, .int (nI st), .int (nI be), .int fk])), (q 8 1, .inl (k 0, 9, .inl rd)), (q 8 2, .inl (k 1, 9, .inl mt)), (q 7 0, .inr (7, [.ref (q 7 1), .int (nI nT)])), (q 7 1, .inl (k 0, 320, .inl fT)), (q 10 0, .inr (2, [.ref (q 10 1), .ref (q 10 2), .ref (q 10 3), .ref (q 10 4), .int (nI nf), .int g])), (q 10 1, .inl (k 0, 6, .inl (a 1))), (q 10 2, .inl (k 0, 6, .inl (a 2))), (q 10 3, .inl (k 0, 6, .inl (a 3))), (q 10 4, .inl (k 0, 2400, .inl (cDown nf wk (a 1) (a 4))))] ++ bG k dz q9 n gt gn gr e9.1 e9.2.1 e9.2.2.1 e9.2.2.2.1 e9.2.2.2.2 d1 d9) H := hP
    replace hD : va_D A ([(q 6 0, .inr (8, [.ref (q 7 0), .ref (q 8 0), .ref (q 9 0), .ref (q 10 0), .ref (q9 5 0), .ref (q 6 1), .int (nI np), .int (nI (wk + 1))])), (q 6 1, .inl (k 0, 40, .inl ft)), (q 9 0, .inr (6, [.ref (q 9 1)])), (q 9 1, .inl (k 0, 9, .inl fV)), (q 8 0, .inr (5, [.ref (q 8 1), .ref (q 8 2), .int fm, .int (nI st), .int (nI be), .int fk])), (q 8 1, .inl (k 0, 9, .inl rd)), (q 8 2, .inl (k 1, 9, .inl mt)), (q 7 0, .inr (7, [.ref (q 7 1), .int (nI nT)])), (q 7 1, .inl (k 0, 320, .inl fT)), (q 10 0, .inr (2, [.ref (q 10 1), .ref (q 10 2), .ref (q 10 3), .ref (q 10 4), .int (nI nf), .int g])), (q 10 1, .inl (k 0, 6, .inl (a 1))), (q 10 2, .inl (k 0, 6, .inl (a 2))), (q 10 3, .inl (k 0, 6, .inl (a 3))), (q 10 4, .inl (k 0, 2400, .inl (cDown nf wk (a 1) (a 4))))] ++ bG k dz q9 n gt gn gr e9.1 e9.2.1 e9.2.2.1 e9.2.2.2.1 e9.2.2.2.2 d1 d9) := hD
    refine lv_aload_n hx hb dX8_next_44 rfl (lv_at hl 0 rfl) ?_
    refine va_get (D := D) (ci := 8) (v := .int (nI (wk + 1))) (C := RX8) (T := TX8) (N := 8) hx hb hts inX8 hown hK hP 0 rfl rfl 7 (by decide) (hts _ wd_1_163) (fun _ h9 => h9) rfl dX8_next_45 ?_
    exact fs_i hx hb hr hlocks hq ((nI (wk + 1), ((np, wk + 1, ft), fV, (fm, st, be, fk, rd, mt), (nT, fT), (nf, g, up a 4 (cDown nf wk (a 1) (a 4))), (n, gt, gn, gr, e9.1, e9.2.1, e9.2.2.1, e9.2.2.2.1, e9.2.2.2.2))), q9, d9) ⟨by rw [xNext, if_pos c7, show ewAll (nI (CSt.wk ((np, wk, ft), fV, (fm, st, be, fk, rd, mt), (nT, fT), (nf, g, a), (n, gt, gn, gr, ga, lost, mm, gc, gl)))) (CSt.n ((np, wk, ft), fV, (fm, st, be, fk, rd, mt), (nT, fT), (nf, g, a), (n, gt, gn, gr, ga, lost, mm, gc, gl))) (CSt.gn ((np, wk, ft), fV, (fm, st, be, fk, rd, mt), (nT, fT), (nf, g, a), (n, gt, gn, gr, ga, lost, mm, gc, gl))) (CSt.gr ((np, wk, ft), fV, (fm, st, be, fk, rd, mt), (nT, fT), (nf, g, a), (n, gt, gn, gr, ga, lost, mm, gc, gl)) 1) (CSt.E ((np, wk, ft), fV, (fm, st, be, fk, rd, mt), (nT, fT), (nf, g, a), (n, gt, gn, gr, ga, lost, mm, gc, gl))) = e9 from he9.symm]; rfl, hq9⟩ hP hD hS dX8_next_48 rfl
  · replace c7 : ¬ (wk < 400) := fun z => c7 ((nI_ltI (a := wk) (b := 400) (by omega) (by omega)).mpr z)
    refine lv_iconst (v := (-1)) hx hb dX8_next_10 (by decide) ?_
    refine W.widen (k := 600) (n := 1200 + (gT (ewAll (nI wk) n gn (gr 1) (ga, lost, mm, gc, gl)).2.2.1 - gT mm)) (by omega) (by omega) ?_
    exact fs_i hx hb hr hlocks hq ((-1, ((np, wk, ft), fV, (fm, st, be, fk, rd, mt), (nT, fT), (nf, g, a), (n, gt, gn, gr, ga, lost, mm, gc, gl))), q, d2) ⟨by rw [xNext, if_neg c7], rfl⟩ hP hD hS dX8_next_11 rfl
def cBits (f : Nat → Int32) (n : Nat) : Int64 := lp (fun i s => s ||| cBit (f i)) n 0 0
def cOthS (np : Nat) (f : Nat → Int32) : Nat → Nat → Int64 → Bool
  | 0, _, _ => true
  | r + 1, i, z => if isIn (f i) np = false then false else if z &&& cBit (f i) = 0 then cOthS np f r (i + 1) (z ||| cBit (f i)) else false
def cOthers (np : Nat) (f : Nat → Int32) (n : Nat) (x : Int32) : Bool := cOthS np f n 0 (cBit x)
set_option maxHeartbeats 4000000 in
set_option maxRecDepth 100000 in
theorem c_X8_bitsOnTape (l : Launch) (D : va_G) (k : Nat → ClassId) (dz : Nat) (q : Nat → Nat → Nat) (np wk : Nat) (ft fV : Nat → Int32) (fm : Int32) (st be : Nat) (fk : Int32) (rd mt : Nat → Int32) (nT : Nat) (fT : Nat → Int32) (nf : Nat) (g : Int32) (a : Nat → Nat → Int32) (n : Nat) (gt : Nat → Int64) (gn : Nat → Nat) (gr : Nat → Nat → Nat → Int32) (ga : Nat → Nat → Int32) (lost : Int32) (mm : Nat) (gc : Nat → Nat → Int32) (gl : Nat → Nat) (d1 d2 : Int32) (hp : np ≤ 40) (hw : wk ≤ 400) (hT : nT ≤ 320) (hf : nf ≤ 6) (hf1 : 1 ≤ nf) (hn : n ≤ 100) (hm : mm ≤ 600) : Ro l yX8_bitsOnTape cX8_bitsOnTape 4 (some .long) 1 D (TY k) G0 [.ref (q 6 0)] (bX k dz q d1 d2 ((np, wk, ft), fV, (fm, st, be, fk, rd, mt), (nT, fT), (nf, g, a), (n, gt, gn, gr, ga, lost, mm, gc, gl))) (some (.long (cBits fT nT))) := by
  refine ro_body (by decide +kernel) (Nat.le_of_ble_eq_true rfl) ?_
  intro p e s m args below meth c_ Q hx hb hml hown hts hK hP hS hG hr hq hlocks ls hl
  replace hl : lv_has ls 4 [(0, .ref (q 6 0))] := hl
  change s.vm.findClass RX8 = some m.cls at hown
  replace hP : va_P D vwCl ([(q 6 0, .inr (8, [.ref (q 7 0), .ref (q 8 0), .ref (q 9 0), .ref (q 10 0), .ref (q 5 0), .ref (q 6 1), .int (nI np), .int (nI wk)])), (q 6 1, .inl (k 0, 40, .inl ft)), (q 9 0, .inr (6, [.ref (q 9 1)])), (q 9 1, .inl (k 0, 9, .inl fV)), (q 8 0, .inr (5, [.ref (q 8 1), .ref (q 8 2), .int fm, .int (nI st), .int (nI be), .int fk])), (q 8 1, .inl (k 0, 9, .inl rd)), (q 8 2, .inl (k 1, 9, .inl mt)), (q 7 0, .inr (7, [.ref (q 7 1), .int (nI nT)])), (q 7 1, .inl (k 0, 320, .inl fT)), (q 10 0, .inr (2, [.ref (q 10 1), .ref (q 10 2), .ref (q 10 3), .ref (q 10 4), .int (nI nf), .int g])), (q 10 1, .inl (k 0, 6, .inl (a 1))), (q 10 2, .inl (k 0, 6, .inl (a 2))), (q 10 3, .inl (k 0, 6, .inl (a 3))), (q 10 4, .inl (k 0, 2400, .inl (a 4)))] ++ bG k dz q n gt gn gr ga lost mm gc gl d1 d2) s.heap := hP
  have L : ∀ (r i : Nat) (y : Int64), i + r = nT → lp (fun i s => s ||| cBit (fT i)) r i y = cBits fT nT → ∀ (ls : Array Slot), lv_has ls 4 [(0, .ref (q 6 0)), (1, .long y), (3, .int (nI i))] → W p l e (rmd 1 0 0) s m args below meth c_ s.heap [] 0 0 Q (F0 m 4 ls []) := by
    intro r
    induction r with
    | zero =>
      intro i y hi he ls hl
      refine lv_iload_n hx hb dX8_bitsOnTape_4 rfl (lv_at hl 2 rfl) ?_
      refine lv_aload_n hx hb dX8_bitsOnTape_5 rfl (lv_at hl 0 rfl) ?_
      refine va_get (D := D) (ci := 8) (v := .ref (q 7 0)) (C := RX8) (T := TX8) (N := 8) hx hb hts inX8 hown hK hP 0 rfl rfl 0 (by decide) (hts _ wd_1_156) (fun _ h9 => h9) rfl dX8_bitsOnTape_6 ?_
      refine ro_V (rest := [.int (nI i)]) (st1 := [.int (nI nT), .int (nI i)]) (As := []) ⟨hx, hb, hml, hown, hts⟩ Gd0 trivial hS hK (c_X7_length l D k (q 7) nT fT) mi_X7_length wd_1_194 wd_1_195 wd_1_193 ⟨Nat.le_of_ble_eq_true rfl, Nat.le_of_ble_eq_true rfl⟩ (hP.sub [7, 8] rfl) 0 rfl rfl rfl hl.1 rfl (Nat.le_of_ble_eq_true rfl) rfl ⟨Nat.le_of_ble_eq_true rfl, Nat.le_of_ble_eq_true rfl⟩ dX8_bitsOnTape_9 ?_
      refine lv_icmp_ge (tgt := 35) hx hb dX8_bitsOnTape_12 (by decide) (fun c12 => ?_) (fun c12 => absurd (nI_le (by omega) (by omega)) c12)
      refine lv_lload_n hx hb dX8_bitsOnTape_35 rfl (lv_at hl 1 rfl) ?_
      exact ro_l hx hb hr hlocks hq dX8_bitsOnTape_36 (by rw [← he]; rfl)
    | succ r ih =>
      intro i y hi he ls hl
      refine lv_iload_n hx hb dX8_bitsOnTape_4 rfl (lv_at hl 2 rfl) ?_
      refine lv_aload_n hx hb dX8_bitsOnTape_5 rfl (lv_at hl 0 rfl) ?_
      refine va_get (D := D) (ci := 8) (v := .ref (q 7 0)) (C := RX8) (T := TX8) (N := 8) hx hb hts inX8 hown hK hP 0 rfl rfl 0 (by decide) (hts _ wd_1_156) (fun _ h9 => h9) rfl dX8_bitsOnTape_6 ?_
      refine ro_V (rest := [.int (nI i)]) (st1 := [.int (nI nT), .int (nI i)]) (As := []) ⟨hx, hb, hml, hown, hts⟩ Gd0 trivial hS hK (c_X7_length l D k (q 7) nT fT) mi_X7_length wd_1_194 wd_1_195 wd_1_193 ⟨Nat.le_of_ble_eq_true rfl, Nat.le_of_ble_eq_true rfl⟩ (hP.sub [7, 8] rfl) 0 rfl rfl rfl hl.1 rfl (Nat.le_of_ble_eq_true rfl) rfl ⟨Nat.le_of_ble_eq_true rfl, Nat.le_of_ble_eq_true rfl⟩ dX8_bitsOnTape_9 ?_
      refine lv_icmp_ge (tgt := 35) hx hb dX8_bitsOnTape_12 (by decide) (fun c12 => absurd c12 (nI_ge (by omega) (by omega))) (fun c12 => ?_)
      refine lv_lload_n hx hb dX8_bitsOnTape_15 rfl (lv_at hl 1 rfl) ?_
      refine lv_aload_n hx hb dX8_bitsOnTape_16 rfl (lv_at hl 0 rfl) ?_
      refine va_get (D := D) (ci := 8) (v := .ref (q 7 0)) (C := RX8) (T := TX8) (N := 8) hx hb hts inX8 hown hK hP 0 rfl rfl 0 (by decide) (hts _ wd_1_156) (fun _ h9 => h9) rfl dX8_bitsOnTape_17 ?_
      refine lv_iload_n hx hb dX8_bitsOnTape_20 rfl (lv_at hl 2 rfl) ?_
      refine ro_V (rest := [.long y]) (st1 := [.int (byteF nT fT (nI i)), .long y]) (As := [.int (nI i)]) ⟨hx, hb, hml, hown, hts⟩ Gd0 trivial hS hK (c_X7_byteAt l D k (q 7) nT fT (nI i) hT) mi_X7_byteAt wd_1_226 wd_1_227 wd_2_203 ⟨Nat.le_of_ble_eq_true rfl, Nat.le_of_ble_eq_true rfl⟩ (hP.sub [7, 8] rfl) 0 rfl rfl rfl hl.1 rfl (Nat.le_of_ble_eq_true rfl) rfl ⟨Nat.le_of_ble_eq_true rfl, Nat.le_of_ble_eq_true rfl⟩ dX8_bitsOnTape_21 ?_
      refine rw_topi (y := fT i) (byteF_in (by omega) hT) ?_
      refine ro_S (rest := [.long y]) (st1 := [.long (cBit (fT i)), .long y]) (As := [.int (fT i)]) ⟨hx, hb, hml, hown, hts⟩ Gd0 trivial hS hK (c_X8_bitOf l D k (fT i)) mi_X8_bitOf wd_2_201 wd_2_200 ⟨Nat.le_of_ble_eq_true rfl, Nat.le_of_ble_eq_true rfl⟩ (fun k9 q9 h9 => by simp at h9) rfl hl.1 rfl (Nat.le_of_ble_eq_true rfl) rfl ⟨Nat.le_of_ble_eq_true rfl, Nat.le_of_ble_eq_true rfl⟩ dX8_bitsOnTape_24 ?_
      refine lv_lor hx hb dX8_bitsOnTape_27 ?_
      refine lv_lstore_n (lv' := [(1, .long (y ||| (cBit (fT i)))), (0, .ref (q 6 0)), (3, .int (nI i))]) hx hb dX8_bitsOnTape_28 rfl hl (by decide) rfl (fun ls hl => ?_)
      refine lv_iinc (v := nI (i + 1)) (lv' := [(3, .int (nI (i + 1))), (1, .long (y ||| (cBit (fT i)))), (0, .ref (q 6 0))]) hx hb dX8_bitsOnTape_29 hl (k := 2) rfl (nI_1 _) (by decide) rfl (fun ls hl => ?_)
      refine lv_goto (tgt := 4) hx hb dX8_bitsOnTape_32 (by decide) ?_
      exact ih (i + 1) (y ||| (cBit (fT i))) (by omega) (by rw [← he]; rfl) ls (lv_sub hl [2, 1, 0] rfl)
  refine lv_lconst (v := 0) hx hb dX8_bitsOnTape_0 (by decide) ?_
  refine lv_lstore_n (lv' := [(1, .long 0), (0, .ref (q 6 0))]) hx hb dX8_bitsOnTape_1 rfl hl (by decide) rfl (fun ls hl => ?_)
  refine lv_iconst (v := 0) hx hb dX8_bitsOnTape_2 (by decide) ?_
  refine lv_istore_n (lv' := [(3, .int 0), (1, .long 0), (0, .ref (q 6 0))]) hx hb dX8_bitsOnTape_3 rfl hl (by decide) rfl (fun ls hl => ?_)
  exact L nT 0 0 (by omega) (rfl) ls (lv_sub hl [2, 1, 0] rfl)
set_option maxHeartbeats 4000000 in
set_option maxRecDepth 100000 in
theorem c_X8_areOthersAllDifferent (l : Launch) (D : va_G) (k : Nat → ClassId) (dz : Nat) (q : Nat → Nat → Nat) (np wk : Nat) (ft fV : Nat → Int32) (fm : Int32) (st be : Nat) (fk : Int32) (rd mt : Nat → Int32) (nT : Nat) (fT : Nat → Int32) (nf : Nat) (g : Int32) (a : Nat → Nat → Int32) (n : Nat) (gt : Nat → Int64) (gn : Nat → Nat) (gr : Nat → Nat → Nat → Int32) (ga : Nat → Nat → Int32) (lost : Int32) (mm : Nat) (gc : Nat → Nat → Int32) (gl : Nat → Nat) (d1 d2 : Int32) (x : Int32) (hp : np ≤ 40) (hw : wk ≤ 400) (hT : nT ≤ 320) (hf : nf ≤ 6) (hf1 : 1 ≤ nf) (hn : n ≤ 100) (hm : mm ≤ 600) : Ro l yX8_areOthersAllDifferent cX8_areOthersAllDifferent 6 (some .boolean) 1 D (TY k) G0 [.ref (q 6 0), .int x] (bX k dz q d1 d2 ((np, wk, ft), fV, (fm, st, be, fk, rd, mt), (nT, fT), (nf, g, a), (n, gt, gn, gr, ga, lost, mm, gc, gl))) (some (.int (bI (cOthers np fT nT x)))) := by
  refine ro_body (by decide +kernel) (Nat.le_of_ble_eq_true rfl) ?_
  intro p e s m args below meth c_ Q hx hb hml hown hts hK hP hS hG hr hq hlocks ls hl
  replace hl : lv_has ls 6 [(0, .ref (q 6 0)), (1, .int x)] := hl
  change s.vm.findClass RX8 = some m.cls at hown
  replace hP : va_P D vwCl ([(q 6 0, .inr (8, [.ref (q 7 0), .ref (q 8 0), .ref (q 9 0), .ref (q 10 0), .ref (q 5 0), .ref (q 6 1), .int (nI np), .int (nI wk)])), (q 6 1, .inl (k 0, 40, .inl ft)), (q 9 0, .inr (6, [.ref (q 9 1)])), (q 9 1, .inl (k 0, 9, .inl fV)), (q 8 0, .inr (5, [.ref (q 8 1), .ref (q 8 2), .int fm, .int (nI st), .int (nI be), .int fk])), (q 8 1, .inl (k 0, 9, .inl rd)), (q 8 2, .inl (k 1, 9, .inl mt)), (q 7 0, .inr (7, [.ref (q 7 1), .int (nI nT)])), (q 7 1, .inl (k 0, 320, .inl fT)), (q 10 0, .inr (2, [.ref (q 10 1), .ref (q 10 2), .ref (q 10 3), .ref (q 10 4), .int (nI nf), .int g])), (q 10 1, .inl (k 0, 6, .inl (a 1))), (q 10 2, .inl (k 0, 6, .inl (a 2))), (q 10 3, .inl (k 0, 6, .inl (a 3))), (q 10 4, .inl (k 0, 2400, .inl (a 4)))] ++ bG k dz q n gt gn gr ga lost mm gc gl d1 d2) s.heap := hP
  have L : ∀ (r i : Nat) (z : Int64), i + r = nT → bI (cOthS np fT r i z) = bI (cOthers np fT nT x) → ∀ (ls : Array Slot), lv_has ls 6 [(0, .ref (q 6 0)), (2, .long z), (4, .int (nI i))] → W p l e (rmd 1 0 0) s m args below meth c_ s.heap [] 0 0 Q (F0 m 8 ls []) := by
    intro r
    induction r with
    | zero =>
      intro i z hi he ls hl
      refine lv_iload hx hb dX8_areOthersAllDifferent_8 (lv_at hl 2 rfl) ?_
      refine lv_aload_n hx hb dX8_areOthersAllDifferent_10 rfl (lv_at hl 0 rfl) ?_
      refine va_get (D := D) (ci := 8) (v := .ref (q 7 0)) (C := RX8) (T := TX8) (N := 8) hx hb hts inX8 hown hK hP 0 rfl rfl 0 (by decide) (hts _ wd_1_156) (fun _ h9 => h9) rfl dX8_areOthersAllDifferent_11 ?_
      refine ro_V (rest := [.int (nI i)]) (st1 := [.int (nI nT), .int (nI i)]) (As := []) ⟨hx, hb, hml, hown, hts⟩ Gd0 trivial hS hK (c_X7_length l D k (q 7) nT fT) mi_X7_length wd_1_194 wd_1_195 wd_1_193 ⟨Nat.le_of_ble_eq_true rfl, Nat.le_of_ble_eq_true rfl⟩ (hP.sub [7, 8] rfl) 0 rfl rfl rfl hl.1 rfl (Nat.le_of_ble_eq_true rfl) rfl ⟨Nat.le_of_ble_eq_true rfl, Nat.le_of_ble_eq_true rfl⟩ dX8_areOthersAllDifferent_14 ?_
      refine lv_icmp_ge (tgt := 68) hx hb dX8_areOthersAllDifferent_17 (by decide) (fun c17 => ?_) (fun c17 => absurd (nI_le (by omega) (by omega)) c17)
      refine lv_iconst (v := 1) hx hb dX8_areOthersAllDifferent_68 (by decide) ?_
      exact ro_z hx hb hr hlocks hq rfl dX8_areOthersAllDifferent_69 (by rw [← he]; rfl)
    | succ r ih =>
      intro i z hi he ls hl
      refine lv_iload hx hb dX8_areOthersAllDifferent_8 (lv_at hl 2 rfl) ?_
      refine lv_aload_n hx hb dX8_areOthersAllDifferent_10 rfl (lv_at hl 0 rfl) ?_
      refine va_get (D := D) (ci := 8) (v := .ref (q 7 0)) (C := RX8) (T := TX8) (N := 8) hx hb hts inX8 hown hK hP 0 rfl rfl 0 (by decide) (hts _ wd_1_156) (fun _ h9 => h9) rfl dX8_areOthersAllDifferent_11 ?_
      refine ro_V (rest := [.int (nI i)]) (st1 := [.int (nI nT), .int (nI i)]) (As := []) ⟨hx, hb, hml, hown, hts⟩ Gd0 trivial hS hK (c_X7_length l D k (q 7) nT fT) mi_X7_length wd_1_194 wd_1_195 wd_1_193 ⟨Nat.le_of_ble_eq_true rfl, Nat.le_of_ble_eq_true rfl⟩ (hP.sub [7, 8] rfl) 0 rfl rfl rfl hl.1 rfl (Nat.le_of_ble_eq_true rfl) rfl ⟨Nat.le_of_ble_eq_true rfl, Nat.le_of_ble_eq_true rfl⟩ dX8_areOthersAllDifferent_14 ?_
      refine lv_icmp_ge (tgt := 68) hx hb dX8_areOthersAllDifferent_17 (by decide) (fun c17 => absurd c17 (nI_ge (by omega) (by omega))) (fun c17 => ?_)
      refine lv_aload_n hx hb dX8_areOthersAllDifferent_20 rfl (lv_at hl 0 rfl) ?_
      refine va_get (D := D) (ci := 8) (v := .ref (q 7 0)) (C := RX8) (T := TX8) (N := 8) hx hb hts inX8 hown hK hP 0 rfl rfl 0 (by decide) (hts _ wd_1_156) (fun _ h9 => h9) rfl dX8_areOthersAllDifferent_21 ?_
      refine lv_iload hx hb dX8_areOthersAllDifferent_24 (lv_at hl 2 rfl) ?_
      refine ro_V (rest := []) (st1 := [.int (byteF nT fT (nI i))]) (As := [.int (nI i)]) ⟨hx, hb, hml, hown, hts⟩ Gd0 trivial hS hK (c_X7_byteAt l D k (q 7) nT fT (nI i) hT) mi_X7_byteAt wd_1_226 wd_1_227 wd_2_203 ⟨Nat.le_of_ble_eq_true rfl, Nat.le_of_ble_eq_true rfl⟩ (hP.sub [7, 8] rfl) 0 rfl rfl rfl hl.1 rfl (Nat.le_of_ble_eq_true rfl) rfl ⟨Nat.le_of_ble_eq_true rfl, Nat.le_of_ble_eq_true rfl⟩ dX8_areOthersAllDifferent_26 ?_
      refine rw_topi (y := fT i) (byteF_in (by omega) hT) ?_
      refine lv_istore (lv' := [(5, .int (fT i)), (0, .ref (q 6 0)), (2, .long z), (4, .int (nI i))]) hx hb dX8_areOthersAllDifferent_29 hl (by decide) rfl (fun ls hl => ?_)
      refine lv_aload_n hx hb dX8_areOthersAllDifferent_31 rfl (lv_at hl 1 rfl) ?_
      refine lv_iload hx hb dX8_areOthersAllDifferent_32 (lv_at hl 0 rfl) ?_
      refine ro_V (rest := []) (st1 := [.int (bI (isIn (fT i) np))]) (As := [.int (fT i)]) ⟨hx, hb, hml, hown, hts⟩ Gd0 trivial hS hK (c_X8_isPerson l D k dz q np wk ft fV fm st be fk rd mt nT fT nf g a n gt gn gr ga lost mm gc gl d1 d2 (fT i)) mi_X8_isPerson wd_2_101 wp_1_7 wd_2_99 ⟨Nat.le_of_ble_eq_true rfl, Nat.le_of_ble_eq_true rfl⟩ (hP) 0 rfl rfl rfl hl.1 rfl (Nat.le_of_ble_eq_true rfl) rfl ⟨Nat.le_of_ble_eq_true rfl, Nat.le_of_ble_eq_true rfl⟩ dX8_areOthersAllDifferent_34 ?_
      refine lv_if_eq (tgt := 52) hx hb dX8_areOthersAllDifferent_37 (by decide) (fun c37 => ?_) (fun c37 => ?_)
      · replace c37 : (isIn (fT i) np) = false := bI_0.mp c37
        refine lv_iconst (v := 0) hx hb dX8_areOthersAllDifferent_52 (by decide) ?_
        exact ro_z hx hb hr hlocks hq rfl dX8_areOthersAllDifferent_53 (by rw [← he]; simp only [cOthS]; rw [if_pos c37]; rfl)
      · replace c37 : (isIn (fT i) np) = true := bI_n.mp c37
        refine lv_lload_n hx hb dX8_areOthersAllDifferent_40 rfl (lv_at hl 2 rfl) ?_
        refine lv_iload hx hb dX8_areOthersAllDifferent_41 (lv_at hl 0 rfl) ?_
        refine ro_S (rest := [.long z]) (st1 := [.long (cBit (fT i)), .long z]) (As := [.int (fT i)]) ⟨hx, hb, hml, hown, hts⟩ Gd0 trivial hS hK (c_X8_bitOf l D k (fT i)) mi_X8_bitOf wd_2_201 wd_2_200 ⟨Nat.le_of_ble_eq_true rfl, Nat.le_of_ble_eq_true rfl⟩ (fun k9 q9 h9 => by simp at h9) rfl hl.1 rfl (Nat.le_of_ble_eq_true rfl) rfl ⟨Nat.le_of_ble_eq_true rfl, Nat.le_of_ble_eq_true rfl⟩ dX8_areOthersAllDifferent_43 ?_
        refine lv_land hx hb dX8_areOthersAllDifferent_46 ?_
        refine lv_lconst (v := 0) hx hb dX8_areOthersAllDifferent_47 (by decide) ?_
        refine W.lcmp hx hb dX8_areOthersAllDifferent_48 ?_
        refine lv_if_eq (tgt := 54) hx hb dX8_areOthersAllDifferent_49 (by decide) (fun c49 => ?_) (fun c49 => ?_)
        · replace c49 := lg_cmp0.mp c49
          refine lv_lload_n hx hb dX8_areOthersAllDifferent_54 rfl (lv_at hl 2 rfl) ?_
          refine lv_iload hx hb dX8_areOthersAllDifferent_55 (lv_at hl 0 rfl) ?_
          refine ro_S (rest := [.long z]) (st1 := [.long (cBit (fT i)), .long z]) (As := [.int (fT i)]) ⟨hx, hb, hml, hown, hts⟩ Gd0 trivial hS hK (c_X8_bitOf l D k (fT i)) mi_X8_bitOf wd_2_201 wd_2_200 ⟨Nat.le_of_ble_eq_true rfl, Nat.le_of_ble_eq_true rfl⟩ (fun k9 q9 h9 => by simp at h9) rfl hl.1 rfl (Nat.le_of_ble_eq_true rfl) rfl ⟨Nat.le_of_ble_eq_true rfl, Nat.le_of_ble_eq_true rfl⟩ dX8_areOthersAllDifferent_57 ?_
          refine lv_lor hx hb dX8_areOthersAllDifferent_60 ?_
          refine lv_lstore_n (lv' := [(2, .long (z ||| (cBit (fT i)))), (5, .int (fT i)), (0, .ref (q 6 0)), (4, .int (nI i))]) hx hb dX8_areOthersAllDifferent_61 rfl hl (by decide) rfl (fun ls hl => ?_)
          refine lv_iinc (v := nI (i + 1)) (lv' := [(4, .int (nI (i + 1))), (2, .long (z ||| (cBit (fT i)))), (5, .int (fT i)), (0, .ref (q 6 0))]) hx hb dX8_areOthersAllDifferent_62 hl (k := 3) rfl (nI_1 _) (by decide) rfl (fun ls hl => ?_)
          refine lv_goto (tgt := 8) hx hb dX8_areOthersAllDifferent_65 (by decide) ?_
          exact ih (i + 1) (z ||| (cBit (fT i))) (by omega) (by rw [← he]; simp only [cOthS]; rw [if_neg (ntf c37), if_pos c49]) ls (lv_sub hl [3, 1, 0] rfl)
        · replace c49 := lg_cmpN c49
          refine lv_iconst (v := 0) hx hb dX8_areOthersAllDifferent_52 (by decide) ?_
          exact ro_z hx hb hr hlocks hq rfl dX8_areOthersAllDifferent_53 (by rw [← he]; simp only [cOthS]; rw [if_neg (ntf c37), if_neg c49]; rfl)
  refine lv_iload_n hx hb dX8_areOthersAllDifferent_0 rfl (lv_at hl 1 rfl) ?_
  refine ro_S (rest := []) (st1 := [.long (cBit x)]) (As := [.int x]) ⟨hx, hb, hml, hown, hts⟩ Gd0 trivial hS hK (c_X8_bitOf l D k x) mi_X8_bitOf wd_2_201 wd_2_200 ⟨Nat.le_of_ble_eq_true rfl, Nat.le_of_ble_eq_true rfl⟩ (fun k9 q9 h9 => by simp at h9) rfl hl.1 rfl (Nat.le_of_ble_eq_true rfl) rfl ⟨Nat.le_of_ble_eq_true rfl, Nat.le_of_ble_eq_true rfl⟩ dX8_areOthersAllDifferent_1 ?_
  refine lv_lstore_n (lv' := [(2, .long (cBit x)), (0, .ref (q 6 0)), (1, .int x)]) hx hb dX8_areOthersAllDifferent_4 rfl hl (by decide) rfl (fun ls hl => ?_)
  refine lv_iconst (v := 0) hx hb dX8_areOthersAllDifferent_5 (by decide) ?_
  refine lv_istore (lv' := [(4, .int 0), (2, .long (cBit x)), (0, .ref (q 6 0)), (1, .int x)]) hx hb dX8_areOthersAllDifferent_6 hl (by decide) rfl (fun ls hl => ?_)
  exact L nT 0 (cBit x) (by omega) (rfl) ls (lv_sub hl [2, 1, 0] rfl)
