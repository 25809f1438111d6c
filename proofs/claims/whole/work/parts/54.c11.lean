theorem rFault_ok {f : Nat → Int32} {n : Nat} {u : RSt} (hbe : u.2.2.1 ≤ n) : (rFault f n u).2.2.2.1 ≤ n := by
  unfold rFault
  split
  · exact hbe
  · rename_i j _
    split
    · have h1 := (rStepU_ok (f := f) (n := n) (u := (u.1, u.2.1, u.2.2.1, u.2.2.2.1, u.2.2.2.2.1, upd u.2.2.2.2.2 j 1)) hbe).1
      generalize rStepU f n (u.1, u.2.1, u.2.2.1, u.2.2.2.1, u.2.2.2.2.1, upd u.2.2.2.2.2 j 1) = w at h1
      unfold rF2
      split
      · split
        · exact h1
        · split
          · exact (rStepU_ok (f := f) (n := n) (u := (w.1, w.2.1, w.2.2.1, w.2.2.2.1, upd w.2.2.2.2.1 j (rNum f w.2.1 w.2.2.1), w.2.2.2.2.2)) h1).1
          · exact h1
      · exact h1
    · exact hbe
/-- the FAULT's kind is kept -/
def rPut (p : Int32 × RSt) : RSt := (p.2.1, p.2.2.1, p.2.2.2.1, p.1, p.2.2.2.2.2.1, p.2.2.2.2.2.2)
def rAll (f : Nat → Int32) (n : Nat) : Nat → Nat → RSt → Int32 × RSt
  | 0, _, u => (-1 - nI u.2.1, u)
  | r + 1, i, u => if (rStepU f n u).1 = 4 then (nI i, rStepU f n u) else if (rFault f n (rStepU f n u)).1 = 0 then rAll f n r (i + 1) (rPut (rFault f n (rStepU f n u))) else (-1 - nI (rPut (rFault f n (rStepU f n u))).2.1, rPut (rFault f n (rStepU f n u)))
def rReadAll (f : Nat → Int32) (n : Nat) (u : RSt) : Int32 × RSt := rAll f n 10 0 (u.1, u.2.1, 0, 0, rUsual u.2.2.2.2.1, rNone u.2.2.2.2.2)
set_option maxHeartbeats 4000000 in
set_option maxRecDepth 100000 in
theorem c_X5_readAll (l : Launch) (D : va_G) (k : Nat → ClassId) (kz : Nat) (ke sK sV : Nat → Nat) (t : Nat → Nat) (fm0 : Int32) (st0 be0 : Nat) (fk0 : Int32) (rd0 mt0 : Nat → Int32) (y : Nat → Nat) (n : Nat) (f : Nat → Int32) (hn : n ≤ 320) : Fs (S := Int32 × (RSt)) l yX5_readAll cX5_readAll 3 (some .int) 7 0 0 D (TY k) (GK kz ke sK sV) [.ref (t 0), .ref (y 0)] (bRT t y k n f (fm0, st0, be0, fk0, rd0, mt0)) (fun u => some (.int u.1)) (fun u => u = rReadAll f n (fm0, st0, be0, fk0, rd0, mt0)) (fun u => bRT t y k n f u.2) := by
  refine fs_body (by decide +kernel) (Nat.le_of_ble_eq_true rfl) ?_
  intro p e s m args below meth c_ Q A hx hb hml hown hts hK hP hD hS hA hG hin hr hq hlocks ls hl
  replace hl : lv_has ls 3 [(0, .ref (t 0)), (1, .ref (y 0))] := hl
  change s.vm.findClass RX5 = some m.cls at hown
  have L : ∀ (r i : Nat) (fm : Int32) (st : Nat) (be : Nat) (fk : Int32) (rd : Nat → Int32) (mt : Nat → Int32) (H : Heap) (locs : List Loc), i + r = 10 → be ≤ n → rAll f n r i (fm, st, be, fk, rd, mt) = rReadAll f n (fm0, st0, be0, fk0, rd0, mt0) → va_P D vwCl ([(t 0, .inr (5, [.ref (t 1), .ref (t 2), .int fm, .int (nI st), .int (nI be), .int fk])), (t 1, .inl (k 0, 9, .inl rd)), (t 2, .inl (k 1, 9, .inl mt)), (y 0, .inr (7, [.ref (y 1), .int (nI n)])), (y 1, .inl (k 0, 320, .inl f))]) H → va_D A ([(t 0, .inr (5, [.ref (t 1), .ref (t 2), .int fm, .int (nI st), .int (nI be), .int fk])), (t 1, .inl (k 0, 9, .inl rd)), (t 2, .inl (k 1, 9, .inl mt)), (y 0, .inr (7, [.ref (y 1), .int (nI n)])), (y 1, .inl (k 0, 320, .inl f))]) → va_S A s.heap H locs → ∀ (ls : Array Slot), lv_has ls 3 [(0, .ref (t 0)), (1, .ref (y 0)), (2, .int (nI i))] → W p l e (rmd 7 0 0) s m args below meth c_ H locs 0 0 Q (F0 m 6 ls []) := by
    intro r
    induction r with
    | zero =>
      intro i fm st be fk rd mt H locs hi hbe he hP hD hS ls hl
      refine lv_iload_n hx hb dX5_readAll_6 rfl (lv_at hl 2 rfl) ?_
      refine va_getsN hx hb hG.1 hS hown (va_Nw.use rfl hG.2.2.2.2.2.2.2.2.2.2.1) (fun _ h9 => h9) dX5_readAll_7 ?_
      refine va_tlen (v := 9) hx hb hG.2.1 hS rfl dX5_readAll_10 ?_
      refine lv_icmp_gt (tgt := 58) hx hb dX5_readAll_11 (by decide) (fun c11 => ?_) (fun c11 => absurd ((nI_ltI (a := 9) (b := i) (by decide) (by omega)).mpr (by omega)) c11)
      refine lv_iconst (v := (-1)) hx hb dX5_readAll_58 (by decide) ?_
      refine lv_aload_n hx hb dX5_readAll_59 rfl (lv_at hl 0 rfl) ?_
      refine va_get (D := D) (ci := 5) (v := .int (nI st)) (C := RX5) (T := TX5) (N := 6) hx hb hts inX5 hown hK hP 0 rfl rfl 3 (by decide) (hts _ wd_1_61) (fun _ h9 => h9) rfl dX5_readAll_60 ?_
      refine lv_isub hx hb dX5_readAll_63 ?_
      exact fs_i hx hb hr hlocks hq ((-1) - (nI st), (fm, st, be, fk, rd, mt)) (by rw [← he]; rfl) hP hD hS dX5_readAll_64 rfl
    | succ r ih =>
      intro i fm st be fk rd mt H locs hi hbe he hP hD hS ls hl
      refine lv_iload_n hx hb dX5_readAll_6 rfl (lv_at hl 2 rfl) ?_
      refine va_getsN hx hb hG.1 hS hown (va_Nw.use rfl hG.2.2.2.2.2.2.2.2.2.2.1) (fun _ h9 => h9) dX5_readAll_7 ?_
      refine va_tlen (v := 9) hx hb hG.2.1 hS rfl dX5_readAll_10 ?_
      refine lv_icmp_gt (tgt := 58) hx hb dX5_readAll_11 (by decide) (fun c11 => absurd c11 (fun z => absurd ((nI_ltI (a := 9) (b := i) (by decide) (by omega)).mp z) (by omega))) (fun c11 => ?_)
      refine lv_aload_n hx hb dX5_readAll_14 rfl (lv_at hl 0 rfl) ?_
      refine lv_aload_n hx hb dX5_readAll_15 rfl (lv_at hl 1 rfl) ?_
      refine fs_Vw (rest := []) (As := [.ref (y 0)]) ⟨hx, hb, hml, hown, hts⟩ Gd0 trivial hS hA hK (hP) (hD) (c_X5_step l D k t fm st be fk rd mt y n f hn (by omega)) mi_X5_step wd_1_219 wp_1_1 wd_1_217 ⟨Nat.le_of_ble_eq_true rfl, Nat.le_of_ble_eq_true rfl⟩ 0 rfl rfl rfl hl.1 rfl (Nat.le_of_ble_eq_true rfl) ⟨Nat.le_of_ble_eq_true rfl, Nat.le_of_ble_eq_true rfl⟩ dX5_readAll_16 (fun u_1 H locs hu_2 hP hD hS => ?_)
      obtain ⟨fm2, st2, be2, fk2, rd2, mt2⟩ := u_1
      have hu29 : rStepU f n (fm, st, be, fk, rd, mt) = (fm2, st2, be2, fk2, rd2, mt2) := hu_2.symm
      have hb2 := rStepU_ok (f := f) (n := n) (u := (fm, st, be, fk, rd, mt)) (by show be ≤ n; omega)
      rw [hu29] at hb2
      replace hb2 : be2 ≤ n ∧ (fm2 = 1 ∨ fm2 = 2 → st2 ≤ be2) := hb2
      obtain ⟨hbe2, hsb2⟩ := hb2
      replace hP : va_P D vwCl ([(t 0, .inr (5, [.ref (t 1), .ref (t 2), .int fm2, .int (nI st2), .int (nI be2), .int fk2])), (t 1, .inl (k 0, 9, .inl rd2)), (t 2, .inl (k 1, 9, .inl mt2)), (y 0, .inr (7, [.ref (y 1), .int (nI n)])), (y 1, .inl (k 0, 320, .inl f))]) H := hP
      replace hD : va_D A ([(t 0, .inr (5, [.ref (t 1), .ref (t 2), .int fm2, .int (nI st2), .int (nI be2), .int fk2])), (t 1, .inl (k 0, 9, .inl rd2)), (t 2, .inl (k 1, 9, .inl mt2)), (y 0, .inr (7, [.ref (y 1), .int (nI n)])), (y 1, .inl (k 0, 320, .inl f))]) := hD
      refine W.eq (g2 := F0 m 19 ls []) rfl ?_
      refine lv_aload_n hx hb dX5_readAll_19 rfl (lv_at hl 0 rfl) ?_
      refine va_get (D := D) (ci := 5) (v := .int fm2) (C := RX5) (T := TX5) (N := 6) hx hb hts inX5 hown hK hP 0 rfl rfl 2 (by decide) (hts _ wd_1_60) (fun _ h9 => h9) rfl dX5_readAll_20 ?_
      refine lv_iconst (v := 4) hx hb dX5_readAll_23 (by decide) ?_
      refine lv_icmp_ne (tgt := 29) hx hb dX5_readAll_24 (by decide) (fun c24 => ?_) (fun c24 => ?_)
      · refine lv_aload_n hx hb dX5_readAll_29 rfl (lv_at hl 0 rfl) ?_
        refine lv_aload_n hx hb dX5_readAll_30 rfl (lv_at hl 0 rfl) ?_
        refine lv_aload_n hx hb dX5_readAll_31 rfl (lv_at hl 1 rfl) ?_
        refine fs_Vw (rest := [.ref (t 0)]) (As := [.ref (y 0)]) ⟨hx, hb, hml, hown, hts⟩ GdK hG hS hA hK (hP) (hD) (c_X5_faultOfRule l D k kz ke sK sV t fm2 st2 be2 fk2 rd2 mt2 y n f hn (fun z => hsb2 (Or.inl z)) hbe2) mi_X5_faultOfRule wd_2_4 wp_1_3 wd_2_2 ⟨Nat.le_of_ble_eq_true rfl, Nat.le_of_ble_eq_true rfl⟩ 0 rfl rfl rfl hl.1 rfl (Nat.le_of_ble_eq_true rfl) ⟨Nat.le_of_ble_eq_true rfl, Nat.le_of_ble_eq_true rfl⟩ dX5_readAll_32 (fun u_3 H locs hu_4 hP hD hS => ?_)
        obtain ⟨x3, fm3, st3, be3, fk3, rd3, mt3⟩ := u_3
        have hu39 : rFault f n (fm2, st2, be2, fk2, rd2, mt2) = (x3, fm3, st3, be3, fk3, rd3, mt3) := hu_4.symm
        have hbe3 := rFault_ok (f := f) (n := n) (u := (fm2, st2, be2, fk2, rd2, mt2)) (by show be2 ≤ n; omega)
        rw [hu39] at hbe3
        replace hbe3 : be3 ≤ n := hbe3
        replace hP : va_P D vwCl ([(t 0, .inr (5, [.ref (t 1), .ref (t 2), .int fm3, .int (nI st3), .int (nI be3), .int fk3])), (t 1, .inl (k 0, 9, .inl rd3)), (t 2, .inl (k 1, 9, .inl mt3)), (y 0, .inr (7, [.ref (y 1), .int (nI n)])), (y 1, .inl (k 0, 320, .inl f))]) H := hP
        replace hD : va_D A ([(t 0, .inr (5, [.ref (t 1), .ref (t 2), .int fm3, .int (nI st3), .int (nI be3), .int fk3])), (t 1, .inl (k 0, 9, .inl rd3)), (t 2, .inl (k 1, 9, .inl mt3)), (y 0, .inr (7, [.ref (y 1), .int (nI n)])), (y 1, .inl (k 0, 320, .inl f))]) := hD
        refine W.eq (g2 := F0 m 35 ls [.int x3, .ref (t 0)]) rfl ?_
        refine va_put (D := D) (ci := 5) (v := .int x3) (C := RX5) (T := TX5) (N := 6) hx hb hts inX5 tyX5 tyX5_ok nmX5 hown hK hP hD hS 0 rfl rfl 5 (by decide) (hts _ wd_1_63) (fun _ h9 => h9) rfl (tyX5_ok 5 (by decide)) rfl rfl (Nat.le_of_ble_eq_true rfl) dX5_readAll_35 (fun H locs hP hD hS => ?_)
        replace hP : va_P D vwCl ([(t 0, .inr (5, [.ref (t 1), .ref (t 2), .int fm3, .int (nI st3), .int (nI be3), .int x3])), (t 1, .inl (k 0, 9, .inl rd3)), (t 2, .inl (k 1, 9, .inl mt3)), (y 0, .inr (7, [.ref (y 1), .int (nI n)])), (y 1, .inl (k 0, 320, .inl f))]) H := hP
        replace hD : va_D A ([(t 0, .inr (5, [.ref (t 1), .ref (t 2), .int fm3, .int (nI st3), .int (nI be3), .int x3])), (t 1, .inl (k 0, 9, .inl rd3)), (t 2, .inl (k 1, 9, .inl mt3)), (y 0, .inr (7, [.ref (y 1), .int (nI n)])), (y 1, .inl (k 0, 320, .inl f))]) := hD
        refine lv_aload_n hx hb dX5_readAll_38 rfl (lv_at hl 0 rfl) ?_
        refine va_get (D := D) (ci := 5) (v := .int x3) (C := RX5) (T := TX5) (N := 6) hx hb hts inX5 hown hK hP 0 rfl rfl 5 (by decide) (hts _ wd_1_63) (fun _ h9 => h9) rfl dX5_readAll_39 ?_
        refine lv_if_eq (tgt := 52) hx hb dX5_readAll_42 (by decide) (fun c42 => ?_) (fun c42 => ?_)
        · refine lv_iinc (v := nI (i + 1)) (lv' := [(2, .int (nI (i + 1))), (0, .ref (t 0)), (1, .ref (y 0))]) hx hb dX5_readAll_52 hl (k := 2) rfl (nI_1 _) (by decide) rfl (fun ls hl => ?_)
          refine lv_goto (tgt := 6) hx hb dX5_readAll_55 (by decide) ?_
          exact ih (i + 1) fm3 st3 be3 x3 rd3 mt3 H locs (by omega) hbe3 (by rw [← he, rAll, hu29, if_neg (show ¬ (fm2 = 4) from c24), hu39, if_pos (show x3 = 0 from c42)]; rfl) hP hD hS ls (lv_sub hl [1, 2, 0] rfl)
        · refine lv_iconst (v := (-1)) hx hb dX5_readAll_45 (by decide) ?_
          refine lv_aload_n hx hb dX5_readAll_46 rfl (lv_at hl 0 rfl) ?_
          refine va_get (D := D) (ci := 5) (v := .int (nI st3)) (C := RX5) (T := TX5) (N := 6) hx hb hts inX5 hown hK hP 0 rfl rfl 3 (by decide) (hts _ wd_1_61) (fun _ h9 => h9) rfl dX5_readAll_47 ?_
          refine lv_isub hx hb dX5_readAll_50 ?_
          exact fs_i hx hb hr hlocks hq ((-1) - (nI st3), (fm3, st3, be3, x3, rd3, mt3)) (by rw [← he, rAll, hu29, if_neg (show ¬ (fm2 = 4) from c24), hu39, if_neg (show ¬ (x3 = 0) from c42)]; rfl) hP hD hS dX5_readAll_51 rfl
      · refine lv_iload_n hx hb dX5_readAll_27 rfl (lv_at hl 2 rfl) ?_
        exact fs_i hx hb hr hlocks hq (nI i, (fm2, st2, be2, fk2, rd2, mt2)) (by rw [← he, rAll, hu29, if_pos (show fm2 = 4 from c24)]) hP hD hS dX5_readAll_28 rfl
  refine lv_aload_n hx hb dX5_readAll_0 rfl (lv_at hl 0 rfl) ?_
  refine fs_Vf ([]) (bT y k (n, f)) (rest := []) (As := []) ⟨hx, hb, hml, hown, hts⟩ GdK hG hS hA hK (hP) (hD) (c_X5_startAgain l D k kz ke sK sV t fm0 st0 be0 fk0 rd0 mt0) mi_X5_startAgain wd_1_215 wp_1_0 wd_1_213 ⟨Nat.le_of_ble_eq_true rfl, Nat.le_of_ble_eq_true rfl⟩ 0 rfl rfl rfl hl.1 rfl (Nat.le_of_ble_eq_true rfl) ⟨Nat.le_of_ble_eq_true rfl, Nat.le_of_ble_eq_true rfl⟩ dX5_readAll_1 (fun u_1 H locs hu_2 hP hD hS => ?_)
  subst hu_2
  replace hP : va_P D vwCl ([(t 0, .inr (5, [.ref (t 1), .ref (t 2), .int fm0, .int (nI st0), .int (nI 0), .int 0])), (t 1, .inl (k 0, 9, .inl (rUsual rd0))), (t 2, .inl (k 1, 9, .inl (rNone mt0))), (y 0, .inr (7, [.ref (y 1), .int (nI n)])), (y 1, .inl (k 0, 320, .inl f))]) H := hP
  replace hD : va_D A ([(t 0, .inr (5, [.ref (t 1), .ref (t 2), .int fm0, .int (nI st0), .int (nI 0), .int 0])), (t 1, .inl (k 0, 9, .inl (rUsual rd0))), (t 2, .inl (k 1, 9, .inl (rNone mt0))), (y 0, .inr (7, [.ref (y 1), .int (nI n)])), (y 1, .inl (k 0, 320, .inl f))]) := hD
  refine W.eq (g2 := F0 m 4 ls []) rfl ?_
  refine lv_iconst (v := 0) hx hb dX5_readAll_4 (by decide) ?_
  refine lv_istore_n (lv' := [(2, .int 0), (0, .ref (t 0)), (1, .ref (y 0))]) hx hb dX5_readAll_5 rfl hl (by decide) rfl (fun ls hl => ?_)
  exact L 10 0 fm0 st0 0 0 (rUsual rd0) (rNone mt0) H locs (by omega) (by omega) (rfl) hP hD hS ls (lv_sub hl [1, 2, 0] rfl)
