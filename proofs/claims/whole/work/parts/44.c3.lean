/-- a LOAN is taken: (rest, pence, takenFrom, stillAway) -/
abbrev LES : Type := Int32 × (Nat → Int32) × (Nat → Int32) × (Nat → Int32)
def leTake (i : Nat) (m : Int32) (p : LES) : LES := (p.1 - m, upd p.2.1 i (p.2.1 i - m), upd p.2.2.1 i m, upd p.2.2.2 i m)
def leStep (y : Int32) (tg : Nat → Int32) (i : Nat) (p : LES) : LES := if cIsFor y tg i = false then p else leTake i (cMin p.1 (p.2.1 i)) p
def leAll (y : Int32) (tg : Nat → Int32) (n : Nat) (p : LES) : LES := lp (leStep y tg) (n - 1) 1 p
def leEnd (z : Int32) (p : LES) : LES := leTake 0 (cMin p.1 (cAbove (p.2.1 0) z)) p
set_option maxHeartbeats 4000000 in
set_option maxRecDepth 100000 in
theorem c_X1_lendTo (l : Launch) (D : va_G) (k : Nat → ClassId) (t : Nat → Nat) (n : Nat) (g : Int32) (a : Nat → Nat → Int32) (p_ : Nat) (F : Nat → Int32) (rs rt ra : Nat) (bt : Int64) (f1 f2 : Nat → Int32) (y z : Int32) (hn : n ≤ 6) (hn1 : 1 ≤ n) : Fs (S := LES) l yX1_lendTo cX1_lendTo 6 none 3 0 0 D (TY k) G0 [.ref (t 0), .ref p_, .int y, .int z] (bFL t k p_ F rs rt ra bt ((n, g, a), f1, f2)) (fun _ => none) (fun u => u = leEnd z (leAll y (a 2) n (F 2, a 1, f1, f2))) (fun u => bFL t k p_ F rs rt ra bt ((n, g, up a 1 u.2.1), u.2.2.1, u.2.2.2)) := by
  refine fs_body (by decide +kernel) (Nat.le_of_ble_eq_true rfl) ?_
  intro p e s m args below meth c_ Q A hx hb hml hown hts hK hP hD hS hA hG hin hr hq hlocks ls hl
  replace hl : lv_has ls 6 [(0, .ref (t 0)), (1, .ref p_), (2, .int y), (3, .int z)] := hl
  change s.vm.findClass RX1 = some m.cls at hown
  have L : ∀ (r i : Nat) (w : Int32) (f9 : Nat → Int32) (f7 : Nat → Int32) (f8 : Nat → Int32) (H : Heap) (locs : List Loc), i + r = n → lp (leStep y (a 2)) r i (w, f9, f7, f8) = leAll y (a 2) n (F 2, a 1, f1, f2) → va_P D vwCl ([(t 0, .inr (2, [.ref (t 1), .ref (t 2), .ref (t 3), .ref (t 4), .int (nI n), .int g])), (t 1, .inl (k 0, 6, .inl f9)), (t 2, .inl (k 0, 6, .inl (a 2))), (t 3, .inl (k 0, 6, .inl (a 3))), (t 4, .inl (k 0, 2400, .inl (a 4))), (p_, .inr (4, [.int (F 0), .int (F 1), .int (F 2), .int (F 3), .ref rs, .long bt, .int (F 6), .int (F 7), .int (F 8), .ref rt, .ref ra, .int (F 11), .int (F 12), .int (F 13), .int (F 14), .int (F 15), .int (F 16), .int (F 17)])), (rt, .inl (k 0, 6, .inl f7)), (ra, .inl (k 0, 6, .inl f8))]) H → va_D A ([(t 0, .inr (2, [.ref (t 1), .ref (t 2), .ref (t 3), .ref (t 4), .int (nI n), .int g])), (t 1, .inl (k 0, 6, .inl f9)), (t 2, .inl (k 0, 6, .inl (a 2))), (t 3, .inl (k 0, 6, .inl (a 3))), (t 4, .inl (k 0, 2400, .inl (a 4))), (p_, .inr (4, [.int (F 0), .int (F 1), .int (F 2), .int (F 3), .ref rs, .long bt, .int (F 6), .int (F 7), .int (F 8), .ref rt, .ref ra, .int (F 11), .int (F 12), .int (F 13), .int (F 14), .int (F 15), .int (F 16), .int (F 17)])), (rt, .inl (k 0, 6, .inl f7)), (ra, .inl (k 0, 6, .inl f8))]) → va_S A s.heap H locs → ∀ (ls : Array Slot), lv_has ls 6 [(0, .ref (t 0)), (1, .ref p_), (2, .int y), (3, .int z), (4, .int w), (5, .int (nI i))] → W p l e (rmd 3 0 0) s m args below meth c_ H locs 0 0 Q (F0 m 9 ls []) := by
    intro r
    induction r with
    | zero =>
      intro i w f9 f7 f8 H locs hi he hP hD hS ls hl
      refine lv_iload hx hb dX1_lendTo_9 (lv_at hl 5 rfl) ?_
      refine lv_aload_n hx hb dX1_lendTo_11 rfl (lv_at hl 0 rfl) ?_
      refine va_get (D := D) (ci := 2) (v := .int (nI n)) (C := RX1) (T := TX1) (N := 6) hx hb hts inX1 hown hK hP 0 rfl rfl 4 (by decide) (hts _ wd_1_99) (fun _ h9 => h9) rfl dX1_lendTo_12 ?_
      refine lv_icmp_ge (tgt := 58) hx hb dX1_lendTo_15 (by decide) (fun c15 => ?_) (fun c15 => absurd (nI_le (by omega) (by omega)) c15)
      refine lv_aload_n hx hb dX1_lendTo_58 rfl (lv_at hl 0 rfl) ?_
      refine lv_aload_n hx hb dX1_lendTo_59 rfl (lv_at hl 1 rfl) ?_
      refine lv_iconst (v := 0) hx hb dX1_lendTo_60 (by decide) ?_
      refine lv_iload hx hb dX1_lendTo_61 (lv_at hl 4 rfl) ?_
      refine lv_aload_n hx hb dX1_lendTo_63 rfl (lv_at hl 0 rfl) ?_
      refine lv_iload_n hx hb dX1_lendTo_64 rfl (lv_at hl 3 rfl) ?_
      refine ro_V (rest := [.int w, .int 0, .ref p_, .ref (t 0)]) (st1 := [.int (if 0 < f9 0 - z then f9 0 - z else 0), .int w, .int 0, .ref p_, .ref (t 0)]) (As := [.int z]) ⟨hx, hb, hml, hown, hts⟩ Gd0 trivial hS hK (c_X1_aboveKeep l D k t n g (up a 1 f9) z) mi_X1_aboveKeep wd_2_238 wp_1_15 wd_2_236 ⟨Nat.le_of_ble_eq_true rfl, Nat.le_of_ble_eq_true rfl⟩ (hP.sub [0, 1, 2, 3, 4] rfl) 0 rfl rfl rfl hl.1 rfl (Nat.le_of_ble_eq_true rfl) rfl ⟨Nat.le_of_ble_eq_true rfl, Nat.le_of_ble_eq_true rfl⟩ dX1_lendTo_65 ?_
      refine va_mmin hx hb (hml.trans hl.1.symm) hown (hts _ wd_3_118) (hts _ wd_1_223) (hts _ wd_1_11) (hts _ wd_1_224) (by decide) (Nat.le_of_ble_eq_true rfl) (Nat.le_of_ble_eq_true rfl) (Nat.le_of_ble_eq_true rfl) dX1_lendTo_68 ?_
      refine fs_Vw (rest := []) (As := [.ref p_, .int 0, .int (if (if 0 < f9 0 - z then f9 0 - z else 0) < w then (if 0 < f9 0 - z then f9 0 - z else 0) else w)]) ⟨hx, hb, hml, hown, hts⟩ Gd0 trivial hS hA hK (hP) (hD) (c_X1_take l D k t n g (up a 1 f9) p_ F rs rt ra bt f7 f8 0 (if (if 0 < f9 0 - z then f9 0 - z else 0) < w then (if 0 < f9 0 - z then f9 0 - z else 0) else w) (by omega)) mi_X1_take wd_3_121 wp_2_2 wd_3_119 ⟨Nat.le_of_ble_eq_true rfl, Nat.le_of_ble_eq_true rfl⟩ 0 rfl rfl rfl hl.1 rfl (Nat.le_of_ble_eq_true rfl) ⟨Nat.le_of_ble_eq_true rfl, Nat.le_of_ble_eq_true rfl⟩ dX1_lendTo_71 (fun u_1 H locs hu_2 hP hD hS => ?_)
      subst hu_2
      replace hP : va_P D vwCl ([(t 0, .inr (2, [.ref (t 1), .ref (t 2), .ref (t 3), .ref (t 4), .int (nI n), .int g])), (t 1, .inl (k 0, 6, .inl (upd f9 0 (f9 0 - (if (if 0 < f9 0 - z then f9 0 - z else 0) < w then (if 0 < f9 0 - z then f9 0 - z else 0) else w))))), (t 2, .inl (k 0, 6, .inl (a 2))), (t 3, .inl (k 0, 6, .inl (a 3))), (t 4, .inl (k 0, 2400, .inl (a 4))), (p_, .inr (4, [.int (F 0), .int (F 1), .int (F 2), .int (F 3), .ref rs, .long bt, .int (F 6), .int (F 7), .int (F 8), .ref rt, .ref ra, .int (F 11), .int (F 12), .int (F 13), .int (F 14), .int (F 15), .int (F 16), .int (F 17)])), (rt, .inl (k 0, 6, .inl (upd f7 0 (if (if 0 < f9 0 - z then f9 0 - z else 0) < w then (if 0 < f9 0 - z then f9 0 - z else 0) else w)))), (ra, .inl (k 0, 6, .inl (upd f8 0 (if (if 0 < f9 0 - z then f9 0 - z else 0) < w then (if 0 < f9 0 - z then f9 0 - z else 0) else w))))]) H := hP
      replace hD : va_D A ([(t 0, .inr (2, [.ref (t 1), .ref (t 2), .ref (t 3), .ref (t 4), .int (nI n), .int g])), (t 1, .inl (k 0, 6, .inl (upd f9 0 (f9 0 - (if (if 0 < f9 0 - z then f9 0 - z else 0) < w then (if 0 < f9 0 - z then f9 0 - z else 0) else w))))), (t 2, .inl (k 0, 6, .inl (a 2))), (t 3, .inl (k 0, 6, .inl (a 3))), (t 4, .inl (k 0, 2400, .inl (a 4))), (p_, .inr (4, [.int (F 0), .int (F 1), .int (F 2), .int (F 3), .ref rs, .long bt, .int (F 6), .int (F 7), .int (F 8), .ref rt, .ref ra, .int (F 11), .int (F 12), .int (F 13), .int (F 14), .int (F 15), .int (F 16), .int (F 17)])), (rt, .inl (k 0, 6, .inl (upd f7 0 (if (if 0 < f9 0 - z then f9 0 - z else 0) < w then (if 0 < f9 0 - z then f9 0 - z else 0) else w)))), (ra, .inl (k 0, 6, .inl (upd f8 0 (if (if 0 < f9 0 - z then f9 0 - z else 0) < w then (if 0 < f9 0 - z then f9 0 - z else 0) else w))))]) := hD
      refine W.eq (g2 := F0 m 74 ls [.int (if (if 0 < f9 0 - z then f9 0 - z else 0) < w then (if 0 < f9 0 - z then f9 0 - z else 0) else w)]) rfl ?_
      refine lv_pop hx hb dX1_lendTo_74 rfl ?_
      exact fs_v hx hb hr hlocks hq ((w - (if (if 0 < f9 0 - z then f9 0 - z else 0) < w then (if 0 < f9 0 - z then f9 0 - z else 0) else w), upd f9 0 (f9 0 - (if (if 0 < f9 0 - z then f9 0 - z else 0) < w then (if 0 < f9 0 - z then f9 0 - z else 0) else w)), upd f7 0 (if (if 0 < f9 0 - z then f9 0 - z else 0) < w then (if 0 < f9 0 - z then f9 0 - z else 0) else w), upd f8 0 (if (if 0 < f9 0 - z then f9 0 - z else 0) < w then (if 0 < f9 0 - z then f9 0 - z else 0) else w))) (by rw [← he]; rfl) hP hD hS dX1_lendTo_75 rfl
    | succ r ih =>
      intro i w f9 f7 f8 H locs hi he hP hD hS ls hl
      refine lv_iload hx hb dX1_lendTo_9 (lv_at hl 5 rfl) ?_
      refine lv_aload_n hx hb dX1_lendTo_11 rfl (lv_at hl 0 rfl) ?_
      refine va_get (D := D) (ci := 2) (v := .int (nI n)) (C := RX1) (T := TX1) (N := 6) hx hb hts inX1 hown hK hP 0 rfl rfl 4 (by decide) (hts _ wd_1_99) (fun _ h9 => h9) rfl dX1_lendTo_12 ?_
      refine lv_icmp_ge (tgt := 58) hx hb dX1_lendTo_15 (by decide) (fun c15 => absurd c15 (nI_ge (by omega) (by omega))) (fun c15 => ?_)
      refine lv_aload_n hx hb dX1_lendTo_18 rfl (lv_at hl 0 rfl) ?_
      refine lv_iload hx hb dX1_lendTo_19 (lv_at hl 5 rfl) ?_
      refine lv_iload_n hx hb dX1_lendTo_21 rfl (lv_at hl 2 rfl) ?_
      refine ro_V (rest := []) (st1 := [.int (bI (!decide ((y >>> ((a 2) i &&& 31)) &&& 1 = 0)))]) (As := [.int (nI i), .int y]) ⟨hx, hb, hml, hown, hts⟩ Gd0 trivial hS hK (c_X1_isFor l D k t n g (up a 1 f9) i y (by omega)) mi_X1_isFor wd_3_5 wp_2_0 wd_3_3 ⟨Nat.le_of_ble_eq_true rfl, Nat.le_of_ble_eq_true rfl⟩ (hP.sub [0, 1, 2, 3, 4] rfl) 0 rfl rfl rfl hl.1 rfl (Nat.le_of_ble_eq_true rfl) rfl ⟨Nat.le_of_ble_eq_true rfl, Nat.le_of_ble_eq_true rfl⟩ dX1_lendTo_22 ?_
      refine lv_if_eq (tgt := 52) hx hb dX1_lendTo_25 (by decide) (fun c25 => ?_) (fun c25 => ?_)
      · replace c25 : (!decide ((y >>> ((a 2) i &&& 31)) &&& 1 = 0)) = false := bI_0.mp c25
        refine lv_iinc (v := nI (i + 1)) (lv' := [(5, .int (nI (i + 1))), (0, .ref (t 0)), (1, .ref p_), (2, .int y), (3, .int z), (4, .int w)]) hx hb dX1_lendTo_52 hl (k := 5) rfl (nI_1 _) (by decide) rfl (fun ls hl => ?_)
        refine lv_goto (tgt := 9) hx hb dX1_lendTo_55 (by decide) ?_
        exact ih (i + 1) w f9 f7 f8 H locs (by omega) (by rw [← he]; show _ = lp (leStep y (a 2)) r (i + 1) (leStep y (a 2) i (w, f9, f7, f8)); rw [leStep, if_pos (show cIsFor y (a 2) i = false from c25)]) hP hD hS ls (lv_sub hl [1, 2, 3, 4, 5, 0] rfl)
      · replace c25 : (!decide ((y >>> ((a 2) i &&& 31)) &&& 1 = 0)) = true := bI_n.mp c25
        refine lv_iload hx hb dX1_lendTo_28 (lv_at hl 4 rfl) ?_
        refine lv_aload_n hx hb dX1_lendTo_30 rfl (lv_at hl 0 rfl) ?_
        refine lv_aload_n hx hb dX1_lendTo_31 rfl (lv_at hl 1 rfl) ?_
        refine lv_iload hx hb dX1_lendTo_32 (lv_at hl 5 rfl) ?_
        refine lv_iload hx hb dX1_lendTo_34 (lv_at hl 4 rfl) ?_
        refine lv_aload_n hx hb dX1_lendTo_36 rfl (lv_at hl 0 rfl) ?_
        refine va_get (D := D) (ci := 2) (v := .ref (t 1)) (C := RX1) (T := TX1) (N := 6) hx hb hts inX1 hown hK hP 0 rfl rfl 0 (by decide) (hts _ wd_1_95) (fun _ h9 => h9) rfl dX1_lendTo_37 ?_
        refine lv_iload hx hb dX1_lendTo_40 (lv_at hl 5 rfl) ?_
        refine ra_iald (n := 6) (f := f9) hx hb hK hP 1 0 rfl rfl i rfl (by omega) (by decide) dX1_lendTo_42 ?_
        refine va_mmin hx hb (hml.trans hl.1.symm) hown (hts _ wd_3_118) (hts _ wd_1_223) (hts _ wd_1_11) (hts _ wd_1_224) (by decide) (Nat.le_of_ble_eq_true rfl) (Nat.le_of_ble_eq_true rfl) (Nat.le_of_ble_eq_true rfl) dX1_lendTo_43 ?_
        refine fs_Vw (rest := [.int w]) (As := [.ref p_, .int (nI i), .int (if (f9 i) < w then (f9 i) else w)]) ⟨hx, hb, hml, hown, hts⟩ Gd0 trivial hS hA hK (hP) (hD) (c_X1_take l D k t n g (up a 1 f9) p_ F rs rt ra bt f7 f8 i (if (f9 i) < w then (f9 i) else w) (by omega)) mi_X1_take wd_3_121 wp_2_2 wd_3_119 ⟨Nat.le_of_ble_eq_true rfl, Nat.le_of_ble_eq_true rfl⟩ 0 rfl rfl rfl hl.1 rfl (Nat.le_of_ble_eq_true rfl) ⟨Nat.le_of_ble_eq_true rfl, Nat.le_of_ble_eq_true rfl⟩ dX1_lendTo_46 (fun u_1 H locs hu_2 hP hD hS => ?_)
        subst hu_2
        replace hP : va_P D vwCl ([(t 0, .inr (2, [.ref (t 1), .ref (t 2), .ref (t 3), .ref (t 4), .int (nI n), .int g])), (t 1, .inl (k 0, 6, .inl (upd f9 i (f9 i - (if (f9 i) < w then (f9 i) else w))))), (t 2, .inl (k 0, 6, .inl (a 2))), (t 3, .inl (k 0, 6, .inl (a 3))), (t 4, .inl (k 0, 2400, .inl (a 4))), (p_, .inr (4, [.int (F 0), .int (F 1), .int (F 2), .int (F 3), .ref rs, .long bt, .int (F 6), .int (F 7), .int (F 8), .ref rt, .ref ra, .int (F 11), .int (F 12), .int (F 13), .int (F 14), .int (F 15), .int (F 16), .int (F 17)])), (rt, .inl (k 0, 6, .inl (upd f7 i (if (f9 i) < w then (f9 i) else w)))), (ra, .inl (k 0, 6, .inl (upd f8 i (if (f9 i) < w then (f9 i) else w))))]) H := hP
        replace hD : va_D A ([(t 0, .inr (2, [.ref (t 1), .ref (t 2), .ref (t 3), .ref (t 4), .int (nI n), .int g])), (t 1, .inl (k 0, 6, .inl (upd f9 i (f9 i - (if (f9 i) < w then (f9 i) else w))))), (t 2, .inl (k 0, 6, .inl (a 2))), (t 3, .inl (k 0, 6, .inl (a 3))), (t 4, .inl (k 0, 2400, .inl (a 4))), (p_, .inr (4, [.int (F 0), .int (F 1), .int (F 2), .int (F 3), .ref rs, .long bt, .int (F 6), .int (F 7), .int (F 8), .ref rt, .ref ra, .int (F 11), .int (F 12), .int (F 13), .int (F 14), .int (F 15), .int (F 16), .int (F 17)])), (rt, .inl (k 0, 6, .inl (upd f7 i (if (f9 i) < w then (f9 i) else w)))), (ra, .inl (k 0, 6, .inl (upd f8 i (if (f9 i) < w then (f9 i) else w))))]) := hD
        refine W.eq (g2 := F0 m 49 ls [.int (if (f9 i) < w then (f9 i) else w), .int w]) rfl ?_
        refine lv_isub hx hb dX1_lendTo_49 ?_
        refine lv_istore (lv' := [(4, .int (w - (if (f9 i) < w then (f9 i) else w))), (0, .ref (t 0)), (1, .ref p_), (2, .int y), (3, .int z), (5, .int (nI i))]) hx hb dX1_lendTo_50 hl (by decide) rfl (fun ls hl => ?_)
        refine lv_iinc (v := nI (i + 1)) (lv' := [(5, .int (nI (i + 1))), (4, .int (w - (if (f9 i) < w then (f9 i) else w))), (0, .ref (t 0)), (1, .ref p_), (2, .int y), (3, .int z)]) hx hb dX1_lendTo_52 hl (k := 5) rfl (nI_1 _) (by decide) rfl (fun ls hl => ?_)
        refine lv_goto (tgt := 9) hx hb dX1_lendTo_55 (by decide) ?_
        exact ih (i + 1) (w - (if (f9 i) < w then (f9 i) else w)) (upd f9 i (f9 i - (if (f9 i) < w then (f9 i) else w))) (upd f7 i (if (f9 i) < w then (f9 i) else w)) (upd f8 i (if (f9 i) < w then (f9 i) else w)) H locs (by omega) (by rw [← he]; show _ = lp (leStep y (a 2)) r (i + 1) (leStep y (a 2) i (w, f9, f7, f8)); rw [leStep, if_neg (show ¬ (cIsFor y (a 2) i = false) by rw [show cIsFor y (a 2) i = true from c25]; decide)]; rfl) hP hD hS ls (lv_sub hl [2, 3, 4, 5, 1, 0] rfl)
  refine lv_aload_n hx hb dX1_lendTo_0 rfl (lv_at hl 1 rfl) ?_
  refine va_get (D := D) (ci := 4) (v := .int (F 2)) (C := RX4) (T := TX4) (N := 18) hx hb hts inX4 hown hK hP 5 rfl rfl 2 (by decide) (hts _ wd_3_37) (fun _ h9 => h9) rfl dX1_lendTo_1 ?_
  refine lv_istore (lv' := [(4, .int (F 2)), (0, .ref (t 0)), (1, .ref p_), (2, .int y), (3, .int z)]) hx hb dX1_lendTo_4 hl (by decide) rfl (fun ls hl => ?_)
  refine lv_iconst (v := 1) hx hb dX1_lendTo_6 (by decide) ?_
  refine lv_istore (lv' := [(5, .int 1), (4, .int (F 2)), (0, .ref (t 0)), (1, .ref p_), (2, .int y), (3, .int z)]) hx hb dX1_lendTo_7 hl (by decide) rfl (fun ls hl => ?_)
  exact L (n - 1) 1 (F 2) (a 1) f1 f2 _ _ (by omega) (rfl) hP hD hS ls (lv_sub hl [2, 3, 4, 5, 1, 0] rfl)
set_option maxHeartbeats 4000000 in
set_option maxRecDepth 100000 in
theorem c_X7_init (l : Launch) (D : va_G) (k : Nat → ClassId) (p_ : Nat) : Fs (S := Nat) l yX7_init cX7_init 1 none 1 1 320 D (TY k) G0 [.ref p_] ([(p_, .inr (7, [.null, .int 0]))]) (fun _ => none) (fun _ => True) (fun u => bT (up (fun _ => p_) 1 u) k (0, fun _ => 0)) := by
  refine fs_body (by decide +kernel) (Nat.le_of_ble_eq_true rfl) ?_
  intro p e s m args below meth c_ Q A hx hb hml hown hts hK hP hD hS hA hG hin hr hq hlocks ls hl
  replace hl : lv_has ls 1 [(0, .ref p_)] := hl
  change s.vm.findClass RX7 = some m.cls at hown
  refine lv_aload_n hx hb dX7_init_0 rfl (lv_at hl 0 rfl) ?_
  refine W.objInit hx hb hown (hts _ wd_1_41) (hts _ wd_1_34) (hts _ wd_1_35) rfl (by rw [hml]; exact hl.1) rfl dX7_init_1 (Nat.le_of_ble_eq_true rfl) (Nat.le_of_ble_eq_true rfl) ?_
  refine W.eq (g2 := F0 m 4 ls []) rfl ?_
  refine lv_aload_n hx hb dX7_init_4 rfl (lv_at hl 0 rfl) ?_
  refine lv_sipush (v := 320) hx hb dX7_init_5 (by decide) ?_
  refine ra_newa (N' := 320) hx hb (hts _ wd_1_49) hK hP hD hS hA (by decide) (by decide) (by decide) (Nat.le_of_ble_eq_true rfl) (Nat.le_of_ble_eq_true rfl) dX7_init_8 (fun q_1 H hP hD hS => ?_)
  replace hP : va_P D vwCl ([(p_, .inr (7, [.null, .int 0])), (q_1, .inl (k 0, 320, .inl (fun _ => 0)))]) H := hP
  replace hD : va_D A ([(p_, .inr (7, [.null, .int 0])), (q_1, .inl (k 0, 320, .inl (fun _ => 0)))]) := hD
  refine W.widen (k := 1) (n := 320) (Nat.le_of_ble_eq_true rfl) (Nat.le_of_ble_eq_true rfl) ?_
  refine va_putF (D := D) (ci := 7) (v := .ref q_1) (C := RX7) (T := TX7) (N := 2) hx hb hts inX7 tyX7 tyX7_ok nmX7 hown hK hP hD hS 0 rfl rfl 0 (by decide) (hts _ wd_1_42) (fun _ h9 => h9) rfl (hin rfl) rfl (tyX7_ok 0 (by decide)) rfl rfl (Nat.le_of_ble_eq_true rfl) dX7_init_10 (fun H locs hP hD hS => ?_)
  replace hP : va_P D vwCl ([(p_, .inr (7, [.ref q_1, .int 0])), (q_1, .inl (k 0, 320, .inl (fun _ => 0)))]) H := hP
  replace hD : va_D A ([(p_, .inr (7, [.ref q_1, .int 0])), (q_1, .inl (k 0, 320, .inl (fun _ => 0)))]) := hD
  refine lv_aload_n hx hb dX7_init_13 rfl (lv_at hl 0 rfl) ?_
  refine lv_iconst (v := 0) hx hb dX7_init_14 (by decide) ?_
  refine va_put (D := D) (ci := 7) (v := .int 0) (C := RX7) (T := TX7) (N := 2) hx hb hts inX7 tyX7 tyX7_ok nmX7 hown hK hP hD hS 0 rfl rfl 1 (by decide) (hts _ wd_1_43) (fun _ h9 => h9) rfl (tyX7_ok 1 (by decide)) rfl rfl (Nat.le_of_ble_eq_true rfl) dX7_init_15 (fun H locs hP hD hS => ?_)
  replace hP : va_P D vwCl ([(p_, .inr (7, [.ref q_1, .int 0])), (q_1, .inl (k 0, 320, .inl (fun _ => 0)))]) H := hP
  replace hD : va_D A ([(p_, .inr (7, [.ref q_1, .int 0])), (q_1, .inl (k 0, 320, .inl (fun _ => 0)))]) := hD
  exact fs_v hx hb hr hlocks hq (q_1) trivial hP hD hS dX7_init_18 rfl
set_option maxHeartbeats 4000000 in
set_option maxRecDepth 100000 in
theorem c_X1_init (l : Launch) (D : va_G) (k : Nat → ClassId) (p_ : Nat) : Fs (S := Nat × Nat × Nat × Nat) l yX1_init cX1_init 1 none 1 4 2418 D (TY k) G0 [.ref p_] ([(p_, .inr (2, [.null, .null, .null, .null, .int 0, .int 0]))]) (fun _ => none) (fun _ => True) (fun u => bF (up (up (up (up (fun _ => p_) 1 u.1) 2 u.2.1) 3 u.2.2.1) 4 u.2.2.2) k (1, 0, fun _ _ => 0)) := by
  refine fs_body (by decide +kernel) (Nat.le_of_ble_eq_true rfl) ?_
  intro p e s m args below meth c_ Q A hx hb hml hown hts hK hP hD hS hA hG hin hr hq hlocks ls hl
  replace hl : lv_has ls 1 [(0, .ref p_)] := hl
  change s.vm.findClass RX1 = some m.cls at hown
  refine lv_aload_n hx hb dX1_init_0 rfl (lv_at hl 0 rfl) ?_
  refine W.objInit hx hb hown (hts _ wd_1_94) (hts _ wd_1_34) (hts _ wd_1_35) rfl (by rw [hml]; exact hl.1) rfl dX1_init_1 (Nat.le_of_ble_eq_true rfl) (Nat.le_of_ble_eq_true rfl) ?_
  refine W.eq (g2 := F0 m 4 ls []) rfl ?_
  refine lv_aload_n hx hb dX1_init_4 rfl (lv_at hl 0 rfl) ?_
  refine lv_bipush (v := 6) hx hb dX1_init_5 (by decide) ?_
  refine ra_newa (N' := 6) hx hb (hts _ wd_1_49) hK hP hD hS hA (by decide) (by decide) (by decide) (Nat.le_of_ble_eq_true rfl) (Nat.le_of_ble_eq_true rfl) dX1_init_7 (fun q_1 H hP hD hS => ?_)
  replace hP : va_P D vwCl ([(p_, .inr (2, [.null, .null, .null, .null, .int 0, .int 0])), (q_1, .inl (k 0, 6, .inl (fun _ => 0)))]) H := hP
  replace hD : va_D A ([(p_, .inr (2, [.null, .null, .null, .null, .int 0, .int 0])), (q_1, .inl (k 0, 6, .inl (fun _ => 0)))]) := hD
  refine W.widen (k := 1) (n := 6) (Nat.le_of_ble_eq_true rfl) (Nat.le_of_ble_eq_true rfl) ?_
  refine va_putF (D := D) (ci := 2) (v := .ref q_1) (C := RX1) (T := TX1) (N := 6) hx hb hts inX1 tyX1 tyX1_ok nmX1 hown hK hP hD hS 0 rfl rfl 0 (by decide) (hts _ wd_1_95) (fun _ h9 => h9) rfl (hin rfl) rfl (tyX1_ok 0 (by decide)) rfl rfl (Nat.le_of_ble_eq_true rfl) dX1_init_9 (fun H locs hP hD hS => ?_)
  replace hP : va_P D vwCl ([(p_, .inr (2, [.ref q_1, .null, .null, .null, .int 0, .int 0])), (q_1, .inl (k 0, 6, .inl (fun _ => 0)))]) H := hP
  replace hD : va_D A ([(p_, .inr (2, [.ref q_1, .null, .null, .null, .int 0, .int 0])), (q_1, .inl (k 0, 6, .inl (fun _ => 0)))]) := hD
  refine lv_aload_n hx hb dX1_init_12 rfl (lv_at hl 0 rfl) ?_
  refine lv_bipush (v := 6) hx hb dX1_init_13 (by decide) ?_
  refine ra_newa (N' := 6) hx hb (hts _ wd_1_49) hK hP hD hS hA (by decide) (by decide) (by decide) (Nat.le_of_ble_eq_true rfl) (Nat.le_of_ble_eq_true rfl) dX1_init_15 (fun q_2 H hP hD hS => ?_)
  replace hP : va_P D vwCl ([(p_, .inr (2, [.ref q_1, .null, .null, .null, .int 0, .int 0])), (q_1, .inl (k 0, 6, .inl (fun _ => 0))), (q_2, .inl (k 0, 6, .inl (fun _ => 0)))]) H := hP
  replace hD : va_D A ([(p_, .inr (2, [.ref q_1, .null, .null, .null, .int 0, .int 0])), (q_1, .inl (k 0, 6, .inl (fun _ => 0))), (q_2, .inl (k 0, 6, .inl (fun _ => 0)))]) := hD
  refine W.widen (k := 2) (n := 12) (Nat.le_of_ble_eq_true rfl) (Nat.le_of_ble_eq_true rfl) ?_
  refine va_putF (D := D) (ci := 2) (v := .ref q_2) (C := RX1) (T := TX1) (N := 6) hx hb hts inX1 tyX1 tyX1_ok nmX1 hown hK hP hD hS 0 rfl rfl 1 (by decide) (hts _ wd_1_96) (fun _ h9 => h9) rfl (hin rfl) rfl (tyX1_ok 1 (by decide)) rfl rfl (Nat.le_of_ble_eq_true rfl) dX1_init_17 (fun H locs hP hD hS => ?_)
  replace hP : va_P D vwCl ([(p_, .inr (2, [.ref q_1, .ref q_2, .null, .null, .int 0, .int 0])), (q_1, .inl (k 0, 6, .inl (fun _ => 0))), (q_2, .inl (k 0, 6, .inl (fun _ => 0)))]) H := hP
  replace hD : va_D A ([(p_, .inr (2, [.ref q_1, .ref q_2, .null, .null, .int 0, .int 0])), (q_1, .inl (k 0, 6, .inl (fun _ => 0))), (q_2, .inl (k 0, 6, .inl (fun _ => 0)))]) := hD
  refine lv_aload_n hx hb dX1_init_20 rfl (lv_at hl 0 rfl) ?_
  refine lv_bipush (v := 6) hx hb dX1_init_21 (by decide) ?_
  refine ra_newa (N' := 6) hx hb (hts _ wd_1_49) hK hP hD hS hA (by decide) (by decide) (by decide) (Nat.le_of_ble_eq_true rfl) (Nat.le_of_ble_eq_true rfl) dX1_init_23 (fun q_3 H hP hD hS => ?_)
  replace hP : va_P D vwCl ([(p_, .inr (2, [.ref q_1, .ref q_2, .null, .null, .int 0, .int 0])), (q_1, .inl (k 0, 6, .inl (fun _ => 0))), (q_2, .inl (k 0, 6, .inl (fun _ => 0))), (q_3, .inl (k 0, 6, .inl (fun _ => 0)))]) H := hP
  replace hD : va_D A ([(p_, .inr (2, [.ref q_1, .ref q_2, .null, .null, .int 0, .int 0])), (q_1, .inl (k 0, 6, .inl (fun _ => 0))), (q_2, .inl (k 0, 6, .inl (fun _ => 0))), (q_3, .inl (k 0, 6, .inl (fun _ => 0)))]) := hD
  refine W.widen (k := 3) (n := 18) (Nat.le_of_ble_eq_true rfl) (Nat.le_of_ble_eq_true rfl) ?_
  refine va_putF (D := D) (ci := 2) (v := .ref q_3) (C := RX1) (T := TX1) (N := 6) hx hb hts inX1 tyX1 tyX1_ok nmX1 hown hK hP hD hS 0 rfl rfl 2 (by decide) (hts _ wd_1_97) (fun _ h9 => h9) rfl (hin rfl) rfl (tyX1_ok 2 (by decide)) rfl rfl (Nat.le_of_ble_eq_true rfl) dX1_init_25 (fun H locs hP hD hS => ?_)
  replace hP : va_P D vwCl ([(p_, .inr (2, [.ref q_1, .ref q_2, .ref q_3, .null, .int 0, .int 0])), (q_1, .inl (k 0, 6, .inl (fun _ => 0))), (q_2, .inl (k 0, 6, .inl (fun _ => 0))), (q_3, .inl (k 0, 6, .inl (fun _ => 0)))]) H := hP
  replace hD : va_D A ([(p_, .inr (2, [.ref q_1, .ref q_2, .ref q_3, .null, .int 0, .int 0])), (q_1, .inl (k 0, 6, .inl (fun _ => 0))), (q_2, .inl (k 0, 6, .inl (fun _ => 0))), (q_3, .inl (k 0, 6, .inl (fun _ => 0)))]) := hD
  refine lv_aload_n hx hb dX1_init_28 rfl (lv_at hl 0 rfl) ?_
  refine lv_sipush (v := 2400) hx hb dX1_init_29 (by decide) ?_
  refine ra_newa (N' := 2400) hx hb (hts _ wd_1_49) hK hP hD hS hA (by decide) (by decide) (by decide) (Nat.le_of_ble_eq_true rfl) (Nat.le_of_ble_eq_true rfl) dX1_init_32 (fun q_4 H hP hD hS => ?_)
  replace hP : va_P D vwCl ([(p_, .inr (2, [.ref q_1, .ref q_2, .ref q_3, .null, .int 0, .int 0])), (q_1, .inl (k 0, 6, .inl (fun _ => 0))), (q_2, .inl (k 0, 6, .inl (fun _ => 0))), (q_3, .inl (k 0, 6, .inl (fun _ => 0))), (q_4, .inl (k 0, 2400, .inl (fun _ => 0)))]) H := hP
  replace hD : va_D A ([(p_, .inr (2, [.ref q_1, .ref q_2, .ref q_3, .null, .int 0, .int 0])), (q_1, .inl (k 0, 6, .inl (fun _ => 0))), (q_2, .inl (k 0, 6, .inl (fun _ => 0))), (q_3, .inl (k 0, 6, .inl (fun _ => 0))), (q_4, .inl (k 0, 2400, .inl (fun _ => 0)))]) := hD
  refine W.widen (k := 4) (n := 2418) (Nat.le_of_ble_eq_true rfl) (Nat.le_of_ble_eq_true rfl) ?_
  refine va_putF (D := D) (ci := 2) (v := .ref q_4) (C := RX1) (T := TX1) (N := 6) hx hb hts inX1 tyX1 tyX1_ok nmX1 hown hK hP hD hS 0 rfl rfl 3 (by decide) (hts _ wd_1_98) (fun _ h9 => h9) rfl (hin rfl) rfl (tyX1_ok 3 (by decide)) rfl rfl (Nat.le_of_ble_eq_true rfl) dX1_init_34 (fun H locs hP hD hS => ?_)
  replace hP : va_P D vwCl ([(p_, .inr (2, [.ref q_1, .ref q_2, .ref q_3, .ref q_4, .int 0, .int 0])), (q_1, .inl (k 0, 6, .inl (fun _ => 0))), (q_2, .inl (k 0, 6, .inl (fun _ => 0))), (q_3, .inl (k 0, 6, .inl (fun _ => 0))), (q_4, .inl (k 0, 2400, .inl (fun _ => 0)))]) H := hP
  replace hD : va_D A ([(p_, .inr (2, [.ref q_1, .ref q_2, .ref q_3, .ref q_4, .int 0, .int 0])), (q_1, .inl (k 0, 6, .inl (fun _ => 0))), (q_2, .inl (k 0, 6, .inl (fun _ => 0))), (q_3, .inl (k 0, 6, .inl (fun _ => 0))), (q_4, .inl (k 0, 2400, .inl (fun _ => 0)))]) := hD
  refine lv_aload_n hx hb dX1_init_37 rfl (lv_at hl 0 rfl) ?_
  refine lv_iconst (v := 1) hx hb dX1_init_38 (by decide) ?_
  refine va_put (D := D) (ci := 2) (v := .int 1) (C := RX1) (T := TX1) (N := 6) hx hb hts inX1 tyX1 tyX1_ok nmX1 hown hK hP hD hS 0 rfl rfl 4 (by decide) (hts _ wd_1_99) (fun _ h9 => h9) rfl (tyX1_ok 4 (by decide)) rfl rfl (Nat.le_of_ble_eq_true rfl) dX1_init_39 (fun H locs hP hD hS => ?_)
  replace hP : va_P D vwCl ([(p_, .inr (2, [.ref q_1, .ref q_2, .ref q_3, .ref q_4, .int 1, .int 0])), (q_1, .inl (k 0, 6, .inl (fun _ => 0))), (q_2, .inl (k 0, 6, .inl (fun _ => 0))), (q_3, .inl (k 0, 6, .inl (fun _ => 0))), (q_4, .inl (k 0, 2400, .inl (fun _ => 0)))]) H := hP
  replace hD : va_D A ([(p_, .inr (2, [.ref q_1, .ref q_2, .ref q_3, .ref q_4, .int 1, .int 0])), (q_1, .inl (k 0, 6, .inl (fun _ => 0))), (q_2, .inl (k 0, 6, .inl (fun _ => 0))), (q_3, .inl (k 0, 6, .inl (fun _ => 0))), (q_4, .inl (k 0, 2400, .inl (fun _ => 0)))]) := hD
  refine lv_aload_n hx hb dX1_init_42 rfl (lv_at hl 0 rfl) ?_
  refine lv_iconst (v := 0) hx hb dX1_init_43 (by decide) ?_
  refine va_put (D := D) (ci := 2) (v := .int 0) (C := RX1) (T := TX1) (N := 6) hx hb hts inX1 tyX1 tyX1_ok nmX1 hown hK hP hD hS 0 rfl rfl 5 (by decide) (hts _ wd_1_100) (fun _ h9 => h9) rfl (tyX1_ok 5 (by decide)) rfl rfl (Nat.le_of_ble_eq_true rfl) dX1_init_44 (fun H locs hP hD hS => ?_)
  replace hP : va_P D vwCl ([(p_, .inr (2, [.ref q_1, .ref q_2, .ref q_3, .ref q_4, .int 1, .int 0])), (q_1, .inl (k 0, 6, .inl (fun _ => 0))), (q_2, .inl (k 0, 6, .inl (fun _ => 0))), (q_3, .inl (k 0, 6, .inl (fun _ => 0))), (q_4, .inl (k 0, 2400, .inl (fun _ => 0)))]) H := hP
  replace hD : va_D A ([(p_, .inr (2, [.ref q_1, .ref q_2, .ref q_3, .ref q_4, .int 1, .int 0])), (q_1, .inl (k 0, 6, .inl (fun _ => 0))), (q_2, .inl (k 0, 6, .inl (fun _ => 0))), (q_3, .inl (k 0, 6, .inl (fun _ => 0))), (q_4, .inl (k 0, 2400, .inl (fun _ => 0)))]) := hD
  exact fs_v hx hb hr hlocks hq (q_1, q_2, q_3, q_4) trivial hP hD hS dX1_init_47 rfl
set_option maxHeartbeats 4000000 in
set_option maxRecDepth 100000 in
theorem c_X0_init (l : Launch) (D : va_G) (k : Nat → ClassId) (p_ : Nat) (pe : Int32) (lo : Nat) (sm : Int32) : Fs (S := Unit) l yX0_init cX0_init 4 none 1 0 0 D (TY k) G0 [.ref p_, .int pe, .ref lo, .int sm] ([(p_, .inr (1, [.int 0, .null, .int 0, .int 0]))]) (fun _ => none) (fun _ => True) (fun u => [cK p_ pe lo sm 0]) := by
  refine fs_body (by decide +kernel) (Nat.le_of_ble_eq_true rfl) ?_
  intro p e s m args below meth c_ Q A hx hb hml hown hts hK hP hD hS hA hG hin hr hq hlocks ls hl
  replace hl : lv_has ls 4 [(0, .ref p_), (1, .int pe), (2, .ref lo), (3, .int sm)] := hl
  change s.vm.findClass RX0 = some m.cls at hown
  refine lv_aload_n hx hb dX0_init_0 rfl (lv_at hl 0 rfl) ?_
  refine W.objInit hx hb hown (hts _ wd_4_17) (hts _ wd_1_34) (hts _ wd_1_35) rfl (by rw [hml]; exact hl.1) rfl dX0_init_1 (Nat.le_of_ble_eq_true rfl) (Nat.le_of_ble_eq_true rfl) ?_
  refine W.eq (g2 := F0 m 4 ls []) rfl ?_
  refine lv_aload_n hx hb dX0_init_4 rfl (lv_at hl 0 rfl) ?_
  refine lv_iconst (v := 0) hx hb dX0_init_5 (by decide) ?_
  refine va_put (D := D) (ci := 1) (v := .int 0) (C := RX0) (T := TX0) (N := 4) hx hb hts inX0 tyX0 tyX0_ok nmX0 hown hK hP hD hS 0 rfl rfl 3 (by decide) (hts _ wd_4_23) (fun _ h9 => h9) rfl (tyX0_ok 3 (by decide)) rfl rfl (Nat.le_of_ble_eq_true rfl) dX0_init_6 (fun H locs hP hD hS => ?_)
  replace hP : va_P D vwCl ([(p_, .inr (1, [.int 0, .null, .int 0, .int 0]))]) H := hP
  replace hD : va_D A ([(p_, .inr (1, [.int 0, .null, .int 0, .int 0]))]) := hD
  refine lv_aload_n hx hb dX0_init_9 rfl (lv_at hl 0 rfl) ?_
  refine lv_iload_n hx hb dX0_init_10 rfl (lv_at hl 1 rfl) ?_
  refine va_putF (D := D) (ci := 1) (v := .int pe) (C := RX0) (T := TX0) (N := 4) hx hb hts inX0 tyX0 tyX0_ok nmX0 hown hK hP hD hS 0 rfl rfl 0 (by decide) (hts _ wd_4_18) (fun _ h9 => h9) rfl (hin rfl) rfl (tyX0_ok 0 (by decide)) rfl rfl (Nat.le_of_ble_eq_true rfl) dX0_init_11 (fun H locs hP hD hS => ?_)
  replace hP : va_P D vwCl ([(p_, .inr (1, [.int pe, .null, .int 0, .int 0]))]) H := hP
  replace hD : va_D A ([(p_, .inr (1, [.int pe, .null, .int 0, .int 0]))]) := hD
  refine lv_aload_n hx hb dX0_init_14 rfl (lv_at hl 0 rfl) ?_
  refine lv_aload_n hx hb dX0_init_15 rfl (lv_at hl 2 rfl) ?_
  refine va_putF (D := D) (ci := 1) (v := .ref lo) (C := RX0) (T := TX0) (N := 4) hx hb hts inX0 tyX0 tyX0_ok nmX0 hown hK hP hD hS 0 rfl rfl 1 (by decide) (hts _ wd_4_20) (fun _ h9 => h9) rfl (hin rfl) rfl (tyX0_ok 1 (by decide)) rfl rfl (Nat.le_of_ble_eq_true rfl) dX0_init_16 (fun H locs hP hD hS => ?_)
  replace hP : va_P D vwCl ([(p_, .inr (1, [.int pe, .ref lo, .int 0, .int 0]))]) H := hP
  replace hD : va_D A ([(p_, .inr (1, [.int pe, .ref lo, .int 0, .int 0]))]) := hD
  refine lv_aload_n hx hb dX0_init_19 rfl (lv_at hl 0 rfl) ?_
  refine lv_iload_n hx hb dX0_init_20 rfl (lv_at hl 3 rfl) ?_
  refine va_putF (D := D) (ci := 1) (v := .int sm) (C := RX0) (T := TX0) (N := 4) hx hb hts inX0 tyX0 tyX0_ok nmX0 hown hK hP hD hS 0 rfl rfl 2 (by decide) (hts _ wd_4_22) (fun _ h9 => h9) rfl (hin rfl) rfl (tyX0_ok 2 (by decide)) rfl rfl (Nat.le_of_ble_eq_true rfl) dX0_init_21 (fun H locs hP hD hS => ?_)
  replace hP : va_P D vwCl ([(p_, .inr (1, [.int pe, .ref lo, .int sm, .int 0]))]) H := hP
  replace hD : va_D A ([(p_, .inr (1, [.int pe, .ref lo, .int sm, .int 0]))]) := hD
  exact fs_v hx hb hr hlocks hq (()) trivial hP hD hS dX0_init_24 rfl
