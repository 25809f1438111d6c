/-- Funds and one Loan with its two rows: what take, putBack, bringBack, lendTo see -/
abbrev FLS : Type := FSt × (Nat → Int32) × (Nat → Int32)
def bFL (t : Nat → Nat) (k : Nat → ClassId) (p_ : Nat) (F : Nat → Int32) (rs rt ra : Nat) (bt : Int64) (u : FLS) : va_W := bF t k u.1 ++ [cL p_ F rs rt ra bt, (rt, .inl (k 0, 6, .inl u.2.1)), (ra, .inl (k 0, 6, .inl u.2.2))]
def cMin (x y : Int32) : Int32 := if y < x then y else x
set_option maxHeartbeats 4000000 in
set_option maxRecDepth 100000 in
theorem c_X4_rest (l : Launch) (D : va_G) (k : Nat → ClassId) (p_ : Nat) (F : Nat → Int32) (rs rt ra : Nat) (bt : Int64) : Ro l yX4_rest cX4_rest 1 (some .int) 0 D (TY k) G0 [.ref p_] ([cL p_ F rs rt ra bt]) (some (.int (F 2 - F 11 + F 12 - F 13))) := by
  refine ro_body (by decide +kernel) (Nat.le_of_ble_eq_true rfl) ?_
  intro p e s m args below meth c_ Q hx hb hml hown hts hK hP hS hG hr hq hlocks ls hl
  replace hl : lv_has ls 1 [(0, .ref p_)] := hl
  change s.vm.findClass RX4 = some m.cls at hown
  refine lv_aload_n hx hb dX4_rest_0 rfl (lv_at hl 0 rfl) ?_
  refine va_get (D := D) (ci := 4) (v := .int (F 2)) (C := RX4) (T := TX4) (N := 18) hx hb hts inX4 hown hK hP 0 rfl rfl 2 (by decide) (hts _ wd_3_36) (fun _ h9 => h9) rfl dX4_rest_1 ?_
  refine lv_aload_n hx hb dX4_rest_4 rfl (lv_at hl 0 rfl) ?_
  refine va_get (D := D) (ci := 4) (v := .int (F 11)) (C := RX4) (T := TX4) (N := 18) hx hb hts inX4 hown hK hP 0 rfl rfl 11 (by decide) (hts _ wd_3_57) (fun _ h9 => h9) rfl dX4_rest_5 ?_
  refine lv_isub hx hb dX4_rest_8 ?_
  refine lv_aload_n hx hb dX4_rest_9 rfl (lv_at hl 0 rfl) ?_
  refine va_get (D := D) (ci := 4) (v := .int (F 12)) (C := RX4) (T := TX4) (N := 18) hx hb hts inX4 hown hK hP 0 rfl rfl 12 (by decide) (hts _ wd_3_60) (fun _ h9 => h9) rfl dX4_rest_10 ?_
  refine lv_iadd hx hb dX4_rest_13 ?_
  refine lv_aload_n hx hb dX4_rest_14 rfl (lv_at hl 0 rfl) ?_
  refine va_get (D := D) (ci := 4) (v := .int (F 13)) (C := RX4) (T := TX4) (N := 18) hx hb hts inX4 hown hK hP 0 rfl rfl 13 (by decide) (hts _ wd_3_63) (fun _ h9 => h9) rfl dX4_rest_15 ?_
  refine lv_isub hx hb dX4_rest_18 ?_
  exact ro_i hx hb hr hlocks hq dX4_rest_19 (rfl)
set_option maxHeartbeats 4000000 in
set_option maxRecDepth 100000 in
theorem c_X4_isOpenOf (l : Launch) (D : va_G) (k : Nat → ClassId) (p_ : Nat) (F : Nat → Int32) (rs rt ra : Nat) (bt : Int64) (x : Int32) : Ro l yX4_isOpenOf cX4_isOpenOf 2 (some .boolean) 0 D (TY k) G0 [.ref p_, .int x] ([cL p_ F rs rt ra bt]) (some (.int (bI (decide (F 16 = 0) && decide (F 1 = x))))) := by
  refine ro_body (by decide +kernel) (Nat.le_of_ble_eq_true rfl) ?_
  intro p e s m args below meth c_ Q hx hb hml hown hts hK hP hS hG hr hq hlocks ls hl
  replace hl : lv_has ls 2 [(0, .ref p_), (1, .int x)] := hl
  change s.vm.findClass RX4 = some m.cls at hown
  refine lv_aload_n hx hb dX4_isOpenOf_0 rfl (lv_at hl 0 rfl) ?_
  refine va_get (D := D) (ci := 4) (v := .int (F 16)) (C := RX4) (T := TX4) (N := 18) hx hb hts inX4 hown hK hP 0 rfl rfl 16 (by decide) (hts _ wd_3_70) (fun _ h9 => h9) rfl dX4_isOpenOf_1 ?_
  refine lv_if_ne (tgt := 19) hx hb dX4_isOpenOf_4 (by decide) (fun c4 => ?_) (fun c4 => ?_)
  · refine lv_iconst (v := 0) hx hb dX4_isOpenOf_19 (by decide) ?_
    exact ro_z hx hb hr hlocks hq (rfl) dX4_isOpenOf_20 (by simp [bI, c4])
  · refine lv_aload_n hx hb dX4_isOpenOf_7 rfl (lv_at hl 0 rfl) ?_
    refine va_get (D := D) (ci := 4) (v := .int (F 1)) (C := RX4) (T := TX4) (N := 18) hx hb hts inX4 hown hK hP 0 rfl rfl 1 (by decide) (hts _ wd_3_33) (fun _ h9 => h9) rfl dX4_isOpenOf_8 ?_
    refine lv_iload_n hx hb dX4_isOpenOf_11 rfl (lv_at hl 1 rfl) ?_
    refine lv_icmp_ne (tgt := 19) hx hb dX4_isOpenOf_12 (by decide) (fun c12 => ?_) (fun c12 => ?_)
    · refine lv_iconst (v := 0) hx hb dX4_isOpenOf_19 (by decide) ?_
      exact ro_z hx hb hr hlocks hq (rfl) dX4_isOpenOf_20 (by simp [bI, c4, c12])
    · refine lv_iconst (v := 1) hx hb dX4_isOpenOf_15 (by decide) ?_
      refine lv_goto (tgt := 20) hx hb dX4_isOpenOf_16 (by decide) ?_
      exact ro_z hx hb hr hlocks hq (rfl) dX4_isOpenOf_20 (by simp [bI, c4, c12])
def cDue (F : Nat → Int32) (x : Int32) : Int32 := if 1 ≤ F 6 then (F 2 * (if F 6 < x - F 3 then F 6 else x - F 3) + F 6 - 1) / F 6 else F 2
set_option maxHeartbeats 4000000 in
set_option maxRecDepth 100000 in
theorem c_X4_dueAtEnd (l : Launch) (D : va_G) (k : Nat → ClassId) (p_ : Nat) (F : Nat → Int32) (rs rt ra : Nat) (bt : Int64) (x : Int32) : Ro l yX4_dueAtEnd cX4_dueAtEnd 3 (some .int) 1 D (TY k) G0 [.ref p_, .int x] ([cL p_ F rs rt ra bt]) (some (.int (cDue F x))) := by
  refine ro_body (by decide +kernel) (Nat.le_of_ble_eq_true rfl) ?_
  intro p e s m args below meth c_ Q hx hb hml hown hts hK hP hS hG hr hq hlocks ls hl
  replace hl : lv_has ls 3 [(0, .ref p_), (1, .int x)] := hl
  change s.vm.findClass RX4 = some m.cls at hown
  refine lv_iload_n hx hb dX4_dueAtEnd_0 rfl (lv_at hl 1 rfl) ?_
  refine lv_aload_n hx hb dX4_dueAtEnd_1 rfl (lv_at hl 0 rfl) ?_
  refine va_get (D := D) (ci := 4) (v := .int (F 3)) (C := RX4) (T := TX4) (N := 18) hx hb hts inX4 hown hK hP 0 rfl rfl 3 (by decide) (hts _ wd_3_40) (fun _ h9 => h9) rfl dX4_dueAtEnd_2 ?_
  refine lv_isub hx hb dX4_dueAtEnd_5 ?_
  refine lv_aload_n hx hb dX4_dueAtEnd_6 rfl (lv_at hl 0 rfl) ?_
  refine va_get (D := D) (ci := 4) (v := .int (F 6)) (C := RX4) (T := TX4) (N := 18) hx hb hts inX4 hown hK hP 0 rfl rfl 6 (by decide) (hts _ wd_3_49) (fun _ h9 => h9) rfl dX4_dueAtEnd_7 ?_
  refine va_mmin hx hb (hml.trans hl.1.symm) hown (hts _ wd_4_8) (hts _ wd_1_223) (hts _ wd_1_11) (hts _ wd_1_224) (by decide) (Nat.le_of_ble_eq_true rfl) (Nat.le_of_ble_eq_true rfl) (Nat.le_of_ble_eq_true rfl) dX4_dueAtEnd_10 ?_
  refine lv_istore_n (lv' := [(2, .int (if (F 6) < (x - (F 3)) then (F 6) else (x - (F 3)))), (0, .ref p_), (1, .int x)]) hx hb dX4_dueAtEnd_13 rfl hl (by decide) rfl (fun ls hl => ?_)
  refine lv_aload_n hx hb dX4_dueAtEnd_14 rfl (lv_at hl 1 rfl) ?_
  refine va_get (D := D) (ci := 4) (v := .int (F 6)) (C := RX4) (T := TX4) (N := 18) hx hb hts inX4 hown hK hP 0 rfl rfl 6 (by decide) (hts _ wd_3_49) (fun _ h9 => h9) rfl dX4_dueAtEnd_15 ?_
  refine lv_iconst (v := 1) hx hb dX4_dueAtEnd_18 (by decide) ?_
  refine lv_icmp_ge (tgt := 29) hx hb dX4_dueAtEnd_19 (by decide) (fun c19 => ?_) (fun c19 => ?_)
  · refine lv_aload_n hx hb dX4_dueAtEnd_29 rfl (lv_at hl 1 rfl) ?_
    refine va_get (D := D) (ci := 4) (v := .int (F 2)) (C := RX4) (T := TX4) (N := 18) hx hb hts inX4 hown hK hP 0 rfl rfl 2 (by decide) (hts _ wd_3_36) (fun _ h9 => h9) rfl dX4_dueAtEnd_30 ?_
    refine lv_iload_n hx hb dX4_dueAtEnd_33 rfl (lv_at hl 0 rfl) ?_
    refine lv_imul hx hb dX4_dueAtEnd_34 ?_
    refine lv_aload_n hx hb dX4_dueAtEnd_35 rfl (lv_at hl 1 rfl) ?_
    refine va_get (D := D) (ci := 4) (v := .int (F 6)) (C := RX4) (T := TX4) (N := 18) hx hb hts inX4 hown hK hP 0 rfl rfl 6 (by decide) (hts _ wd_3_49) (fun _ h9 => h9) rfl dX4_dueAtEnd_36 ?_
    refine lv_iadd hx hb dX4_dueAtEnd_39 ?_
    refine lv_iconst (v := 1) hx hb dX4_dueAtEnd_40 (by decide) ?_
    refine lv_isub hx hb dX4_dueAtEnd_41 ?_
    refine lv_aload_n hx hb dX4_dueAtEnd_42 rfl (lv_at hl 1 rfl) ?_
    refine va_get (D := D) (ci := 4) (v := .int (F 6)) (C := RX4) (T := TX4) (N := 18) hx hb hts inX4 hown hK hP 0 rfl rfl 6 (by decide) (hts _ wd_3_49) (fun _ h9 => h9) rfl dX4_dueAtEnd_43 ?_
    refine lv_idiv hx hb dX4_dueAtEnd_46 (fun e9 => by rw [e9] at c19; exact absurd c19 (by decide)) ?_
    exact ro_i hx hb hr hlocks hq dX4_dueAtEnd_47 (by rw [cDue, if_pos c19])
  · refine lv_aload_n hx hb dX4_dueAtEnd_22 rfl (lv_at hl 1 rfl) ?_
    refine va_get (D := D) (ci := 4) (v := .int (F 2)) (C := RX4) (T := TX4) (N := 18) hx hb hts inX4 hown hK hP 0 rfl rfl 2 (by decide) (hts _ wd_3_36) (fun _ h9 => h9) rfl dX4_dueAtEnd_23 ?_
    refine lv_goto (tgt := 47) hx hb dX4_dueAtEnd_26 (by decide) ?_
    exact ro_i hx hb hr hlocks hq dX4_dueAtEnd_47 (by rw [cDue, if_neg c19])
def cLateF (F : Nat → Int32) : Nat → Int32 := up (up (up F 12 (F 12 + F 7)) 14 (F 14 + 1)) 15 (F 15 + 1)
def cLate (F : Nat → Int32) (x : Int32) : Int32 × (Nat → Int32) := if F 11 < cDue F x then ((if F 15 + 1 < F 8 then 0 else 1), cLateF F) else (0, up F 15 0)
set_option maxHeartbeats 4000000 in
set_option maxRecDepth 100000 in
theorem c_X4_isToBeCalledAtEnd (l : Launch) (D : va_G) (k : Nat → ClassId) (p_ : Nat) (F : Nat → Int32) (rs rt ra : Nat) (bt : Int64) (x : Int32) : Fs (S := Int32 × (Nat → Int32)) l yX4_isToBeCalledAtEnd cX4_isToBeCalledAtEnd 2 (some .boolean) 2 0 0 D (TY k) G0 [.ref p_, .int x] ([cL p_ F rs rt ra bt]) (fun u => some (.int u.1)) (fun u => u = cLate F x) (fun u => [cL p_ u.2 rs rt ra bt]) := by
  refine fs_body (by decide +kernel) (Nat.le_of_ble_eq_true rfl) ?_
  intro p e s m args below meth c_ Q A hx hb hml hown hts hK hP hD hS hA hG hin hr hq hlocks ls hl
  replace hl : lv_has ls 2 [(0, .ref p_), (1, .int x)] := hl
  change s.vm.findClass RX4 = some m.cls at hown
  refine lv_aload_n hx hb dX4_isToBeCalledAtEnd_0 rfl (lv_at hl 0 rfl) ?_
  refine va_get (D := D) (ci := 4) (v := .int (F 11)) (C := RX4) (T := TX4) (N := 18) hx hb hts inX4 hown hK hP 0 rfl rfl 11 (by decide) (hts _ wd_3_57) (fun _ h9 => h9) rfl dX4_isToBeCalledAtEnd_1 ?_
  refine lv_aload_n hx hb dX4_isToBeCalledAtEnd_4 rfl (lv_at hl 0 rfl) ?_
  refine lv_iload_n hx hb dX4_isToBeCalledAtEnd_5 rfl (lv_at hl 1 rfl) ?_
  refine ro_V (rest := [.int (F 11)]) (st1 := [.int (cDue F x), .int (F 11)]) (As := [.int x]) ⟨hx, hb, hml, hown, hts⟩ Gd0 trivial hS hK (c_X4_dueAtEnd l D k p_ F rs rt ra bt x) mi_X4_dueAtEnd wd_4_5 wd_4_6 wd_4_4 ⟨Nat.le_of_ble_eq_true rfl, Nat.le_of_ble_eq_true rfl⟩ (hP) 0 rfl rfl rfl hl.1 rfl (Nat.le_of_ble_eq_true rfl) rfl ⟨Nat.le_of_ble_eq_true rfl, Nat.le_of_ble_eq_true rfl⟩ dX4_isToBeCalledAtEnd_6 ?_
  refine lv_icmp_lt (tgt := 19) hx hb dX4_isToBeCalledAtEnd_9 (by decide) (fun c9 => ?_) (fun c9 => ?_)
  · refine lv_aload_n hx hb dX4_isToBeCalledAtEnd_19 rfl (lv_at hl 0 rfl) ?_
    refine lv_dup hx hb dX4_isToBeCalledAtEnd_20 rfl ?_
    refine va_get (D := D) (ci := 4) (v := .int (F 14)) (C := RX4) (T := TX4) (N := 18) hx hb hts inX4 hown hK hP 0 rfl rfl 14 (by decide) (hts _ wd_3_66) (fun _ h9 => h9) rfl dX4_isToBeCalledAtEnd_21 ?_
    refine lv_iconst (v := 1) hx hb dX4_isToBeCalledAtEnd_24 (by decide) ?_
    refine lv_iadd hx hb dX4_isToBeCalledAtEnd_25 ?_
    refine va_put (D := D) (ci := 4) (v := .int ((F 14) + 1)) (C := RX4) (T := TX4) (N := 18) hx hb hts inX4 tyX4 tyX4_ok nmX4 hown hK hP hD hS 0 rfl rfl 14 (by decide) (hts _ wd_3_66) (fun _ h9 => h9) rfl (tyX4_ok 14 (by decide)) rfl rfl (Nat.le_of_ble_eq_true rfl) dX4_isToBeCalledAtEnd_26 (fun H locs hP hD hS => ?_)
    replace hP : va_P D vwCl ([(p_, .inr (4, [.int (F 0), .int (F 1), .int (F 2), .int (F 3), .ref rs, .long bt, .int (F 6), .int (F 7), .int (F 8), .ref rt, .ref ra, .int (F 11), .int (F 12), .int (F 13), .int ((F 14) + 1), .int (F 15), .int (F 16), .int (F 17)]))]) H := hP
    replace hD : va_D A ([(p_, .inr (4, [.int (F 0), .int (F 1), .int (F 2), .int (F 3), .ref rs, .long bt, .int (F 6), .int (F 7), .int (F 8), .ref rt, .ref ra, .int (F 11), .int (F 12), .int (F 13), .int ((F 14) + 1), .int (F 15), .int (F 16), .int (F 17)]))]) := hD
    refine lv_aload_n hx hb dX4_isToBeCalledAtEnd_29 rfl (lv_at hl 0 rfl) ?_
    refine lv_dup hx hb dX4_isToBeCalledAtEnd_30 rfl ?_
    refine va_get (D := D) (ci := 4) (v := .int (F 15)) (C := RX4) (T := TX4) (N := 18) hx hb hts inX4 hown hK hP 0 rfl rfl 15 (by decide) (hts _ wd_3_69) (fun _ h9 => h9) rfl dX4_isToBeCalledAtEnd_31 ?_
    refine lv_iconst (v := 1) hx hb dX4_isToBeCalledAtEnd_34 (by decide) ?_
    refine lv_iadd hx hb dX4_isToBeCalledAtEnd_35 ?_
    refine va_put (D := D) (ci := 4) (v := .int ((F 15) + 1)) (C := RX4) (T := TX4) (N := 18) hx hb hts inX4 tyX4 tyX4_ok nmX4 hown hK hP hD hS 0 rfl rfl 15 (by decide) (hts _ wd_3_69) (fun _ h9 => h9) rfl (tyX4_ok 15 (by decide)) rfl rfl (Nat.le_of_ble_eq_true rfl) dX4_isToBeCalledAtEnd_36 (fun H locs hP hD hS => ?_)
    replace hP : va_P D vwCl ([(p_, .inr (4, [.int (F 0), .int (F 1), .int (F 2), .int (F 3), .ref rs, .long bt, .int (F 6), .int (F 7), .int (F 8), .ref rt, .ref ra, .int (F 11), .int (F 12), .int (F 13), .int ((F 14) + 1), .int ((F 15) + 1), .int (F 16), .int (F 17)]))]) H := hP
    replace hD : va_D A ([(p_, .inr (4, [.int (F 0), .int (F 1), .int (F 2), .int (F 3), .ref rs, .long bt, .int (F 6), .int (F 7), .int (F 8), .ref rt, .ref ra, .int (F 11), .int (F 12), .int (F 13), .int ((F 14) + 1), .int ((F 15) + 1), .int (F 16), .int (F 17)]))]) := hD
    refine lv_aload_n hx hb dX4_isToBeCalledAtEnd_39 rfl (lv_at hl 0 rfl) ?_
    refine lv_dup hx hb dX4_isToBeCalledAtEnd_40 rfl ?_
    refine va_get (D := D) (ci := 4) (v := .int (F 12)) (C := RX4) (T := TX4) (N := 18) hx hb hts inX4 hown hK hP 0 rfl rfl 12 (by decide) (hts _ wd_3_60) (fun _ h9 => h9) rfl dX4_isToBeCalledAtEnd_41 ?_
    refine lv_aload_n hx hb dX4_isToBeCalledAtEnd_44 rfl (lv_at hl 0 rfl) ?_
    refine va_get (D := D) (ci := 4) (v := .int (F 7)) (C := RX4) (T := TX4) (N := 18) hx hb hts inX4 hown hK hP 0 rfl rfl 7 (by decide) (hts _ wd_3_50) (fun _ h9 => h9) rfl dX4_isToBeCalledAtEnd_45 ?_
    refine lv_iadd hx hb dX4_isToBeCalledAtEnd_48 ?_
    refine va_put (D := D) (ci := 4) (v := .int ((F 12) + (F 7))) (C := RX4) (T := TX4) (N := 18) hx hb hts inX4 tyX4 tyX4_ok nmX4 hown hK hP hD hS 0 rfl rfl 12 (by decide) (hts _ wd_3_60) (fun _ h9 => h9) rfl (tyX4_ok 12 (by decide)) rfl rfl (Nat.le_of_ble_eq_true rfl) dX4_isToBeCalledAtEnd_49 (fun H locs hP hD hS => ?_)
    replace hP : va_P D vwCl ([(p_, .inr (4, [.int (F 0), .int (F 1), .int (F 2), .int (F 3), .ref rs, .long bt, .int (F 6), .int (F 7), .int (F 8), .ref rt, .ref ra, .int (F 11), .int ((F 12) + (F 7)), .int (F 13), .int ((F 14) + 1), .int ((F 15) + 1), .int (F 16), .int (F 17)]))]) H := hP
    replace hD : va_D A ([(p_, .inr (4, [.int (F 0), .int (F 1), .int (F 2), .int (F 3), .ref rs, .long bt, .int (F 6), .int (F 7), .int (F 8), .ref rt, .ref ra, .int (F 11), .int ((F 12) + (F 7)), .int (F 13), .int ((F 14) + 1), .int ((F 15) + 1), .int (F 16), .int (F 17)]))]) := hD
    refine lv_aload_n hx hb dX4_isToBeCalledAtEnd_52 rfl (lv_at hl 0 rfl) ?_
    refine va_get (D := D) (ci := 4) (v := .int ((F 15) + 1)) (C := RX4) (T := TX4) (N := 18) hx hb hts inX4 hown hK hP 0 rfl rfl 15 (by decide) (hts _ wd_3_69) (fun _ h9 => h9) rfl dX4_isToBeCalledAtEnd_53 ?_
    refine lv_aload_n hx hb dX4_isToBeCalledAtEnd_56 rfl (lv_at hl 0 rfl) ?_
    refine va_get (D := D) (ci := 4) (v := .int (F 8)) (C := RX4) (T := TX4) (N := 18) hx hb hts inX4 hown hK hP 0 rfl rfl 8 (by decide) (hts _ wd_3_51) (fun _ h9 => h9) rfl dX4_isToBeCalledAtEnd_57 ?_
    refine lv_icmp_lt (tgt := 67) hx hb dX4_isToBeCalledAtEnd_60 (by decide) (fun c60 => ?_) (fun c60 => ?_)
    · refine lv_iconst (v := 0) hx hb dX4_isToBeCalledAtEnd_67 (by decide) ?_
      exact fs_z hx hb hr hlocks hq (0, (up (up (up F 12 ((F 12) + (F 7))) 14 ((F 14) + 1)) 15 ((F 15) + 1))) (by rw [cLate, if_pos c9, if_pos c60]; rfl) hP hD hS (rfl) dX4_isToBeCalledAtEnd_68 rfl
    · refine lv_iconst (v := 1) hx hb dX4_isToBeCalledAtEnd_63 (by decide) ?_
      refine lv_goto (tgt := 68) hx hb dX4_isToBeCalledAtEnd_64 (by decide) ?_
      exact fs_z hx hb hr hlocks hq (1, (up (up (up F 12 ((F 12) + (F 7))) 14 ((F 14) + 1)) 15 ((F 15) + 1))) (by rw [cLate, if_pos c9, if_neg c60]; rfl) hP hD hS (rfl) dX4_isToBeCalledAtEnd_68 rfl
  · refine lv_aload_n hx hb dX4_isToBeCalledAtEnd_12 rfl (lv_at hl 0 rfl) ?_
    refine lv_iconst (v := 0) hx hb dX4_isToBeCalledAtEnd_13 (by decide) ?_
    refine va_put (D := D) (ci := 4) (v := .int 0) (C := RX4) (T := TX4) (N := 18) hx hb hts inX4 tyX4 tyX4_ok nmX4 hown hK hP hD hS 0 rfl rfl 15 (by decide) (hts _ wd_3_69) (fun _ h9 => h9) rfl (tyX4_ok 15 (by decide)) rfl rfl (Nat.le_of_ble_eq_true rfl) dX4_isToBeCalledAtEnd_14 (fun H locs hP hD hS => ?_)
    replace hP : va_P D vwCl ([(p_, .inr (4, [.int (F 0), .int (F 1), .int (F 2), .int (F 3), .ref rs, .long bt, .int (F 6), .int (F 7), .int (F 8), .ref rt, .ref ra, .int (F 11), .int (F 12), .int (F 13), .int (F 14), .int 0, .int (F 16), .int (F 17)]))]) H := hP
    replace hD : va_D A ([(p_, .inr (4, [.int (F 0), .int (F 1), .int (F 2), .int (F 3), .ref rs, .long bt, .int (F 6), .int (F 7), .int (F 8), .ref rt, .ref ra, .int (F 11), .int (F 12), .int (F 13), .int (F 14), .int 0, .int (F 16), .int (F 17)]))]) := hD
    refine lv_iconst (v := 0) hx hb dX4_isToBeCalledAtEnd_17 (by decide) ?_
    exact fs_z hx hb hr hlocks hq (0, (up F 15 0)) (by rw [cLate, if_neg c9]) hP hD hS (rfl) dX4_isToBeCalledAtEnd_18 rfl
set_option maxHeartbeats 4000000 in
set_option maxRecDepth 100000 in
theorem c_X1_take (l : Launch) (D : va_G) (k : Nat → ClassId) (t : Nat → Nat) (n : Nat) (g : Int32) (a : Nat → Nat → Int32) (p_ : Nat) (F : Nat → Int32) (rs rt ra : Nat) (bt : Int64) (f1 f2 : Nat → Int32) (x : Nat) (y : Int32) (hx6 : x < 6) : Fs (S := Int32 × (FLS)) l yX1_take cX1_take 4 (some .int) 0 0 0 D (TY k) G0 [.ref (t 0), .ref p_, .int (nI x), .int y] (bFL t k p_ F rs rt ra bt ((n, g, a), f1, f2)) (fun u => some (.int u.1)) (fun u => u = (y, ((n, g, up a 1 (upd (a 1) x (a 1 x - y))), upd f1 x y, upd f2 x y))) (fun u => bFL t k p_ F rs rt ra bt u.2) := by
  refine fs_body (by decide +kernel) (Nat.le_of_ble_eq_true rfl) ?_
  intro p e s m args below meth c_ Q A hx hb hml hown hts hK hP hD hS hA hG hin hr hq hlocks ls hl
  replace hl : lv_has ls 4 [(0, .ref (t 0)), (1, .ref p_), (2, .int (nI x)), (3, .int y)] := hl
  change s.vm.findClass RX1 = some m.cls at hown
  refine lv_aload_n hx hb dX1_take_0 rfl (lv_at hl 0 rfl) ?_
  refine va_get (D := D) (ci := 2) (v := .ref (t 1)) (C := RX1) (T := TX1) (N := 6) hx hb hts inX1 hown hK hP 0 rfl rfl 0 (by decide) (hts _ wd_1_95) (fun _ h9 => h9) rfl dX1_take_1 ?_
  refine lv_iload_n hx hb dX1_take_4 rfl (lv_at hl 2 rfl) ?_
  refine lv_dup2_11 hx hb dX1_take_5 rfl rfl ?_
  refine ra_iald (n := 6) (f := (a 1)) hx hb hK hP 1 0 rfl rfl x rfl (by omega) (by decide) dX1_take_6 ?_
  refine lv_iload_n hx hb dX1_take_7 rfl (lv_at hl 3 rfl) ?_
  refine lv_isub hx hb dX1_take_8 ?_
  refine ra_iast (n := 6) (f := (a 1)) hx hb hK hP hD hS 1 0 rfl rfl x rfl (by omega) (by decide) dX1_take_9 (fun H locs hP hD hS => ?_)
  replace hP : va_P D vwCl ([(t 0, .inr (2, [.ref (t 1), .ref (t 2), .ref (t 3), .ref (t 4), .int (nI n), .int g])), (t 1, .inl (k 0, 6, .inl (upd (a 1) x (((a 1) x) - y)))), (t 2, .inl (k 0, 6, .inl (a 2))), (t 3, .inl (k 0, 6, .inl (a 3))), (t 4, .inl (k 0, 2400, .inl (a 4))), (p_, .inr (4, [.int (F 0), .int (F 1), .int (F 2), .int (F 3), .ref rs, .long bt, .int (F 6), .int (F 7), .int (F 8), .ref rt, .ref ra, .int (F 11), .int (F 12), .int (F 13), .int (F 14), .int (F 15), .int (F 16), .int (F 17)])), (rt, .inl (k 0, 6, .inl f1)), (ra, .inl (k 0, 6, .inl f2))]) H := hP
  replace hD : va_D A ([(t 0, .inr (2, [.ref (t 1), .ref (t 2), .ref (t 3), .ref (t 4), .int (nI n), .int g])), (t 1, .inl (k 0, 6, .inl (upd (a 1) x (((a 1) x) - y)))), (t 2, .inl (k 0, 6, .inl (a 2))), (t 3, .inl (k 0, 6, .inl (a 3))), (t 4, .inl (k 0, 2400, .inl (a 4))), (p_, .inr (4, [.int (F 0), .int (F 1), .int (F 2), .int (F 3), .ref rs, .long bt, .int (F 6), .int (F 7), .int (F 8), .ref rt, .ref ra, .int (F 11), .int (F 12), .int (F 13), .int (F 14), .int (F 15), .int (F 16), .int (F 17)])), (rt, .inl (k 0, 6, .inl f1)), (ra, .inl (k 0, 6, .inl f2))]) := hD
  refine lv_aload_n hx hb dX1_take_10 rfl (lv_at hl 1 rfl) ?_
  refine va_get (D := D) (ci := 4) (v := .ref rt) (C := RX4) (T := TX4) (N := 18) hx hb hts inX4 hown hK hP 5 rfl rfl 9 (by decide) (hts _ wd_3_53) (fun _ h9 => h9) rfl dX1_take_11 ?_
  refine lv_iload_n hx hb dX1_take_14 rfl (lv_at hl 2 rfl) ?_
  refine lv_iload_n hx hb dX1_take_15 rfl (lv_at hl 3 rfl) ?_
  refine ra_iast (n := 6) (f := f1) hx hb hK hP hD hS 6 0 rfl rfl x rfl (by omega) (by decide) dX1_take_16 (fun H locs hP hD hS => ?_)
  replace hP : va_P D vwCl ([(t 0, .inr (2, [.ref (t 1), .ref (t 2), .ref (t 3), .ref (t 4), .int (nI n), .int g])), (t 1, .inl (k 0, 6, .inl (upd (a 1) x (((a 1) x) - y)))), (t 2, .inl (k 0, 6, .inl (a 2))), (t 3, .inl (k 0, 6, .inl (a 3))), (t 4, .inl (k 0, 2400, .inl (a 4))), (p_, .inr (4, [.int (F 0), .int (F 1), .int (F 2), .int (F 3), .ref rs, .long bt, .int (F 6), .int (F 7), .int (F 8), .ref rt, .ref ra, .int (F 11), .int (F 12), .int (F 13), .int (F 14), .int (F 15), .int (F 16), .int (F 17)])), (rt, .inl (k 0, 6, .inl (upd f1 x y))), (ra, .inl (k 0, 6, .inl f2))]) H := hP
  replace hD : va_D A ([(t 0, .inr (2, [.ref (t 1), .ref (t 2), .ref (t 3), .ref (t 4), .int (nI n), .int g])), (t 1, .inl (k 0, 6, .inl (upd (a 1) x (((a 1) x) - y)))), (t 2, .inl (k 0, 6, .inl (a 2))), (t 3, .inl (k 0, 6, .inl (a 3))), (t 4, .inl (k 0, 2400, .inl (a 4))), (p_, .inr (4, [.int (F 0), .int (F 1), .int (F 2), .int (F 3), .ref rs, .long bt, .int (F 6), .int (F 7), .int (F 8), .ref rt, .ref ra, .int (F 11), .int (F 12), .int (F 13), .int (F 14), .int (F 15), .int (F 16), .int (F 17)])), (rt, .inl (k 0, 6, .inl (upd f1 x y))), (ra, .inl (k 0, 6, .inl f2))]) := hD
  refine lv_aload_n hx hb dX1_take_17 rfl (lv_at hl 1 rfl) ?_
  refine va_get (D := D) (ci := 4) (v := .ref ra) (C := RX4) (T := TX4) (N := 18) hx hb hts inX4 hown hK hP 5 rfl rfl 10 (by decide) (hts _ wd_3_56) (fun _ h9 => h9) rfl dX1_take_18 ?_
  refine lv_iload_n hx hb dX1_take_21 rfl (lv_at hl 2 rfl) ?_
  refine lv_iload_n hx hb dX1_take_22 rfl (lv_at hl 3 rfl) ?_
  refine ra_iast (n := 6) (f := f2) hx hb hK hP hD hS 7 0 rfl rfl x rfl (by omega) (by decide) dX1_take_23 (fun H locs hP hD hS => ?_)
  replace hP : va_P D vwCl ([(t 0, .inr (2, [.ref (t 1), .ref (t 2), .ref (t 3), .ref (t 4), .int (nI n), .int g])), (t 1, .inl (k 0, 6, .inl (upd (a 1) x (((a 1) x) - y)))), (t 2, .inl (k 0, 6, .inl (a 2))), (t 3, .inl (k 0, 6, .inl (a 3))), (t 4, .inl (k 0, 2400, .inl (a 4))), (p_, .inr (4, [.int (F 0), .int (F 1), .int (F 2), .int (F 3), .ref rs, .long bt, .int (F 6), .int (F 7), .int (F 8), .ref rt, .ref ra, .int (F 11), .int (F 12), .int (F 13), .int (F 14), .int (F 15), .int (F 16), .int (F 17)])), (rt, .inl (k 0, 6, .inl (upd f1 x y))), (ra, .inl (k 0, 6, .inl (upd f2 x y)))]) H := hP
  replace hD : va_D A ([(t 0, .inr (2, [.ref (t 1), .ref (t 2), .ref (t 3), .ref (t 4), .int (nI n), .int g])), (t 1, .inl (k 0, 6, .inl (upd (a 1) x (((a 1) x) - y)))), (t 2, .inl (k 0, 6, .inl (a 2))), (t 3, .inl (k 0, 6, .inl (a 3))), (t 4, .inl (k 0, 2400, .inl (a 4))), (p_, .inr (4, [.int (F 0), .int (F 1), .int (F 2), .int (F 3), .ref rs, .long bt, .int (F 6), .int (F 7), .int (F 8), .ref rt, .ref ra, .int (F 11), .int (F 12), .int (F 13), .int (F 14), .int (F 15), .int (F 16), .int (F 17)])), (rt, .inl (k 0, 6, .inl (upd f1 x y))), (ra, .inl (k 0, 6, .inl (upd f2 x y)))]) := hD
  refine lv_iload_n hx hb dX1_take_24 rfl (lv_at hl 3 rfl) ?_
  exact fs_i hx hb hr hlocks hq (y, ((n, g, up a 1 (upd (a 1) x (((a 1) x) - y))), upd f1 x y, upd f2 x y)) (rfl) hP hD hS dX1_take_25 rfl
set_option maxHeartbeats 4000000 in
set_option maxRecDepth 100000 in
theorem c_X1_putBack (l : Launch) (D : va_G) (k : Nat → ClassId) (t : Nat → Nat) (n : Nat) (g : Int32) (a : Nat → Nat → Int32) (p_ : Nat) (F : Nat → Int32) (rs rt ra : Nat) (bt : Int64) (f1 f2 : Nat → Int32) (x : Nat) (y : Int32) (hx6 : x < 6) : Fs (S := Int32 × (FLS)) l yX1_putBack cX1_putBack 5 (some .int) 1 0 0 D (TY k) G0 [.ref (t 0), .ref p_, .int (nI x), .int y] (bFL t k p_ F rs rt ra bt ((n, g, a), f1, f2)) (fun u => some (.int u.1)) (fun u => u = (cMin y (f2 x), ((n, g, up a 1 (upd (a 1) x (a 1 x + cMin y (f2 x)))), f1, upd f2 x (f2 x - cMin y (f2 x))))) (fun u => bFL t k p_ F rs rt ra bt u.2) := by
  refine fs_body (by decide +kernel) (Nat.le_of_ble_eq_true rfl) ?_
  intro p e s m args below meth c_ Q A hx hb hml hown hts hK hP hD hS hA hG hin hr hq hlocks ls hl
  replace hl : lv_has ls 5 [(0, .ref (t 0)), (1, .ref p_), (2, .int (nI x)), (3, .int y)] := hl
  change s.vm.findClass RX1 = some m.cls at hown
  refine lv_iload_n hx hb dX1_putBack_0 rfl (lv_at hl 3 rfl) ?_
  refine lv_aload_n hx hb dX1_putBack_1 rfl (lv_at hl 1 rfl) ?_
  refine va_get (D := D) (ci := 4) (v := .ref ra) (C := RX4) (T := TX4) (N := 18) hx hb hts inX4 hown hK hP 5 rfl rfl 10 (by decide) (hts _ wd_3_56) (fun _ h9 => h9) rfl dX1_putBack_2 ?_
  refine lv_iload_n hx hb dX1_putBack_5 rfl (lv_at hl 2 rfl) ?_
  refine ra_iald (n := 6) (f := f2) hx hb hK hP 7 0 rfl rfl x rfl (by omega) (by decide) dX1_putBack_6 ?_
  refine va_mmin hx hb (hml.trans hl.1.symm) hown (hts _ wd_3_118) (hts _ wd_1_223) (hts _ wd_1_11) (hts _ wd_1_224) (by decide) (Nat.le_of_ble_eq_true rfl) (Nat.le_of_ble_eq_true rfl) (Nat.le_of_ble_eq_true rfl) dX1_putBack_7 ?_
  refine lv_istore (lv' := [(4, .int (if (f2 x) < y then (f2 x) else y)), (0, .ref (t 0)), (1, .ref p_), (2, .int (nI x)), (3, .int y)]) hx hb dX1_putBack_10 hl (by decide) rfl (fun ls hl => ?_)
  refine lv_aload_n hx hb dX1_putBack_12 rfl (lv_at hl 2 rfl) ?_
  refine va_get (D := D) (ci := 4) (v := .ref ra) (C := RX4) (T := TX4) (N := 18) hx hb hts inX4 hown hK hP 5 rfl rfl 10 (by decide) (hts _ wd_3_56) (fun _ h9 => h9) rfl dX1_putBack_13 ?_
  refine lv_iload_n hx hb dX1_putBack_16 rfl (lv_at hl 3 rfl) ?_
  refine lv_dup2_11 hx hb dX1_putBack_17 rfl rfl ?_
  refine ra_iald (n := 6) (f := f2) hx hb hK hP 7 0 rfl rfl x rfl (by omega) (by decide) dX1_putBack_18 ?_
  refine lv_iload hx hb dX1_putBack_19 (lv_at hl 0 rfl) ?_
  refine lv_isub hx hb dX1_putBack_21 ?_
  refine ra_iast (n := 6) (f := f2) hx hb hK hP hD hS 7 0 rfl rfl x rfl (by omega) (by decide) dX1_putBack_22 (fun H locs hP hD hS => ?_)
  replace hP : va_P D vwCl ([(t 0, .inr (2, [.ref (t 1), .ref (t 2), .ref (t 3), .ref (t 4), .int (nI n), .int g])), (t 1, .inl (k 0, 6, .inl (a 1))), (t 2, .inl (k 0, 6, .inl (a 2))), (t 3, .inl (k 0, 6, .inl (a 3))), (t 4, .inl (k 0, 2400, .inl (a 4))), (p_, .inr (4, [.int (F 0), .int (F 1), .int (F 2), .int (F 3), .ref rs, .long bt, .int (F 6), .int (F 7), .int (F 8), .ref rt, .ref ra, .int (F 11), .int (F 12), .int (F 13), .int (F 14), .int (F 15), .int (F 16), .int (F 17)])), (rt, .inl (k 0, 6, .inl f1)), (ra, .inl (k 0, 6, .inl (upd f2 x ((f2 x) - (if (f2 x) < y then (f2 x) else y)))))]) H := hP
  replace hD : va_D A ([(t 0, .inr (2, [.ref (t 1), .ref (t 2), .ref (t 3), .ref (t 4), .int (nI n), .int g])), (t 1, .inl (k 0, 6, .inl (a 1))), (t 2, .inl (k 0, 6, .inl (a 2))), (t 3, .inl (k 0, 6, .inl (a 3))), (t 4, .inl (k 0, 2400, .inl (a 4))), (p_, .inr (4, [.int (F 0), .int (F 1), .int (F 2), .int (F 3), .ref rs, .long bt, .int (F 6), .int (F 7), .int (F 8), .ref rt, .ref ra, .int (F 11), .int (F 12), .int (F 13), .int (F 14), .int (F 15), .int (F 16), .int (F 17)])), (rt, .inl (k 0, 6, .inl f1)), (ra, .inl (k 0, 6, .inl (upd f2 x ((f2 x) - (if (f2 x) < y then (f2 x) else y)))))]) := hD
  refine lv_aload_n hx hb dX1_putBack_23 rfl (lv_at hl 1 rfl) ?_
  refine va_get (D := D) (ci := 2) (v := .ref (t 1)) (C := RX1) (T := TX1) (N := 6) hx hb hts inX1 hown hK hP 0 rfl rfl 0 (by decide) (hts _ wd_1_95) (fun _ h9 => h9) rfl dX1_putBack_24 ?_
  refine lv_iload_n hx hb dX1_putBack_27 rfl (lv_at hl 3 rfl) ?_
  refine lv_dup2_11 hx hb dX1_putBack_28 rfl rfl ?_
  refine ra_iald (n := 6) (f := (a 1)) hx hb hK hP 1 0 rfl rfl x rfl (by omega) (by decide) dX1_putBack_29 ?_
  refine lv_iload hx hb dX1_putBack_30 (lv_at hl 0 rfl) ?_
  refine lv_iadd hx hb dX1_putBack_32 ?_
  refine ra_iast (n := 6) (f := (a 1)) hx hb hK hP hD hS 1 0 rfl rfl x rfl (by omega) (by decide) dX1_putBack_33 (fun H locs hP hD hS => ?_)
  replace hP : va_P D vwCl ([(t 0, .inr (2, [.ref (t 1), .ref (t 2), .ref (t 3), .ref (t 4), .int (nI n), .int g])), (t 1, .inl (k 0, 6, .inl (upd (a 1) x (((a 1) x) + (if (f2 x) < y then (f2 x) else y))))), (t 2, .inl (k 0, 6, .inl (a 2))), (t 3, .inl (k 0, 6, .inl (a 3))), (t 4, .inl (k 0, 2400, .inl (a 4))), (p_, .inr (4, [.int (F 0), .int (F 1), .int (F 2), .int (F 3), .ref rs, .long bt, .int (F 6), .int (F 7), .int (F 8), .ref rt, .ref ra, .int (F 11), .int (F 12), .int (F 13), .int (F 14), .int (F 15), .int (F 16), .int (F 17)])), (rt, .inl (k 0, 6, .inl f1)), (ra, .inl (k 0, 6, .inl (upd f2 x ((f2 x) - (if (f2 x) < y then (f2 x) else y)))))]) H := hP
  replace hD : va_D A ([(t 0, .inr (2, [.ref (t 1), .ref (t 2), .ref (t 3), .ref (t 4), .int (nI n), .int g])), (t 1, .inl (k 0, 6, .inl (upd (a 1) x (((a 1) x) + (if (f2 x) < y then (f2 x) else y))))), (t 2, .inl (k 0, 6, .inl (a 2))), (t 3, .inl (k 0, 6, .inl (a 3))), (t 4, .inl (k 0, 2400, .inl (a 4))), (p_, .inr (4, [.int (F 0), .int (F 1), .int (F 2), .int (F 3), .ref rs, .long bt, .int (F 6), .int (F 7), .int (F 8), .ref rt, .ref ra, .int (F 11), .int (F 12), .int (F 13), .int (F 14), .int (F 15), .int (F 16), .int (F 17)])), (rt, .inl (k 0, 6, .inl f1)), (ra, .inl (k 0, 6, .inl (upd f2 x ((f2 x) - (if (f2 x) < y then (f2 x) else y)))))]) := hD
  refine lv_iload hx hb dX1_putBack_34 (lv_at hl 0 rfl) ?_
  exact fs_i hx hb hr hlocks hq (if (f2 x) < y then (f2 x) else y, ((n, g, up a 1 (upd (a 1) x (((a 1) x) + (if (f2 x) < y then (f2 x) else y)))), f1, upd f2 x ((f2 x) - (if (f2 x) < y then (f2 x) else y)))) (rfl) hP hD hS dX1_putBack_36 rfl
def cDown (n w : Nat) (pe bk : Nat → Int32) : Nat → Int32 := lp (fun i f => upd f (w * 6 + i) (pe i)) n 0 bk
set_option maxHeartbeats 4000000 in
set_option maxRecDepth 100000 in
theorem c_X1_writeDown (l : Launch) (D : va_G) (k : Nat → ClassId) (t : Nat → Nat) (n : Nat) (g : Int32) (a : Nat → Nat → Int32) (w : Nat) (hn : n ≤ 6) (hw : w < 400) : Fs (S := FSt) l yX1_writeDown cX1_writeDown 3 none 0 0 0 D (TY k) G0 [.ref (t 0), .int (nI w)] (bF t k (n, g, a)) (fun _ => none) (fun u => u = (n, g, up a 4 (cDown n w (a 1) (a 4)))) (fun u => bF t k u) := by
  refine fs_body (by decide +kernel) (Nat.le_of_ble_eq_true rfl) ?_
  intro p e s m args below meth c_ Q A hx hb hml hown hts hK hP hD hS hA hG hin hr hq hlocks ls hl
  replace hl : lv_has ls 3 [(0, .ref (t 0)), (1, .int (nI w))] := hl
  change s.vm.findClass RX1 = some m.cls at hown
  have L : ∀ (r i : Nat) (f : Nat → Int32) (H : Heap) (locs : List Loc), i + r = n → lp (fun i f => upd f (w * 6 + i) (a 1 i)) r i f = cDown n w (a 1) (a 4) → va_P D vwCl ([(t 0, .inr (2, [.ref (t 1), .ref (t 2), .ref (t 3), .ref (t 4), .int (nI n), .int g])), (t 1, .inl (k 0, 6, .inl (a 1))), (t 2, .inl (k 0, 6, .inl (a 2))), (t 3, .inl (k 0, 6, .inl (a 3))), (t 4, .inl (k 0, 2400, .inl f))]) H → va_D A ([(t 0, .inr (2, [.ref (t 1), .ref (t 2), .ref (t 3), .ref (t 4), .int (nI n), .int g])), (t 1, .inl (k 0, 6, .inl (a 1))), (t 2, .inl (k 0, 6, .inl (a 2))), (t 3, .inl (k 0, 6, .inl (a 3))), (t 4, .inl (k 0, 2400, .inl f))]) → va_S A s.heap H locs → ∀ (ls : Array Slot), lv_has ls 3 [(0, .ref (t 0)), (1, .int (nI w)), (2, .int (nI i))] → W p l e (rmd 0 0 0) s m args below meth c_ H locs 0 0 Q (F0 m 2 ls []) := by
    intro r
    induction r with
    | zero =>
      intro i f H locs hi he hP hD hS ls hl
      refine lv_iload_n hx hb dX1_writeDown_2 rfl (lv_at hl 2 rfl) ?_
      refine lv_aload_n hx hb dX1_writeDown_3 rfl (lv_at hl 0 rfl) ?_
      refine va_get (D := D) (ci := 2) (v := .int (nI n)) (C := RX1) (T := TX1) (N := 6) hx hb hts inX1 hown hK hP 0 rfl rfl 4 (by decide) (hts _ wd_1_99) (fun _ h9 => h9) rfl dX1_writeDown_4 ?_
      refine lv_icmp_ge (tgt := 33) hx hb dX1_writeDown_7 (by decide) (fun c7 => ?_) (fun c7 => absurd (nI_le (by omega) (by omega)) c7)
      exact fs_v hx hb hr hlocks hq (n, g, up a 4 f) (by rw [show f = cDown n w (a 1) (a 4) from he]) hP hD hS dX1_writeDown_33 rfl
    | succ r ih =>
      intro i f H locs hi he hP hD hS ls hl
      refine lv_iload_n hx hb dX1_writeDown_2 rfl (lv_at hl 2 rfl) ?_
      refine lv_aload_n hx hb dX1_writeDown_3 rfl (lv_at hl 0 rfl) ?_
      refine va_get (D := D) (ci := 2) (v := .int (nI n)) (C := RX1) (T := TX1) (N := 6) hx hb hts inX1 hown hK hP 0 rfl rfl 4 (by decide) (hts _ wd_1_99) (fun _ h9 => h9) rfl dX1_writeDown_4 ?_
      refine lv_icmp_ge (tgt := 33) hx hb dX1_writeDown_7 (by decide) (fun c7 => absurd c7 (nI_ge (by omega) (by omega))) (fun c7 => ?_)
      refine lv_aload_n hx hb dX1_writeDown_10 rfl (lv_at hl 0 rfl) ?_
      refine va_get (D := D) (ci := 2) (v := .ref (t 4)) (C := RX1) (T := TX1) (N := 6) hx hb hts inX1 hown hK hP 0 rfl rfl 3 (by decide) (hts _ wd_1_98) (fun _ h9 => h9) rfl dX1_writeDown_11 ?_
      refine lv_iload_n hx hb dX1_writeDown_14 rfl (lv_at hl 1 rfl) ?_
      refine lv_bipush (v := 6) hx hb dX1_writeDown_15 (by decide) ?_
      refine lv_imul hx hb dX1_writeDown_17 ?_
      refine rw_topi (y := nI (w * 6)) (pk_mul _ _) ?_
      refine lv_iload_n hx hb dX1_writeDown_18 rfl (lv_at hl 2 rfl) ?_
      refine lv_iadd hx hb dX1_writeDown_19 ?_
      refine rw_topi (y := nI ((w * 6) + i)) (nI_add _ _) ?_
      refine lv_aload_n hx hb dX1_writeDown_20 rfl (lv_at hl 0 rfl) ?_
      refine va_get (D := D) (ci := 2) (v := .ref (t 1)) (C := RX1) (T := TX1) (N := 6) hx hb hts inX1 hown hK hP 0 rfl rfl 0 (by decide) (hts _ wd_1_95) (fun _ h9 => h9) rfl dX1_writeDown_21 ?_
      refine lv_iload_n hx hb dX1_writeDown_24 rfl (lv_at hl 2 rfl) ?_
      refine ra_iald (n := 6) (f := (a 1)) hx hb hK hP 1 0 rfl rfl i rfl (by omega) (by decide) dX1_writeDown_25 ?_
      refine ra_iast (n := 2400) (f := f) hx hb hK hP hD hS 4 0 rfl rfl ((w * 6) + i) rfl (by omega) (by decide) dX1_writeDown_26 (fun H locs hP hD hS => ?_)
      replace hP : va_P D vwCl ([(t 0, .inr (2, [.ref (t 1), .ref (t 2), .ref (t 3), .ref (t 4), .int (nI n), .int g])), (t 1, .inl (k 0, 6, .inl (a 1))), (t 2, .inl (k 0, 6, .inl (a 2))), (t 3, .inl (k 0, 6, .inl (a 3))), (t 4, .inl (k 0, 2400, .inl (upd f ((w * 6) + i) ((a 1) i))))]) H := hP
      replace hD : va_D A ([(t 0, .inr (2, [.ref (t 1), .ref (t 2), .ref (t 3), .ref (t 4), .int (nI n), .int g])), (t 1, .inl (k 0, 6, .inl (a 1))), (t 2, .inl (k 0, 6, .inl (a 2))), (t 3, .inl (k 0, 6, .inl (a 3))), (t 4, .inl (k 0, 2400, .inl (upd f ((w * 6) + i) ((a 1) i))))]) := hD
      refine lv_iinc (v := nI (i + 1)) (lv' := [(2, .int (nI (i + 1))), (0, .ref (t 0)), (1, .int (nI w))]) hx hb dX1_writeDown_27 hl (k := 2) rfl (nI_1 _) (by decide) rfl (fun ls hl => ?_)
      refine lv_goto (tgt := 2) hx hb dX1_writeDown_30 (by decide) ?_
      exact ih (i + 1) (upd f ((w * 6) + i) ((a 1) i)) H locs (by omega) (by rw [← he]; rfl) hP hD hS ls (lv_sub hl [1, 2, 0] rfl)
  refine lv_iconst (v := 0) hx hb dX1_writeDown_0 (by decide) ?_
  refine lv_istore_n (lv' := [(2, .int 0), (0, .ref (t 0)), (1, .int (nI w))]) hx hb dX1_writeDown_1 rfl hl (by decide) rfl (fun ls hl => ?_)
  exact L n 0 (a 4) _ _ (by omega) (rfl) hP hD hS ls (lv_sub hl [1, 2, 0] rfl)
def cIsFor (y : Int32) (tg : Nat → Int32) (i : Nat) : Bool := !decide ((y >>> (tg i &&& 31)) &&& 1 = 0)
def cAbove (p0 z : Int32) : Int32 := if 0 < p0 - z then p0 - z else 0
def canStep (y : Int32) (tg pe : Nat → Int32) (i : Nat) (s : Int32) : Int32 := if cIsFor y tg i = false then s else s + pe i
def cCan (y z : Int32) (u : FSt) : Int32 := lp (canStep y (u.2.2 2) (u.2.2 1)) (u.1 - 1) 1 (cAbove (u.2.2 1 0) z)
set_option maxHeartbeats 4000000 in
set_option maxRecDepth 100000 in
theorem c_X1_canLend (l : Launch) (D : va_G) (k : Nat → ClassId) (t : Nat → Nat) (n : Nat) (g : Int32) (a : Nat → Nat → Int32) (y z : Int32) (hn : n ≤ 6) (hn1 : 1 ≤ n) : Ro l yX1_canLend cX1_canLend 5 (some .int) 2 D (TY k) G0 [.ref (t 0), .int y, .int z] (bF t k (n, g, a)) (some (.int (cCan y z (n, g, a)))) := by
  refine ro_body (by decide +kernel) (Nat.le_of_ble_eq_true rfl) ?_
  intro p e s m args below meth c_ Q hx hb hml hown hts hK hP hS hG hr hq hlocks ls hl
  replace hl : lv_has ls 5 [(0, .ref (t 0)), (1, .int y), (2, .int z)] := hl
  change s.vm.findClass RX1 = some m.cls at hown
  have L : ∀ (r i : Nat) (w : Int32), i + r = n → lp (canStep y (a 2) (a 1)) r i w = cCan y z (n, g, a) → ∀ (ls : Array Slot), lv_has ls 5 [(0, .ref (t 0)), (1, .int y), (2, .int z), (3, .int w), (4, .int (nI i))] → W p l e (rmd 2 0 0) s m args below meth c_ s.heap [] 0 0 Q (F0 m 9 ls []) := by
    intro r
    induction r with
    | zero =>
      intro i w hi he ls hl
      refine lv_iload hx hb dX1_canLend_9 (lv_at hl 4 rfl) ?_
      refine lv_aload_n hx hb dX1_canLend_11 rfl (lv_at hl 0 rfl) ?_
      refine va_get (D := D) (ci := 2) (v := .int (nI n)) (C := RX1) (T := TX1) (N := 6) hx hb hts inX1 hown hK hP 0 rfl rfl 4 (by decide) (hts _ wd_1_99) (fun _ h9 => h9) rfl dX1_canLend_12 ?_
      refine lv_icmp_ge (tgt := 44) hx hb dX1_canLend_15 (by decide) (fun c15 => ?_) (fun c15 => absurd (nI_le (by omega) (by omega)) c15)
      refine lv_iload_n hx hb dX1_canLend_44 rfl (lv_at hl 3 rfl) ?_
      exact ro_i hx hb hr hlocks hq dX1_canLend_45 (by rw [← he]; rfl)
    | succ r ih =>
      intro i w hi he ls hl
      refine lv_iload hx hb dX1_canLend_9 (lv_at hl 4 rfl) ?_
      refine lv_aload_n hx hb dX1_canLend_11 rfl (lv_at hl 0 rfl) ?_
      refine va_get (D := D) (ci := 2) (v := .int (nI n)) (C := RX1) (T := TX1) (N := 6) hx hb hts inX1 hown hK hP 0 rfl rfl 4 (by decide) (hts _ wd_1_99) (fun _ h9 => h9) rfl dX1_canLend_12 ?_
      refine lv_icmp_ge (tgt := 44) hx hb dX1_canLend_15 (by decide) (fun c15 => absurd c15 (nI_ge (by omega) (by omega))) (fun c15 => ?_)
      refine lv_aload_n hx hb dX1_canLend_18 rfl (lv_at hl 0 rfl) ?_
      refine lv_iload hx hb dX1_canLend_19 (lv_at hl 4 rfl) ?_
      refine lv_iload_n hx hb dX1_canLend_21 rfl (lv_at hl 1 rfl) ?_
      refine ro_V (rest := []) (st1 := [.int (bI (!decide ((y >>> ((a 2) i &&& 31)) &&& 1 = 0)))]) (As := [.int (nI i), .int y]) ⟨hx, hb, hml, hown, hts⟩ Gd0 trivial hS hK (c_X1_isFor l D k t n g a i y (by omega)) mi_X1_isFor wd_3_5 wp_2_0 wd_3_3 ⟨Nat.le_of_ble_eq_true rfl, Nat.le_of_ble_eq_true rfl⟩ (hP.sub [0, 1, 2, 3, 4] rfl) 0 rfl rfl rfl hl.1 rfl (Nat.le_of_ble_eq_true rfl) rfl ⟨Nat.le_of_ble_eq_true rfl, Nat.le_of_ble_eq_true rfl⟩ dX1_canLend_22 ?_
      refine lv_if_eq (tgt := 38) hx hb dX1_canLend_25 (by decide) (fun c25 => ?_) (fun c25 => ?_)
      · replace c25 : (!decide ((y >>> ((a 2) i &&& 31)) &&& 1 = 0)) = false := bI_0.mp c25
        refine lv_iinc (v := nI (i + 1)) (lv' := [(4, .int (nI (i + 1))), (0, .ref (t 0)), (1, .int y), (2, .int z), (3, .int w)]) hx hb dX1_canLend_38 hl (k := 4) rfl (nI_1 _) (by decide) rfl (fun ls hl => ?_)
        refine lv_goto (tgt := 9) hx hb dX1_canLend_41 (by decide) ?_
        exact ih (i + 1) w (by omega) (by rw [← he]; show _ = lp (canStep y (a 2) (a 1)) r (i + 1) (canStep y (a 2) (a 1) i w); rw [canStep, if_pos (show cIsFor y (a 2) i = false from c25)]) ls (lv_sub hl [1, 2, 3, 4, 0] rfl)
      · replace c25 : (!decide ((y >>> ((a 2) i &&& 31)) &&& 1 = 0)) = true := bI_n.mp c25
        refine lv_iload_n hx hb dX1_canLend_28 rfl (lv_at hl 3 rfl) ?_
        refine lv_aload_n hx hb dX1_canLend_29 rfl (lv_at hl 0 rfl) ?_
        refine va_get (D := D) (ci := 2) (v := .ref (t 1)) (C := RX1) (T := TX1) (N := 6) hx hb hts inX1 hown hK hP 0 rfl rfl 0 (by decide) (hts _ wd_1_95) (fun _ h9 => h9) rfl dX1_canLend_30 ?_
        refine lv_iload hx hb dX1_canLend_33 (lv_at hl 4 rfl) ?_
        refine ra_iald (n := 6) (f := (a 1)) hx hb hK hP 1 0 rfl rfl i rfl (by omega) (by decide) dX1_canLend_35 ?_
        refine lv_iadd hx hb dX1_canLend_36 ?_
        refine lv_istore_n (lv' := [(3, .int (w + ((a 1) i))), (0, .ref (t 0)), (1, .int y), (2, .int z), (4, .int (nI i))]) hx hb dX1_canLend_37 rfl hl (by decide) rfl (fun ls hl => ?_)
        refine lv_iinc (v := nI (i + 1)) (lv' := [(4, .int (nI (i + 1))), (3, .int (w + ((a 1) i))), (0, .ref (t 0)), (1, .int y), (2, .int z)]) hx hb dX1_canLend_38 hl (k := 4) rfl (nI_1 _) (by decide) rfl (fun ls hl => ?_)
        refine lv_goto (tgt := 9) hx hb dX1_canLend_41 (by decide) ?_
        exact ih (i + 1) (w + ((a 1) i)) (by omega) (by rw [← he]; show _ = lp (canStep y (a 2) (a 1)) r (i + 1) (canStep y (a 2) (a 1) i w); rw [canStep, if_neg (show ¬ (cIsFor y (a 2) i = false) by rw [show cIsFor y (a 2) i = true from c25]; decide)]) ls (lv_sub hl [2, 3, 4, 1, 0] rfl)
  refine lv_aload_n hx hb dX1_canLend_0 rfl (lv_at hl 0 rfl) ?_
  refine lv_iload_n hx hb dX1_canLend_1 rfl (lv_at hl 2 rfl) ?_
  refine ro_V (rest := []) (st1 := [.int (if 0 < (a 1) 0 - z then (a 1) 0 - z else 0)]) (As := [.int z]) ⟨hx, hb, hml, hown, hts⟩ Gd0 trivial hS hK (c_X1_aboveKeep l D k t n g a z) mi_X1_aboveKeep wd_2_238 wp_1_15 wd_2_236 ⟨Nat.le_of_ble_eq_true rfl, Nat.le_of_ble_eq_true rfl⟩ (hP.sub [0, 1, 2, 3, 4] rfl) 0 rfl rfl rfl hl.1 rfl (Nat.le_of_ble_eq_true rfl) rfl ⟨Nat.le_of_ble_eq_true rfl, Nat.le_of_ble_eq_true rfl⟩ dX1_canLend_2 ?_
  refine lv_istore_n (lv' := [(3, .int (if 0 < (a 1) 0 - z then (a 1) 0 - z else 0)), (0, .ref (t 0)), (1, .int y), (2, .int z)]) hx hb dX1_canLend_5 rfl hl (by decide) rfl (fun ls hl => ?_)
  refine lv_iconst (v := 1) hx hb dX1_canLend_6 (by decide) ?_
  refine lv_istore (lv' := [(4, .int 1), (3, .int (if 0 < (a 1) 0 - z then (a 1) 0 - z else 0)), (0, .ref (t 0)), (1, .int y), (2, .int z)]) hx hb dX1_canLend_7 hl (by decide) rfl (fun ls hl => ?_)
  exact L (n - 1) 1 (if 0 < a 1 0 - z then a 1 0 - z else 0) (by omega) (rfl) ls (lv_sub hl [2, 3, 4, 1, 0] rfl)
/-- what comes back to fund x: (rest, pence, stillAway) -/
abbrev BBS : Type := Int32 × (Nat → Int32) × (Nat → Int32)
def bbStep (x : Nat) (p : BBS) : BBS := (p.1 - cMin p.1 (p.2.2 x), upd p.2.1 x (p.2.1 x + cMin p.1 (p.2.2 x)), upd p.2.2 x (p.2.2 x - cMin p.1 (p.2.2 x)))
def bbAll (y : Int32) (pe st : Nat → Int32) : BBS := lp (fun i => bbStep (5 - i)) 5 0 (bbStep 0 (y, pe, st))
set_option maxHeartbeats 4000000 in
set_option maxRecDepth 100000 in
theorem c_X1_bringBack (l : Launch) (D : va_G) (k : Nat → ClassId) (t : Nat → Nat) (n : Nat) (g : Int32) (a : Nat → Nat → Int32) (p_ : Nat) (F : Nat → Int32) (rs rt ra : Nat) (bt : Int64) (f1 f2 : Nat → Int32) (y : Int32) : Fs (S := BBS) l yX1_bringBack cX1_bringBack 5 none 2 0 0 D (TY k) G0 [.ref (t 0), .ref p_, .int y] (bFL t k p_ F rs rt ra bt ((n, g, a), f1, f2)) (fun _ => none) (fun u => u = bbAll y (a 1) f2) (fun u => bFL t k p_ (up F 17 (F 17 + y)) rs rt ra bt ((n, g, up a 1 u.2.1), f1, u.2.2)) := by
  refine fs_body (by decide +kernel) (Nat.le_of_ble_eq_true rfl) ?_
  intro p e s m args below meth c_ Q A hx hb hml hown hts hK hP hD hS hA hG hin hr hq hlocks ls hl
  replace hl : lv_has ls 5 [(0, .ref (t 0)), (1, .ref p_), (2, .int y)] := hl
  change s.vm.findClass RX1 = some m.cls at hown
  have L : ∀ (r i : Nat) (w : Int32) (f9 : Nat → Int32) (f8 : Nat → Int32) (H : Heap) (locs : List Loc), i + r = 5 → lp (fun i => bbStep (5 - i)) r i (w, f9, f8) = bbAll y (a 1) f2 → va_P D vwCl ([(t 0, .inr (2, [.ref (t 1), .ref (t 2), .ref (t 3), .ref (t 4), .int (nI n), .int g])), (t 1, .inl (k 0, 6, .inl f9)), (t 2, .inl (k 0, 6, .inl (a 2))), (t 3, .inl (k 0, 6, .inl (a 3))), (t 4, .inl (k 0, 2400, .inl (a 4))), (p_, .inr (4, [.int (F 0), .int (F 1), .int (F 2), .int (F 3), .ref rs, .long bt, .int (F 6), .int (F 7), .int (F 8), .ref rt, .ref ra, .int (F 11), .int (F 12), .int (F 13), .int (F 14), .int (F 15), .int (F 16), .int (F 17)])), (rt, .inl (k 0, 6, .inl f1)), (ra, .inl (k 0, 6, .inl f8))]) H → va_D A ([(t 0, .inr (2, [.ref (t 1), .ref (t 2), .ref (t 3), .ref (t 4), .int (nI n), .int g])), (t 1, .inl (k 0, 6, .inl f9)), (t 2, .inl (k 0, 6, .inl (a 2))), (t 3, .inl (k 0, 6, .inl (a 3))), (t 4, .inl (k 0, 2400, .inl (a 4))), (p_, .inr (4, [.int (F 0), .int (F 1), .int (F 2), .int (F 3), .ref rs, .long bt, .int (F 6), .int (F 7), .int (F 8), .ref rt, .ref ra, .int (F 11), .int (F 12), .int (F 13), .int (F 14), .int (F 15), .int (F 16), .int (F 17)])), (rt, .inl (k 0, 6, .inl f1)), (ra, .inl (k 0, 6, .inl f8))]) → va_S A s.heap H locs → ∀ (ls : Array Slot), lv_has ls 5 [(0, .ref (t 0)), (1, .ref p_), (2, .int y), (3, .int w), (4, .int (nI (5 - i)))] → W p l e (rmd 2 0 0) s m args below meth c_ H locs 0 0 Q (F0 m 13 ls []) := by
    intro r
    induction r with
    | zero =>
      intro i w f9 f8 H locs hi he hP hD hS ls hl
      refine lv_iload hx hb dX1_bringBack_13 (lv_at hl 4 rfl) ?_
      refine lv_if_le (tgt := 35) hx hb dX1_bringBack_15 (by decide) (fun c15 => ?_) (fun c15 => absurd (by rw [show 5 - i = 0 by omega]; decide) c15)
      refine lv_aload_n hx hb dX1_bringBack_35 rfl (lv_at hl 1 rfl) ?_
      refine lv_dup hx hb dX1_bringBack_36 rfl ?_
      refine va_get (D := D) (ci := 4) (v := .int (F 17)) (C := RX4) (T := TX4) (N := 18) hx hb hts inX4 hown hK hP 5 rfl rfl 17 (by decide) (hts _ wd_3_74) (fun _ h9 => h9) rfl dX1_bringBack_37 ?_
      refine lv_iload_n hx hb dX1_bringBack_40 rfl (lv_at hl 2 rfl) ?_
      refine lv_iadd hx hb dX1_bringBack_41 ?_
      refine va_put (D := D) (ci := 4) (v := .int ((F 17) + y)) (C := RX4) (T := TX4) (N := 18) hx hb hts inX4 tyX4 tyX4_ok nmX4 hown hK hP hD hS 5 rfl rfl 17 (by decide) (hts _ wd_3_74) (fun _ h9 => h9) rfl (tyX4_ok 17 (by decide)) rfl rfl (Nat.le_of_ble_eq_true rfl) dX1_bringBack_42 (fun H locs hP hD hS => ?_)
      replace hP : va_P D vwCl ([(t 0, .inr (2, [.ref (t 1), .ref (t 2), .ref (t 3), .ref (t 4), .int (nI n), .int g])), (t 1, .inl (k 0, 6, .inl f9)), (t 2, .inl (k 0, 6, .inl (a 2))), (t 3, .inl (k 0, 6, .inl (a 3))), (t 4, .inl (k 0, 2400, .inl (a 4))), (p_, .inr (4, [.int (F 0), .int (F 1), .int (F 2), .int (F 3), .ref rs, .long bt, .int (F 6), .int (F 7), .int (F 8), .ref rt, .ref ra, .int (F 11), .int (F 12), .int (F 13), .int (F 14), .int (F 15), .int (F 16), .int ((F 17) + y)])), (rt, .inl (k 0, 6, .inl f1)), (ra, .inl (k 0, 6, .inl f8))]) H := hP
      replace hD : va_D A ([(t 0, .inr (2, [.ref (t 1), .ref (t 2), .ref (t 3), .ref (t 4), .int (nI n), .int g])), (t 1, .inl (k 0, 6, .inl f9)), (t 2, .inl (k 0, 6, .inl (a 2))), (t 3, .inl (k 0, 6, .inl (a 3))), (t 4, .inl (k 0, 2400, .inl (a 4))), (p_, .inr (4, [.int (F 0), .int (F 1), .int (F 2), .int (F 3), .ref rs, .long bt, .int (F 6), .int (F 7), .int (F 8), .ref rt, .ref ra, .int (F 11), .int (F 12), .int (F 13), .int (F 14), .int (F 15), .int (F 16), .int ((F 17) + y)])), (rt, .inl (k 0, 6, .inl f1)), (ra, .inl (k 0, 6, .inl f8))]) := hD
      exact fs_v hx hb hr hlocks hq (w, f9, f8) (he) hP hD hS dX1_bringBack_45 rfl
    | succ r ih =>
      intro i w f9 f8 H locs hi he hP hD hS ls hl
      refine lv_iload hx hb dX1_bringBack_13 (lv_at hl 4 rfl) ?_
      refine lv_if_le (tgt := 35) hx hb dX1_bringBack_15 (by decide) (fun c15 => absurd c15 (nI_nle (by omega) (by omega))) (fun c15 => ?_)
      refine lv_iload_n hx hb dX1_bringBack_18 rfl (lv_at hl 3 rfl) ?_
      refine lv_aload_n hx hb dX1_bringBack_19 rfl (lv_at hl 0 rfl) ?_
      refine lv_aload_n hx hb dX1_bringBack_20 rfl (lv_at hl 1 rfl) ?_
      refine lv_iload hx hb dX1_bringBack_21 (lv_at hl 4 rfl) ?_
      refine lv_iload_n hx hb dX1_bringBack_23 rfl (lv_at hl 3 rfl) ?_
      refine fs_Vw (rest := [.int w]) (As := [.ref p_, .int (nI (5 - i)), .int w]) ⟨hx, hb, hml, hown, hts⟩ Gd0 trivial hS hA hK (hP) (hD) (c_X1_putBack l D k t n g (up a 1 f9) p_ F rs rt ra bt f1 f8 (5 - i) w (by omega)) mi_X1_putBack wd_3_215 wp_2_6 wd_3_213 ⟨Nat.le_of_ble_eq_true rfl, Nat.le_of_ble_eq_true rfl⟩ 0 rfl rfl rfl hl.1 rfl (Nat.le_of_ble_eq_true rfl) ⟨Nat.le_of_ble_eq_true rfl, Nat.le_of_ble_eq_true rfl⟩ dX1_bringBack_24 (fun u_1 H locs hu_2 hP hD hS => ?_)
      subst hu_2
      replace hP : va_P D vwCl ([(t 0, .inr (2, [.ref (t 1), .ref (t 2), .ref (t 3), .ref (t 4), .int (nI n), .int g])), (t 1, .inl (k 0, 6, .inl (upd f9 (5 - i) (f9 (5 - i) + cMin w (f8 (5 - i)))))), (t 2, .inl (k 0, 6, .inl (a 2))), (t 3, .inl (k 0, 6, .inl (a 3))), (t 4, .inl (k 0, 2400, .inl (a 4))), (p_, .inr (4, [.int (F 0), .int (F 1), .int (F 2), .int (F 3), .ref rs, .long bt, .int (F 6), .int (F 7), .int (F 8), .ref rt, .ref ra, .int (F 11), .int (F 12), .int (F 13), .int (F 14), .int (F 15), .int (F 16), .int (F 17)])), (rt, .inl (k 0, 6, .inl f1)), (ra, .inl (k 0, 6, .inl (upd f8 (5 - i) (f8 (5 - i) - cMin w (f8 (5 - i))))))]) H := hP
      replace hD : va_D A ([(t 0, .inr (2, [.ref (t 1), .ref (t 2), .ref (t 3), .ref (t 4), .int (nI n), .int g])), (t 1, .inl (k 0, 6, .inl (upd f9 (5 - i) (f9 (5 - i) + cMin w (f8 (5 - i)))))), (t 2, .inl (k 0, 6, .inl (a 2))), (t 3, .inl (k 0, 6, .inl (a 3))), (t 4, .inl (k 0, 2400, .inl (a 4))), (p_, .inr (4, [.int (F 0), .int (F 1), .int (F 2), .int (F 3), .ref rs, .long bt, .int (F 6), .int (F 7), .int (F 8), .ref rt, .ref ra, .int (F 11), .int (F 12), .int (F 13), .int (F 14), .int (F 15), .int (F 16), .int (F 17)])), (rt, .inl (k 0, 6, .inl f1)), (ra, .inl (k 0, 6, .inl (upd f8 (5 - i) (f8 (5 - i) - cMin w (f8 (5 - i))))))]) := hD
      refine W.eq (g2 := F0 m 27 ls [.int (cMin w (f8 (5 - i))), .int w]) rfl ?_
      refine lv_isub hx hb dX1_bringBack_27 ?_
      refine lv_istore_n (lv' := [(3, .int (w - (cMin w (f8 (5 - i))))), (0, .ref (t 0)), (1, .ref p_), (2, .int y), (4, .int (nI (5 - i)))]) hx hb dX1_bringBack_28 rfl hl (by decide) rfl (fun ls hl => ?_)
      refine lv_iinc (v := nI (5 - (i + 1))) (lv' := [(4, .int (nI (5 - (i + 1)))), (3, .int (w - (cMin w (f8 (5 - i))))), (0, .ref (t 0)), (1, .ref p_), (2, .int y)]) hx hb dX1_bringBack_29 hl (k := 4) rfl (by rw [show 5 - i = (5 - (i + 1)) + 1 by omega]; exact pk_m1 _) (by decide) rfl (fun ls hl => ?_)
      refine lv_goto (tgt := 13) hx hb dX1_bringBack_32 (by decide) ?_
      exact ih (i + 1) (w - (cMin w (f8 (5 - i)))) (upd f9 (5 - i) (f9 (5 - i) + cMin w (f8 (5 - i)))) (upd f8 (5 - i) (f8 (5 - i) - cMin w (f8 (5 - i)))) H locs (by omega) (by rw [← he]; rfl) hP hD hS ls (lv_sub hl [2, 3, 4, 1, 0] rfl)
  refine lv_iload_n hx hb dX1_bringBack_0 rfl (lv_at hl 2 rfl) ?_
  refine lv_aload_n hx hb dX1_bringBack_1 rfl (lv_at hl 0 rfl) ?_
  refine lv_aload_n hx hb dX1_bringBack_2 rfl (lv_at hl 1 rfl) ?_
  refine lv_iconst (v := 0) hx hb dX1_bringBack_3 (by decide) ?_
  refine lv_iload_n hx hb dX1_bringBack_4 rfl (lv_at hl 2 rfl) ?_
  refine fs_Vw (rest := [.int y]) (As := [.ref p_, .int 0, .int y]) ⟨hx, hb, hml, hown, hts⟩ Gd0 trivial hS hA hK (hP) (hD) (c_X1_putBack l D k t n g a p_ F rs rt ra bt f1 f2 0 y (by omega)) mi_X1_putBack wd_3_215 wp_2_6 wd_3_213 ⟨Nat.le_of_ble_eq_true rfl, Nat.le_of_ble_eq_true rfl⟩ 0 rfl rfl rfl hl.1 rfl (Nat.le_of_ble_eq_true rfl) ⟨Nat.le_of_ble_eq_true rfl, Nat.le_of_ble_eq_true rfl⟩ dX1_bringBack_5 (fun u_1 H locs hu_2 hP hD hS => ?_)
  subst hu_2
  replace hP : va_P D vwCl ([(t 0, .inr (2, [.ref (t 1), .ref (t 2), .ref (t 3), .ref (t 4), .int (nI n), .int g])), (t 1, .inl (k 0, 6, .inl (upd (a 1) 0 ((a 1) 0 + cMin y (f2 0))))), (t 2, .inl (k 0, 6, .inl (a 2))), (t 3, .inl (k 0, 6, .inl (a 3))), (t 4, .inl (k 0, 2400, .inl (a 4))), (p_, .inr (4, [.int (F 0), .int (F 1), .int (F 2), .int (F 3), .ref rs, .long bt, .int (F 6), .int (F 7), .int (F 8), .ref rt, .ref ra, .int (F 11), .int (F 12), .int (F 13), .int (F 14), .int (F 15), .int (F 16), .int (F 17)])), (rt, .inl (k 0, 6, .inl f1)), (ra, .inl (k 0, 6, .inl (upd f2 0 (f2 0 - cMin y (f2 0)))))]) H := hP
  replace hD : va_D A ([(t 0, .inr (2, [.ref (t 1), .ref (t 2), .ref (t 3), .ref (t 4), .int (nI n), .int g])), (t 1, .inl (k 0, 6, .inl (upd (a 1) 0 ((a 1) 0 + cMin y (f2 0))))), (t 2, .inl (k 0, 6, .inl (a 2))), (t 3, .inl (k 0, 6, .inl (a 3))), (t 4, .inl (k 0, 2400, .inl (a 4))), (p_, .inr (4, [.int (F 0), .int (F 1), .int (F 2), .int (F 3), .ref rs, .long bt, .int (F 6), .int (F 7), .int (F 8), .ref rt, .ref ra, .int (F 11), .int (F 12), .int (F 13), .int (F 14), .int (F 15), .int (F 16), .int (F 17)])), (rt, .inl (k 0, 6, .inl f1)), (ra, .inl (k 0, 6, .inl (upd f2 0 (f2 0 - cMin y (f2 0)))))]) := hD
  refine W.eq (g2 := F0 m 8 ls [.int (cMin y (f2 0)), .int y]) rfl ?_
  refine lv_isub hx hb dX1_bringBack_8 ?_
  refine lv_istore_n (lv' := [(3, .int (y - (cMin y (f2 0)))), (0, .ref (t 0)), (1, .ref p_), (2, .int y)]) hx hb dX1_bringBack_9 rfl hl (by decide) rfl (fun ls hl => ?_)
  refine lv_iconst (v := 5) hx hb dX1_bringBack_10 (by decide) ?_
  refine lv_istore (lv' := [(4, .int 5), (3, .int (y - (cMin y (f2 0)))), (0, .ref (t 0)), (1, .ref p_), (2, .int y)]) hx hb dX1_bringBack_11 hl (by decide) rfl (fun ls hl => ?_)
  exact L 5 0 (y - (cMin y (f2 0))) (upd (a 1) 0 ((a 1) 0 + cMin y (f2 0))) (upd f2 0 (f2 0 - cMin y (f2 0))) H locs (by omega) (rfl) hP hD hS ls (lv_sub hl [2, 3, 4, 1, 0] rfl)
