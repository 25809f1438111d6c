theorem lg_cmpN {a b : Int64} (h : ¬ lg_cmp a b = 0) : ¬ a = b := fun z => h (lg_cmp0.mpr z)
def cBit (x : Int32) : Int64 := (1 : Int64) <<< ((x : Int32).toInt64 &&& 63)
set_option maxHeartbeats 4000000 in
set_option maxRecDepth 100000 in
theorem c_X8_bitOf (l : Launch) (D : va_G) (k : Nat → ClassId) (x : Int32) : Ro l yX8_bitOf cX8_bitOf 1 (some .long) 0 D (TY k) G0 [.int x] ([]) (some (.long (cBit x))) := by
  refine ro_body (by decide +kernel) (Nat.le_of_ble_eq_true rfl) ?_
  intro p e s m args below meth c_ Q hx hb hml hown hts hK hP hS hG hr hq hlocks ls hl
  replace hl : lv_has ls 1 [(0, .int x)] := hl
  change s.vm.findClass RX8 = some m.cls at hown
  refine lv_lconst (v := 1) hx hb dX8_bitOf_0 (by decide) ?_
  refine lv_iload_n hx hb dX8_bitOf_1 rfl (lv_at hl 0 rfl) ?_
  refine lv_lshl (v := (1 : Int64) <<< ((x : Int32).toInt64 &&& 63)) hx hb dX8_bitOf_2 rfl ?_
  exact ro_l hx hb hr hlocks hq dX8_bitOf_3 (rfl)
def cOpS (st : Int32) (bt : Int64) (x : Int32) : Bool := decide (st = 0) && !decide (bt &&& cBit x = 0)
set_option maxHeartbeats 4000000 in
set_option maxRecDepth 100000 in
theorem c_X4_isOpenWithSurety (l : Launch) (D : va_G) (k : Nat → ClassId) (kz : Nat) (ke sK sV : Nat → Nat) (p_ : Nat) (F : Nat → Int32) (rs rt ra : Nat) (bt : Int64) (x : Int32) : Ro l yX4_isOpenWithSurety cX4_isOpenWithSurety 2 (some .boolean) 1 D (TY k) (GK kz ke sK sV) [.ref p_, .int x] ([cL p_ F rs rt ra bt]) (some (.int (bI (cOpS (F 16) bt x)))) := by
  refine ro_body (by decide +kernel) (Nat.le_of_ble_eq_true rfl) ?_
  intro p e s m args below meth c_ Q hx hb hml hown hts hK hP hS hG hr hq hlocks ls hl
  replace hl : lv_has ls 2 [(0, .ref p_), (1, .int x)] := hl
  change s.vm.findClass RX4 = some m.cls at hown
  refine lv_aload_n hx hb dX4_isOpenWithSurety_0 rfl (lv_at hl 0 rfl) ?_
  refine va_get (D := D) (ci := 4) (v := .int (F 16)) (C := RX4) (T := TX4) (N := 18) hx hb hts inX4 hown hK hP 0 rfl rfl 16 (by decide) (hts _ wd_3_70) (fun _ h9 => h9) rfl dX4_isOpenWithSurety_1 ?_
  refine lv_if_ne (tgt := 25) hx hb dX4_isOpenWithSurety_4 (by decide) (fun c4 => ?_) (fun c4 => ?_)
  · refine lv_iconst (v := 0) hx hb dX4_isOpenWithSurety_25 (by decide) ?_
    exact ro_z hx hb hr hlocks hq (rfl) dX4_isOpenWithSurety_26 (by simp [bI, cOpS, c4])
  · refine lv_aload_n hx hb dX4_isOpenWithSurety_7 rfl (lv_at hl 0 rfl) ?_
    refine va_get (D := D) (ci := 4) (v := .long bt) (C := RX4) (T := TX4) (N := 18) hx hb hts inX4 hown hK hP 0 rfl rfl 5 (by decide) (hts _ wd_3_46) (fun _ h9 => h9) rfl dX4_isOpenWithSurety_8 ?_
    refine lv_iload_n hx hb dX4_isOpenWithSurety_11 rfl (lv_at hl 1 rfl) ?_
    refine ro_SN (host := "LoanChest") (rest := [.long bt]) (st1 := [.long (cBit x), .long bt]) (As := [.int x]) ⟨hx, hb, hml, hown, hts⟩ Gd0 trivial hS hK (c_X8_bitOf l D k x) mi_X8_bitOf wd_2_201 hG.2.2.2.2.2.2.2.2.2.2.2.2.2.2.2.2.1 ⟨Nat.le_of_ble_eq_true rfl, Nat.le_of_ble_eq_true rfl⟩ (fun k9 q9 h9 => by simp at h9) rfl hl.1 rfl (Nat.le_of_ble_eq_true rfl) rfl ⟨Nat.le_of_ble_eq_true rfl, Nat.le_of_ble_eq_true rfl⟩ dX4_isOpenWithSurety_12 ?_
    refine lv_land hx hb dX4_isOpenWithSurety_15 ?_
    refine lv_lconst (v := 0) hx hb dX4_isOpenWithSurety_16 (by decide) ?_
    refine W.lcmp hx hb dX4_isOpenWithSurety_17 ?_
    refine lv_if_eq (tgt := 25) hx hb dX4_isOpenWithSurety_18 (by decide) (fun c18 => ?_) (fun c18 => ?_)
    · replace c18 := lg_cmp0.mp c18
      refine lv_iconst (v := 0) hx hb dX4_isOpenWithSurety_25 (by decide) ?_
      exact ro_z hx hb hr hlocks hq (rfl) dX4_isOpenWithSurety_26 (by simp [bI, cOpS, c4, c18])
    · replace c18 := lg_cmpN c18
      refine lv_iconst (v := 1) hx hb dX4_isOpenWithSurety_21 (by decide) ?_
      refine lv_goto (tgt := 26) hx hb dX4_isOpenWithSurety_22 (by decide) ?_
      exact ro_z hx hb hr hlocks hq (rfl) dX4_isOpenWithSurety_26 (by simp [bI, cOpS, c4, c18])
def rowOf (n : Nat) (f : Nat → Int32) : Nat → Int32 := fun i => if i < n then f i else 0
theorem rowOf_cpy (n : Nat) (f : Nat → Int32) : va_cpy f (fun _ => 0) 0 0 n = rowOf n f := by
  funext i
  unfold va_cpy rowOf
  by_cases h : i < n
  · rw [if_pos ⟨Nat.zero_le _, by omega⟩, if_pos h, Nat.zero_add, Nat.sub_zero]
  · rw [if_neg (by omega), if_neg h]
theorem mi_X7_copy : MI RX7 yX7_copy cX7_copy 2 (some (.array .int)) 0 := ⟨⟨wd_1_2, wd_3_16⟩, rfl, by decide +kernel, by decide +kernel, by decide +kernel⟩
set_option maxHeartbeats 4000000 in
set_option maxRecDepth 100000 in
theorem c_X7_copy (l : Launch) (D : va_G) (k : Nat → ClassId) (t : Nat → Nat) (n : Nat) (f : Nat → Int32) (hn : n ≤ 320) : Fs (S := Nat) l yX7_copy cX7_copy 2 (some (.array .int)) 1 1 n D (TY k) G0 [.ref (t 0)] (bT t k (n, f)) (fun u => some (.ref u)) (fun _ => True) (fun u => bT t k (n, f) ++ [(u, .inl (k 0, n, .inl (rowOf n f)))]) := by
  refine fs_body (by decide +kernel) (Nat.le_of_ble_eq_true rfl) ?_
  intro p e s m args below meth c_ Q A hx hb hml hown hts hK hP hD hS hA hG hin hr hq hlocks ls hl
  replace hl : lv_has ls 2 [(0, .ref (t 0))] := hl
  change s.vm.findClass RX7 = some m.cls at hown
  refine lv_aload_n hx hb dX7_copy_0 rfl (lv_at hl 0 rfl) ?_
  refine va_get (D := D) (ci := 7) (v := .int (nI n)) (C := RX7) (T := TX7) (N := 2) hx hb hts inX7 hown hK hP 0 rfl rfl 1 (by decide) (hts _ wd_1_43) (fun _ h9 => h9) rfl dX7_copy_1 ?_
  refine ra_newa (N' := n) hx hb (hts _ wd_1_49) hK hP hD hS hA (nI_pos (by omega)) (nI_clamp (by omega)) (by show n * 4 ≤ 536870912; omega) (Nat.le_of_ble_eq_true rfl) (by show 0 + n ≤ n; omega) dX7_copy_4 (fun q_1 H hP hD hS => ?_)
  replace hP : va_P D vwCl ([(t 0, .inr (7, [.ref (t 1), .int (nI n)])), (t 1, .inl (k 0, 320, .inl f)), (q_1, .inl (k 0, n, .inl (fun _ => 0)))]) H := hP
  replace hD : va_D A ([(t 0, .inr (7, [.ref (t 1), .int (nI n)])), (t 1, .inl (k 0, 320, .inl f)), (q_1, .inl (k 0, n, .inl (fun _ => 0)))]) := hD
  refine W.widen (k := 1) (n := n) (by omega) (by omega) ?_
  refine lv_astore_n (lv' := [(1, .ref q_1), (0, .ref (t 0))]) hx hb dX7_copy_6 rfl hl (by decide) rfl (fun ls hl => ?_)
  refine lv_aload_n hx hb dX7_copy_7 rfl (lv_at hl 1 rfl) ?_
  refine va_get (D := D) (ci := 7) (v := .ref (t 1)) (C := RX7) (T := TX7) (N := 2) hx hb hts inX7 hown hK hP 0 rfl rfl 0 (by decide) (hts _ wd_1_42) (fun _ h9 => h9) rfl dX7_copy_8 ?_
  refine lv_iconst (v := 0) hx hb dX7_copy_11 (by decide) ?_
  refine lv_aload_n hx hb dX7_copy_12 rfl (lv_at hl 0 rfl) ?_
  refine lv_iconst (v := 0) hx hb dX7_copy_13 (by decide) ?_
  refine lv_aload_n hx hb dX7_copy_14 rfl (lv_at hl 1 rfl) ?_
  refine va_get (D := D) (ci := 7) (v := .int (nI n)) (C := RX7) (T := TX7) (N := 2) hx hb hts inX7 hown hK hP 0 rfl rfl 1 (by decide) (hts _ wd_1_43) (fun _ h9 => h9) rfl dX7_copy_15 ?_
  refine va_copyi hx hb (hml.trans hl.1.symm) hown (hts _ wd_3_17) (hts _ wd_3_19) (hts _ wd_3_18) (hts _ wd_1_20) hK hP hD hS 1 2 0 0 rfl rfl rfl rfl rfl (by decide) (by decide) (nI_pos (by omega)) (by rw [nI_clamp (by omega)]; show 0 + _ ≤ _; omega) (by rw [nI_clamp (by omega)]; show 0 + _ ≤ _; omega) (fun _ _ => rfl) (Nat.le_of_ble_eq_true rfl) (Nat.le_of_ble_eq_true rfl) dX7_copy_18 (fun H locs hP hD hS => ?_)
  rw [show va_cpy f (fun _ => 0) (0 : Int32).toNatClampNeg (0 : Int32).toNatClampNeg (nI n).toNatClampNeg = rowOf n f by rw [nI_clamp (by omega)]; exact rowOf_cpy n f] at hP hD
  replace hP : va_P D vwCl ([(t 0, .inr (7, [.ref (t 1), .int (nI n)])), (t 1, .inl (k 0, 320, .inl f)), (q_1, .inl (k 0, n, .inl (rowOf n f)))]) H := hP
  replace hD : va_D A ([(t 0, .inr (7, [.ref (t 1), .int (nI n)])), (t 1, .inl (k 0, 320, .inl f)), (q_1, .inl (k 0, n, .inl (rowOf n f)))]) := hD
  refine lv_aload_n hx hb dX7_copy_21 rfl (lv_at hl 0 rfl) ?_
  exact fs_a hx hb hr (Or.inr ⟨_, rfl⟩) hlocks hq (q_1) trivial hP hD hS (Or.inr ⟨_, rfl⟩) dX7_copy_22 rfl
def lF (x0 x1 x2 x3 : Int32) (f : Nat → Int32) : Nat → Int32 := up (up (up (up (up (up (up (fun _ => 0) 0 x0) 1 x1) 2 x2) 3 x3) 6 (f 1)) 7 (f 4)) 8 (f 5)
set_option maxHeartbeats 4000000 in
set_option maxRecDepth 100000 in
theorem c_X4_init (l : Launch) (D : va_G) (k : Nat → ClassId) (kz : Nat) (ke sK sV : Nat → Nat) (t : Nat → Nat) (f : Nat → Int32) (p_ rs : Nat) (bt : Int64) (x0 x1 x2 x3 : Int32) : Fs (S := Nat × Nat) l yX4_init cX4_init 9 none 1 2 12 D (TY k) (GK kz ke sK sV) [.ref p_, .int x0, .int x1, .int x2, .int x3, .ref rs, .long bt, .ref (t 0)] ([(p_, .inr (4, [.int 0, .int 0, .int 0, .int 0, .null, .long 0, .int 0, .int 0, .int 0, .null, .null, .int 0, .int 0, .int 0, .int 0, .int 0, .int 0, .int 0])), (t 0, .inr (6, [.ref (t 1)])), (t 1, .inl (k 0, 9, .inl f))]) (fun _ => none) (fun _ => True) (fun u => [cL p_ (lF x0 x1 x2 x3 f) rs u.1 u.2 bt] ++ (bV t k f ++ [(u.1, .inl (k 0, 6, .inl (fun _ => 0))), (u.2, .inl (k 0, 6, .inl (fun _ => 0)))])) := by
  refine fs_body (by decide +kernel) (Nat.le_of_ble_eq_true rfl) ?_
  intro p e s m args below meth c_ Q A hx hb hml hown hts hK hP hD hS hA hG hin hr hq hlocks ls hl
  replace hl : lv_has ls 9 [(0, .ref p_), (1, .int x0), (2, .int x1), (3, .int x2), (4, .int x3), (5, .ref rs), (6, .long bt), (8, .ref (t 0))] := hl
  change s.vm.findClass RX4 = some m.cls at hown
  refine lv_aload_n hx hb dX4_init_0 rfl (lv_at hl 0 rfl) ?_
  refine W.objInit hx hb hown (hts _ wd_3_23) (hts _ wd_1_34) (hts _ wd_1_35) rfl (by rw [hml]; exact hl.1) rfl dX4_init_1 (Nat.le_of_ble_eq_true rfl) (Nat.le_of_ble_eq_true rfl) ?_
  refine W.eq (g2 := F0 m 4 ls []) rfl ?_
  refine lv_aload_n hx hb dX4_init_4 rfl (lv_at hl 0 rfl) ?_
  refine lv_bipush (v := 6) hx hb dX4_init_5 (by decide) ?_
  refine ra_newa (N' := 6) hx hb (hts _ wd_1_49) hK hP hD hS hA (by decide) (by decide) (by decide) (Nat.le_of_ble_eq_true rfl) (Nat.le_of_ble_eq_true rfl) dX4_init_7 (fun q_1 H hP hD hS => ?_)
  replace hP : va_P D vwCl ([(p_, .inr (4, [.int 0, .int 0, .int 0, .int 0, .null, .long 0, .int 0, .int 0, .int 0, .null, .null, .int 0, .int 0, .int 0, .int 0, .int 0, .int 0, .int 0])), (t 0, .inr (6, [.ref (t 1)])), (t 1, .inl (k 0, 9, .inl f)), (q_1, .inl (k 0, 6, .inl (fun _ => 0)))]) H := hP
  replace hD : va_D A ([(p_, .inr (4, [.int 0, .int 0, .int 0, .int 0, .null, .long 0, .int 0, .int 0, .int 0, .null, .null, .int 0, .int 0, .int 0, .int 0, .int 0, .int 0, .int 0])), (t 0, .inr (6, [.ref (t 1)])), (t 1, .inl (k 0, 9, .inl f)), (q_1, .inl (k 0, 6, .inl (fun _ => 0)))]) := hD
  refine W.widen (k := 1) (n := 6) (Nat.le_of_ble_eq_true rfl) (Nat.le_of_ble_eq_true rfl) ?_
  refine va_putF (D := D) (ci := 4) (v := .ref q_1) (C := RX4) (T := TX4) (N := 18) hx hb hts inX4 tyX4 tyX4_ok nmX4 hown hK hP hD hS 0 rfl rfl 9 (by decide) (hts _ wd_3_52) (fun _ h9 => h9) rfl (hin rfl) rfl (tyX4_ok 9 (by decide)) rfl rfl (Nat.le_of_ble_eq_true rfl) dX4_init_9 (fun H locs hP hD hS => ?_)
  replace hP : va_P D vwCl ([(p_, .inr (4, [.int 0, .int 0, .int 0, .int 0, .null, .long 0, .int 0, .int 0, .int 0, .ref q_1, .null, .int 0, .int 0, .int 0, .int 0, .int 0, .int 0, .int 0])), (t 0, .inr (6, [.ref (t 1)])), (t 1, .inl (k 0, 9, .inl f)), (q_1, .inl (k 0, 6, .inl (fun _ => 0)))]) H := hP
  replace hD : va_D A ([(p_, .inr (4, [.int 0, .int 0, .int 0, .int 0, .null, .long 0, .int 0, .int 0, .int 0, .ref q_1, .null, .int 0, .int 0, .int 0, .int 0, .int 0, .int 0, .int 0])), (t 0, .inr (6, [.ref (t 1)])), (t 1, .inl (k 0, 9, .inl f)), (q_1, .inl (k 0, 6, .inl (fun _ => 0)))]) := hD
  refine lv_aload_n hx hb dX4_init_12 rfl (lv_at hl 0 rfl) ?_
  refine lv_bipush (v := 6) hx hb dX4_init_13 (by decide) ?_
  refine ra_newa (N' := 6) hx hb (hts _ wd_1_49) hK hP hD hS hA (by decide) (by decide) (by decide) (Nat.le_of_ble_eq_true rfl) (Nat.le_of_ble_eq_true rfl) dX4_init_15 (fun q_2 H hP hD hS => ?_)
  replace hP : va_P D vwCl ([(p_, .inr (4, [.int 0, .int 0, .int 0, .int 0, .null, .long 0, .int 0, .int 0, .int 0, .ref q_1, .null, .int 0, .int 0, .int 0, .int 0, .int 0, .int 0, .int 0])), (t 0, .inr (6, [.ref (t 1)])), (t 1, .inl (k 0, 9, .inl f)), (q_1, .inl (k 0, 6, .inl (fun _ => 0))), (q_2, .inl (k 0, 6, .inl (fun _ => 0)))]) H := hP
  replace hD : va_D A ([(p_, .inr (4, [.int 0, .int 0, .int 0, .int 0, .null, .long 0, .int 0, .int 0, .int 0, .ref q_1, .null, .int 0, .int 0, .int 0, .int 0, .int 0, .int 0, .int 0])), (t 0, .inr (6, [.ref (t 1)])), (t 1, .inl (k 0, 9, .inl f)), (q_1, .inl (k 0, 6, .inl (fun _ => 0))), (q_2, .inl (k 0, 6, .inl (fun _ => 0)))]) := hD
  refine W.widen (k := 2) (n := 12) (Nat.le_of_ble_eq_true rfl) (Nat.le_of_ble_eq_true rfl) ?_
  refine va_putF (D := D) (ci := 4) (v := .ref q_2) (C := RX4) (T := TX4) (N := 18) hx hb hts inX4 tyX4 tyX4_ok nmX4 hown hK hP hD hS 0 rfl rfl 10 (by decide) (hts _ wd_3_55) (fun _ h9 => h9) rfl (hin rfl) rfl (tyX4_ok 10 (by decide)) rfl rfl (Nat.le_of_ble_eq_true rfl) dX4_init_17 (fun H locs hP hD hS => ?_)
  replace hP : va_P D vwCl ([(p_, .inr (4, [.int 0, .int 0, .int 0, .int 0, .null, .long 0, .int 0, .int 0, .int 0, .ref q_1, .ref q_2, .int 0, .int 0, .int 0, .int 0, .int 0, .int 0, .int 0])), (t 0, .inr (6, [.ref (t 1)])), (t 1, .inl (k 0, 9, .inl f)), (q_1, .inl (k 0, 6, .inl (fun _ => 0))), (q_2, .inl (k 0, 6, .inl (fun _ => 0)))]) H := hP
  replace hD : va_D A ([(p_, .inr (4, [.int 0, .int 0, .int 0, .int 0, .null, .long 0, .int 0, .int 0, .int 0, .ref q_1, .ref q_2, .int 0, .int 0, .int 0, .int 0, .int 0, .int 0, .int 0])), (t 0, .inr (6, [.ref (t 1)])), (t 1, .inl (k 0, 9, .inl f)), (q_1, .inl (k 0, 6, .inl (fun _ => 0))), (q_2, .inl (k 0, 6, .inl (fun _ => 0)))]) := hD
  refine lv_aload_n hx hb dX4_init_20 rfl (lv_at hl 0 rfl) ?_
  refine lv_iconst (v := 0) hx hb dX4_init_21 (by decide) ?_
  refine va_put (D := D) (ci := 4) (v := .int 0) (C := RX4) (T := TX4) (N := 18) hx hb hts inX4 tyX4 tyX4_ok nmX4 hown hK hP hD hS 0 rfl rfl 11 (by decide) (hts _ wd_3_57) (fun _ h9 => h9) rfl (tyX4_ok 11 (by decide)) rfl rfl (Nat.le_of_ble_eq_true rfl) dX4_init_22 (fun H locs hP hD hS => ?_)
  replace hP : va_P D vwCl ([(p_, .inr (4, [.int 0, .int 0, .int 0, .int 0, .null, .long 0, .int 0, .int 0, .int 0, .ref q_1, .ref q_2, .int 0, .int 0, .int 0, .int 0, .int 0, .int 0, .int 0])), (t 0, .inr (6, [.ref (t 1)])), (t 1, .inl (k 0, 9, .inl f)), (q_1, .inl (k 0, 6, .inl (fun _ => 0))), (q_2, .inl (k 0, 6, .inl (fun _ => 0)))]) H := hP
  replace hD : va_D A ([(p_, .inr (4, [.int 0, .int 0, .int 0, .int 0, .null, .long 0, .int 0, .int 0, .int 0, .ref q_1, .ref q_2, .int 0, .int 0, .int 0, .int 0, .int 0, .int 0, .int 0])), (t 0, .inr (6, [.ref (t 1)])), (t 1, .inl (k 0, 9, .inl f)), (q_1, .inl (k 0, 6, .inl (fun _ => 0))), (q_2, .inl (k 0, 6, .inl (fun _ => 0)))]) := hD
  refine lv_aload_n hx hb dX4_init_25 rfl (lv_at hl 0 rfl) ?_
  refine lv_iconst (v := 0) hx hb dX4_init_26 (by decide) ?_
  refine va_put (D := D) (ci := 4) (v := .int 0) (C := RX4) (T := TX4) (N := 18) hx hb hts inX4 tyX4 tyX4_ok nmX4 hown hK hP hD hS 0 rfl rfl 12 (by decide) (hts _ wd_3_60) (fun _ h9 => h9) rfl (tyX4_ok 12 (by decide)) rfl rfl (Nat.le_of_ble_eq_true rfl) dX4_init_27 (fun H locs hP hD hS => ?_)
  replace hP : va_P D vwCl ([(p_, .inr (4, [.int 0, .int 0, .int 0, .int 0, .null, .long 0, .int 0, .int 0, .int 0, .ref q_1, .ref q_2, .int 0, .int 0, .int 0, .int 0, .int 0, .int 0, .int 0])), (t 0, .inr (6, [.ref (t 1)])), (t 1, .inl (k 0, 9, .inl f)), (q_1, .inl (k 0, 6, .inl (fun _ => 0))), (q_2, .inl (k 0, 6, .inl (fun _ => 0)))]) H := hP
  replace hD : va_D A ([(p_, .inr (4, [.int 0, .int 0, .int 0, .int 0, .null, .long 0, .int 0, .int 0, .int 0, .ref q_1, .ref q_2, .int 0, .int 0, .int 0, .int 0, .int 0, .int 0, .int 0])), (t 0, .inr (6, [.ref (t 1)])), (t 1, .inl (k 0, 9, .inl f)), (q_1, .inl (k 0, 6, .inl (fun _ => 0))), (q_2, .inl (k 0, 6, .inl (fun _ => 0)))]) := hD
  refine lv_aload_n hx hb dX4_init_30 rfl (lv_at hl 0 rfl) ?_
  refine lv_iconst (v := 0) hx hb dX4_init_31 (by decide) ?_
  refine va_put (D := D) (ci := 4) (v := .int 0) (C := RX4) (T := TX4) (N := 18) hx hb hts inX4 tyX4 tyX4_ok nmX4 hown hK hP hD hS 0 rfl rfl 13 (by decide) (hts _ wd_3_63) (fun _ h9 => h9) rfl (tyX4_ok 13 (by decide)) rfl rfl (Nat.le_of_ble_eq_true rfl) dX4_init_32 (fun H locs hP hD hS => ?_)
  replace hP : va_P D vwCl ([(p_, .inr (4, [.int 0, .int 0, .int 0, .int 0, .null, .long 0, .int 0, .int 0, .int 0, .ref q_1, .ref q_2, .int 0, .int 0, .int 0, .int 0, .int 0, .int 0, .int 0])), (t 0, .inr (6, [.ref (t 1)])), (t 1, .inl (k 0, 9, .inl f)), (q_1, .inl (k 0, 6, .inl (fun _ => 0))), (q_2, .inl (k 0, 6, .inl (fun _ => 0)))]) H := hP
  replace hD : va_D A ([(p_, .inr (4, [.int 0, .int 0, .int 0, .int 0, .null, .long 0, .int 0, .int 0, .int 0, .ref q_1, .ref q_2, .int 0, .int 0, .int 0, .int 0, .int 0, .int 0, .int 0])), (t 0, .inr (6, [.ref (t 1)])), (t 1, .inl (k 0, 9, .inl f)), (q_1, .inl (k 0, 6, .inl (fun _ => 0))), (q_2, .inl (k 0, 6, .inl (fun _ => 0)))]) := hD
  refine lv_aload_n hx hb dX4_init_35 rfl (lv_at hl 0 rfl) ?_
  refine lv_iconst (v := 0) hx hb dX4_init_36 (by decide) ?_
  refine va_put (D := D) (ci := 4) (v := .int 0) (C := RX4) (T := TX4) (N := 18) hx hb hts inX4 tyX4 tyX4_ok nmX4 hown hK hP hD hS 0 rfl rfl 14 (by decide) (hts _ wd_3_66) (fun _ h9 => h9) rfl (tyX4_ok 14 (by decide)) rfl rfl (Nat.le_of_ble_eq_true rfl) dX4_init_37 (fun H locs hP hD hS => ?_)
  replace hP : va_P D vwCl ([(p_, .inr (4, [.int 0, .int 0, .int 0, .int 0, .null, .long 0, .int 0, .int 0, .int 0, .ref q_1, .ref q_2, .int 0, .int 0, .int 0, .int 0, .int 0, .int 0, .int 0])), (t 0, .inr (6, [.ref (t 1)])), (t 1, .inl (k 0, 9, .inl f)), (q_1, .inl (k 0, 6, .inl (fun _ => 0))), (q_2, .inl (k 0, 6, .inl (fun _ => 0)))]) H := hP
  replace hD : va_D A ([(p_, .inr (4, [.int 0, .int 0, .int 0, .int 0, .null, .long 0, .int 0, .int 0, .int 0, .ref q_1, .ref q_2, .int 0, .int 0, .int 0, .int 0, .int 0, .int 0, .int 0])), (t 0, .inr (6, [.ref (t 1)])), (t 1, .inl (k 0, 9, .inl f)), (q_1, .inl (k 0, 6, .inl (fun _ => 0))), (q_2, .inl (k 0, 6, .inl (fun _ => 0)))]) := hD
  refine lv_aload_n hx hb dX4_init_40 rfl (lv_at hl 0 rfl) ?_
  refine lv_iconst (v := 0) hx hb dX4_init_41 (by decide) ?_
  refine va_put (D := D) (ci := 4) (v := .int 0) (C := RX4) (T := TX4) (N := 18) hx hb hts inX4 tyX4 tyX4_ok nmX4 hown hK hP hD hS 0 rfl rfl 15 (by decide) (hts _ wd_3_69) (fun _ h9 => h9) rfl (tyX4_ok 15 (by decide)) rfl rfl (Nat.le_of_ble_eq_true rfl) dX4_init_42 (fun H locs hP hD hS => ?_)
  replace hP : va_P D vwCl ([(p_, .inr (4, [.int 0, .int 0, .int 0, .int 0, .null, .long 0, .int 0, .int 0, .int 0, .ref q_1, .ref q_2, .int 0, .int 0, .int 0, .int 0, .int 0, .int 0, .int 0])), (t 0, .inr (6, [.ref (t 1)])), (t 1, .inl (k 0, 9, .inl f)), (q_1, .inl (k 0, 6, .inl (fun _ => 0))), (q_2, .inl (k 0, 6, .inl (fun _ => 0)))]) H := hP
  replace hD : va_D A ([(p_, .inr (4, [.int 0, .int 0, .int 0, .int 0, .null, .long 0, .int 0, .int 0, .int 0, .ref q_1, .ref q_2, .int 0, .int 0, .int 0, .int 0, .int 0, .int 0, .int 0])), (t 0, .inr (6, [.ref (t 1)])), (t 1, .inl (k 0, 9, .inl f)), (q_1, .inl (k 0, 6, .inl (fun _ => 0))), (q_2, .inl (k 0, 6, .inl (fun _ => 0)))]) := hD
  refine lv_aload_n hx hb dX4_init_45 rfl (lv_at hl 0 rfl) ?_
  refine lv_iconst (v := 0) hx hb dX4_init_46 (by decide) ?_
  refine va_put (D := D) (ci := 4) (v := .int 0) (C := RX4) (T := TX4) (N := 18) hx hb hts inX4 tyX4 tyX4_ok nmX4 hown hK hP hD hS 0 rfl rfl 16 (by decide) (hts _ wd_3_70) (fun _ h9 => h9) rfl (tyX4_ok 16 (by decide)) rfl rfl (Nat.le_of_ble_eq_true rfl) dX4_init_47 (fun H locs hP hD hS => ?_)
  replace hP : va_P D vwCl ([(p_, .inr (4, [.int 0, .int 0, .int 0, .int 0, .null, .long 0, .int 0, .int 0, .int 0, .ref q_1, .ref q_2, .int 0, .int 0, .int 0, .int 0, .int 0, .int 0, .int 0])), (t 0, .inr (6, [.ref (t 1)])), (t 1, .inl (k 0, 9, .inl f)), (q_1, .inl (k 0, 6, .inl (fun _ => 0))), (q_2, .inl (k 0, 6, .inl (fun _ => 0)))]) H := hP
  replace hD : va_D A ([(p_, .inr (4, [.int 0, .int 0, .int 0, .int 0, .null, .long 0, .int 0, .int 0, .int 0, .ref q_1, .ref q_2, .int 0, .int 0, .int 0, .int 0, .int 0, .int 0, .int 0])), (t 0, .inr (6, [.ref (t 1)])), (t 1, .inl (k 0, 9, .inl f)), (q_1, .inl (k 0, 6, .inl (fun _ => 0))), (q_2, .inl (k 0, 6, .inl (fun _ => 0)))]) := hD
  refine lv_aload_n hx hb dX4_init_50 rfl (lv_at hl 0 rfl) ?_
  refine lv_iconst (v := 0) hx hb dX4_init_51 (by decide) ?_
  refine va_put (D := D) (ci := 4) (v := .int 0) (C := RX4) (T := TX4) (N := 18) hx hb hts inX4 tyX4 tyX4_ok nmX4 hown hK hP hD hS 0 rfl rfl 17 (by decide) (hts _ wd_3_73) (fun _ h9 => h9) rfl (tyX4_ok 17 (by decide)) rfl rfl (Nat.le_of_ble_eq_true rfl) dX4_init_52 (fun H locs hP hD hS => ?_)
  replace hP : va_P D vwCl ([(p_, .inr (4, [.int 0, .int 0, .int 0, .int 0, .null, .long 0, .int 0, .int 0, .int 0, .ref q_1, .ref q_2, .int 0, .int 0, .int 0, .int 0, .int 0, .int 0, .int 0])), (t 0, .inr (6, [.ref (t 1)])), (t 1, .inl (k 0, 9, .inl f)), (q_1, .inl (k 0, 6, .inl (fun _ => 0))), (q_2, .inl (k 0, 6, .inl (fun _ => 0)))]) H := hP
  replace hD : va_D A ([(p_, .inr (4, [.int 0, .int 0, .int 0, .int 0, .null, .long 0, .int 0, .int 0, .int 0, .ref q_1, .ref q_2, .int 0, .int 0, .int 0, .int 0, .int 0, .int 0, .int 0])), (t 0, .inr (6, [.ref (t 1)])), (t 1, .inl (k 0, 9, .inl f)), (q_1, .inl (k 0, 6, .inl (fun _ => 0))), (q_2, .inl (k 0, 6, .inl (fun _ => 0)))]) := hD
  refine lv_aload_n hx hb dX4_init_55 rfl (lv_at hl 0 rfl) ?_
  refine lv_iload_n hx hb dX4_init_56 rfl (lv_at hl 1 rfl) ?_
  refine va_putF (D := D) (ci := 4) (v := .int x0) (C := RX4) (T := TX4) (N := 18) hx hb hts inX4 tyX4 tyX4_ok nmX4 hown hK hP hD hS 0 rfl rfl 0 (by decide) (hts _ wd_3_31) (fun _ h9 => h9) rfl (hin rfl) rfl (tyX4_ok 0 (by decide)) rfl rfl (Nat.le_of_ble_eq_true rfl) dX4_init_57 (fun H locs hP hD hS => ?_)
  replace hP : va_P D vwCl ([(p_, .inr (4, [.int x0, .int 0, .int 0, .int 0, .null, .long 0, .int 0, .int 0, .int 0, .ref q_1, .ref q_2, .int 0, .int 0, .int 0, .int 0, .int 0, .int 0, .int 0])), (t 0, .inr (6, [.ref (t 1)])), (t 1, .inl (k 0, 9, .inl f)), (q_1, .inl (k 0, 6, .inl (fun _ => 0))), (q_2, .inl (k 0, 6, .inl (fun _ => 0)))]) H := hP
  replace hD : va_D A ([(p_, .inr (4, [.int x0, .int 0, .int 0, .int 0, .null, .long 0, .int 0, .int 0, .int 0, .ref q_1, .ref q_2, .int 0, .int 0, .int 0, .int 0, .int 0, .int 0, .int 0])), (t 0, .inr (6, [.ref (t 1)])), (t 1, .inl (k 0, 9, .inl f)), (q_1, .inl (k 0, 6, .inl (fun _ => 0))), (q_2, .inl (k 0, 6, .inl (fun _ => 0)))]) := hD
  refine lv_aload_n hx hb dX4_init_60 rfl (lv_at hl 0 rfl) ?_
  refine lv_iload_n hx hb dX4_init_61 rfl (lv_at hl 2 rfl) ?_
  refine va_putF (D := D) (ci := 4) (v := .int x1) (C := RX4) (T := TX4) (N := 18) hx hb hts inX4 tyX4 tyX4_ok nmX4 hown hK hP hD hS 0 rfl rfl 1 (by decide) (hts _ wd_3_33) (fun _ h9 => h9) rfl (hin rfl) rfl (tyX4_ok 1 (by decide)) rfl rfl (Nat.le_of_ble_eq_true rfl) dX4_init_62 (fun H locs hP hD hS => ?_)
  replace hP : va_P D vwCl ([(p_, .inr (4, [.int x0, .int x1, .int 0, .int 0, .null, .long 0, .int 0, .int 0, .int 0, .ref q_1, .ref q_2, .int 0, .int 0, .int 0, .int 0, .int 0, .int 0, .int 0])), (t 0, .inr (6, [.ref (t 1)])), (t 1, .inl (k 0, 9, .inl f)), (q_1, .inl (k 0, 6, .inl (fun _ => 0))), (q_2, .inl (k 0, 6, .inl (fun _ => 0)))]) H := hP
  replace hD : va_D A ([(p_, .inr (4, [.int x0, .int x1, .int 0, .int 0, .null, .long 0, .int 0, .int 0, .int 0, .ref q_1, .ref q_2, .int 0, .int 0, .int 0, .int 0, .int 0, .int 0, .int 0])), (t 0, .inr (6, [.ref (t 1)])), (t 1, .inl (k 0, 9, .inl f)), (q_1, .inl (k 0, 6, .inl (fun _ => 0))), (q_2, .inl (k 0, 6, .inl (fun _ => 0)))]) := hD
  refine lv_aload_n hx hb dX4_init_65 rfl (lv_at hl 0 rfl) ?_
  refine lv_iload_n hx hb dX4_init_66 rfl (lv_at hl 3 rfl) ?_
  refine va_putF (D := D) (ci := 4) (v := .int x2) (C := RX4) (T := TX4) (N := 18) hx hb hts inX4 tyX4 tyX4_ok nmX4 hown hK hP hD hS 0 rfl rfl 2 (by decide) (hts _ wd_3_36) (fun _ h9 => h9) rfl (hin rfl) rfl (tyX4_ok 2 (by decide)) rfl rfl (Nat.le_of_ble_eq_true rfl) dX4_init_67 (fun H locs hP hD hS => ?_)
  replace hP : va_P D vwCl ([(p_, .inr (4, [.int x0, .int x1, .int x2, .int 0, .null, .long 0, .int 0, .int 0, .int 0, .ref q_1, .ref q_2, .int 0, .int 0, .int 0, .int 0, .int 0, .int 0, .int 0])), (t 0, .inr (6, [.ref (t 1)])), (t 1, .inl (k 0, 9, .inl f)), (q_1, .inl (k 0, 6, .inl (fun _ => 0))), (q_2, .inl (k 0, 6, .inl (fun _ => 0)))]) H := hP
  replace hD : va_D A ([(p_, .inr (4, [.int x0, .int x1, .int x2, .int 0, .null, .long 0, .int 0, .int 0, .int 0, .ref q_1, .ref q_2, .int 0, .int 0, .int 0, .int 0, .int 0, .int 0, .int 0])), (t 0, .inr (6, [.ref (t 1)])), (t 1, .inl (k 0, 9, .inl f)), (q_1, .inl (k 0, 6, .inl (fun _ => 0))), (q_2, .inl (k 0, 6, .inl (fun _ => 0)))]) := hD
  refine lv_aload_n hx hb dX4_init_70 rfl (lv_at hl 0 rfl) ?_
  refine lv_iload hx hb dX4_init_71 (lv_at hl 4 rfl) ?_
  refine va_putF (D := D) (ci := 4) (v := .int x3) (C := RX4) (T := TX4) (N := 18) hx hb hts inX4 tyX4 tyX4_ok nmX4 hown hK hP hD hS 0 rfl rfl 3 (by decide) (hts _ wd_3_40) (fun _ h9 => h9) rfl (hin rfl) rfl (tyX4_ok 3 (by decide)) rfl rfl (Nat.le_of_ble_eq_true rfl) dX4_init_73 (fun H locs hP hD hS => ?_)
  replace hP : va_P D vwCl ([(p_, .inr (4, [.int x0, .int x1, .int x2, .int x3, .null, .long 0, .int 0, .int 0, .int 0, .ref q_1, .ref q_2, .int 0, .int 0, .int 0, .int 0, .int 0, .int 0, .int 0])), (t 0, .inr (6, [.ref (t 1)])), (t 1, .inl (k 0, 9, .inl f)), (q_1, .inl (k 0, 6, .inl (fun _ => 0))), (q_2, .inl (k 0, 6, .inl (fun _ => 0)))]) H := hP
  replace hD : va_D A ([(p_, .inr (4, [.int x0, .int x1, .int x2, .int x3, .null, .long 0, .int 0, .int 0, .int 0, .ref q_1, .ref q_2, .int 0, .int 0, .int 0, .int 0, .int 0, .int 0, .int 0])), (t 0, .inr (6, [.ref (t 1)])), (t 1, .inl (k 0, 9, .inl f)), (q_1, .inl (k 0, 6, .inl (fun _ => 0))), (q_2, .inl (k 0, 6, .inl (fun _ => 0)))]) := hD
  refine lv_aload_n hx hb dX4_init_76 rfl (lv_at hl 0 rfl) ?_
  refine lv_aload hx hb dX4_init_77 (lv_at hl 5 rfl) ?_
  refine va_putF (D := D) (ci := 4) (v := .ref rs) (C := RX4) (T := TX4) (N := 18) hx hb hts inX4 tyX4 tyX4_ok nmX4 hown hK hP hD hS 0 rfl rfl 4 (by decide) (hts _ wd_3_43) (fun _ h9 => h9) rfl (hin rfl) rfl (tyX4_ok 4 (by decide)) rfl rfl (Nat.le_of_ble_eq_true rfl) dX4_init_79 (fun H locs hP hD hS => ?_)
  replace hP : va_P D vwCl ([(p_, .inr (4, [.int x0, .int x1, .int x2, .int x3, .ref rs, .long 0, .int 0, .int 0, .int 0, .ref q_1, .ref q_2, .int 0, .int 0, .int 0, .int 0, .int 0, .int 0, .int 0])), (t 0, .inr (6, [.ref (t 1)])), (t 1, .inl (k 0, 9, .inl f)), (q_1, .inl (k 0, 6, .inl (fun _ => 0))), (q_2, .inl (k 0, 6, .inl (fun _ => 0)))]) H := hP
  replace hD : va_D A ([(p_, .inr (4, [.int x0, .int x1, .int x2, .int x3, .ref rs, .long 0, .int 0, .int 0, .int 0, .ref q_1, .ref q_2, .int 0, .int 0, .int 0, .int 0, .int 0, .int 0, .int 0])), (t 0, .inr (6, [.ref (t 1)])), (t 1, .inl (k 0, 9, .inl f)), (q_1, .inl (k 0, 6, .inl (fun _ => 0))), (q_2, .inl (k 0, 6, .inl (fun _ => 0)))]) := hD
  refine lv_aload_n hx hb dX4_init_82 rfl (lv_at hl 0 rfl) ?_
  refine lv_lload hx hb dX4_init_83 (lv_at hl 6 rfl) ?_
  refine va_putF (D := D) (ci := 4) (v := .long bt) (C := RX4) (T := TX4) (N := 18) hx hb hts inX4 tyX4 tyX4_ok nmX4 hown hK hP hD hS 0 rfl rfl 5 (by decide) (hts _ wd_3_46) (fun _ h9 => h9) rfl (hin rfl) rfl (tyX4_ok 5 (by decide)) rfl rfl (Nat.le_of_ble_eq_true rfl) dX4_init_85 (fun H locs hP hD hS => ?_)
  replace hP : va_P D vwCl ([(p_, .inr (4, [.int x0, .int x1, .int x2, .int x3, .ref rs, .long bt, .int 0, .int 0, .int 0, .ref q_1, .ref q_2, .int 0, .int 0, .int 0, .int 0, .int 0, .int 0, .int 0])), (t 0, .inr (6, [.ref (t 1)])), (t 1, .inl (k 0, 9, .inl f)), (q_1, .inl (k 0, 6, .inl (fun _ => 0))), (q_2, .inl (k 0, 6, .inl (fun _ => 0)))]) H := hP
  replace hD : va_D A ([(p_, .inr (4, [.int x0, .int x1, .int x2, .int x3, .ref rs, .long bt, .int 0, .int 0, .int 0, .ref q_1, .ref q_2, .int 0, .int 0, .int 0, .int 0, .int 0, .int 0, .int 0])), (t 0, .inr (6, [.ref (t 1)])), (t 1, .inl (k 0, 9, .inl f)), (q_1, .inl (k 0, 6, .inl (fun _ => 0))), (q_2, .inl (k 0, 6, .inl (fun _ => 0)))]) := hD
  refine lv_aload_n hx hb dX4_init_88 rfl (lv_at hl 0 rfl) ?_
  refine lv_aload hx hb dX4_init_89 (lv_at hl 7 rfl) ?_
  refine va_gets (n := "WEEKS") (v := .ref (ke 1)) hx hb (hG.2.2.2.2.2.2.2.2.1 1 (by decide)) hS hown (hts _ wd_3_24) (fun _ h9 => h9) dX4_init_91 ?_
  refine ro_V (rest := [.ref p_]) (st1 := [.int (f 1), .ref p_]) (As := [.ref (ke 1)]) ⟨hx, hb, hml, hown, hts⟩ GdK hG hS hK (c_X6_current l D k kz ke sK sV t f 1 (by decide)) mi_X6_current wd_2_88 wd_2_89 wd_3_26 ⟨Nat.le_of_ble_eq_true rfl, Nat.le_of_ble_eq_true rfl⟩ (hP.sub [1, 2] rfl) 0 rfl rfl rfl hl.1 rfl (Nat.le_of_ble_eq_true rfl) rfl ⟨Nat.le_of_ble_eq_true rfl, Nat.le_of_ble_eq_true rfl⟩ dX4_init_94 ?_
  refine va_putF (D := D) (ci := 4) (v := .int (f 1)) (C := RX4) (T := TX4) (N := 18) hx hb hts inX4 tyX4 tyX4_ok nmX4 hown hK hP hD hS 0 rfl rfl 6 (by decide) (hts _ wd_3_49) (fun _ h9 => h9) rfl (hin rfl) rfl (tyX4_ok 6 (by decide)) rfl rfl (Nat.le_of_ble_eq_true rfl) dX4_init_97 (fun H locs hP hD hS => ?_)
  replace hP : va_P D vwCl ([(p_, .inr (4, [.int x0, .int x1, .int x2, .int x3, .ref rs, .long bt, .int (f 1), .int 0, .int 0, .ref q_1, .ref q_2, .int 0, .int 0, .int 0, .int 0, .int 0, .int 0, .int 0])), (t 0, .inr (6, [.ref (t 1)])), (t 1, .inl (k 0, 9, .inl f)), (q_1, .inl (k 0, 6, .inl (fun _ => 0))), (q_2, .inl (k 0, 6, .inl (fun _ => 0)))]) H := hP
  replace hD : va_D A ([(p_, .inr (4, [.int x0, .int x1, .int x2, .int x3, .ref rs, .long bt, .int (f 1), .int 0, .int 0, .ref q_1, .ref q_2, .int 0, .int 0, .int 0, .int 0, .int 0, .int 0, .int 0])), (t 0, .inr (6, [.ref (t 1)])), (t 1, .inl (k 0, 9, .inl f)), (q_1, .inl (k 0, 6, .inl (fun _ => 0))), (q_2, .inl (k 0, 6, .inl (fun _ => 0)))]) := hD
  refine lv_aload_n hx hb dX4_init_100 rfl (lv_at hl 0 rfl) ?_
  refine lv_aload hx hb dX4_init_101 (lv_at hl 7 rfl) ?_
  refine va_gets (n := "LATE") (v := .ref (ke 4)) hx hb (hG.2.2.2.2.2.2.2.2.1 4 (by decide)) hS hown (hts _ wd_3_27) (fun _ h9 => h9) dX4_init_103 ?_
  refine ro_V (rest := [.ref p_]) (st1 := [.int (f 4), .ref p_]) (As := [.ref (ke 4)]) ⟨hx, hb, hml, hown, hts⟩ GdK hG hS hK (c_X6_current l D k kz ke sK sV t f 4 (by decide)) mi_X6_current wd_2_88 wd_2_89 wd_3_26 ⟨Nat.le_of_ble_eq_true rfl, Nat.le_of_ble_eq_true rfl⟩ (hP.sub [1, 2] rfl) 0 rfl rfl rfl hl.1 rfl (Nat.le_of_ble_eq_true rfl) rfl ⟨Nat.le_of_ble_eq_true rfl, Nat.le_of_ble_eq_true rfl⟩ dX4_init_106 ?_
  refine va_putF (D := D) (ci := 4) (v := .int (f 4)) (C := RX4) (T := TX4) (N := 18) hx hb hts inX4 tyX4 tyX4_ok nmX4 hown hK hP hD hS 0 rfl rfl 7 (by decide) (hts _ wd_3_50) (fun _ h9 => h9) rfl (hin rfl) rfl (tyX4_ok 7 (by decide)) rfl rfl (Nat.le_of_ble_eq_true rfl) dX4_init_109 (fun H locs hP hD hS => ?_)
  replace hP : va_P D vwCl ([(p_, .inr (4, [.int x0, .int x1, .int x2, .int x3, .ref rs, .long bt, .int (f 1), .int (f 4), .int 0, .ref q_1, .ref q_2, .int 0, .int 0, .int 0, .int 0, .int 0, .int 0, .int 0])), (t 0, .inr (6, [.ref (t 1)])), (t 1, .inl (k 0, 9, .inl f)), (q_1, .inl (k 0, 6, .inl (fun _ => 0))), (q_2, .inl (k 0, 6, .inl (fun _ => 0)))]) H := hP
  replace hD : va_D A ([(p_, .inr (4, [.int x0, .int x1, .int x2, .int x3, .ref rs, .long bt, .int (f 1), .int (f 4), .int 0, .ref q_1, .ref q_2, .int 0, .int 0, .int 0, .int 0, .int 0, .int 0, .int 0])), (t 0, .inr (6, [.ref (t 1)])), (t 1, .inl (k 0, 9, .inl f)), (q_1, .inl (k 0, 6, .inl (fun _ => 0))), (q_2, .inl (k 0, 6, .inl (fun _ => 0)))]) := hD
  refine lv_aload_n hx hb dX4_init_112 rfl (lv_at hl 0 rfl) ?_
  refine lv_aload hx hb dX4_init_113 (lv_at hl 7 rfl) ?_
  refine va_gets (n := "CALL") (v := .ref (ke 5)) hx hb (hG.2.2.2.2.2.2.2.2.1 5 (by decide)) hS hown (hts _ wd_3_29) (fun _ h9 => h9) dX4_init_115 ?_
  refine ro_V (rest := [.ref p_]) (st1 := [.int (f 5), .ref p_]) (As := [.ref (ke 5)]) ⟨hx, hb, hml, hown, hts⟩ GdK hG hS hK (c_X6_current l D k kz ke sK sV t f 5 (by decide)) mi_X6_current wd_2_88 wd_2_89 wd_3_26 ⟨Nat.le_of_ble_eq_true rfl, Nat.le_of_ble_eq_true rfl⟩ (hP.sub [1, 2] rfl) 0 rfl rfl rfl hl.1 rfl (Nat.le_of_ble_eq_true rfl) rfl ⟨Nat.le_of_ble_eq_true rfl, Nat.le_of_ble_eq_true rfl⟩ dX4_init_118 ?_
  refine va_putF (D := D) (ci := 4) (v := .int (f 5)) (C := RX4) (T := TX4) (N := 18) hx hb hts inX4 tyX4 tyX4_ok nmX4 hown hK hP hD hS 0 rfl rfl 8 (by decide) (hts _ wd_3_51) (fun _ h9 => h9) rfl (hin rfl) rfl (tyX4_ok 8 (by decide)) rfl rfl (Nat.le_of_ble_eq_true rfl) dX4_init_121 (fun H locs hP hD hS => ?_)
  replace hP : va_P D vwCl ([(p_, .inr (4, [.int x0, .int x1, .int x2, .int x3, .ref rs, .long bt, .int (f 1), .int (f 4), .int (f 5), .ref q_1, .ref q_2, .int 0, .int 0, .int 0, .int 0, .int 0, .int 0, .int 0])), (t 0, .inr (6, [.ref (t 1)])), (t 1, .inl (k 0, 9, .inl f)), (q_1, .inl (k 0, 6, .inl (fun _ => 0))), (q_2, .inl (k 0, 6, .inl (fun _ => 0)))]) H := hP
  replace hD : va_D A ([(p_, .inr (4, [.int x0, .int x1, .int x2, .int x3, .ref rs, .long bt, .int (f 1), .int (f 4), .int (f 5), .ref q_1, .ref q_2, .int 0, .int 0, .int 0, .int 0, .int 0, .int 0, .int 0])), (t 0, .inr (6, [.ref (t 1)])), (t 1, .inl (k 0, 9, .inl f)), (q_1, .inl (k 0, 6, .inl (fun _ => 0))), (q_2, .inl (k 0, 6, .inl (fun _ => 0)))]) := hD
  exact fs_v hx hb hr hlocks hq (q_1, q_2) trivial hP hD hS dX4_init_124 rfl
