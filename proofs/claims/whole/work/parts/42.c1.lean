set_option maxHeartbeats 4000000 in
set_option maxRecDepth 100000 in
theorem c_X7_length (l : Launch) (D : va_G) (k : Nat → ClassId) (t : Nat → Nat) (n : Nat) (f : Nat → Int32) : Ro l yX7_length cX7_length 1 (some .int) 0 D (TY k) G0 [.ref (t 0)] (bT t k (n, f)) (some (.int (nI n))) := by
  refine ro_body (by decide +kernel) (Nat.le_of_ble_eq_true rfl) ?_
  intro p e s m args below meth c_ Q hx hb hml hown hts hK hP hS hG hr hq hlocks ls hl
  replace hl : lv_has ls 1 [(0, .ref (t 0))] := hl
  change s.vm.findClass RX7 = some m.cls at hown
  refine lv_aload_n hx hb dX7_length_0 rfl (lv_at hl 0 rfl) ?_
  refine va_get (D := D) (ci := 7) (v := .int (nI n)) (C := RX7) (T := TX7) (N := 2) hx hb hts inX7 hown hK hP 0 rfl rfl 1 (by decide) (hts _ wd_1_43) (fun _ h9 => h9) rfl dX7_length_1 ?_
  exact ro_i hx hb hr hlocks hq dX7_length_4 (rfl)
set_option maxHeartbeats 4000000 in
set_option maxRecDepth 100000 in
theorem c_X7_hasRoomForFive (l : Launch) (D : va_G) (k : Nat → ClassId) (t : Nat → Nat) (n : Nat) (f : Nat → Int32) (hn : n ≤ 320) : Ro l yX7_hasRoomForFive cX7_hasRoomForFive 1 (some .boolean) 0 D (TY k) G0 [.ref (t 0)] (bT t k (n, f)) (some (.int (bI (!decide (320 < n + 20))))) := by
  refine ro_body (by decide +kernel) (Nat.le_of_ble_eq_true rfl) ?_
  intro p e s m args below meth c_ Q hx hb hml hown hts hK hP hS hG hr hq hlocks ls hl
  replace hl : lv_has ls 1 [(0, .ref (t 0))] := hl
  change s.vm.findClass RX7 = some m.cls at hown
  refine lv_aload_n hx hb dX7_hasRoomForFive_0 rfl (lv_at hl 0 rfl) ?_
  refine va_get (D := D) (ci := 7) (v := .int (nI n)) (C := RX7) (T := TX7) (N := 2) hx hb hts inX7 hown hK hP 0 rfl rfl 1 (by decide) (hts _ wd_1_43) (fun _ h9 => h9) rfl dX7_hasRoomForFive_1 ?_
  refine lv_bipush (v := 20) hx hb dX7_hasRoomForFive_4 (by decide) ?_
  refine lv_iadd hx hb dX7_hasRoomForFive_6 ?_
  refine rw_topi (y := nI (n + 20)) (nI_add _ _) ?_
  refine lv_sipush (v := 320) hx hb dX7_hasRoomForFive_7 (by decide) ?_
  refine lv_icmp_gt (tgt := 17) hx hb dX7_hasRoomForFive_10 (by decide) (fun c10 => ?_) (fun c10 => ?_)
  · replace c10 : 320 < (n + 20) := (nI_ltI (a := 320) (b := n + 20) (by omega) (by omega)).mp c10
    refine lv_iconst (v := 0) hx hb dX7_hasRoomForFive_17 (by decide) ?_
    exact ro_z hx hb hr hlocks hq (rfl) dX7_hasRoomForFive_18 (by simp [bI, c10])
  · replace c10 : ¬ (320 < (n + 20)) := fun z => c10 ((nI_ltI (a := 320) (b := n + 20) (by omega) (by omega)).mpr z)
    refine lv_iconst (v := 1) hx hb dX7_hasRoomForFive_13 (by decide) ?_
    refine lv_goto (tgt := 18) hx hb dX7_hasRoomForFive_14 (by decide) ?_
    exact ro_z hx hb hr hlocks hq (rfl) dX7_hasRoomForFive_18 (by simp [bI, c10])
set_option maxHeartbeats 4000000 in
set_option maxRecDepth 100000 in
theorem c_X7_byteAt (l : Launch) (D : va_G) (k : Nat → ClassId) (t : Nat → Nat) (n : Nat) (f : Nat → Int32) (x : Int32) (hn : n ≤ 320) : Ro l yX7_byteAt cX7_byteAt 2 (some .int) 0 D (TY k) G0 [.ref (t 0), .int x] (bT t k (n, f)) (some (.int (if x < 0 then -1 else if nI n ≤ x then -1 else f x.toNatClampNeg))) := by
  refine ro_body (by decide +kernel) (Nat.le_of_ble_eq_true rfl) ?_
  intro p e s m args below meth c_ Q hx hb hml hown hts hK hP hS hG hr hq hlocks ls hl
  replace hl : lv_has ls 2 [(0, .ref (t 0)), (1, .int x)] := hl
  change s.vm.findClass RX7 = some m.cls at hown
  refine lv_iload_n hx hb dX7_byteAt_0 rfl (lv_at hl 1 rfl) ?_
  refine lv_if_lt (tgt := 21) hx hb dX7_byteAt_1 (by decide) (fun c1 => ?_) (fun c1 => ?_)
  · refine lv_iconst (v := (-1)) hx hb dX7_byteAt_21 (by decide) ?_
    exact ro_i hx hb hr hlocks hq dX7_byteAt_22 (by rw [if_pos c1])
  · refine lv_iload_n hx hb dX7_byteAt_4 rfl (lv_at hl 1 rfl) ?_
    refine lv_aload_n hx hb dX7_byteAt_5 rfl (lv_at hl 0 rfl) ?_
    refine va_get (D := D) (ci := 7) (v := .int (nI n)) (C := RX7) (T := TX7) (N := 2) hx hb hts inX7 hown hK hP 0 rfl rfl 1 (by decide) (hts _ wd_1_43) (fun _ h9 => h9) rfl dX7_byteAt_6 ?_
    refine lv_icmp_ge (tgt := 21) hx hb dX7_byteAt_9 (by decide) (fun c9 => ?_) (fun c9 => ?_)
    · refine lv_iconst (v := (-1)) hx hb dX7_byteAt_21 (by decide) ?_
      exact ro_i hx hb hr hlocks hq dX7_byteAt_22 (by rw [if_neg c1, if_pos c9])
    · refine lv_aload_n hx hb dX7_byteAt_12 rfl (lv_at hl 0 rfl) ?_
      refine va_get (D := D) (ci := 7) (v := .ref (t 1)) (C := RX7) (T := TX7) (N := 2) hx hb hts inX7 hown hK hP 0 rfl rfl 0 (by decide) (hts _ wd_1_42) (fun _ h9 => h9) rfl dX7_byteAt_13 ?_
      refine lv_iload_n hx hb dX7_byteAt_16 rfl (lv_at hl 1 rfl) ?_
      refine ra_iald (n := 320) (f := f) hx hb hK hP 1 0 rfl rfl x.toNatClampNeg (nI_self c1) (by have := (isIn_spec (x := x) (n := n) (by simp only [isIn, Bool.and_eq_true, Bool.not_eq_true', decide_eq_false_iff_not]; exact ⟨c1, c9⟩) (by omega)).2; omega) (by decide) dX7_byteAt_17 ?_
      refine lv_goto (tgt := 22) hx hb dX7_byteAt_18 (by decide) ?_
      exact ro_i hx hb hr hlocks hq dX7_byteAt_22 (by rw [if_neg c1, if_neg c9])
def tByt (w b : Int32) : Int32 := (w >>> (b &&& 31)) &&& 255
def tPut4 (f : Nat → Int32) (t : Nat) (w : Int32) : Nat → Int32 := upd (upd (upd (upd f t (tByt w 24)) (t + 1) (tByt w 16)) (t + 1 + 1) (tByt w 8)) (t + 1 + 1 + 1) (tByt w 0)
def tCut (x : Int32) (u : Nat × (Nat → Int32)) : Int32 × Nat × (Nat → Int32) := if x < 0 then (0, u) else if x ≤ nI u.1 then (1, (x.toNatClampNeg, u.2)) else (0, u)
set_option maxHeartbeats 4000000 in
set_option maxRecDepth 100000 in
theorem c_X7_append (l : Launch) (D : va_G) (k : Nat → ClassId) (t : Nat → Nat) (n : Nat) (f : Nat → Int32) (x : Int32) (hn : n + 4 ≤ 320) : Fs (S := Nat × (Nat → Int32)) l yX7_append cX7_append 3 none 0 0 0 D (TY k) G0 [.ref (t 0), .int x] (bT t k (n, f)) (fun _ => none) (fun u => u = (n + 4, tPut4 f n x)) (fun u => bT t k u) := by
  refine fs_body (by decide +kernel) (Nat.le_of_ble_eq_true rfl) ?_
  intro p e s m args below meth c_ Q A hx hb hml hown hts hK hP hD hS hA hG hin hr hq hlocks ls hl
  replace hl : lv_has ls 3 [(0, .ref (t 0)), (1, .int x)] := hl
  change s.vm.findClass RX7 = some m.cls at hown
  refine lv_bipush (v := 24) hx hb dX7_append_0 (by decide) ?_
  refine lv_istore_n (lv' := [(2, .int 24), (0, .ref (t 0)), (1, .int x)]) hx hb dX7_append_2 rfl hl (by decide) rfl (fun ls hl => ?_)
  refine lv_iload_n hx hb dX7_append_3 rfl (lv_at hl 0 rfl) ?_
  refine lv_if_lt (tgt := 49) hx hb dX7_append_4 (by decide) (fun c4 => absurd c4 (by decide)) (fun c4 => ?_)
  refine lv_aload_n hx hb dX7_append_7 rfl (lv_at hl 1 rfl) ?_
  refine va_get (D := D) (ci := 7) (v := .int (nI n)) (C := RX7) (T := TX7) (N := 2) hx hb hts inX7 hown hK hP 0 rfl rfl 1 (by decide) (hts _ wd_1_43) (fun _ h9 => h9) rfl dX7_append_8 ?_
  refine lv_sipush (v := 320) hx hb dX7_append_11 (by decide) ?_
  refine lv_icmp_ge (tgt := 49) hx hb dX7_append_14 (by decide) (fun c14 => absurd c14 (fun z => absurd ((nI_leI (a := 320) (b := n) (by decide) (by omega)).mp z) (by omega))) (fun c14 => ?_)
  refine lv_aload_n hx hb dX7_append_17 rfl (lv_at hl 1 rfl) ?_
  refine va_get (D := D) (ci := 7) (v := .ref (t 1)) (C := RX7) (T := TX7) (N := 2) hx hb hts inX7 hown hK hP 0 rfl rfl 0 (by decide) (hts _ wd_1_42) (fun _ h9 => h9) rfl dX7_append_18 ?_
  refine lv_aload_n hx hb dX7_append_21 rfl (lv_at hl 1 rfl) ?_
  refine va_get (D := D) (ci := 7) (v := .int (nI n)) (C := RX7) (T := TX7) (N := 2) hx hb hts inX7 hown hK hP 0 rfl rfl 1 (by decide) (hts _ wd_1_43) (fun _ h9 => h9) rfl dX7_append_22 ?_
  refine lv_iload_n hx hb dX7_append_25 rfl (lv_at hl 2 rfl) ?_
  refine lv_iload_n hx hb dX7_append_26 rfl (lv_at hl 0 rfl) ?_
  refine lv_ishr hx hb dX7_append_27 ?_
  refine lv_sipush (v := 255) hx hb dX7_append_28 (by decide) ?_
  refine lv_iand hx hb dX7_append_31 ?_
  refine ra_iast (n := 320) (f := f) hx hb hK hP hD hS 1 0 rfl rfl n rfl (by omega) (by decide) dX7_append_32 (fun H locs hP hD hS => ?_)
  replace hP : va_P D vwCl ([(t 0, .inr (7, [.ref (t 1), .int (nI n)])), (t 1, .inl (k 0, 320, .inl (upd f n ((x >>> (24 &&& 31)) &&& 255))))]) H := hP
  replace hD : va_D A ([(t 0, .inr (7, [.ref (t 1), .int (nI n)])), (t 1, .inl (k 0, 320, .inl (upd f n ((x >>> (24 &&& 31)) &&& 255))))]) := hD
  refine lv_aload_n hx hb dX7_append_33 rfl (lv_at hl 1 rfl) ?_
  refine lv_dup hx hb dX7_append_34 rfl ?_
  refine va_get (D := D) (ci := 7) (v := .int (nI n)) (C := RX7) (T := TX7) (N := 2) hx hb hts inX7 hown hK hP 0 rfl rfl 1 (by decide) (hts _ wd_1_43) (fun _ h9 => h9) rfl dX7_append_35 ?_
  refine lv_iconst (v := 1) hx hb dX7_append_38 (by decide) ?_
  refine lv_iadd hx hb dX7_append_39 ?_
  refine rw_topi (y := nI (n + 1)) (nI_add _ _) ?_
  refine va_put (D := D) (ci := 7) (v := .int (nI (n + 1))) (C := RX7) (T := TX7) (N := 2) hx hb hts inX7 tyX7 tyX7_ok nmX7 hown hK hP hD hS 0 rfl rfl 1 (by decide) (hts _ wd_1_43) (fun _ h9 => h9) rfl (tyX7_ok 1 (by decide)) rfl rfl (Nat.le_of_ble_eq_true rfl) dX7_append_40 (fun H locs hP hD hS => ?_)
  replace hP : va_P D vwCl ([(t 0, .inr (7, [.ref (t 1), .int (nI (n + 1))])), (t 1, .inl (k 0, 320, .inl (upd f n ((x >>> (24 &&& 31)) &&& 255))))]) H := hP
  replace hD : va_D A ([(t 0, .inr (7, [.ref (t 1), .int (nI (n + 1))])), (t 1, .inl (k 0, 320, .inl (upd f n ((x >>> (24 &&& 31)) &&& 255))))]) := hD
  refine lv_iinc (v := 16) (lv' := [(2, .int 16), (0, .ref (t 0)), (1, .int x)]) hx hb dX7_append_43 hl (k := 0) rfl (by decide) (by decide) rfl (fun ls hl => ?_)
  refine lv_goto (tgt := 3) hx hb dX7_append_46 (by decide) ?_
  refine lv_iload_n hx hb dX7_append_3 rfl (lv_at hl 0 rfl) ?_
  refine lv_if_lt (tgt := 49) hx hb dX7_append_4 (by decide) (fun c4 => absurd c4 (by decide)) (fun c4 => ?_)
  refine lv_aload_n hx hb dX7_append_7 rfl (lv_at hl 1 rfl) ?_
  refine va_get (D := D) (ci := 7) (v := .int (nI (n + 1))) (C := RX7) (T := TX7) (N := 2) hx hb hts inX7 hown hK hP 0 rfl rfl 1 (by decide) (hts _ wd_1_43) (fun _ h9 => h9) rfl dX7_append_8 ?_
  refine lv_sipush (v := 320) hx hb dX7_append_11 (by decide) ?_
  refine lv_icmp_ge (tgt := 49) hx hb dX7_append_14 (by decide) (fun c14 => absurd c14 (fun z => absurd ((nI_leI (a := 320) (b := n + 1) (by decide) (by omega)).mp z) (by omega))) (fun c14 => ?_)
  refine lv_aload_n hx hb dX7_append_17 rfl (lv_at hl 1 rfl) ?_
  refine va_get (D := D) (ci := 7) (v := .ref (t 1)) (C := RX7) (T := TX7) (N := 2) hx hb hts inX7 hown hK hP 0 rfl rfl 0 (by decide) (hts _ wd_1_42) (fun _ h9 => h9) rfl dX7_append_18 ?_
  refine lv_aload_n hx hb dX7_append_21 rfl (lv_at hl 1 rfl) ?_
  refine va_get (D := D) (ci := 7) (v := .int (nI (n + 1))) (C := RX7) (T := TX7) (N := 2) hx hb hts inX7 hown hK hP 0 rfl rfl 1 (by decide) (hts _ wd_1_43) (fun _ h9 => h9) rfl dX7_append_22 ?_
  refine lv_iload_n hx hb dX7_append_25 rfl (lv_at hl 2 rfl) ?_
  refine lv_iload_n hx hb dX7_append_26 rfl (lv_at hl 0 rfl) ?_
  refine lv_ishr hx hb dX7_append_27 ?_
  refine lv_sipush (v := 255) hx hb dX7_append_28 (by decide) ?_
  refine lv_iand hx hb dX7_append_31 ?_
  refine ra_iast (n := 320) (f := (upd f n ((x >>> (24 &&& 31)) &&& 255))) hx hb hK hP hD hS 1 0 rfl rfl (n + 1) rfl (by omega) (by decide) dX7_append_32 (fun H locs hP hD hS => ?_)
  replace hP : va_P D vwCl ([(t 0, .inr (7, [.ref (t 1), .int (nI (n + 1))])), (t 1, .inl (k 0, 320, .inl (upd (upd f n ((x >>> (24 &&& 31)) &&& 255)) (n + 1) ((x >>> (16 &&& 31)) &&& 255))))]) H := hP
  replace hD : va_D A ([(t 0, .inr (7, [.ref (t 1), .int (nI (n + 1))])), (t 1, .inl (k 0, 320, .inl (upd (upd f n ((x >>> (24 &&& 31)) &&& 255)) (n + 1) ((x >>> (16 &&& 31)) &&& 255))))]) := hD
  refine lv_aload_n hx hb dX7_append_33 rfl (lv_at hl 1 rfl) ?_
  refine lv_dup hx hb dX7_append_34 rfl ?_
  refine va_get (D := D) (ci := 7) (v := .int (nI (n + 1))) (C := RX7) (T := TX7) (N := 2) hx hb hts inX7 hown hK hP 0 rfl rfl 1 (by decide) (hts _ wd_1_43) (fun _ h9 => h9) rfl dX7_append_35 ?_
  refine lv_iconst (v := 1) hx hb dX7_append_38 (by decide) ?_
  refine lv_iadd hx hb dX7_append_39 ?_
  refine rw_topi (y := nI ((n + 1) + 1)) (nI_add _ _) ?_
  refine va_put (D := D) (ci := 7) (v := .int (nI ((n + 1) + 1))) (C := RX7) (T := TX7) (N := 2) hx hb hts inX7 tyX7 tyX7_ok nmX7 hown hK hP hD hS 0 rfl rfl 1 (by decide) (hts _ wd_1_43) (fun _ h9 => h9) rfl (tyX7_ok 1 (by decide)) rfl rfl (Nat.le_of_ble_eq_true rfl) dX7_append_40 (fun H locs hP hD hS => ?_)
  replace hP : va_P D vwCl ([(t 0, .inr (7, [.ref (t 1), .int (nI ((n + 1) + 1))])), (t 1, .inl (k 0, 320, .inl (upd (upd f n ((x >>> (24 &&& 31)) &&& 255)) (n + 1) ((x >>> (16 &&& 31)) &&& 255))))]) H := hP
  replace hD : va_D A ([(t 0, .inr (7, [.ref (t 1), .int (nI ((n + 1) + 1))])), (t 1, .inl (k 0, 320, .inl (upd (upd f n ((x >>> (24 &&& 31)) &&& 255)) (n + 1) ((x >>> (16 &&& 31)) &&& 255))))]) := hD
  refine lv_iinc (v := 8) (lv' := [(2, .int 8), (0, .ref (t 0)), (1, .int x)]) hx hb dX7_append_43 hl (k := 0) rfl (by decide) (by decide) rfl (fun ls hl => ?_)
  refine lv_goto (tgt := 3) hx hb dX7_append_46 (by decide) ?_
  refine lv_iload_n hx hb dX7_append_3 rfl (lv_at hl 0 rfl) ?_
  refine lv_if_lt (tgt := 49) hx hb dX7_append_4 (by decide) (fun c4 => absurd c4 (by decide)) (fun c4 => ?_)
  refine lv_aload_n hx hb dX7_append_7 rfl (lv_at hl 1 rfl) ?_
  refine va_get (D := D) (ci := 7) (v := .int (nI ((n + 1) + 1))) (C := RX7) (T := TX7) (N := 2) hx hb hts inX7 hown hK hP 0 rfl rfl 1 (by decide) (hts _ wd_1_43) (fun _ h9 => h9) rfl dX7_append_8 ?_
  refine lv_sipush (v := 320) hx hb dX7_append_11 (by decide) ?_
  refine lv_icmp_ge (tgt := 49) hx hb dX7_append_14 (by decide) (fun c14 => absurd c14 (fun z => absurd ((nI_leI (a := 320) (b := (n + 1) + 1) (by decide) (by omega)).mp z) (by omega))) (fun c14 => ?_)
  refine lv_aload_n hx hb dX7_append_17 rfl (lv_at hl 1 rfl) ?_
  refine va_get (D := D) (ci := 7) (v := .ref (t 1)) (C := RX7) (T := TX7) (N := 2) hx hb hts inX7 hown hK hP 0 rfl rfl 0 (by decide) (hts _ wd_1_42) (fun _ h9 => h9) rfl dX7_append_18 ?_
  refine lv_aload_n hx hb dX7_append_21 rfl (lv_at hl 1 rfl) ?_
  refine va_get (D := D) (ci := 7) (v := .int (nI ((n + 1) + 1))) (C := RX7) (T := TX7) (N := 2) hx hb hts inX7 hown hK hP 0 rfl rfl 1 (by decide) (hts _ wd_1_43) (fun _ h9 => h9) rfl dX7_append_22 ?_
  refine lv_iload_n hx hb dX7_append_25 rfl (lv_at hl 2 rfl) ?_
  refine lv_iload_n hx hb dX7_append_26 rfl (lv_at hl 0 rfl) ?_
  refine lv_ishr hx hb dX7_append_27 ?_
  refine lv_sipush (v := 255) hx hb dX7_append_28 (by decide) ?_
  refine lv_iand hx hb dX7_append_31 ?_
  refine ra_iast (n := 320) (f := (upd (upd f n ((x >>> (24 &&& 31)) &&& 255)) (n + 1) ((x >>> (16 &&& 31)) &&& 255))) hx hb hK hP hD hS 1 0 rfl rfl ((n + 1) + 1) rfl (by omega) (by decide) dX7_append_32 (fun H locs hP hD hS => ?_)
  replace hP : va_P D vwCl ([(t 0, .inr (7, [.ref (t 1), .int (nI ((n + 1) + 1))])), (t 1, .inl (k 0, 320, .inl (upd (upd (upd f n ((x >>> (24 &&& 31)) &&& 255)) (n + 1) ((x >>> (16 &&& 31)) &&& 255)) ((n + 1) + 1) ((x >>> (8 &&& 31)) &&& 255))))]) H := hP
  replace hD : va_D A ([(t 0, .inr (7, [.ref (t 1), .int (nI ((n + 1) + 1))])), (t 1, .inl (k 0, 320, .inl (upd (upd (upd f n ((x >>> (24 &&& 31)) &&& 255)) (n + 1) ((x >>> (16 &&& 31)) &&& 255)) ((n + 1) + 1) ((x >>> (8 &&& 31)) &&& 255))))]) := hD
  refine lv_aload_n hx hb dX7_append_33 rfl (lv_at hl 1 rfl) ?_
  refine lv_dup hx hb dX7_append_34 rfl ?_
  refine va_get (D := D) (ci := 7) (v := .int (nI ((n + 1) + 1))) (C := RX7) (T := TX7) (N := 2) hx hb hts inX7 hown hK hP 0 rfl rfl 1 (by decide) (hts _ wd_1_43) (fun _ h9 => h9) rfl dX7_append_35 ?_
  refine lv_iconst (v := 1) hx hb dX7_append_38 (by decide) ?_
  refine lv_iadd hx hb dX7_append_39 ?_
  refine rw_topi (y := nI (((n + 1) + 1) + 1)) (nI_add _ _) ?_
  refine va_put (D := D) (ci := 7) (v := .int (nI (((n + 1) + 1) + 1))) (C := RX7) (T := TX7) (N := 2) hx hb hts inX7 tyX7 tyX7_ok nmX7 hown hK hP hD hS 0 rfl rfl 1 (by decide) (hts _ wd_1_43) (fun _ h9 => h9) rfl (tyX7_ok 1 (by decide)) rfl rfl (Nat.le_of_ble_eq_true rfl) dX7_append_40 (fun H locs hP hD hS => ?_)
  replace hP : va_P D vwCl ([(t 0, .inr (7, [.ref (t 1), .int (nI (((n + 1) + 1) + 1))])), (t 1, .inl (k 0, 320, .inl (upd (upd (upd f n ((x >>> (24 &&& 31)) &&& 255)) (n + 1) ((x >>> (16 &&& 31)) &&& 255)) ((n + 1) + 1) ((x >>> (8 &&& 31)) &&& 255))))]) H := hP
  replace hD : va_D A ([(t 0, .inr (7, [.ref (t 1), .int (nI (((n + 1) + 1) + 1))])), (t 1, .inl (k 0, 320, .inl (upd (upd (upd f n ((x >>> (24 &&& 31)) &&& 255)) (n + 1) ((x >>> (16 &&& 31)) &&& 255)) ((n + 1) + 1) ((x >>> (8 &&& 31)) &&& 255))))]) := hD
  refine lv_iinc (v := 0) (lv' := [(2, .int 0), (0, .ref (t 0)), (1, .int x)]) hx hb dX7_append_43 hl (k := 0) rfl (by decide) (by decide) rfl (fun ls hl => ?_)
  refine lv_goto (tgt := 3) hx hb dX7_append_46 (by decide) ?_
  refine lv_iload_n hx hb dX7_append_3 rfl (lv_at hl 0 rfl) ?_
  refine lv_if_lt (tgt := 49) hx hb dX7_append_4 (by decide) (fun c4 => absurd c4 (by decide)) (fun c4 => ?_)
  refine lv_aload_n hx hb dX7_append_7 rfl (lv_at hl 1 rfl) ?_
  refine va_get (D := D) (ci := 7) (v := .int (nI (((n + 1) + 1) + 1))) (C := RX7) (T := TX7) (N := 2) hx hb hts inX7 hown hK hP 0 rfl rfl 1 (by decide) (hts _ wd_1_43) (fun _ h9 => h9) rfl dX7_append_8 ?_
  refine lv_sipush (v := 320) hx hb dX7_append_11 (by decide) ?_
  refine lv_icmp_ge (tgt := 49) hx hb dX7_append_14 (by decide) (fun c14 => absurd c14 (fun z => absurd ((nI_leI (a := 320) (b := ((n + 1) + 1) + 1) (by decide) (by omega)).mp z) (by omega))) (fun c14 => ?_)
  refine lv_aload_n hx hb dX7_append_17 rfl (lv_at hl 1 rfl) ?_
  refine va_get (D := D) (ci := 7) (v := .ref (t 1)) (C := RX7) (T := TX7) (N := 2) hx hb hts inX7 hown hK hP 0 rfl rfl 0 (by decide) (hts _ wd_1_42) (fun _ h9 => h9) rfl dX7_append_18 ?_
  refine lv_aload_n hx hb dX7_append_21 rfl (lv_at hl 1 rfl) ?_
  refine va_get (D := D) (ci := 7) (v := .int (nI (((n + 1) + 1) + 1))) (C := RX7) (T := TX7) (N := 2) hx hb hts inX7 hown hK hP 0 rfl rfl 1 (by decide) (hts _ wd_1_43) (fun _ h9 => h9) rfl dX7_append_22 ?_
  refine lv_iload_n hx hb dX7_append_25 rfl (lv_at hl 2 rfl) ?_
  refine lv_iload_n hx hb dX7_append_26 rfl (lv_at hl 0 rfl) ?_
  refine lv_ishr hx hb dX7_append_27 ?_
  refine lv_sipush (v := 255) hx hb dX7_append_28 (by decide) ?_
  refine lv_iand hx hb dX7_append_31 ?_
  refine ra_iast (n := 320) (f := (upd (upd (upd f n ((x >>> (24 &&& 31)) &&& 255)) (n + 1) ((x >>> (16 &&& 31)) &&& 255)) ((n + 1) + 1) ((x >>> (8 &&& 31)) &&& 255))) hx hb hK hP hD hS 1 0 rfl rfl (((n + 1) + 1) + 1) rfl (by omega) (by decide) dX7_append_32 (fun H locs hP hD hS => ?_)
  replace hP : va_P D vwCl ([(t 0, .inr (7, [.ref (t 1), .int (nI (((n + 1) + 1) + 1))])), (t 1, .inl (k 0, 320, .inl (upd (upd (upd (upd f n ((x >>> (24 &&& 31)) &&& 255)) (n + 1) ((x >>> (16 &&& 31)) &&& 255)) ((n + 1) + 1) ((x >>> (8 &&& 31)) &&& 255)) (((n + 1) + 1) + 1) ((x >>> (0 &&& 31)) &&& 255))))]) H := hP
  replace hD : va_D A ([(t 0, .inr (7, [.ref (t 1), .int (nI (((n + 1) + 1) + 1))])), (t 1, .inl (k 0, 320, .inl (upd (upd (upd (upd f n ((x >>> (24 &&& 31)) &&& 255)) (n + 1) ((x >>> (16 &&& 31)) &&& 255)) ((n + 1) + 1) ((x >>> (8 &&& 31)) &&& 255)) (((n + 1) + 1) + 1) ((x >>> (0 &&& 31)) &&& 255))))]) := hD
  refine lv_aload_n hx hb dX7_append_33 rfl (lv_at hl 1 rfl) ?_
  refine lv_dup hx hb dX7_append_34 rfl ?_
  refine va_get (D := D) (ci := 7) (v := .int (nI (((n + 1) + 1) + 1))) (C := RX7) (T := TX7) (N := 2) hx hb hts inX7 hown hK hP 0 rfl rfl 1 (by decide) (hts _ wd_1_43) (fun _ h9 => h9) rfl dX7_append_35 ?_
  refine lv_iconst (v := 1) hx hb dX7_append_38 (by decide) ?_
  refine lv_iadd hx hb dX7_append_39 ?_
  refine rw_topi (y := nI ((((n + 1) + 1) + 1) + 1)) (nI_add _ _) ?_
  refine va_put (D := D) (ci := 7) (v := .int (nI ((((n + 1) + 1) + 1) + 1))) (C := RX7) (T := TX7) (N := 2) hx hb hts inX7 tyX7 tyX7_ok nmX7 hown hK hP hD hS 0 rfl rfl 1 (by decide) (hts _ wd_1_43) (fun _ h9 => h9) rfl (tyX7_ok 1 (by decide)) rfl rfl (Nat.le_of_ble_eq_true rfl) dX7_append_40 (fun H locs hP hD hS => ?_)
  replace hP : va_P D vwCl ([(t 0, .inr (7, [.ref (t 1), .int (nI ((((n + 1) + 1) + 1) + 1))])), (t 1, .inl (k 0, 320, .inl (upd (upd (upd (upd f n ((x >>> (24 &&& 31)) &&& 255)) (n + 1) ((x >>> (16 &&& 31)) &&& 255)) ((n + 1) + 1) ((x >>> (8 &&& 31)) &&& 255)) (((n + 1) + 1) + 1) ((x >>> (0 &&& 31)) &&& 255))))]) H := hP
  replace hD : va_D A ([(t 0, .inr (7, [.ref (t 1), .int (nI ((((n + 1) + 1) + 1) + 1))])), (t 1, .inl (k 0, 320, .inl (upd (upd (upd (upd f n ((x >>> (24 &&& 31)) &&& 255)) (n + 1) ((x >>> (16 &&& 31)) &&& 255)) ((n + 1) + 1) ((x >>> (8 &&& 31)) &&& 255)) (((n + 1) + 1) + 1) ((x >>> (0 &&& 31)) &&& 255))))]) := hD
  refine lv_iinc (v := (-8)) (lv' := [(2, .int (-8)), (0, .ref (t 0)), (1, .int x)]) hx hb dX7_append_43 hl (k := 0) rfl (by decide) (by decide) rfl (fun ls hl => ?_)
  refine lv_goto (tgt := 3) hx hb dX7_append_46 (by decide) ?_
  refine lv_iload_n hx hb dX7_append_3 rfl (lv_at hl 0 rfl) ?_
  refine lv_if_lt (tgt := 49) hx hb dX7_append_4 (by decide) (fun c4 => ?_) (fun c4 => absurd (by decide) c4)
  exact fs_v hx hb hr hlocks hq ((((n + 1) + 1) + 1) + 1, upd (upd (upd (upd f n ((x >>> (24 &&& 31)) &&& 255)) (n + 1) ((x >>> (16 &&& 31)) &&& 255)) ((n + 1) + 1) ((x >>> (8 &&& 31)) &&& 255)) (((n + 1) + 1) + 1) ((x >>> (0 &&& 31)) &&& 255)) (rfl) hP hD hS dX7_append_49 rfl
set_option maxHeartbeats 4000000 in
set_option maxRecDepth 100000 in
theorem c_X7_cutTo (l : Launch) (D : va_G) (k : Nat → ClassId) (t : Nat → Nat) (n : Nat) (f : Nat → Int32) (x : Int32) (hn : n ≤ 320) : Fs (S := Int32 × (Nat × (Nat → Int32))) l yX7_cutTo cX7_cutTo 2 (some .boolean) 0 0 0 D (TY k) G0 [.ref (t 0), .int x] (bT t k (n, f)) (fun u => some (.int u.1)) (fun u => u = tCut x (n, f)) (fun u => bT t k u.2) := by
  refine fs_body (by decide +kernel) (Nat.le_of_ble_eq_true rfl) ?_
  intro p e s m args below meth c_ Q A hx hb hml hown hts hK hP hD hS hA hG hin hr hq hlocks ls hl
  replace hl : lv_has ls 2 [(0, .ref (t 0)), (1, .int x)] := hl
  change s.vm.findClass RX7 = some m.cls at hown
  refine lv_iload_n hx hb dX7_cutTo_0 rfl (lv_at hl 1 rfl) ?_
  refine lv_if_lt (tgt := 12) hx hb dX7_cutTo_1 (by decide) (fun c1 => ?_) (fun c1 => ?_)
  · refine lv_iconst (v := 0) hx hb dX7_cutTo_12 (by decide) ?_
    exact fs_z hx hb hr hlocks hq (0, (n, f)) (by rw [tCut, if_pos c1]) hP hD hS (rfl) dX7_cutTo_13 rfl
  · refine lv_iload_n hx hb dX7_cutTo_4 rfl (lv_at hl 1 rfl) ?_
    refine lv_aload_n hx hb dX7_cutTo_5 rfl (lv_at hl 0 rfl) ?_
    refine va_get (D := D) (ci := 7) (v := .int (nI n)) (C := RX7) (T := TX7) (N := 2) hx hb hts inX7 hown hK hP 0 rfl rfl 1 (by decide) (hts _ wd_1_43) (fun _ h9 => h9) rfl dX7_cutTo_6 ?_
    refine lv_icmp_le (tgt := 14) hx hb dX7_cutTo_9 (by decide) (fun c9 => ?_) (fun c9 => ?_)
    · refine lv_aload_n hx hb dX7_cutTo_14 rfl (lv_at hl 0 rfl) ?_
      refine lv_iload_n hx hb dX7_cutTo_15 rfl (lv_at hl 1 rfl) ?_
      refine rw_topi (y := nI x.toNatClampNeg) (nI_self c1) ?_
      refine va_put (D := D) (ci := 7) (v := .int (nI x.toNatClampNeg)) (C := RX7) (T := TX7) (N := 2) hx hb hts inX7 tyX7 tyX7_ok nmX7 hown hK hP hD hS 0 rfl rfl 1 (by decide) (hts _ wd_1_43) (fun _ h9 => h9) rfl (tyX7_ok 1 (by decide)) rfl rfl (Nat.le_of_ble_eq_true rfl) dX7_cutTo_16 (fun H locs hP hD hS => ?_)
      replace hP : va_P D vwCl ([(t 0, .inr (7, [.ref (t 1), .int (nI x.toNatClampNeg)])), (t 1, .inl (k 0, 320, .inl f))]) H := hP
      replace hD : va_D A ([(t 0, .inr (7, [.ref (t 1), .int (nI x.toNatClampNeg)])), (t 1, .inl (k 0, 320, .inl f))]) := hD
      refine lv_iconst (v := 1) hx hb dX7_cutTo_19 (by decide) ?_
      exact fs_z hx hb hr hlocks hq (1, (x.toNatClampNeg, f)) (by rw [tCut, if_neg c1, if_pos c9]) hP hD hS (rfl) dX7_cutTo_20 rfl
    · refine lv_iconst (v := 0) hx hb dX7_cutTo_12 (by decide) ?_
      exact fs_z hx hb hr hlocks hq (0, (n, f)) (by rw [tCut, if_neg c1, if_neg c9]) hP hD hS (rfl) dX7_cutTo_13 rfl
set_option maxHeartbeats 4000000 in
set_option maxRecDepth 100000 in
theorem c_X0_rest (l : Launch) (D : va_G) (k : Nat → ClassId) (p_ : Nat) (pe : Int32) (lo : Nat) (sm pa : Int32) : Ro l yX0_rest cX0_rest 1 (some .int) 0 D (TY k) G0 [.ref p_] ([cK p_ pe lo sm pa]) (some (.int (sm - pa))) := by
  refine ro_body (by decide +kernel) (Nat.le_of_ble_eq_true rfl) ?_
  intro p e s m args below meth c_ Q hx hb hml hown hts hK hP hS hG hr hq hlocks ls hl
  replace hl : lv_has ls 1 [(0, .ref p_)] := hl
  change s.vm.findClass RX0 = some m.cls at hown
  refine lv_aload_n hx hb dX0_rest_0 rfl (lv_at hl 0 rfl) ?_
  refine va_get (D := D) (ci := 1) (v := .int sm) (C := RX0) (T := TX0) (N := 4) hx hb hts inX0 hown hK hP 0 rfl rfl 2 (by decide) (hts _ wd_4_22) (fun _ h9 => h9) rfl dX0_rest_1 ?_
  refine lv_aload_n hx hb dX0_rest_4 rfl (lv_at hl 0 rfl) ?_
  refine va_get (D := D) (ci := 1) (v := .int pa) (C := RX0) (T := TX0) (N := 4) hx hb hts inX0 hown hK hP 0 rfl rfl 3 (by decide) (hts _ wd_4_23) (fun _ h9 => h9) rfl dX0_rest_5 ?_
  refine lv_isub hx hb dX0_rest_8 ?_
  exact ro_i hx hb hr hlocks hq dX0_rest_9 (rfl)
set_option maxHeartbeats 4000000 in
set_option maxRecDepth 100000 in
theorem c_X0_receive (l : Launch) (D : va_G) (k : Nat → ClassId) (p_ : Nat) (pe : Int32) (lo : Nat) (sm pa : Int32) (x : Int32) : Fs (S := Int32) l yX0_receive cX0_receive 2 none 0 0 0 D (TY k) G0 [.ref p_, .int x] ([cK p_ pe lo sm pa]) (fun _ => none) (fun u => u = pa + x) (fun u => [cK p_ pe lo sm u]) := by
  refine fs_body (by decide +kernel) (Nat.le_of_ble_eq_true rfl) ?_
  intro p e s m args below meth c_ Q A hx hb hml hown hts hK hP hD hS hA hG hin hr hq hlocks ls hl
  replace hl : lv_has ls 2 [(0, .ref p_), (1, .int x)] := hl
  change s.vm.findClass RX0 = some m.cls at hown
  refine lv_aload_n hx hb dX0_receive_0 rfl (lv_at hl 0 rfl) ?_
  refine lv_dup hx hb dX0_receive_1 rfl ?_
  refine va_get (D := D) (ci := 1) (v := .int pa) (C := RX0) (T := TX0) (N := 4) hx hb hts inX0 hown hK hP 0 rfl rfl 3 (by decide) (hts _ wd_4_23) (fun _ h9 => h9) rfl dX0_receive_2 ?_
  refine lv_iload_n hx hb dX0_receive_5 rfl (lv_at hl 1 rfl) ?_
  refine lv_iadd hx hb dX0_receive_6 ?_
  refine va_put (D := D) (ci := 1) (v := .int (pa + x)) (C := RX0) (T := TX0) (N := 4) hx hb hts inX0 tyX0 tyX0_ok nmX0 hown hK hP hD hS 0 rfl rfl 3 (by decide) (hts _ wd_4_23) (fun _ h9 => h9) rfl (tyX0_ok 3 (by decide)) rfl rfl (Nat.le_of_ble_eq_true rfl) dX0_receive_7 (fun H locs hP hD hS => ?_)
  replace hP : va_P D vwCl ([(p_, .inr (1, [.int pe, .ref lo, .int sm, .int (pa + x)]))]) H := hP
  replace hD : va_D A ([(p_, .inr (1, [.int pe, .ref lo, .int sm, .int (pa + x)]))]) := hD
  exact fs_v hx hb hr hlocks hq (pa + x) (rfl) hP hD hS dX0_receive_10 rfl
set_option maxHeartbeats 4000000 in
set_option maxRecDepth 100000 in
theorem c_X1_howMany (l : Launch) (D : va_G) (k : Nat → ClassId) (t : Nat → Nat) (n : Nat) (g : Int32) (a : Nat → Nat → Int32) : Ro l yX1_howMany cX1_howMany 1 (some .int) 0 D (TY k) G0 [.ref (t 0)] (bF t k (n, g, a)) (some (.int (nI n))) := by
  refine ro_body (by decide +kernel) (Nat.le_of_ble_eq_true rfl) ?_
  intro p e s m args below meth c_ Q hx hb hml hown hts hK hP hS hG hr hq hlocks ls hl
  replace hl : lv_has ls 1 [(0, .ref (t 0))] := hl
  change s.vm.findClass RX1 = some m.cls at hown
  refine lv_aload_n hx hb dX1_howMany_0 rfl (lv_at hl 0 rfl) ?_
  refine va_get (D := D) (ci := 2) (v := .int (nI n)) (C := RX1) (T := TX1) (N := 6) hx hb hts inX1 hown hK hP 0 rfl rfl 4 (by decide) (hts _ wd_1_99) (fun _ h9 => h9) rfl dX1_howMany_1 ?_
  exact ro_i hx hb hr hlocks hq dX1_howMany_4 (rfl)
set_option maxHeartbeats 4000000 in
set_option maxRecDepth 100000 in
theorem c_X1_givenInAll (l : Launch) (D : va_G) (k : Nat → ClassId) (t : Nat → Nat) (n : Nat) (g : Int32) (a : Nat → Nat → Int32) : Ro l yX1_givenInAll cX1_givenInAll 1 (some .int) 0 D (TY k) G0 [.ref (t 0)] (bF t k (n, g, a)) (some (.int g)) := by
  refine ro_body (by decide +kernel) (Nat.le_of_ble_eq_true rfl) ?_
  intro p e s m args below meth c_ Q hx hb hml hown hts hK hP hS hG hr hq hlocks ls hl
  replace hl : lv_has ls 1 [(0, .ref (t 0))] := hl
  change s.vm.findClass RX1 = some m.cls at hown
  refine lv_aload_n hx hb dX1_givenInAll_0 rfl (lv_at hl 0 rfl) ?_
  refine va_get (D := D) (ci := 2) (v := .int g) (C := RX1) (T := TX1) (N := 6) hx hb hts inX1 hown hK hP 0 rfl rfl 5 (by decide) (hts _ wd_1_100) (fun _ h9 => h9) rfl dX1_givenInAll_1 ?_
  exact ro_i hx hb hr hlocks hq dX1_givenInAll_4 (rfl)
set_option maxHeartbeats 4000000 in
set_option maxRecDepth 100000 in
theorem c_X1_has (l : Launch) (D : va_G) (k : Nat → ClassId) (t : Nat → Nat) (n : Nat) (g : Int32) (a : Nat → Nat → Int32) (x : Int32) : Ro l yX1_has cX1_has 2 (some .boolean) 0 D (TY k) G0 [.ref (t 0), .int x] (bF t k (n, g, a)) (some (.int (bI (isIn x n)))) := by
  refine ro_body (by decide +kernel) (Nat.le_of_ble_eq_true rfl) ?_
  intro p e s m args below meth c_ Q hx hb hml hown hts hK hP hS hG hr hq hlocks ls hl
  replace hl : lv_has ls 2 [(0, .ref (t 0)), (1, .int x)] := hl
  change s.vm.findClass RX1 = some m.cls at hown
  refine lv_iload_n hx hb dX1_has_0 rfl (lv_at hl 1 rfl) ?_
  refine lv_if_lt (tgt := 16) hx hb dX1_has_1 (by decide) (fun c1 => ?_) (fun c1 => ?_)
  · refine lv_iconst (v := 0) hx hb dX1_has_16 (by decide) ?_
    exact ro_z hx hb hr hlocks hq (rfl) dX1_has_17 (by simp [bI, isIn, c1])
  · refine lv_iload_n hx hb dX1_has_4 rfl (lv_at hl 1 rfl) ?_
    refine lv_aload_n hx hb dX1_has_5 rfl (lv_at hl 0 rfl) ?_
    refine va_get (D := D) (ci := 2) (v := .int (nI n)) (C := RX1) (T := TX1) (N := 6) hx hb hts inX1 hown hK hP 0 rfl rfl 4 (by decide) (hts _ wd_1_99) (fun _ h9 => h9) rfl dX1_has_6 ?_
    refine lv_icmp_ge (tgt := 16) hx hb dX1_has_9 (by decide) (fun c9 => ?_) (fun c9 => ?_)
    · refine lv_iconst (v := 0) hx hb dX1_has_16 (by decide) ?_
      exact ro_z hx hb hr hlocks hq (rfl) dX1_has_17 (by simp [bI, isIn, c1, c9])
    · refine lv_iconst (v := 1) hx hb dX1_has_12 (by decide) ?_
      refine lv_goto (tgt := 17) hx hb dX1_has_13 (by decide) ?_
      exact ro_z hx hb hr hlocks hq (rfl) dX1_has_17 (by simp [bI, isIn, c1, c9])
set_option maxHeartbeats 4000000 in
set_option maxRecDepth 100000 in
theorem c_X1_penceNow (l : Launch) (D : va_G) (k : Nat → ClassId) (t : Nat → Nat) (n : Nat) (g : Int32) (a : Nat → Nat → Int32) (x : Nat) (hx6 : x < 6) : Ro l yX1_penceNow cX1_penceNow 2 (some .int) 0 D (TY k) G0 [.ref (t 0), .int (nI x)] (bF t k (n, g, a)) (some (.int (a 1 x))) := by
  refine ro_body (by decide +kernel) (Nat.le_of_ble_eq_true rfl) ?_
  intro p e s m args below meth c_ Q hx hb hml hown hts hK hP hS hG hr hq hlocks ls hl
  replace hl : lv_has ls 2 [(0, .ref (t 0)), (1, .int (nI x))] := hl
  change s.vm.findClass RX1 = some m.cls at hown
  refine lv_aload_n hx hb dX1_penceNow_0 rfl (lv_at hl 0 rfl) ?_
  refine va_get (D := D) (ci := 2) (v := .ref (t 1)) (C := RX1) (T := TX1) (N := 6) hx hb hts inX1 hown hK hP 0 rfl rfl 0 (by decide) (hts _ wd_1_95) (fun _ h9 => h9) rfl dX1_penceNow_1 ?_
  refine lv_iload_n hx hb dX1_penceNow_4 rfl (lv_at hl 1 rfl) ?_
  refine ra_iald (n := 6) (f := (a 1)) hx hb hK hP 1 0 rfl rfl x rfl (by omega) (by decide) dX1_penceNow_5 ?_
  exact ro_i hx hb hr hlocks hq dX1_penceNow_6 (rfl)
set_option maxHeartbeats 4000000 in
set_option maxRecDepth 100000 in
theorem c_X1_penceAtEnd (l : Launch) (D : va_G) (k : Nat → ClassId) (t : Nat → Nat) (n : Nat) (g : Int32) (a : Nat → Nat → Int32) (x : Nat) (w : Nat) (hx6 : x < 6) (hw : w < 400) : Ro l yX1_penceAtEnd cX1_penceAtEnd 3 (some .int) 0 D (TY k) G0 [.ref (t 0), .int (nI x), .int (nI w)] (bF t k (n, g, a)) (some (.int (if a 3 x ≤ nI w then a 4 (w * 6 + x) else -1))) := by
  refine ro_body (by decide +kernel) (Nat.le_of_ble_eq_true rfl) ?_
  intro p e s m args below meth c_ Q hx hb hml hown hts hK hP hS hG hr hq hlocks ls hl
  replace hl : lv_has ls 3 [(0, .ref (t 0)), (1, .int (nI x)), (2, .int (nI w))] := hl
  change s.vm.findClass RX1 = some m.cls at hown
  refine lv_iload_n hx hb dX1_penceAtEnd_0 rfl (lv_at hl 2 rfl) ?_
  refine lv_aload_n hx hb dX1_penceAtEnd_1 rfl (lv_at hl 0 rfl) ?_
  refine va_get (D := D) (ci := 2) (v := .ref (t 3)) (C := RX1) (T := TX1) (N := 6) hx hb hts inX1 hown hK hP 0 rfl rfl 2 (by decide) (hts _ wd_1_97) (fun _ h9 => h9) rfl dX1_penceAtEnd_2 ?_
  refine lv_iload_n hx hb dX1_penceAtEnd_5 rfl (lv_at hl 1 rfl) ?_
  refine ra_iald (n := 6) (f := (a 3)) hx hb hK hP 3 0 rfl rfl x rfl (by omega) (by decide) dX1_penceAtEnd_6 ?_
  refine lv_icmp_ge (tgt := 14) hx hb dX1_penceAtEnd_7 (by decide) (fun c7 => ?_) (fun c7 => ?_)
  · refine lv_aload_n hx hb dX1_penceAtEnd_14 rfl (lv_at hl 0 rfl) ?_
    refine va_get (D := D) (ci := 2) (v := .ref (t 4)) (C := RX1) (T := TX1) (N := 6) hx hb hts inX1 hown hK hP 0 rfl rfl 3 (by decide) (hts _ wd_1_98) (fun _ h9 => h9) rfl dX1_penceAtEnd_15 ?_
    refine lv_iload_n hx hb dX1_penceAtEnd_18 rfl (lv_at hl 2 rfl) ?_
    refine lv_bipush (v := 6) hx hb dX1_penceAtEnd_19 (by decide) ?_
    refine lv_imul hx hb dX1_penceAtEnd_21 ?_
    refine rw_topi (y := nI (w * 6)) (pk_mul _ _) ?_
    refine lv_iload_n hx hb dX1_penceAtEnd_22 rfl (lv_at hl 1 rfl) ?_
    refine lv_iadd hx hb dX1_penceAtEnd_23 ?_
    refine rw_topi (y := nI ((w * 6) + x)) (nI_add _ _) ?_
    refine ra_iald (n := 2400) (f := (a 4)) hx hb hK hP 4 0 rfl rfl ((w * 6) + x) rfl (by omega) (by decide) dX1_penceAtEnd_24 ?_
    exact ro_i hx hb hr hlocks hq dX1_penceAtEnd_25 (by rw [if_pos c7])
  · refine lv_iconst (v := (-1)) hx hb dX1_penceAtEnd_10 (by decide) ?_
    refine lv_goto (tgt := 25) hx hb dX1_penceAtEnd_11 (by decide) ?_
    exact ro_i hx hb hr hlocks hq dX1_penceAtEnd_25 (by rw [if_neg c7])
set_option maxHeartbeats 4000000 in
set_option maxRecDepth 100000 in
theorem c_X1_aboveKeep (l : Launch) (D : va_G) (k : Nat → ClassId) (t : Nat → Nat) (n : Nat) (g : Int32) (a : Nat → Nat → Int32) (x : Int32) : Ro l yX1_aboveKeep cX1_aboveKeep 2 (some .int) 1 D (TY k) G0 [.ref (t 0), .int x] (bF t k (n, g, a)) (some (.int (if 0 < a 1 0 - x then a 1 0 - x else 0))) := by
  refine ro_body (by decide +kernel) (Nat.le_of_ble_eq_true rfl) ?_
  intro p e s m args below meth c_ Q hx hb hml hown hts hK hP hS hG hr hq hlocks ls hl
  replace hl : lv_has ls 2 [(0, .ref (t 0)), (1, .int x)] := hl
  change s.vm.findClass RX1 = some m.cls at hown
  refine lv_iconst (v := 0) hx hb dX1_aboveKeep_0 (by decide) ?_
  refine lv_aload_n hx hb dX1_aboveKeep_1 rfl (lv_at hl 0 rfl) ?_
  refine va_get (D := D) (ci := 2) (v := .ref (t 1)) (C := RX1) (T := TX1) (N := 6) hx hb hts inX1 hown hK hP 0 rfl rfl 0 (by decide) (hts _ wd_1_95) (fun _ h9 => h9) rfl dX1_aboveKeep_2 ?_
  refine lv_iconst (v := 0) hx hb dX1_aboveKeep_5 (by decide) ?_
  refine ra_iald (n := 6) (f := (a 1)) hx hb hK hP 1 0 rfl rfl 0 rfl (by omega) (by decide) dX1_aboveKeep_6 ?_
  refine lv_iload_n hx hb dX1_aboveKeep_7 rfl (lv_at hl 1 rfl) ?_
  refine lv_isub hx hb dX1_aboveKeep_8 ?_
  refine va_mmax hx hb (hml.trans hl.1.symm) hown (hts _ wd_3_0) (hts _ wd_3_1) (hts _ wd_1_11) (hts _ wd_3_2) (by decide) (Nat.le_of_ble_eq_true rfl) (Nat.le_of_ble_eq_true rfl) (Nat.le_of_ble_eq_true rfl) dX1_aboveKeep_9 ?_
  exact ro_i hx hb hr hlocks hq dX1_aboveKeep_12 (rfl)
set_option maxHeartbeats 4000000 in
set_option maxRecDepth 100000 in
theorem c_X1_isFor (l : Launch) (D : va_G) (k : Nat → ClassId) (t : Nat → Nat) (n : Nat) (g : Int32) (a : Nat → Nat → Int32) (x : Nat) (y : Int32) (hx6 : x < 6) : Ro l yX1_isFor cX1_isFor 3 (some .boolean) 0 D (TY k) G0 [.ref (t 0), .int (nI x), .int y] (bF t k (n, g, a)) (some (.int (bI (!decide ((y >>> (a 2 x &&& 31)) &&& 1 = 0))))) := by
  refine ro_body (by decide +kernel) (Nat.le_of_ble_eq_true rfl) ?_
  intro p e s m args below meth c_ Q hx hb hml hown hts hK hP hS hG hr hq hlocks ls hl
  replace hl : lv_has ls 3 [(0, .ref (t 0)), (1, .int (nI x)), (2, .int y)] := hl
  change s.vm.findClass RX1 = some m.cls at hown
  refine lv_iload_n hx hb dX1_isFor_0 rfl (lv_at hl 2 rfl) ?_
  refine lv_aload_n hx hb dX1_isFor_1 rfl (lv_at hl 0 rfl) ?_
  refine va_get (D := D) (ci := 2) (v := .ref (t 2)) (C := RX1) (T := TX1) (N := 6) hx hb hts inX1 hown hK hP 0 rfl rfl 1 (by decide) (hts _ wd_1_96) (fun _ h9 => h9) rfl dX1_isFor_2 ?_
  refine lv_iload_n hx hb dX1_isFor_5 rfl (lv_at hl 1 rfl) ?_
  refine ra_iald (n := 6) (f := (a 2)) hx hb hK hP 2 0 rfl rfl x rfl (by omega) (by decide) dX1_isFor_6 ?_
  refine lv_ishr hx hb dX1_isFor_7 ?_
  refine lv_iconst (v := 1) hx hb dX1_isFor_8 (by decide) ?_
  refine lv_iand hx hb dX1_isFor_9 ?_
  refine lv_if_eq (tgt := 17) hx hb dX1_isFor_10 (by decide) (fun c10 => ?_) (fun c10 => ?_)
  · refine lv_iconst (v := 0) hx hb dX1_isFor_17 (by decide) ?_
    exact ro_z hx hb hr hlocks hq (rfl) dX1_isFor_18 (by simp [bI, c10])
  · refine lv_iconst (v := 1) hx hb dX1_isFor_13 (by decide) ?_
    refine lv_goto (tgt := 18) hx hb dX1_isFor_14 (by decide) ?_
    exact ro_z hx hb hr hlocks hq (rfl) dX1_isFor_18 (by simp [bI, c10])
def cFound (x y : Int32) (w : Int32) (u : FSt) : Int32 × FSt := if u.1 < 6 then (nI u.1, (u.1 + 1, u.2.1 + y, up (up (up u.2.2 1 (upd (u.2.2 1) u.1 y)) 2 (upd (u.2.2 2) u.1 x)) 3 (upd (u.2.2 3) u.1 w))) else (-1, u)
def cGive (x : Nat) (y : Int32) (u : FSt) : Int32 × FSt := if u.2.2 1 x ≤ 1000000 - y then (u.2.2 1 x + y, (u.1, u.2.1 + y, up u.2.2 1 (upd (u.2.2 1) x (u.2.2 1 x + y)))) else (-1, u)
set_option maxHeartbeats 4000000 in
set_option maxRecDepth 100000 in
theorem c_X1_found (l : Launch) (D : va_G) (k : Nat → ClassId) (t : Nat → Nat) (n : Nat) (g : Int32) (a : Nat → Nat → Int32) (x y w : Int32) (hn : n ≤ 6) : Fs (S := Int32 × (FSt)) l yX1_found cX1_found 4 (some .int) 0 0 0 D (TY k) G0 [.ref (t 0), .int x, .int y, .int w] (bF t k (n, g, a)) (fun u => some (.int u.1)) (fun u => u = cFound x y w (n, g, a)) (fun u => bF t k u.2) := by
  refine fs_body (by decide +kernel) (Nat.le_of_ble_eq_true rfl) ?_
  intro p e s m args below meth c_ Q A hx hb hml hown hts hK hP hD hS hA hG hin hr hq hlocks ls hl
  replace hl : lv_has ls 4 [(0, .ref (t 0)), (1, .int x), (2, .int y), (3, .int w)] := hl
  change s.vm.findClass RX1 = some m.cls at hown
  refine lv_aload_n hx hb dX1_found_0 rfl (lv_at hl 0 rfl) ?_
  refine va_get (D := D) (ci := 2) (v := .int (nI n)) (C := RX1) (T := TX1) (N := 6) hx hb hts inX1 hown hK hP 0 rfl rfl 4 (by decide) (hts _ wd_1_99) (fun _ h9 => h9) rfl dX1_found_1 ?_
  refine lv_bipush (v := 6) hx hb dX1_found_4 (by decide) ?_
  refine lv_icmp_lt (tgt := 11) hx hb dX1_found_6 (by decide) (fun c6 => ?_) (fun c6 => ?_)
  · replace c6 : n < 6 := (nI_ltI (a := n) (b := 6) (by omega) (by omega)).mp c6
    refine lv_aload_n hx hb dX1_found_11 rfl (lv_at hl 0 rfl) ?_
    refine va_get (D := D) (ci := 2) (v := .ref (t 1)) (C := RX1) (T := TX1) (N := 6) hx hb hts inX1 hown hK hP 0 rfl rfl 0 (by decide) (hts _ wd_1_95) (fun _ h9 => h9) rfl dX1_found_12 ?_
    refine lv_aload_n hx hb dX1_found_15 rfl (lv_at hl 0 rfl) ?_
    refine va_get (D := D) (ci := 2) (v := .int (nI n)) (C := RX1) (T := TX1) (N := 6) hx hb hts inX1 hown hK hP 0 rfl rfl 4 (by decide) (hts _ wd_1_99) (fun _ h9 => h9) rfl dX1_found_16 ?_
    refine lv_iload_n hx hb dX1_found_19 rfl (lv_at hl 2 rfl) ?_
    refine ra_iast (n := 6) (f := (a 1)) hx hb hK hP hD hS 1 0 rfl rfl n rfl (by omega) (by decide) dX1_found_20 (fun H locs hP hD hS => ?_)
    replace hP : va_P D vwCl ([(t 0, .inr (2, [.ref (t 1), .ref (t 2), .ref (t 3), .ref (t 4), .int (nI n), .int g])), (t 1, .inl (k 0, 6, .inl (upd (a 1) n y))), (t 2, .inl (k 0, 6, .inl (a 2))), (t 3, .inl (k 0, 6, .inl (a 3))), (t 4, .inl (k 0, 2400, .inl (a 4)))]) H := hP
    replace hD : va_D A ([(t 0, .inr (2, [.ref (t 1), .ref (t 2), .ref (t 3), .ref (t 4), .int (nI n), .int g])), (t 1, .inl (k 0, 6, .inl (upd (a 1) n y))), (t 2, .inl (k 0, 6, .inl (a 2))), (t 3, .inl (k 0, 6, .inl (a 3))), (t 4, .inl (k 0, 2400, .inl (a 4)))]) := hD
    refine lv_aload_n hx hb dX1_found_21 rfl (lv_at hl 0 rfl) ?_
    refine va_get (D := D) (ci := 2) (v := .ref (t 2)) (C := RX1) (T := TX1) (N := 6) hx hb hts inX1 hown hK hP 0 rfl rfl 1 (by decide) (hts _ wd_1_96) (fun _ h9 => h9) rfl dX1_found_22 ?_
    refine lv_aload_n hx hb dX1_found_25 rfl (lv_at hl 0 rfl) ?_
    refine va_get (D := D) (ci := 2) (v := .int (nI n)) (C := RX1) (T := TX1) (N := 6) hx hb hts inX1 hown hK hP 0 rfl rfl 4 (by decide) (hts _ wd_1_99) (fun _ h9 => h9) rfl dX1_found_26 ?_
    refine lv_iload_n hx hb dX1_found_29 rfl (lv_at hl 1 rfl) ?_
    refine ra_iast (n := 6) (f := (a 2)) hx hb hK hP hD hS 2 0 rfl rfl n rfl (by omega) (by decide) dX1_found_30 (fun H locs hP hD hS => ?_)
    replace hP : va_P D vwCl ([(t 0, .inr (2, [.ref (t 1), .ref (t 2), .ref (t 3), .ref (t 4), .int (nI n), .int g])), (t 1, .inl (k 0, 6, .inl (upd (a 1) n y))), (t 2, .inl (k 0, 6, .inl (upd (a 2) n x))), (t 3, .inl (k 0, 6, .inl (a 3))), (t 4, .inl (k 0, 2400, .inl (a 4)))]) H := hP
    replace hD : va_D A ([(t 0, .inr (2, [.ref (t 1), .ref (t 2), .ref (t 3), .ref (t 4), .int (nI n), .int g])), (t 1, .inl (k 0, 6, .inl (upd (a 1) n y))), (t 2, .inl (k 0, 6, .inl (upd (a 2) n x))), (t 3, .inl (k 0, 6, .inl (a 3))), (t 4, .inl (k 0, 2400, .inl (a 4)))]) := hD
    refine lv_aload_n hx hb dX1_found_31 rfl (lv_at hl 0 rfl) ?_
    refine va_get (D := D) (ci := 2) (v := .ref (t 3)) (C := RX1) (T := TX1) (N := 6) hx hb hts inX1 hown hK hP 0 rfl rfl 2 (by decide) (hts _ wd_1_97) (fun _ h9 => h9) rfl dX1_found_32 ?_
    refine lv_aload_n hx hb dX1_found_35 rfl (lv_at hl 0 rfl) ?_
    refine va_get (D := D) (ci := 2) (v := .int (nI n)) (C := RX1) (T := TX1) (N := 6) hx hb hts inX1 hown hK hP 0 rfl rfl 4 (by decide) (hts _ wd_1_99) (fun _ h9 => h9) rfl dX1_found_36 ?_
    refine lv_iload_n hx hb dX1_found_39 rfl (lv_at hl 3 rfl) ?_
    refine ra_iast (n := 6) (f := (a 3)) hx hb hK hP hD hS 3 0 rfl rfl n rfl (by omega) (by decide) dX1_found_40 (fun H locs hP hD hS => ?_)
    replace hP : va_P D vwCl ([(t 0, .inr (2, [.ref (t 1), .ref (t 2), .ref (t 3), .ref (t 4), .int (nI n), .int g])), (t 1, .inl (k 0, 6, .inl (upd (a 1) n y))), (t 2, .inl (k 0, 6, .inl (upd (a 2) n x))), (t 3, .inl (k 0, 6, .inl (upd (a 3) n w))), (t 4, .inl (k 0, 2400, .inl (a 4)))]) H := hP
    replace hD : va_D A ([(t 0, .inr (2, [.ref (t 1), .ref (t 2), .ref (t 3), .ref (t 4), .int (nI n), .int g])), (t 1, .inl (k 0, 6, .inl (upd (a 1) n y))), (t 2, .inl (k 0, 6, .inl (upd (a 2) n x))), (t 3, .inl (k 0, 6, .inl (upd (a 3) n w))), (t 4, .inl (k 0, 2400, .inl (a 4)))]) := hD
    refine lv_aload_n hx hb dX1_found_41 rfl (lv_at hl 0 rfl) ?_
    refine lv_dup hx hb dX1_found_42 rfl ?_
    refine va_get (D := D) (ci := 2) (v := .int g) (C := RX1) (T := TX1) (N := 6) hx hb hts inX1 hown hK hP 0 rfl rfl 5 (by decide) (hts _ wd_1_100) (fun _ h9 => h9) rfl dX1_found_43 ?_
    refine lv_iload_n hx hb dX1_found_46 rfl (lv_at hl 2 rfl) ?_
    refine lv_iadd hx hb dX1_found_47 ?_
    refine va_put (D := D) (ci := 2) (v := .int (g + y)) (C := RX1) (T := TX1) (N := 6) hx hb hts inX1 tyX1 tyX1_ok nmX1 hown hK hP hD hS 0 rfl rfl 5 (by decide) (hts _ wd_1_100) (fun _ h9 => h9) rfl (tyX1_ok 5 (by decide)) rfl rfl (Nat.le_of_ble_eq_true rfl) dX1_found_48 (fun H locs hP hD hS => ?_)
    replace hP : va_P D vwCl ([(t 0, .inr (2, [.ref (t 1), .ref (t 2), .ref (t 3), .ref (t 4), .int (nI n), .int (g + y)])), (t 1, .inl (k 0, 6, .inl (upd (a 1) n y))), (t 2, .inl (k 0, 6, .inl (upd (a 2) n x))), (t 3, .inl (k 0, 6, .inl (upd (a 3) n w))), (t 4, .inl (k 0, 2400, .inl (a 4)))]) H := hP
    replace hD : va_D A ([(t 0, .inr (2, [.ref (t 1), .ref (t 2), .ref (t 3), .ref (t 4), .int (nI n), .int (g + y)])), (t 1, .inl (k 0, 6, .inl (upd (a 1) n y))), (t 2, .inl (k 0, 6, .inl (upd (a 2) n x))), (t 3, .inl (k 0, 6, .inl (upd (a 3) n w))), (t 4, .inl (k 0, 2400, .inl (a 4)))]) := hD
    refine lv_aload_n hx hb dX1_found_51 rfl (lv_at hl 0 rfl) ?_
    refine lv_dup hx hb dX1_found_52 rfl ?_
    refine va_get (D := D) (ci := 2) (v := .int (nI n)) (C := RX1) (T := TX1) (N := 6) hx hb hts inX1 hown hK hP 0 rfl rfl 4 (by decide) (hts _ wd_1_99) (fun _ h9 => h9) rfl dX1_found_53 ?_
    refine lv_iconst (v := 1) hx hb dX1_found_56 (by decide) ?_
    refine lv_iadd hx hb dX1_found_57 ?_
    refine rw_topi (y := nI (n + 1)) (nI_add _ _) ?_
    refine va_put (D := D) (ci := 2) (v := .int (nI (n + 1))) (C := RX1) (T := TX1) (N := 6) hx hb hts inX1 tyX1 tyX1_ok nmX1 hown hK hP hD hS 0 rfl rfl 4 (by decide) (hts _ wd_1_99) (fun _ h9 => h9) rfl (tyX1_ok 4 (by decide)) rfl rfl (Nat.le_of_ble_eq_true rfl) dX1_found_58 (fun H locs hP hD hS => ?_)
    replace hP : va_P D vwCl ([(t 0, .inr (2, [.ref (t 1), .ref (t 2), .ref (t 3), .ref (t 4), .int (nI (n + 1)), .int (g + y)])), (t 1, .inl (k 0, 6, .inl (upd (a 1) n y))), (t 2, .inl (k 0, 6, .inl (upd (a 2) n x))), (t 3, .inl (k 0, 6, .inl (upd (a 3) n w))), (t 4, .inl (k 0, 2400, .inl (a 4)))]) H := hP
    replace hD : va_D A ([(t 0, .inr (2, [.ref (t 1), .ref (t 2), .ref (t 3), .ref (t 4), .int (nI (n + 1)), .int (g + y)])), (t 1, .inl (k 0, 6, .inl (upd (a 1) n y))), (t 2, .inl (k 0, 6, .inl (upd (a 2) n x))), (t 3, .inl (k 0, 6, .inl (upd (a 3) n w))), (t 4, .inl (k 0, 2400, .inl (a 4)))]) := hD
    refine lv_aload_n hx hb dX1_found_61 rfl (lv_at hl 0 rfl) ?_
    refine va_get (D := D) (ci := 2) (v := .int (nI (n + 1))) (C := RX1) (T := TX1) (N := 6) hx hb hts inX1 hown hK hP 0 rfl rfl 4 (by decide) (hts _ wd_1_99) (fun _ h9 => h9) rfl dX1_found_62 ?_
    refine lv_iconst (v := 1) hx hb dX1_found_65 (by decide) ?_
    refine lv_isub hx hb dX1_found_66 ?_
    refine rw_topi (y := nI n) (nI_pred _) ?_
    exact fs_i hx hb hr hlocks hq (nI n, (n + 1, g + y, up (up (up a 1 (upd (a 1) n y)) 2 (upd (a 2) n x)) 3 (upd (a 3) n w))) (by rw [cFound, if_pos c6]) hP hD hS dX1_found_67 rfl
  · replace c6 : ¬ (n < 6) := fun z => c6 ((nI_ltI (a := n) (b := 6) (by omega) (by omega)).mpr z)
    refine lv_iconst (v := (-1)) hx hb dX1_found_9 (by decide) ?_
    exact fs_i hx hb hr hlocks hq ((-1), (n, g, a)) (by rw [cFound, if_neg c6]) hP hD hS dX1_found_10 rfl
set_option maxHeartbeats 4000000 in
set_option maxRecDepth 100000 in
theorem c_X1_give (l : Launch) (D : va_G) (k : Nat → ClassId) (t : Nat → Nat) (n : Nat) (g : Int32) (a : Nat → Nat → Int32) (x : Nat) (y : Int32) (hx6 : x < 6) : Fs (S := Int32 × (FSt)) l yX1_give cX1_give 3 (some .int) 0 0 0 D (TY k) G0 [.ref (t 0), .int (nI x), .int y] (bF t k (n, g, a)) (fun u => some (.int u.1)) (fun u => u = cGive x y (n, g, a)) (fun u => bF t k u.2) := by
  refine fs_body (by decide +kernel) (Nat.le_of_ble_eq_true rfl) ?_
  intro p e s m args below meth c_ Q A hx hb hml hown hts hK hP hD hS hA hG hin hr hq hlocks ls hl
  replace hl : lv_has ls 3 [(0, .ref (t 0)), (1, .int (nI x)), (2, .int y)] := hl
  change s.vm.findClass RX1 = some m.cls at hown
  refine lv_aload_n hx hb dX1_give_0 rfl (lv_at hl 0 rfl) ?_
  refine va_get (D := D) (ci := 2) (v := .ref (t 1)) (C := RX1) (T := TX1) (N := 6) hx hb hts inX1 hown hK hP 0 rfl rfl 0 (by decide) (hts _ wd_1_95) (fun _ h9 => h9) rfl dX1_give_1 ?_
  refine lv_iload_n hx hb dX1_give_4 rfl (lv_at hl 1 rfl) ?_
  refine ra_iald (n := 6) (f := (a 1)) hx hb hK hP 1 0 rfl rfl x rfl (by omega) (by decide) dX1_give_5 ?_
  refine lv_ldc (v := 1000000) hx hb hown (hts _ wd_2_127) dX1_give_6 ?_
  refine lv_iload_n hx hb dX1_give_8 rfl (lv_at hl 2 rfl) ?_
  refine lv_isub hx hb dX1_give_9 ?_
  refine lv_icmp_le (tgt := 15) hx hb dX1_give_10 (by decide) (fun c10 => ?_) (fun c10 => ?_)
  · refine lv_aload_n hx hb dX1_give_15 rfl (lv_at hl 0 rfl) ?_
    refine va_get (D := D) (ci := 2) (v := .ref (t 1)) (C := RX1) (T := TX1) (N := 6) hx hb hts inX1 hown hK hP 0 rfl rfl 0 (by decide) (hts _ wd_1_95) (fun _ h9 => h9) rfl dX1_give_16 ?_
    refine lv_iload_n hx hb dX1_give_19 rfl (lv_at hl 1 rfl) ?_
    refine lv_dup2_11 hx hb dX1_give_20 rfl rfl ?_
    refine ra_iald (n := 6) (f := (a 1)) hx hb hK hP 1 0 rfl rfl x rfl (by omega) (by decide) dX1_give_21 ?_
    refine lv_iload_n hx hb dX1_give_22 rfl (lv_at hl 2 rfl) ?_
    refine lv_iadd hx hb dX1_give_23 ?_
    refine ra_iast (n := 6) (f := (a 1)) hx hb hK hP hD hS 1 0 rfl rfl x rfl (by omega) (by decide) dX1_give_24 (fun H locs hP hD hS => ?_)
    replace hP : va_P D vwCl ([(t 0, .inr (2, [.ref (t 1), .ref (t 2), .ref (t 3), .ref (t 4), .int (nI n), .int g])), (t 1, .inl (k 0, 6, .inl (upd (a 1) x (((a 1) x) + y)))), (t 2, .inl (k 0, 6, .inl (a 2))), (t 3, .inl (k 0, 6, .inl (a 3))), (t 4, .inl (k 0, 2400, .inl (a 4)))]) H := hP
    replace hD : va_D A ([(t 0, .inr (2, [.ref (t 1), .ref (t 2), .ref (t 3), .ref (t 4), .int (nI n), .int g])), (t 1, .inl (k 0, 6, .inl (upd (a 1) x (((a 1) x) + y)))), (t 2, .inl (k 0, 6, .inl (a 2))), (t 3, .inl (k 0, 6, .inl (a 3))), (t 4, .inl (k 0, 2400, .inl (a 4)))]) := hD
    refine lv_aload_n hx hb dX1_give_25 rfl (lv_at hl 0 rfl) ?_
    refine lv_dup hx hb dX1_give_26 rfl ?_
    refine va_get (D := D) (ci := 2) (v := .int g) (C := RX1) (T := TX1) (N := 6) hx hb hts inX1 hown hK hP 0 rfl rfl 5 (by decide) (hts _ wd_1_100) (fun _ h9 => h9) rfl dX1_give_27 ?_
    refine lv_iload_n hx hb dX1_give_30 rfl (lv_at hl 2 rfl) ?_
    refine lv_iadd hx hb dX1_give_31 ?_
    refine va_put (D := D) (ci := 2) (v := .int (g + y)) (C := RX1) (T := TX1) (N := 6) hx hb hts inX1 tyX1 tyX1_ok nmX1 hown hK hP hD hS 0 rfl rfl 5 (by decide) (hts _ wd_1_100) (fun _ h9 => h9) rfl (tyX1_ok 5 (by decide)) rfl rfl (Nat.le_of_ble_eq_true rfl) dX1_give_32 (fun H locs hP hD hS => ?_)
    replace hP : va_P D vwCl ([(t 0, .inr (2, [.ref (t 1), .ref (t 2), .ref (t 3), .ref (t 4), .int (nI n), .int (g + y)])), (t 1, .inl (k 0, 6, .inl (upd (a 1) x (((a 1) x) + y)))), (t 2, .inl (k 0, 6, .inl (a 2))), (t 3, .inl (k 0, 6, .inl (a 3))), (t 4, .inl (k 0, 2400, .inl (a 4)))]) H := hP
    replace hD : va_D A ([(t 0, .inr (2, [.ref (t 1), .ref (t 2), .ref (t 3), .ref (t 4), .int (nI n), .int (g + y)])), (t 1, .inl (k 0, 6, .inl (upd (a 1) x (((a 1) x) + y)))), (t 2, .inl (k 0, 6, .inl (a 2))), (t 3, .inl (k 0, 6, .inl (a 3))), (t 4, .inl (k 0, 2400, .inl (a 4)))]) := hD
    refine lv_aload_n hx hb dX1_give_35 rfl (lv_at hl 0 rfl) ?_
    refine va_get (D := D) (ci := 2) (v := .ref (t 1)) (C := RX1) (T := TX1) (N := 6) hx hb hts inX1 hown hK hP 0 rfl rfl 0 (by decide) (hts _ wd_1_95) (fun _ h9 => h9) rfl dX1_give_36 ?_
    refine lv_iload_n hx hb dX1_give_39 rfl (lv_at hl 1 rfl) ?_
    refine ra_iald (n := 6) (f := (upd (a 1) x (((a 1) x) + y))) hx hb hK hP 1 0 rfl rfl x rfl (by omega) (by decide) dX1_give_40 ?_
    refine rw_topi (y := a 1 x + y) (upd_eq _ _ _) ?_
    exact fs_i hx hb hr hlocks hq (a 1 x + y, (n, g + y, up a 1 (upd (a 1) x (((a 1) x) + y)))) (by rw [cGive, if_pos c10]) hP hD hS dX1_give_41 rfl
  · refine lv_iconst (v := (-1)) hx hb dX1_give_13 (by decide) ?_
    exact fs_i hx hb hr hlocks hq ((-1), (n, g, a)) (by rw [cGive, if_neg c10]) hP hD hS dX1_give_14 rfl
set_option maxHeartbeats 4000000 in
set_option maxRecDepth 100000 in
theorem c_X1_addForAll (l : Launch) (D : va_G) (k : Nat → ClassId) (t : Nat → Nat) (n : Nat) (g : Int32) (a : Nat → Nat → Int32) (x : Int32) : Fs (S := FSt) l yX1_addForAll cX1_addForAll 2 none 0 0 0 D (TY k) G0 [.ref (t 0), .int x] (bF t k (n, g, a)) (fun _ => none) (fun u => u = (n, g, up a 1 (upd (a 1) 0 (a 1 0 + x)))) (fun u => bF t k u) := by
  refine fs_body (by decide +kernel) (Nat.le_of_ble_eq_true rfl) ?_
  intro p e s m args below meth c_ Q A hx hb hml hown hts hK hP hD hS hA hG hin hr hq hlocks ls hl
  replace hl : lv_has ls 2 [(0, .ref (t 0)), (1, .int x)] := hl
  change s.vm.findClass RX1 = some m.cls at hown
  refine lv_aload_n hx hb dX1_addForAll_0 rfl (lv_at hl 0 rfl) ?_
  refine va_get (D := D) (ci := 2) (v := .ref (t 1)) (C := RX1) (T := TX1) (N := 6) hx hb hts inX1 hown hK hP 0 rfl rfl 0 (by decide) (hts _ wd_1_95) (fun _ h9 => h9) rfl dX1_addForAll_1 ?_
  refine lv_iconst (v := 0) hx hb dX1_addForAll_4 (by decide) ?_
  refine lv_dup2_11 hx hb dX1_addForAll_5 rfl rfl ?_
  refine ra_iald (n := 6) (f := (a 1)) hx hb hK hP 1 0 rfl rfl 0 rfl (by omega) (by decide) dX1_addForAll_6 ?_
  refine lv_iload_n hx hb dX1_addForAll_7 rfl (lv_at hl 1 rfl) ?_
  refine lv_iadd hx hb dX1_addForAll_8 ?_
  refine ra_iast (n := 6) (f := (a 1)) hx hb hK hP hD hS 1 0 rfl rfl 0 rfl (by omega) (by decide) dX1_addForAll_9 (fun H locs hP hD hS => ?_)
  replace hP : va_P D vwCl ([(t 0, .inr (2, [.ref (t 1), .ref (t 2), .ref (t 3), .ref (t 4), .int (nI n), .int g])), (t 1, .inl (k 0, 6, .inl (upd (a 1) 0 (((a 1) 0) + x)))), (t 2, .inl (k 0, 6, .inl (a 2))), (t 3, .inl (k 0, 6, .inl (a 3))), (t 4, .inl (k 0, 2400, .inl (a 4)))]) H := hP
  replace hD : va_D A ([(t 0, .inr (2, [.ref (t 1), .ref (t 2), .ref (t 3), .ref (t 4), .int (nI n), .int g])), (t 1, .inl (k 0, 6, .inl (upd (a 1) 0 (((a 1) 0) + x)))), (t 2, .inl (k 0, 6, .inl (a 2))), (t 3, .inl (k 0, 6, .inl (a 3))), (t 4, .inl (k 0, 2400, .inl (a 4)))]) := hD
  exact fs_v hx hb hr hlocks hq (n, g, up a 1 (upd (a 1) 0 (((a 1) 0) + x))) (rfl) hP hD hS dX1_addForAll_10 rfl
