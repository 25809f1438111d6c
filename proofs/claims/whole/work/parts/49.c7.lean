set_option maxHeartbeats 4000000 in
set_option maxRecDepth 100000 in
theorem c_X6_init (l : Launch) (D : va_G) (k : Nat → ClassId) (kz : Nat) (ke sK sV : Nat → Nat) (p_ : Nat) : Fs (S := Nat) l yX6_init cX6_init 2 none 1 1 9 D (TY k) (GK kz ke sK sV) [.ref p_] ([(p_, .inr (6, [.null]))]) (fun _ => none) (fun _ => True) (fun u => bV (up (fun _ => p_) 1 u) k (rUsual (fun _ => 0))) := by
  refine fs_body (by decide +kernel) (Nat.le_of_ble_eq_true rfl) ?_
  intro p e s m args below meth c_ Q A hx hb hml hown hts hK hP hD hS hA hG hin hr hq hlocks ls hl
  replace hl : lv_has ls 2 [(0, .ref p_)] := hl
  change s.vm.findClass RX6 = some m.cls at hown
  refine lv_aload_n hx hb dX6_init_0 rfl (lv_at hl 0 rfl) ?_
  refine W.objInit hx hb hown (hts _ wd_1_83) (hts _ wd_1_34) (hts _ wd_1_35) rfl (by rw [hml]; exact hl.1) rfl dX6_init_1 (Nat.le_of_ble_eq_true rfl) (Nat.le_of_ble_eq_true rfl) ?_
  refine W.eq (g2 := F0 m 4 ls []) rfl ?_
  refine lv_aload_n hx hb dX6_init_4 rfl (lv_at hl 0 rfl) ?_
  refine va_getsN hx hb hG.1 hS hown (va_Nw.use rfl hG.2.2.2.2.2.2.2.2.2.2.2.1) (fun _ h9 => h9) dX6_init_5 ?_
  refine va_tlen (v := 9) hx hb hG.2.1 hS rfl dX6_init_8 ?_
  refine ra_newa (N' := 9) hx hb (hts _ wd_1_49) hK hP hD hS hA (by decide) (by decide) (by decide) (Nat.le_of_ble_eq_true rfl) (Nat.le_of_ble_eq_true rfl) dX6_init_9 (fun q_1 H hP hD hS => ?_)
  replace hP : va_P D vwCl ([(p_, .inr (6, [.null])), (q_1, .inl (k 0, 9, .inl (fun _ => 0)))]) H := hP
  replace hD : va_D A ([(p_, .inr (6, [.null])), (q_1, .inl (k 0, 9, .inl (fun _ => 0)))]) := hD
  refine W.widen (k := 1) (n := 9) (Nat.le_of_ble_eq_true rfl) (Nat.le_of_ble_eq_true rfl) ?_
  refine va_putF (D := D) (ci := 6) (v := .ref q_1) (C := RX6) (T := TX6) (N := 1) hx hb hts inX6 tyX6 tyX6_ok nmX6 hown hK hP hD hS 0 rfl rfl 0 (by decide) (hts _ wd_1_85) (fun _ h9 => h9) rfl (hin rfl) rfl (tyX6_ok 0 (by decide)) rfl rfl (Nat.le_of_ble_eq_true rfl) dX6_init_11 (fun H locs hP hD hS => ?_)
  replace hP : va_P D vwCl ([(p_, .inr (6, [.ref q_1])), (q_1, .inl (k 0, 9, .inl (fun _ => 0)))]) H := hP
  replace hD : va_D A ([(p_, .inr (6, [.ref q_1])), (q_1, .inl (k 0, 9, .inl (fun _ => 0)))]) := hD
  have L : ∀ (r i : Nat) (f : Nat → Int32) (H : Heap) (locs : List Loc), i + r = 9 → lp (fun i f => upd f i (kUsual i)) r i f = rUsual (fun _ => 0) → va_P D vwCl ([(p_, .inr (6, [.ref q_1])), (q_1, .inl (k 0, 9, .inl f))]) H → va_D A ([(p_, .inr (6, [.ref q_1])), (q_1, .inl (k 0, 9, .inl f))]) → va_S A s.heap H locs → ∀ (ls : Array Slot), lv_has ls 2 [(0, .ref p_), (1, .int (nI i))] → W p l e (rmd 1 1 9) s m args below meth c_ H locs 1 9 Q (F0 m 16 ls []) := by
    intro r
    induction r with
    | zero =>
      intro i f H locs hi he hP hD hS ls hl
      refine lv_iload_n hx hb dX6_init_16 rfl (lv_at hl 1 rfl) ?_
      refine va_getsN hx hb hG.1 hS hown (va_Nw.use rfl hG.2.2.2.2.2.2.2.2.2.2.2.1) (fun _ h9 => h9) dX6_init_17 ?_
      refine va_tlen (v := 9) hx hb hG.2.1 hS rfl dX6_init_20 ?_
      refine lv_icmp_ge (tgt := 44) hx hb dX6_init_21 (by decide) (fun c21 => ?_) (fun c21 => absurd (nI_le (a := 9) (by omega) (by omega)) c21)
      rw [show f = rUsual (fun _ => 0) from he] at hP hD
      exact fs_v hx hb hr hlocks hq (q_1) trivial hP hD hS dX6_init_44 rfl
    | succ r ih =>
      intro i f H locs hi he hP hD hS ls hl
      refine lv_iload_n hx hb dX6_init_16 rfl (lv_at hl 1 rfl) ?_
      refine va_getsN hx hb hG.1 hS hown (va_Nw.use rfl hG.2.2.2.2.2.2.2.2.2.2.2.1) (fun _ h9 => h9) dX6_init_17 ?_
      refine va_tlen (v := 9) hx hb hG.2.1 hS rfl dX6_init_20 ?_
      refine lv_icmp_ge (tgt := 44) hx hb dX6_init_21 (by decide) (fun c21 => absurd c21 (nI_ge (b := 9) (by omega) (by omega))) (fun c21 => ?_)
      refine lv_aload_n hx hb dX6_init_24 rfl (lv_at hl 0 rfl) ?_
      refine va_get (D := D) (ci := 6) (v := .ref q_1) (C := RX6) (T := TX6) (N := 1) hx hb hts inX6 hown hK hP 0 rfl rfl 0 (by decide) (hts _ wd_1_85) (fun _ h9 => h9) rfl dX6_init_25 ?_
      refine lv_iload_n hx hb dX6_init_28 rfl (lv_at hl 1 rfl) ?_
      refine va_getsN hx hb hG.1 hS hown (va_Nw.use rfl hG.2.2.2.2.2.2.2.2.2.2.2.1) (fun _ h9 => h9) dX6_init_29 ?_
      refine lv_iload_n hx hb dX6_init_32 rfl (lv_at hl 1 rfl) ?_
      refine vb_tq (v := .ref (ke i)) hx hb hG.2.1 hS (vp_in_nI (by omega) (by omega)) (by show Value.ref (ke (nI i).toNatClampNeg) = _; rw [nI_clamp (by omega)]) dX6_init_33 ?_
      refine va_getX (i := i) hx hb hG.2.2.2.2.2.2.1 (by omega) hS hown (hts _ wd_6_75) (fun _ h9 => h9) dX6_init_34 ?_
      refine ra_iast (n := 9) (f := f) hx hb hK hP hD hS 1 0 rfl rfl i rfl (by omega) (by decide) dX6_init_37 (fun H locs hP hD hS => ?_)
      replace hP : va_P D vwCl ([(p_, .inr (6, [.ref q_1])), (q_1, .inl (k 0, 9, .inl (upd f i (kUsual i))))]) H := hP
      replace hD : va_D A ([(p_, .inr (6, [.ref q_1])), (q_1, .inl (k 0, 9, .inl (upd f i (kUsual i))))]) := hD
      refine lv_iinc (v := nI (i + 1)) (lv' := [(1, .int (nI (i + 1))), (0, .ref p_)]) hx hb dX6_init_38 hl (k := 1) rfl (nI_1 _) (by decide) rfl (fun ls hl => ?_)
      refine lv_goto (tgt := 16) hx hb dX6_init_41 (by decide) ?_
      exact ih (i + 1) (upd f i (kUsual i)) H locs (by omega) (by rw [← he]; rfl) hP hD hS ls (lv_sub hl [1, 0] rfl)
  refine lv_iconst (v := 0) hx hb dX6_init_14 (by decide) ?_
  refine lv_istore_n (lv' := [(1, .int 0), (0, .ref p_)]) hx hb dX6_init_15 rfl hl (by decide) rfl (fun ls hl => ?_)
  exact L 9 0 (fun _ => 0) H locs (by omega) (rfl) hP hD hS ls (lv_sub hl [1, 0] rfl)
set_option maxHeartbeats 4000000 in
set_option maxRecDepth 100000 in
theorem c_X5_init (l : Launch) (D : va_G) (k : Nat → ClassId) (kz : Nat) (ke sK sV : Nat → Nat) (p_ : Nat) : Fs (S := Nat × Nat) l yX5_init cX5_init 1 none 1 2 18 D (TY k) (GK kz ke sK sV) [.ref p_] ([(p_, .inr (5, [.null, .null, .int 0, .int 0, .int 0, .int 0]))]) (fun _ => none) (fun _ => True) (fun u => bR (up (up (fun _ => p_) 1 u.1) 2 u.2) k (0, 0, 0, 0, fun _ => 0, fun _ => 0)) := by
  refine fs_body (by decide +kernel) (Nat.le_of_ble_eq_true rfl) ?_
  intro p e s m args below meth c_ Q A hx hb hml hown hts hK hP hD hS hA hG hin hr hq hlocks ls hl
  replace hl : lv_has ls 1 [(0, .ref p_)] := hl
  change s.vm.findClass RX5 = some m.cls at hown
  refine lv_aload_n hx hb dX5_init_0 rfl (lv_at hl 0 rfl) ?_
  refine W.objInit hx hb hown (hts _ wd_1_55) (hts _ wd_1_34) (hts _ wd_1_35) rfl (by rw [hml]; exact hl.1) rfl dX5_init_1 (Nat.le_of_ble_eq_true rfl) (Nat.le_of_ble_eq_true rfl) ?_
  refine W.eq (g2 := F0 m 4 ls []) rfl ?_
  refine lv_aload_n hx hb dX5_init_4 rfl (lv_at hl 0 rfl) ?_
  refine va_getsN hx hb hG.1 hS hown (va_Nw.use rfl hG.2.2.2.2.2.2.2.2.2.2.1) (fun _ h9 => h9) dX5_init_5 ?_
  refine va_tlen (v := 9) hx hb hG.2.1 hS rfl dX5_init_8 ?_
  refine ra_newa (N' := 9) hx hb (hts _ wd_1_49) hK hP hD hS hA (by decide) (by decide) (by decide) (Nat.le_of_ble_eq_true rfl) (Nat.le_of_ble_eq_true rfl) dX5_init_9 (fun q_1 H hP hD hS => ?_)
  replace hP : va_P D vwCl ([(p_, .inr (5, [.null, .null, .int 0, .int 0, .int 0, .int 0])), (q_1, .inl (k 0, 9, .inl (fun _ => 0)))]) H := hP
  replace hD : va_D A ([(p_, .inr (5, [.null, .null, .int 0, .int 0, .int 0, .int 0])), (q_1, .inl (k 0, 9, .inl (fun _ => 0)))]) := hD
  refine W.widen (k := 1) (n := 9) (Nat.le_of_ble_eq_true rfl) (Nat.le_of_ble_eq_true rfl) ?_
  refine va_putF (D := D) (ci := 5) (v := .ref q_1) (C := RX5) (T := TX5) (N := 6) hx hb hts inX5 tyX5 tyX5_ok nmX5 hown hK hP hD hS 0 rfl rfl 0 (by decide) (hts _ wd_1_58) (fun _ h9 => h9) rfl (hin rfl) rfl (tyX5_ok 0 (by decide)) rfl rfl (Nat.le_of_ble_eq_true rfl) dX5_init_11 (fun H locs hP hD hS => ?_)
  replace hP : va_P D vwCl ([(p_, .inr (5, [.ref q_1, .null, .int 0, .int 0, .int 0, .int 0])), (q_1, .inl (k 0, 9, .inl (fun _ => 0)))]) H := hP
  replace hD : va_D A ([(p_, .inr (5, [.ref q_1, .null, .int 0, .int 0, .int 0, .int 0])), (q_1, .inl (k 0, 9, .inl (fun _ => 0)))]) := hD
  refine lv_aload_n hx hb dX5_init_14 rfl (lv_at hl 0 rfl) ?_
  refine va_getsN hx hb hG.1 hS hown (va_Nw.use rfl hG.2.2.2.2.2.2.2.2.2.2.1) (fun _ h9 => h9) dX5_init_15 ?_
  refine va_tlen (v := 9) hx hb hG.2.1 hS rfl dX5_init_18 ?_
  refine ra_newz (N' := 9) hx hb (hts _ wd_1_77) hK hP hD hS hA (by decide) (by decide) (by decide) (Nat.le_of_ble_eq_true rfl) (Nat.le_of_ble_eq_true rfl) dX5_init_19 (fun q_2 H hP hD hS => ?_)
  replace hP : va_P D vwCl ([(p_, .inr (5, [.ref q_1, .null, .int 0, .int 0, .int 0, .int 0])), (q_1, .inl (k 0, 9, .inl (fun _ => 0))), (q_2, .inl (k 1, 9, .inl (fun _ => 0)))]) H := hP
  replace hD : va_D A ([(p_, .inr (5, [.ref q_1, .null, .int 0, .int 0, .int 0, .int 0])), (q_1, .inl (k 0, 9, .inl (fun _ => 0))), (q_2, .inl (k 1, 9, .inl (fun _ => 0)))]) := hD
  refine W.widen (k := 2) (n := 18) (Nat.le_of_ble_eq_true rfl) (Nat.le_of_ble_eq_true rfl) ?_
  refine va_putF (D := D) (ci := 5) (v := .ref q_2) (C := RX5) (T := TX5) (N := 6) hx hb hts inX5 tyX5 tyX5_ok nmX5 hown hK hP hD hS 0 rfl rfl 1 (by decide) (hts _ wd_1_59) (fun _ h9 => h9) rfl (hin rfl) rfl (tyX5_ok 1 (by decide)) rfl rfl (Nat.le_of_ble_eq_true rfl) dX5_init_21 (fun H locs hP hD hS => ?_)
  replace hP : va_P D vwCl ([(p_, .inr (5, [.ref q_1, .ref q_2, .int 0, .int 0, .int 0, .int 0])), (q_1, .inl (k 0, 9, .inl (fun _ => 0))), (q_2, .inl (k 1, 9, .inl (fun _ => 0)))]) H := hP
  replace hD : va_D A ([(p_, .inr (5, [.ref q_1, .ref q_2, .int 0, .int 0, .int 0, .int 0])), (q_1, .inl (k 0, 9, .inl (fun _ => 0))), (q_2, .inl (k 1, 9, .inl (fun _ => 0)))]) := hD
  refine lv_aload_n hx hb dX5_init_24 rfl (lv_at hl 0 rfl) ?_
  refine lv_iconst (v := 0) hx hb dX5_init_25 (by decide) ?_
  refine va_put (D := D) (ci := 5) (v := .int 0) (C := RX5) (T := TX5) (N := 6) hx hb hts inX5 tyX5 tyX5_ok nmX5 hown hK hP hD hS 0 rfl rfl 2 (by decide) (hts _ wd_1_60) (fun _ h9 => h9) rfl (tyX5_ok 2 (by decide)) rfl rfl (Nat.le_of_ble_eq_true rfl) dX5_init_26 (fun H locs hP hD hS => ?_)
  replace hP : va_P D vwCl ([(p_, .inr (5, [.ref q_1, .ref q_2, .int 0, .int 0, .int 0, .int 0])), (q_1, .inl (k 0, 9, .inl (fun _ => 0))), (q_2, .inl (k 1, 9, .inl (fun _ => 0)))]) H := hP
  replace hD : va_D A ([(p_, .inr (5, [.ref q_1, .ref q_2, .int 0, .int 0, .int 0, .int 0])), (q_1, .inl (k 0, 9, .inl (fun _ => 0))), (q_2, .inl (k 1, 9, .inl (fun _ => 0)))]) := hD
  refine lv_aload_n hx hb dX5_init_29 rfl (lv_at hl 0 rfl) ?_
  refine lv_iconst (v := 0) hx hb dX5_init_30 (by decide) ?_
  refine va_put (D := D) (ci := 5) (v := .int 0) (C := RX5) (T := TX5) (N := 6) hx hb hts inX5 tyX5 tyX5_ok nmX5 hown hK hP hD hS 0 rfl rfl 3 (by decide) (hts _ wd_1_61) (fun _ h9 => h9) rfl (tyX5_ok 3 (by decide)) rfl rfl (Nat.le_of_ble_eq_true rfl) dX5_init_31 (fun H locs hP hD hS => ?_)
  replace hP : va_P D vwCl ([(p_, .inr (5, [.ref q_1, .ref q_2, .int 0, .int 0, .int 0, .int 0])), (q_1, .inl (k 0, 9, .inl (fun _ => 0))), (q_2, .inl (k 1, 9, .inl (fun _ => 0)))]) H := hP
  replace hD : va_D A ([(p_, .inr (5, [.ref q_1, .ref q_2, .int 0, .int 0, .int 0, .int 0])), (q_1, .inl (k 0, 9, .inl (fun _ => 0))), (q_2, .inl (k 1, 9, .inl (fun _ => 0)))]) := hD
  refine lv_aload_n hx hb dX5_init_34 rfl (lv_at hl 0 rfl) ?_
  refine lv_iconst (v := 0) hx hb dX5_init_35 (by decide) ?_
  refine va_put (D := D) (ci := 5) (v := .int 0) (C := RX5) (T := TX5) (N := 6) hx hb hts inX5 tyX5 tyX5_ok nmX5 hown hK hP hD hS 0 rfl rfl 4 (by decide) (hts _ wd_1_62) (fun _ h9 => h9) rfl (tyX5_ok 4 (by decide)) rfl rfl (Nat.le_of_ble_eq_true rfl) dX5_init_36 (fun H locs hP hD hS => ?_)
  replace hP : va_P D vwCl ([(p_, .inr (5, [.ref q_1, .ref q_2, .int 0, .int 0, .int 0, .int 0])), (q_1, .inl (k 0, 9, .inl (fun _ => 0))), (q_2, .inl (k 1, 9, .inl (fun _ => 0)))]) H := hP
  replace hD : va_D A ([(p_, .inr (5, [.ref q_1, .ref q_2, .int 0, .int 0, .int 0, .int 0])), (q_1, .inl (k 0, 9, .inl (fun _ => 0))), (q_2, .inl (k 1, 9, .inl (fun _ => 0)))]) := hD
  refine lv_aload_n hx hb dX5_init_39 rfl (lv_at hl 0 rfl) ?_
  refine lv_iconst (v := 0) hx hb dX5_init_40 (by decide) ?_
  refine va_put (D := D) (ci := 5) (v := .int 0) (C := RX5) (T := TX5) (N := 6) hx hb hts inX5 tyX5 tyX5_ok nmX5 hown hK hP hD hS 0 rfl rfl 5 (by decide) (hts _ wd_1_63) (fun _ h9 => h9) rfl (tyX5_ok 5 (by decide)) rfl rfl (Nat.le_of_ble_eq_true rfl) dX5_init_41 (fun H locs hP hD hS => ?_)
  replace hP : va_P D vwCl ([(p_, .inr (5, [.ref q_1, .ref q_2, .int 0, .int 0, .int 0, .int 0])), (q_1, .inl (k 0, 9, .inl (fun _ => 0))), (q_2, .inl (k 1, 9, .inl (fun _ => 0)))]) H := hP
  replace hD : va_D A ([(p_, .inr (5, [.ref q_1, .ref q_2, .int 0, .int 0, .int 0, .int 0])), (q_1, .inl (k 0, 9, .inl (fun _ => 0))), (q_2, .inl (k 1, 9, .inl (fun _ => 0)))]) := hD
  exact fs_v hx hb hr hlocks hq (q_1, q_2) trivial hP hD hS dX5_init_44 rfl
