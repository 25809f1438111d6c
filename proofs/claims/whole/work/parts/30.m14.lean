set_option maxHeartbeats 4000000 in
set_option maxRecDepth 100000 in
theorem c_X9_rules (l : Launch) (D : va_G) (h : Nat) (q : Nat → Nat) (k : Nat → ClassId) (c : Nat → Nat) (v : Nat → Int32) (nm : Int64) (a : Nat → Nat → Int32) (ht : c 2 ≤ 320) : Fs (S := Int32 × MSt) l yX9_rules cX9_rules 2 (some .int) 3 0 0 D (TY k) G0 [.ref h] (Mw h q k c v nm a) (fun u => some (.int u.1)) (fun u => u = mRules (c, v, nm, a)) (fun u => MwU h q k u.2) := by
  refine fs_body (by decide +kernel) (Nat.le_of_ble_eq_true rfl) ?_
  intro p e s m args below meth c_ Q A hx hb hml hown hts hK hP hD hS hA hG hin hr hq hlocks ls hl
  replace hl : lv_has ls 2 [(0, .ref h)] := hl
  change s.vm.findClass RX9 = some m.cls at hown
  refine lv_aload_n hx hb dX9_rules_0 rfl (lv_at hl 0 rfl) ?_
  refine lv_iconst (v := 0) hx hb dX9_rules_1 (by decide) ?_
  refine mp_0 hx hb hts hown hK hP hD hS 0 dX9_rules_2 (fun H locs hP hD hS => ?_)
  refine lv_aload_n hx hb dX9_rules_5 rfl (lv_at hl 0 rfl) ?_
  refine lv_aload_n hx hb dX9_rules_6 rfl (lv_at hl 0 rfl) ?_
  refine mg_2 (x := nI (c 2)) hx hb hts hown hK hP rfl dX9_rules_7 ?_
  refine mp_10 hx hb hts hown hK hP hD hS (c 2) rfl dX9_rules_10 (fun H locs hP hD hS => ?_)
  refine lv_aload_n hx hb dX9_rules_13 rfl (lv_at hl 0 rfl) ?_
  refine lv_iconst (v := 0) hx hb dX9_rules_14 (by decide) ?_
  refine mp_2 hx hb hts hown hK hP hD hS 0 rfl dX9_rules_15 (fun H locs hP hD hS => ?_)
  refine lv_aload_n hx hb dX9_rules_18 rfl (lv_at hl 0 rfl) ?_
  refine lv_iconst (v := 0) hx hb dX9_rules_19 (by decide) ?_
  refine mp_8 hx hb hts hown hK hP hD hS 0 dX9_rules_20 (fun H locs hP hD hS => ?_)
  refine lv_aload_n hx hb dX9_rules_23 rfl (lv_at hl 0 rfl) ?_
  refine fs_Vw (rest := []) (As := []) ⟨hx, hb, hml, hown, hts⟩ Gd0 trivial hS hA hK (hP) (hD) (c_X9_readRules l D h q k (up (up c 10 (c 2)) 2 0) (up (up v 0 0) 8 0) nm a (by show c 2 ≤ 320; omega)) mi_X9_readRules wd_5_120 wp_2_11 wd_5_118 ⟨Nat.le_of_ble_eq_true rfl, Nat.le_of_ble_eq_true rfl⟩ 0 rfl rfl rfl hl.1 rfl (Nat.le_of_ble_eq_true rfl) ⟨Nat.le_of_ble_eq_true rfl, Nat.le_of_ble_eq_true rfl⟩ dX9_rules_24 (fun u_1 H locs hu_2 hP hD hS => ?_)
  obtain ⟨r9, c2, v2, nm2, a2⟩ := u_1
  have hr9 : mRead (rdIn (c, v, nm, a)) = (r9, (c2, v2, nm2, a2)) := hu_2.symm
  replace hP : va_P D vwCl (Mw h q k c2 v2 nm2 a2) H := hP
  replace hD : va_D A (Mw h q k c2 v2 nm2 a2) := hD
  refine W.eq (g2 := F0 m 27 ls [.int r9]) rfl ?_
  refine lv_if_ne (tgt := 37) hx hb dX9_rules_27 (by decide) (fun c27 => ?_) (fun c27 => ?_)
  · have LU : ∀ (r i : Nat) (f : Nat → Int32) (H : Heap) (locs : List Loc), i + r = 9 → lp (fun k f => upd f k (a2 7 k)) r i f = rdUsual (a2 7) (a2 3) → va_P D vwCl (Mw h q k c2 v2 nm2 (up a2 3 f)) H → va_D A (Mw h q k c2 v2 nm2 (up a2 3 f)) → va_S A s.heap H locs → ∀ (ls : Array Slot), lv_has ls 2 [(0, .ref h), (1, .int (nI i))] → W p l e (rmd 3 0 0) s m args below meth c_ H locs 0 0 Q (F0 m 39 ls []) := by
      intro r
      induction r with
      | zero =>
        intro i f H locs hi he hP hD hS ls hl
        refine lv_iload_n hx hb dX9_rules_39 rfl (lv_at hl 1 rfl) ?_
        refine lv_bipush (v := 9) hx hb dX9_rules_40 (by decide) ?_
        refine lv_icmp_ge (tgt := 63) hx hb dX9_rules_42 (by decide) (fun c42 => ?_) (fun c42 => absurd (nI_le (a := 9) (by omega) (by omega)) c42)
        refine lv_aload_n hx hb dX9_rules_63 rfl (lv_at hl 0 rfl) ?_
        refine mg_16 (x := nI (c2 16)) hx hb hts hown hK hP rfl dX9_rules_64 ?_
        exact fs_i hx hb hr hlocks hq (nI (c2 16), (c2, v2, nm2, up a2 3 f)) (by rw [mRules, hr9, if_neg (show ¬ (((r9, (c2, v2, nm2, a2)) : Int32 × MSt).1 = 0) from c27), show f = rdUsual (a2 7) (a2 3) from he]) hP hD hS dX9_rules_67 rfl
      | succ r ih =>
        intro i f H locs hi he hP hD hS ls hl
        refine lv_iload_n hx hb dX9_rules_39 rfl (lv_at hl 1 rfl) ?_
        refine lv_bipush (v := 9) hx hb dX9_rules_40 (by decide) ?_
        refine lv_icmp_ge (tgt := 63) hx hb dX9_rules_42 (by decide) (fun c42 => absurd c42 (nI_ge (b := 9) (by omega) (by omega))) (fun c42 => ?_)
        refine lv_aload_n hx hb dX9_rules_45 rfl (lv_at hl 0 rfl) ?_
        refine mg_3 hx hb hts hown hK hP dX9_rules_46 ?_
        refine lv_iload_n hx hb dX9_rules_49 rfl (lv_at hl 1 rfl) ?_
        refine lv_aload_n hx hb dX9_rules_50 rfl (lv_at hl 0 rfl) ?_
        refine mg_7 hx hb hts hown hK hP dX9_rules_51 ?_
        refine lv_iload_n hx hb dX9_rules_54 rfl (lv_at hl 1 rfl) ?_
        refine ml_7 (x := (a2 7) i) hx hb hK hP i rfl (by omega) rfl dX9_rules_55 ?_
        refine mt_3 (f := f) hx hb hK hP hD hS i rfl (by omega) rfl dX9_rules_56 (fun H locs hP hD hS => ?_)
        rw [up_up] at hP hD
        refine lv_iinc (v := nI (i + 1)) (lv' := [(1, .int (nI (i + 1))), (0, .ref h)]) hx hb dX9_rules_57 hl (k := 1) rfl (nI_1 _) (by decide) rfl (fun ls hl => ?_)
        refine lv_goto (tgt := 39) hx hb dX9_rules_60 (by decide) ?_
        exact ih (i + 1) (upd f i ((a2 7) i)) H locs (by omega) (by rw [← he]; rfl) hP hD hS ls (lv_sub hl [1, 0] rfl)
    refine lv_iconst (v := 0) hx hb dX9_rules_37 (by decide) ?_
    refine lv_istore_n (lv' := [(1, .int 0), (0, .ref h)]) hx hb dX9_rules_38 rfl hl (by decide) rfl (fun ls hl => ?_)
    exact LU 9 0 (a2 3) H locs (by omega) (rfl) hP hD hS ls (lv_sub hl [1, 0] rfl)
  · refine lv_iconst (v := (-1)) hx hb dX9_rules_30 (by decide) ?_
    refine lv_aload_n hx hb dX9_rules_31 rfl (lv_at hl 0 rfl) ?_
    refine mg_9 (x := nI (c2 9)) hx hb hts hown hK hP rfl dX9_rules_32 ?_
    refine lv_isub hx hb dX9_rules_35 ?_
    exact fs_i hx hb hr hlocks hq ((-1) - (nI (c2 9)), (c2, v2, nm2, a2)) (by rw [mRules, hr9, if_pos (show ((r9, (c2, v2, nm2, a2)) : Int32 × MSt).1 = 0 from c27)]) hP hD hS dX9_rules_36 rfl
