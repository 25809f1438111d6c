/-- thrown = 0 -/
def mT0 (u : MSt) : MSt := (u.1, up u.2.1 0 0, u.2.2.1, u.2.2.2)
def mT1 (u : MSt) : MSt := (u.1, up u.2.1 0 1, u.2.2.1, u.2.2.2)
/-- byte b of the four of w -/
def byt (w : Int32) (b : Int32) : Int32 := (w.toUInt32 >>> (b.toUInt32 &&& Int32.toUInt32 31)).toInt32 &&& 255
def put4 (f : Nat → Int32) (t : Nat) (w : Int32) : Nat → Int32 := upd (upd (upd (upd f t (byt w 24)) (t + 1) (byt w 16)) (t + 1 + 1) (byt w 8)) (t + 1 + 1 + 1) (byt w 0)
def mCome (w : Int32) (u : MSt) : MSt := (up u.1 2 (u.1 2 + 4), u.2.1, u.2.2.1, up u.2.2.2 1 (put4 (u.2.2.2 1) (u.1 2) w))

set_option maxHeartbeats 4000000 in
set_option maxRecDepth 100000 in
theorem c_X9_refuse (l : Launch) (D : va_G) (h : Nat) (q : Nat → Nat) (k : Nat → ClassId) (c : Nat → Nat) (v : Nat → Int32) (nm : Int64) (a : Nat → Nat → Int32) : Fs (S := Int32 × MSt) l yX9_refuse cX9_refuse 1 (some .int) 0 0 0 D (TY k) G0 [.ref h] (Mw h q k c v nm a) (fun u => some (.int u.1)) (fun u => u = (0, mT1 (c, v, nm, a))) (fun u => MwU h q k u.2) := by
  refine fs_body (by decide +kernel) (Nat.le_of_ble_eq_true rfl) ?_
  intro p e s m args below meth c_ Q A hx hb hml hown hts hK hP hD hS hA hG hin hr hq hlocks ls hl
  replace hl : lv_has ls 1 [(0, .ref h)] := hl
  change s.vm.findClass RX9 = some m.cls at hown
  refine lv_aload_n hx hb dX9_refuse_0 rfl (lv_at hl 0 rfl) ?_
  refine lv_iconst (v := 1) hx hb dX9_refuse_1 (by decide) ?_
  refine mp_0 hx hb hts hown hK hP hD hS 1 dX9_refuse_2 (fun H locs hP hD hS => ?_)
  refine lv_iconst (v := 0) hx hb dX9_refuse_5 (by decide) ?_
  exact fs_i hx hb hr hlocks hq (0, (c, up v 0 1, nm, a)) (rfl) hP hD hS dX9_refuse_6 rfl
set_option maxHeartbeats 4000000 in
set_option maxRecDepth 100000 in
theorem c_X9_come (l : Launch) (D : va_G) (h : Nat) (q : Nat → Nat) (k : Nat → ClassId) (c : Nat → Nat) (v : Nat → Int32) (nm : Int64) (a : Nat → Nat → Int32) (w : Int32) (ht : c 2 + 4 ≤ 320) : Fs (S := MSt) l yX9_come cX9_come 3 none 0 0 0 D (TY k) G0 [.ref h, .int w] (Mw h q k c v nm a) (fun _ => none) (fun u => u = mCome w (c, v, nm, a)) (fun u => MwU h q k u) := by
  refine fs_body (by decide +kernel) (Nat.le_of_ble_eq_true rfl) ?_
  intro p e s m args below meth c_ Q A hx hb hml hown hts hK hP hD hS hA hG hin hr hq hlocks ls hl
  replace hl : lv_has ls 3 [(0, .ref h), (1, .int w)] := hl
  change s.vm.findClass RX9 = some m.cls at hown
  refine lv_bipush (v := 24) hx hb dX9_come_0 (by decide) ?_
  refine lv_istore_n (lv' := [(2, .int 24), (0, .ref h), (1, .int w)]) hx hb dX9_come_2 rfl hl (by decide) rfl (fun ls hl => ?_)
  refine lv_iload_n hx hb dX9_come_3 rfl (lv_at hl 0 rfl) ?_
  refine lv_if_lt (tgt := 39) hx hb dX9_come_4 (by decide) (fun c4 => absurd c4 (by decide)) (fun c4 => ?_)
  refine lv_aload_n hx hb dX9_come_7 rfl (lv_at hl 1 rfl) ?_
  refine mg_1 hx hb hts hown hK hP dX9_come_8 ?_
  refine lv_aload_n hx hb dX9_come_11 rfl (lv_at hl 1 rfl) ?_
  refine mg_2 (x := nI (c 2)) hx hb hts hown hK hP rfl dX9_come_12 ?_
  refine lv_iload_n hx hb dX9_come_15 rfl (lv_at hl 2 rfl) ?_
  refine lv_iload_n hx hb dX9_come_16 rfl (lv_at hl 0 rfl) ?_
  refine lv_iushr (v := (w.toUInt32 >>> ((24 : Int32).toUInt32 &&& Int32.toUInt32 31)).toInt32) hx hb dX9_come_17 rfl ?_
  refine lv_sipush (v := 255) hx hb dX9_come_18 (by decide) ?_
  refine lv_iand hx hb dX9_come_21 ?_
  refine mt_1 (f := a 1) hx hb hK hP hD hS (c 2) rfl (by omega) rfl dX9_come_22 (fun H locs hP hD hS => ?_)
  refine lv_aload_n hx hb dX9_come_23 rfl (lv_at hl 1 rfl) ?_
  refine lv_dup hx hb dX9_come_24 rfl ?_
  refine mg_2 (x := nI (c 2)) hx hb hts hown hK hP rfl dX9_come_25 ?_
  refine lv_iconst (v := 1) hx hb dX9_come_28 (by decide) ?_
  refine lv_iadd hx hb dX9_come_29 ?_
  refine rw_topi (y := nI ((c 2) + 1)) (nI_add _ _) ?_
  refine mp_2 hx hb hts hown hK hP hD hS ((c 2) + 1) rfl dX9_come_30 (fun H locs hP hD hS => ?_)
  refine lv_iinc (v := 16) (lv' := [(2, .int 16), (0, .ref h), (1, .int w)]) hx hb dX9_come_33 hl (k := 0) rfl (by decide) (by decide) rfl (fun ls hl => ?_)
  refine lv_goto (tgt := 3) hx hb dX9_come_36 (by decide) ?_
  refine lv_iload_n hx hb dX9_come_3 rfl (lv_at hl 0 rfl) ?_
  refine lv_if_lt (tgt := 39) hx hb dX9_come_4 (by decide) (fun c4 => absurd c4 (by decide)) (fun c4 => ?_)
  refine lv_aload_n hx hb dX9_come_7 rfl (lv_at hl 1 rfl) ?_
  refine mg_1 hx hb hts hown hK hP dX9_come_8 ?_
  refine lv_aload_n hx hb dX9_come_11 rfl (lv_at hl 1 rfl) ?_
  refine mg_2 (x := nI ((c 2) + 1)) hx hb hts hown hK hP rfl dX9_come_12 ?_
  refine lv_iload_n hx hb dX9_come_15 rfl (lv_at hl 2 rfl) ?_
  refine lv_iload_n hx hb dX9_come_16 rfl (lv_at hl 0 rfl) ?_
  refine lv_iushr (v := (w.toUInt32 >>> ((16 : Int32).toUInt32 &&& Int32.toUInt32 31)).toInt32) hx hb dX9_come_17 rfl ?_
  refine lv_sipush (v := 255) hx hb dX9_come_18 (by decide) ?_
  refine lv_iand hx hb dX9_come_21 ?_
  refine mt_1 (f := upd (a 1) (c 2) (((w.toUInt32 >>> ((24 : Int32).toUInt32 &&& Int32.toUInt32 31)).toInt32) &&& 255)) hx hb hK hP hD hS ((c 2) + 1) rfl (by omega) rfl dX9_come_22 (fun H locs hP hD hS => ?_)
  refine lv_aload_n hx hb dX9_come_23 rfl (lv_at hl 1 rfl) ?_
  refine lv_dup hx hb dX9_come_24 rfl ?_
  refine mg_2 (x := nI ((c 2) + 1)) hx hb hts hown hK hP rfl dX9_come_25 ?_
  refine lv_iconst (v := 1) hx hb dX9_come_28 (by decide) ?_
  refine lv_iadd hx hb dX9_come_29 ?_
  refine rw_topi (y := nI (((c 2) + 1) + 1)) (nI_add _ _) ?_
  refine mp_2 hx hb hts hown hK hP hD hS (((c 2) + 1) + 1) rfl dX9_come_30 (fun H locs hP hD hS => ?_)
  refine lv_iinc (v := 8) (lv' := [(2, .int 8), (0, .ref h), (1, .int w)]) hx hb dX9_come_33 hl (k := 0) rfl (by decide) (by decide) rfl (fun ls hl => ?_)
  refine lv_goto (tgt := 3) hx hb dX9_come_36 (by decide) ?_
  refine lv_iload_n hx hb dX9_come_3 rfl (lv_at hl 0 rfl) ?_
  refine lv_if_lt (tgt := 39) hx hb dX9_come_4 (by decide) (fun c4 => absurd c4 (by decide)) (fun c4 => ?_)
  refine lv_aload_n hx hb dX9_come_7 rfl (lv_at hl 1 rfl) ?_
  refine mg_1 hx hb hts hown hK hP dX9_come_8 ?_
  refine lv_aload_n hx hb dX9_come_11 rfl (lv_at hl 1 rfl) ?_
  refine mg_2 (x := nI (((c 2) + 1) + 1)) hx hb hts hown hK hP rfl dX9_come_12 ?_
  refine lv_iload_n hx hb dX9_come_15 rfl (lv_at hl 2 rfl) ?_
  refine lv_iload_n hx hb dX9_come_16 rfl (lv_at hl 0 rfl) ?_
  refine lv_iushr (v := (w.toUInt32 >>> ((8 : Int32).toUInt32 &&& Int32.toUInt32 31)).toInt32) hx hb dX9_come_17 rfl ?_
  refine lv_sipush (v := 255) hx hb dX9_come_18 (by decide) ?_
  refine lv_iand hx hb dX9_come_21 ?_
  refine mt_1 (f := upd (upd (a 1) (c 2) (((w.toUInt32 >>> ((24 : Int32).toUInt32 &&& Int32.toUInt32 31)).toInt32) &&& 255)) ((c 2) + 1) (((w.toUInt32 >>> ((16 : Int32).toUInt32 &&& Int32.toUInt32 31)).toInt32) &&& 255)) hx hb hK hP hD hS (((c 2) + 1) + 1) rfl (by omega) rfl dX9_come_22 (fun H locs hP hD hS => ?_)
  refine lv_aload_n hx hb dX9_come_23 rfl (lv_at hl 1 rfl) ?_
  refine lv_dup hx hb dX9_come_24 rfl ?_
  refine mg_2 (x := nI (((c 2) + 1) + 1)) hx hb hts hown hK hP rfl dX9_come_25 ?_
  refine lv_iconst (v := 1) hx hb dX9_come_28 (by decide) ?_
  refine lv_iadd hx hb dX9_come_29 ?_
  refine rw_topi (y := nI ((((c 2) + 1) + 1) + 1)) (nI_add _ _) ?_
  refine mp_2 hx hb hts hown hK hP hD hS ((((c 2) + 1) + 1) + 1) rfl dX9_come_30 (fun H locs hP hD hS => ?_)
  refine lv_iinc (v := 0) (lv' := [(2, .int 0), (0, .ref h), (1, .int w)]) hx hb dX9_come_33 hl (k := 0) rfl (by decide) (by decide) rfl (fun ls hl => ?_)
  refine lv_goto (tgt := 3) hx hb dX9_come_36 (by decide) ?_
  refine lv_iload_n hx hb dX9_come_3 rfl (lv_at hl 0 rfl) ?_
  refine lv_if_lt (tgt := 39) hx hb dX9_come_4 (by decide) (fun c4 => absurd c4 (by decide)) (fun c4 => ?_)
  refine lv_aload_n hx hb dX9_come_7 rfl (lv_at hl 1 rfl) ?_
  refine mg_1 hx hb hts hown hK hP dX9_come_8 ?_
  refine lv_aload_n hx hb dX9_come_11 rfl (lv_at hl 1 rfl) ?_
  refine mg_2 (x := nI ((((c 2) + 1) + 1) + 1)) hx hb hts hown hK hP rfl dX9_come_12 ?_
  refine lv_iload_n hx hb dX9_come_15 rfl (lv_at hl 2 rfl) ?_
  refine lv_iload_n hx hb dX9_come_16 rfl (lv_at hl 0 rfl) ?_
  refine lv_iushr (v := (w.toUInt32 >>> ((0 : Int32).toUInt32 &&& Int32.toUInt32 31)).toInt32) hx hb dX9_come_17 rfl ?_
  refine lv_sipush (v := 255) hx hb dX9_come_18 (by decide) ?_
  refine lv_iand hx hb dX9_come_21 ?_
  refine mt_1 (f := upd (upd (upd (a 1) (c 2) (((w.toUInt32 >>> ((24 : Int32).toUInt32 &&& Int32.toUInt32 31)).toInt32) &&& 255)) ((c 2) + 1) (((w.toUInt32 >>> ((16 : Int32).toUInt32 &&& Int32.toUInt32 31)).toInt32) &&& 255)) (((c 2) + 1) + 1) (((w.toUInt32 >>> ((8 : Int32).toUInt32 &&& Int32.toUInt32 31)).toInt32) &&& 255)) hx hb hK hP hD hS ((((c 2) + 1) + 1) + 1) rfl (by omega) rfl dX9_come_22 (fun H locs hP hD hS => ?_)
  refine lv_aload_n hx hb dX9_come_23 rfl (lv_at hl 1 rfl) ?_
  refine lv_dup hx hb dX9_come_24 rfl ?_
  refine mg_2 (x := nI ((((c 2) + 1) + 1) + 1)) hx hb hts hown hK hP rfl dX9_come_25 ?_
  refine lv_iconst (v := 1) hx hb dX9_come_28 (by decide) ?_
  refine lv_iadd hx hb dX9_come_29 ?_
  refine rw_topi (y := nI (((((c 2) + 1) + 1) + 1) + 1)) (nI_add _ _) ?_
  refine mp_2 hx hb hts hown hK hP hD hS (((((c 2) + 1) + 1) + 1) + 1) rfl dX9_come_30 (fun H locs hP hD hS => ?_)
  refine lv_iinc (v := (-8)) (lv' := [(2, .int (-8)), (0, .ref h), (1, .int w)]) hx hb dX9_come_33 hl (k := 0) rfl (by decide) (by decide) rfl (fun ls hl => ?_)
  refine lv_goto (tgt := 3) hx hb dX9_come_36 (by decide) ?_
  refine lv_iload_n hx hb dX9_come_3 rfl (lv_at hl 0 rfl) ?_
  refine lv_if_lt (tgt := 39) hx hb dX9_come_4 (by decide) (fun c4 => ?_) (fun c4 => absurd (by decide) c4)
  exact fs_v hx hb hr hlocks hq (up (up (up (up c 2 ((c 2) + 1)) 2 (((c 2) + 1) + 1)) 2 ((((c 2) + 1) + 1) + 1)) 2 (((((c 2) + 1) + 1) + 1) + 1), v, nm, up (up (up (up a 1 (upd (a 1) (c 2) (((w.toUInt32 >>> ((24 : Int32).toUInt32 &&& Int32.toUInt32 31)).toInt32) &&& 255))) 1 (upd (upd (a 1) (c 2) (((w.toUInt32 >>> ((24 : Int32).toUInt32 &&& Int32.toUInt32 31)).toInt32) &&& 255)) ((c 2) + 1) (((w.toUInt32 >>> ((16 : Int32).toUInt32 &&& Int32.toUInt32 31)).toInt32) &&& 255))) 1 (upd (upd (upd (a 1) (c 2) (((w.toUInt32 >>> ((24 : Int32).toUInt32 &&& Int32.toUInt32 31)).toInt32) &&& 255)) ((c 2) + 1) (((w.toUInt32 >>> ((16 : Int32).toUInt32 &&& Int32.toUInt32 31)).toInt32) &&& 255)) (((c 2) + 1) + 1) (((w.toUInt32 >>> ((8 : Int32).toUInt32 &&& Int32.toUInt32 31)).toInt32) &&& 255))) 1 (upd (upd (upd (upd (a 1) (c 2) (((w.toUInt32 >>> ((24 : Int32).toUInt32 &&& Int32.toUInt32 31)).toInt32) &&& 255)) ((c 2) + 1) (((w.toUInt32 >>> ((16 : Int32).toUInt32 &&& Int32.toUInt32 31)).toInt32) &&& 255)) (((c 2) + 1) + 1) (((w.toUInt32 >>> ((8 : Int32).toUInt32 &&& Int32.toUInt32 31)).toInt32) &&& 255)) ((((c 2) + 1) + 1) + 1) (((w.toUInt32 >>> ((0 : Int32).toUInt32 &&& Int32.toUInt32 31)).toInt32) &&& 255))) (by simp [mCome, put4, byt, up_up, up_eq]) hP hD hS dX9_come_39 rfl
