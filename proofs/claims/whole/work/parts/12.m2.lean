/-- thrown = 0 -/
def mT0 (u : MSt) : MSt := (u.1, up u.2.1 0 0, u.2.2.1, u.2.2.2)
def mT1 (u : MSt) : MSt := (u.1, up u.2.1 0 1, u.2.2.1, u.2.2.2)
/-- byte b of the four of w -/
def byt (w : Int32) (b : Int32) : Int32 := (w.toUInt32 >>> (b.toUInt32 &&& Int32.toUInt32 31)).toInt32 &&& 255
def put4 (f : Nat → Int32) (t : Nat) (w : Int32) : Nat → Int32 := upd (upd (upd (upd f t (byt w 24)) (t + 1) (byt w 16)) (t + 1 + 1) (byt w 8)) (t + 1 + 1 + 1) (byt w 0)
def mCome (w : Int32) (u : MSt) : MSt := (up u.1 2 (u.1 2 + 4), u.2.1, u.2.2.1, up u.2.2.2 1 (put4 (u.2.2.2 1) (u.1 2) w))

set_option maxHeartbeats 4000000 in
set_option maxRecDepth 100000 in
theorem c_X9_refuse (l : Launch) (D : va_G) (h : Nat) (q : Nat → Nat) (k : Nat → ClassId) (c : Nat → Nat) (v : Nat → Int32) (nm : Int64) (a : Nat → Nat → Int32) : Fs (S := Int32 × MSt) l yX9_refuse cX9_refuse 1 (some .int) 0 0 0 D (TY k) G0 [.ref h] (Mw h q k c v nm a) (fun u => some (.int u.1)) (fun u => u = (0, mT1 (c, v, nm, a))) (fun u => MwU h q k u.2) := by
  refine fs_body (by decide +kernel) (Nat.le_of_ble_eq_true rfl) ?_
  intro p e s m args below meth c_ Q A hx hb hml hown hts hK hP hD hS hA hG hin hr hq hlocks ls hl
  replace hl : lv_has ls 1 [(0, .ref h)] := hl
  change s.vm.findClass RX9 = some m.cls at hown
  refine lv_aload_n hx hb dX9_refuse_0 rfl (lv_at hl 0 rfl) ?_
  refine lv_iconst (v := 1) hx hb dX9_refuse_1 (by decide) ?_
  refine mp_0 hx hb hts hown hK hP hD hS 1 dX9_refuse_2 (fun H locs hP hD hS => ?_)
  refine lv_iconst (v := 0) hx hb dX9_refuse_5 (by decide) ?_
  exact fs_i hx hb hr hlocks hq (0, (c, up v 0 1, nm, a)) (rfl) hP hD hS dX9_refuse_6 rfl
set_option maxHeartbeats 4000000 in
set_option maxRecDepth 100000 in
theorem c_X9_come (l : Launch) (D : va_G) (h : Nat) (q : Nat → Nat) (k : Nat → ClassId) (c : Nat → Nat) (v : Nat → Int32) (nm : Int64) (a : Nat → Nat → Int32) (w : Int32) (ht : c 2 + 4 ≤ 320) : Fs (S := MSt) l yX9_come cX9_come 3 none 0 0 0 D (TY k) G0 [.ref h, .int w] (Mw h q k c v nm a) (fun _ => none) (fun u => u = mCome w (c, v, nm, a)) (fun u => MwU h q k u) := by
  refine fs_body (by decide +kernel) (Nat.le_of_ble_eq_true rfl) ?_
  intro p e s m args below meth c_ Q A hx hb hml hown hts hK hP hD hS hA hG hin hr hq hlocks ls hl
  replace hl : lv_has ls 3 [(0, .ref h), (1, .int w)] := hl
  change s.vm.findClass RX9 = some m.cls at hown
  refine lv_bipush (v := 24) hx hb dX9_come_0 (by decide) ?_
  refine lv_istore_n (lv' := [(2, .int 24), (0, .ref h), (1, .int w)]) hx hb dX9_come_2 rfl hl (by decide) rfl (fun ls hl => ?_)
  refine lv_iload_n hx hb dX9_come_3 rfl (lv_at hl 0 rfl) ?_
  refine lv_if_lt (tgt := 39) hx hb dX9_come_4 (by decide) (fun c4 => absurd c4 (by decide)) (fun c4 => ?_)
  refine lv_aload_n hx hb dX9_come_7 rfl (lv_at hl 1 rfl) ?_
  refine mg_1 hx hb hts hown hK hP dX9_come_8 ?_
  refine lv_aload_n hx hb dX9_come_11 rfl (lv_at hl 1 rfl) ?_
  refine mg_2 (x := nI (c 2)) hx hb hts hown hK hP rfl dX9_come_12 ?_
  refine lv_iload_n hx hb dX9_come_15 rfl (lv_at hl 2 rfl) ?_
  refine lv_iload_n hx hb dX9_come_16 rfl (lv_at hl 0 rfl) ?_
  refine lv_iushr (v := (w.toUInt32 >>> ((24 : Int32).toUInt32 &&& Int32.toUInt32 31)).toInt32) hx hb dX9_come_17 rfl ?_
  refine lv_sipush (v := 255) hx hb dX9_come_18 (by decide) ?_
  refine lv_iand hx hb dX9_come_21 ?_
  refine mt_1 (f := a 1) hx hb hK hP hD hS (c 2) rfl (by omega) rfl dX9_come_22 (fun H locs hP hD hS => ?_)
  refine lv_aload_n hx hb dX9_come_23 rfl (lv_at hl 1 rfl) ?_
  refine lv_dup hx hb dX9_come_24 rfl ?_
  refine mg_2 (x := nI (c 2)) hx hb hts hown hK hP rfl dX9_come_25 ?_
  refine lv_iconst (v := 1) hx hb dX9_come_28 (by decide) ?_
  refine lv_iadd hx hb dX9_come_29 ?_
  refine rw_topi (y := nI ((c 2) + 1)) (nI_add _ _) ?_
  refine mp_2 hx hb hts hown hK hP hD hS ((c 2) + 1) rfl dX9_come_30 (fun H locs hP hD hS => ?_)
  refine lv_iinc (v := 16) (lv' := [(2, .int 16), (0, .ref h), (1, .int w)]) hx hb dX9_come_33 hl (k := 0) rfl (by decide) (by decide) rfl (fun ls hl => ?_)
  refine lv_goto (tgt := 3) hx hb dX9_come_36 (by decide) ?_
  refine lv_iload_n hx hb dX9_come_3 rfl (lv_at hl 0 rfl) ?_
  refine lv_if_lt (tgt := 39) hx hb dX9_come_4 (by decide) (fun c4 => absurd c4 (by decide)) (fun c4 => ?_)
  refine lv_aload_n hx hb dX9_come_7 rfl (lv_at hl 1 rfl) ?_
  refine mg_1 hx hb hts hown hK hP dX9_come_8 ?_
  refine lv_aload_n hx hb dX9_come_11 rfl (lv_at hl 1 rfl) ?_
  refine mg_2 (x := nI ((c 2) + 1)) hx hb hts hown hK hP rfl dX9_come_12 ?_
  refine lv_iload_n hx hb dX9_come_15 rfl (lv_at hl 2 rfl) ?_
  refine lv_iload_n hx hb dX9_come_16 rfl (lv_at hl 0 rfl) ?_
  refine lv_iushr (v := (w.toUInt32 >>> ((16 : Int32).toUInt32 &&& Int32.toUInt32 31)).toInt32) hx hb dX9_come_17 rfl ?_
  refine lv_sipush (v := 255) hx hb dX9_come_18 (by decide) ?_
  refine lv_iand hx hb dX9_come_21 ?_
  refine mt_1 (f := upd (a 1) (c 2) (((w.toUInt32 >>> ((24 : Int32).toUInt32 &&& Int32.toUInt32 31)).toInt32) &&& 255)) hx hb hK hP hD hS ((c 2) + 1) rfl (by omega) rfl dX9_come_22 (fun H locs hP hD hS => ?_)
  rw [up_up] at hP hD
  refine lv_aload_n hx hb dX9_come_23 rfl (lv_at hl 1 rfl) ?_
  refine lv_dup hx hb dX9_come_24 rfl ?_
  refine mg_2 (x := nI ((c 2) + 1)) hx hb hts hown hK hP rfl dX9_come_25 ?_
  refine lv_iconst (v := 1) hx hb dX9_come_28 (by decide) ?_
  refine lv_iadd hx hb dX9_come_29 ?_
  refine rw_topi (y := nI (((c 2) + 1) + 1)) (nI_add _ _) ?_
  refine mp_2 hx hb hts hown hK hP hD hS (((c 2) + 1) + 1) rfl dX9_come_30 (fun H locs hP hD hS => ?_)
  rw [up_up] at hP hD
  refine lv_iinc (v := 8) (lv' := [(2, .int 8), (0, .ref h), (1, .int w)]) hx hb dX9_come_33 hl (k := 0) rfl (by decide) (by decide) rfl (fun ls hl => ?_)
  refine lv_goto (tgt := 3) hx hb dX9_come_36 (by decide) ?_
  refine lv_iload_n hx hb dX9_come_3 rfl (lv_at hl 0 rfl) ?_
  refine lv_if_lt (tgt := 39) hx hb dX9_come_4 (by decide) (fun c4 => absurd c4 (by decide)) (fun c4 => ?_)
  refine lv_aload_n hx hb dX9_come_7 rfl (lv_at hl 1 rfl) ?_
  refine mg_1 hx hb hts hown hK hP dX9_come_8 ?_
  refine lv_aload_n hx hb dX9_come_11 rfl (lv_at hl 1 rfl) ?_
  refine mg_2 (x := nI (((c 2) + 1) + 1)) hx hb hts hown hK hP rfl dX9_come_12 ?_
  refine lv_iload_n hx hb dX9_come_15 rfl (lv_at hl 2 rfl) ?_
  refine lv_iload_n hx hb dX9_come_16 rfl (lv_at hl 0 rfl) ?_
  refine lv_iushr (v := (w.toUInt32 >>> ((8 : Int32).toUInt32 &&& Int32.toUInt32 31)).toInt32) hx hb dX9_come_17 rfl ?_
  refine lv_sipush (v := 255) hx hb dX9_come_18 (by decide) ?_
  refine lv_iand hx hb dX9_come_21 ?_
  refine mt_1 (f := upd (upd (a 1) (c 2) (((w.toUInt32 >>> ((24 : Int32).toUInt32 &&& Int32.toUInt32 31)).toInt32) &&& 255)) ((c 2) + 1) (((w.toUInt32 >>> ((16 : Int32).toUInt32 &&& Int32.toUInt32 31)).toInt32) &&& 255)) hx hb hK hP hD hS (((c 2) + 1) + 1) rfl (by omega) rfl dX9_come_22 (fun H locs hP hD hS => ?_)
  rw [up_up] at hP hD
  refine lv_aload_n hx hb dX9_come_23 rfl (lv_at hl 1 rfl) ?_
  refine lv_dup hx hb dX9_come_24 rfl ?_
  refine mg_2 (x := nI (((c 2) + 1) + 1)) hx hb hts hown hK hP rfl dX9_come_25 ?_
  refine lv_iconst (v := 1) hx hb dX9_come_28 (by decide) ?_
  refine lv_iadd hx hb dX9_come_29 ?_
  refine rw_topi (y := nI ((((c 2) + 1) + 1) + 1)) (nI_add _ _) ?_
  refine mp_2 hx hb hts hown hK hP hD hS ((((c 2) + 1) + 1) + 1) rfl dX9_come_30 (fun H locs hP hD hS => ?_)
  rw [up_up] at hP hD
  refine lv_iinc (v := 0) (lv' := [(2, .int 0), (0, .ref h), (1, .int w)]) hx hb dX9_come_33 hl (k := 0) rfl (by decide) (by decide) rfl (fun ls hl => ?_)
  refine lv_goto (tgt := 3) hx hb dX9_come_36 (by decide) ?_
  refine lv_iload_n hx hb dX9_come_3 rfl (lv_at hl 0 rfl) ?_
  refine lv_if_lt (tgt := 39) hx hb dX9_come_4 (by decide) (fun c4 => absurd c4 (by decide)) (fun c4 => ?_)
  refine lv_aload_n hx hb dX9_come_7 rfl (lv_at hl 1 rfl) ?_
  refine mg_1 hx hb hts hown hK hP dX9_come_8 ?_
  refine lv_aload_n hx hb dX9_come_11 rfl (lv_at hl 1 rfl) ?_
  refine mg_2 (x := nI ((((c 2) + 1) + 1) + 1)) hx hb hts hown hK hP rfl dX9_come_12 ?_
  refine lv_iload_n hx hb dX9_come_15 rfl (lv_at hl 2 rfl) ?_
  refine lv_iload_n hx hb dX9_come_16 rfl (lv_at hl 0 rfl) ?_
  refine lv_iushr (v := (w.toUInt32 >>> ((0 : Int32).toUInt32 &&& Int32.toUInt32 31)).toInt32) hx hb dX9_come_17 rfl ?_
  refine lv_sipush (v := 255) hx hb dX9_come_18 (by decide) ?_
  refine lv_iand hx hb dX9_come_21 ?_
  refine mt_1 (f := upd (upd (upd (a 1) (c 2) (((w.toUInt32 >>> ((24 : Int32).toUInt32 &&& Int32.toUInt32 31)).toInt32) &&& 255)) ((c 2) + 1) (((w.toUInt32 >>> ((16 : Int32).toUInt32 &&& Int32.toUInt32 31)).toInt32) &&& 255)) (((c 2) + 1) + 1) (((w.toUInt32 >>> ((8 : Int32).toUInt32 &&& Int32.toUInt32 31)).toInt32) &&& 255)) hx hb hK hP hD hS ((((c 2) + 1) + 1) + 1) rfl (by omega) rfl dX9_come_22 (fun H locs hP hD hS => ?_)
  rw [up_up] at hP hD
  refine lv_aload_n hx hb dX9_come_23 rfl (lv_at hl 1 rfl) ?_
  refine lv_dup hx hb dX9_come_24 rfl ?_
  refine mg_2 (x := nI ((((c 2) + 1) + 1) + 1)) hx hb hts hown hK hP rfl dX9_come_25 ?_
  refine lv_iconst (v := 1) hx hb dX9_come_28 (by decide) ?_
  refine lv_iadd hx hb dX9_come_29 ?_
  refine rw_topi (y := nI (((((c 2) + 1) + 1) + 1) + 1)) (nI_add _ _) ?_
  refine mp_2 hx hb hts hown hK hP hD hS (((((c 2) + 1) + 1) + 1) + 1) rfl dX9_come_30 (fun H locs hP hD hS => ?_)
  rw [up_up] at hP hD
  refine lv_iinc (v := (-8)) (lv' := [(2, .int (-8)), (0, .ref h), (1, .int w)]) hx hb dX9_come_33 hl (k := 0) rfl (by decide) (by decide) rfl (fun ls hl => ?_)
  refine lv_goto (tgt := 3) hx hb dX9_come_36 (by decide) ?_
  refine lv_iload_n hx hb dX9_come_3 rfl (lv_at hl 0 rfl) ?_
  refine lv_if_lt (tgt := 39) hx hb dX9_come_4 (by decide) (fun c4 => ?_) (fun c4 => absurd (by decide) c4)
  exact fs_v hx hb hr hlocks hq (up c 2 (((((c 2) + 1) + 1) + 1) + 1), v, nm, up a 1 (upd (upd (upd (upd (a 1) (c 2) (((w.toUInt32 >>> ((24 : Int32).toUInt32 &&& Int32.toUInt32 31)).toInt32) &&& 255)) ((c 2) + 1) (((w.toUInt32 >>> ((16 : Int32).toUInt32 &&& Int32.toUInt32 31)).toInt32) &&& 255)) (((c 2) + 1) + 1) (((w.toUInt32 >>> ((8 : Int32).toUInt32 &&& Int32.toUInt32 31)).toInt32) &&& 255)) ((((c 2) + 1) + 1) + 1) (((w.toUInt32 >>> ((0 : Int32).toUInt32 &&& Int32.toUInt32 31)).toInt32) &&& 255))) (by simp [mCome, put4, byt, up_up, up_eq]) hP hD hS dX9_come_39 rfl
def mFeed (x y z w t : Int32) (u : MSt) : Int32 × MSt := if u.1 2 + 20 ≤ 320 then (nI (u.1 2 + 20), mCome t (mCome w (mCome z (mCome y (mCome x (mT0 u)))))) else (-1, mT0 u)
def mEnd (x : Int32) (u : MSt) : Int32 × MSt := if x < 0 then (0, mT0 u) else if x ≤ nI (u.1 2) then (1, (up u.1 2 x.toNatClampNeg, up u.2.1 0 0, u.2.2.1, u.2.2.2)) else (0, mT0 u)
def mRule (x : Int32) (u : MSt) : Int32 := if x < 0 then -1 else if x < 9 then u.2.2.2 3 x.toNatClampNeg else -1
def mPerson (x : Int32) (u : MSt) : Int32 × MSt := if u.1 21 = 40 then (-1, mT0 u) else if x < 0 then (-1, mT0 u) else if x ≤ 255 then (nI (u.1 21), (up u.1 21 (u.1 21 + 1), up u.2.1 0 0, u.2.2.1, up u.2.2.2 17 (upd (u.2.2.2 17) (u.1 21) x))) else (-1, mT0 u)
def mFund (x y : Int32) (u : MSt) : Int32 × MSt := if u.1 22 = 6 then (-1, mT0 u) else if x < 0 then (-1, mT0 u) else if 7 < x then (-1, mT0 u) else if y < 0 then (-1, mT0 u) else if y ≤ 100000 then (nI (u.1 22), (up u.1 22 (u.1 22 + 1), up (up u.2.1 0 0) 24 (u.2.1 24 + y), u.2.2.1, up (up u.2.2.2 18 (upd (u.2.2.2 18) (u.1 22) x)) 19 (upd (u.2.2.2 19) (u.1 22) y))) else (-1, mT0 u)
def mGift (x y : Int32) (u : MSt) : Int32 × MSt := if isIn x (u.1 22) = false then (-1, mT0 u) else if y < 1 then (-1, mT0 u) else if 100000 < y then (-1, mT0 u) else if u.2.2.2 19 x.toNatClampNeg + y ≤ 1000000 then (u.2.2.2 19 x.toNatClampNeg + y, (u.1, up (up u.2.1 0 0) 24 (u.2.1 24 + y), u.2.2.1, up u.2.2.2 19 (upd (u.2.2.2 19) x.toNatClampNeg (u.2.2.2 19 x.toNatClampNeg + y)))) else (-1, mT0 u)
def mTag (x y z : Int32) (u : MSt) : Int32 × MSt := if isIn x (u.1 21) = false then (0, mT0 u) else if y < 0 then (0, mT0 u) else if 7 < y then (0, mT0 u) else if (u.2.2.2 17 x.toNatClampNeg >>> (y &&& 31)) &&& 1 = (if z = 0 then 0 else 1) then (0, mT0 u) else (1, (u.1, up u.2.1 0 0, u.2.2.1, up u.2.2.2 17 (upd (u.2.2.2 17) x.toNatClampNeg (u.2.2.2 17 x.toNatClampNeg ^^^ (1 <<< (y &&& 31))))))

set_option maxHeartbeats 4000000 in
set_option maxRecDepth 100000 in
theorem c_X9_feed (l : Launch) (D : va_G) (h : Nat) (q : Nat → Nat) (k : Nat → ClassId) (c : Nat → Nat) (v : Nat → Int32) (nm : Int64) (a : Nat → Nat → Int32) (x : Int32) (y : Int32) (z : Int32) (w : Int32) (t : Int32) (ht : c 2 ≤ 320) : Fs (S := Int32 × MSt) l yX9_feed cX9_feed 6 (some .int) 1 0 0 D (TY k) G0 [.ref h, .int x, .int y, .int z, .int w, .int t] (Mw h q k c v nm a) (fun u => some (.int u.1)) (fun u => u = mFeed x y z w t (c, v, nm, a)) (fun u => MwU h q k u.2) := by
  refine fs_body (by decide +kernel) (Nat.le_of_ble_eq_true rfl) ?_
  intro p e s m args below meth c_ Q A hx hb hml hown hts hK hP hD hS hA hG hin hr hq hlocks ls hl
  replace hl : lv_has ls 6 [(0, .ref h), (1, .int x), (2, .int y), (3, .int z), (4, .int w), (5, .int t)] := hl
  change s.vm.findClass RX9 = some m.cls at hown
  refine lv_aload_n hx hb dX9_feed_0 rfl (lv_at hl 0 rfl) ?_
  refine lv_iconst (v := 0) hx hb dX9_feed_1 (by decide) ?_
  refine mp_0 hx hb hts hown hK hP hD hS 0 dX9_feed_2 (fun H locs hP hD hS => ?_)
  refine lv_aload_n hx hb dX9_feed_5 rfl (lv_at hl 0 rfl) ?_
  refine mg_2 (x := nI (c 2)) hx hb hts hown hK hP rfl dX9_feed_6 ?_
  refine lv_bipush (v := 20) hx hb dX9_feed_9 (by decide) ?_
  refine lv_iadd hx hb dX9_feed_11 ?_
  refine rw_topi (y := nI ((c 2) + 20)) (nI_add _ _) ?_
  refine lv_sipush (v := 320) hx hb dX9_feed_12 (by decide) ?_
  refine lv_icmp_le (tgt := 20) hx hb dX9_feed_15 (by decide) (fun c15 => ?_) (fun c15 => ?_)
  · replace c15 : ((c 2) + 20) ≤ 320 := (nI_leI (a := (c 2) + 20) (b := 320) (by omega) (by omega)).mp c15
    refine lv_aload_n hx hb dX9_feed_20 rfl (lv_at hl 0 rfl) ?_
    refine lv_iload_n hx hb dX9_feed_21 rfl (lv_at hl 1 rfl) ?_
    refine fs_Vw (rest := []) (As := [.int x]) ⟨hx, hb, hml, hown, hts⟩ Gd0 trivial hS hA hK (hP) (hD) (c_X9_come l D h q k c (up v 0 0) nm a x (by omega)) mi_X9_come wd_5_108 wp_2_10 wd_5_106 ⟨Nat.le_of_ble_eq_true rfl, Nat.le_of_ble_eq_true rfl⟩ 0 rfl rfl rfl hl.1 rfl (Nat.le_of_ble_eq_true rfl) ⟨Nat.le_of_ble_eq_true rfl, Nat.le_of_ble_eq_true rfl⟩ dX9_feed_22 (fun u_1 H locs hu_2 hP hD hS => ?_)
    subst hu_2
    replace hP : va_P D vwCl (Mw h q k (up c 2 (c 2 + 4)) (up v 0 0) nm (up a 1 (put4 (a 1) (c 2) x))) H := hP
    replace hD : va_D A (Mw h q k (up c 2 (c 2 + 4)) (up v 0 0) nm (up a 1 (put4 (a 1) (c 2) x))) := hD
    refine W.eq (g2 := F0 m 25 ls []) rfl ?_
    refine lv_aload_n hx hb dX9_feed_25 rfl (lv_at hl 0 rfl) ?_
    refine lv_iload_n hx hb dX9_feed_26 rfl (lv_at hl 2 rfl) ?_
    refine fs_Vw (rest := []) (As := [.int y]) ⟨hx, hb, hml, hown, hts⟩ Gd0 trivial hS hA hK (hP) (hD) (c_X9_come l D h q k (up c 2 (c 2 + 4)) (up v 0 0) nm (up a 1 (put4 (a 1) (c 2) x)) y (show _ + 4 ≤ 320 by simp only [up_eq]; omega)) mi_X9_come wd_5_108 wp_2_10 wd_5_106 ⟨Nat.le_of_ble_eq_true rfl, Nat.le_of_ble_eq_true rfl⟩ 0 rfl rfl rfl hl.1 rfl (Nat.le_of_ble_eq_true rfl) ⟨Nat.le_of_ble_eq_true rfl, Nat.le_of_ble_eq_true rfl⟩ dX9_feed_27 (fun u_3 H locs hu_4 hP hD hS => ?_)
    subst hu_4
    replace hP : va_P D vwCl (Mw h q k (up c 2 (c 2 + 4 + 4)) (up v 0 0) nm (up a 1 (put4 (put4 (a 1) (c 2) x) (c 2 + 4) y))) H := hP
    replace hD : va_D A (Mw h q k (up c 2 (c 2 + 4 + 4)) (up v 0 0) nm (up a 1 (put4 (put4 (a 1) (c 2) x) (c 2 + 4) y))) := hD
    refine W.eq (g2 := F0 m 30 ls []) rfl ?_
    refine lv_aload_n hx hb dX9_feed_30 rfl (lv_at hl 0 rfl) ?_
    refine lv_iload_n hx hb dX9_feed_31 rfl (lv_at hl 3 rfl) ?_
    refine fs_Vw (rest := []) (As := [.int z]) ⟨hx, hb, hml, hown, hts⟩ Gd0 trivial hS hA hK (hP) (hD) (c_X9_come l D h q k (up c 2 (c 2 + 4 + 4)) (up v 0 0) nm (up a 1 (put4 (put4 (a 1) (c 2) x) (c 2 + 4) y)) z (show _ + 4 ≤ 320 by simp only [up_eq]; omega)) mi_X9_come wd_5_108 wp_2_10 wd_5_106 ⟨Nat.le_of_ble_eq_true rfl, Nat.le_of_ble_eq_true rfl⟩ 0 rfl rfl rfl hl.1 rfl (Nat.le_of_ble_eq_true rfl) ⟨Nat.le_of_ble_eq_true rfl, Nat.le_of_ble_eq_true rfl⟩ dX9_feed_32 (fun u_5 H locs hu_6 hP hD hS => ?_)
    subst hu_6
    replace hP : va_P D vwCl (Mw h q k (up c 2 (c 2 + 4 + 4 + 4)) (up v 0 0) nm (up a 1 (put4 (put4 (put4 (a 1) (c 2) x) (c 2 + 4) y) (c 2 + 4 + 4) z))) H := hP
    replace hD : va_D A (Mw h q k (up c 2 (c 2 + 4 + 4 + 4)) (up v 0 0) nm (up a 1 (put4 (put4 (put4 (a 1) (c 2) x) (c 2 + 4) y) (c 2 + 4 + 4) z))) := hD
    refine W.eq (g2 := F0 m 35 ls []) rfl ?_
    refine lv_aload_n hx hb dX9_feed_35 rfl (lv_at hl 0 rfl) ?_
    refine lv_iload hx hb dX9_feed_36 (lv_at hl 4 rfl) ?_
    refine fs_Vw (rest := []) (As := [.int w]) ⟨hx, hb, hml, hown, hts⟩ Gd0 trivial hS hA hK (hP) (hD) (c_X9_come l D h q k (up c 2 (c 2 + 4 + 4 + 4)) (up v 0 0) nm (up a 1 (put4 (put4 (put4 (a 1) (c 2) x) (c 2 + 4) y) (c 2 + 4 + 4) z)) w (show _ + 4 ≤ 320 by simp only [up_eq]; omega)) mi_X9_come wd_5_108 wp_2_10 wd_5_106 ⟨Nat.le_of_ble_eq_true rfl, Nat.le_of_ble_eq_true rfl⟩ 0 rfl rfl rfl hl.1 rfl (Nat.le_of_ble_eq_true rfl) ⟨Nat.le_of_ble_eq_true rfl, Nat.le_of_ble_eq_true rfl⟩ dX9_feed_38 (fun u_7 H locs hu_8 hP hD hS => ?_)
    subst hu_8
    replace hP : va_P D vwCl (Mw h q k (up c 2 (c 2 + 4 + 4 + 4 + 4)) (up v 0 0) nm (up a 1 (put4 (put4 (put4 (put4 (a 1) (c 2) x) (c 2 + 4) y) (c 2 + 4 + 4) z) (c 2 + 4 + 4 + 4) w))) H := hP
    replace hD : va_D A (Mw h q k (up c 2 (c 2 + 4 + 4 + 4 + 4)) (up v 0 0) nm (up a 1 (put4 (put4 (put4 (put4 (a 1) (c 2) x) (c 2 + 4) y) (c 2 + 4 + 4) z) (c 2 + 4 + 4 + 4) w))) := hD
    refine W.eq (g2 := F0 m 41 ls []) rfl ?_
    refine lv_aload_n hx hb dX9_feed_41 rfl (lv_at hl 0 rfl) ?_
    refine lv_iload hx hb dX9_feed_42 (lv_at hl 5 rfl) ?_
    refine fs_Vw (rest := []) (As := [.int t]) ⟨hx, hb, hml, hown, hts⟩ Gd0 trivial hS hA hK (hP) (hD) (c_X9_come l D h q k (up c 2 (c 2 + 4 + 4 + 4 + 4)) (up v 0 0) nm (up a 1 (put4 (put4 (put4 (put4 (a 1) (c 2) x) (c 2 + 4) y) (c 2 + 4 + 4) z) (c 2 + 4 + 4 + 4) w)) t (show _ + 4 ≤ 320 by simp only [up_eq]; omega)) mi_X9_come wd_5_108 wp_2_10 wd_5_106 ⟨Nat.le_of_ble_eq_true rfl, Nat.le_of_ble_eq_true rfl⟩ 0 rfl rfl rfl hl.1 rfl (Nat.le_of_ble_eq_true rfl) ⟨Nat.le_of_ble_eq_true rfl, Nat.le_of_ble_eq_true rfl⟩ dX9_feed_44 (fun u_9 H locs hu_10 hP hD hS => ?_)
    subst hu_10
    replace hP : va_P D vwCl (Mw h q k (up c 2 (c 2 + 4 + 4 + 4 + 4 + 4)) (up v 0 0) nm (up a 1 (put4 (put4 (put4 (put4 (put4 (a 1) (c 2) x) (c 2 + 4) y) (c 2 + 4 + 4) z) (c 2 + 4 + 4 + 4) w) (c 2 + 4 + 4 + 4 + 4) t))) H := hP
    replace hD : va_D A (Mw h q k (up c 2 (c 2 + 4 + 4 + 4 + 4 + 4)) (up v 0 0) nm (up a 1 (put4 (put4 (put4 (put4 (put4 (a 1) (c 2) x) (c 2 + 4) y) (c 2 + 4 + 4) z) (c 2 + 4 + 4 + 4) w) (c 2 + 4 + 4 + 4 + 4) t))) := hD
    refine W.eq (g2 := F0 m 47 ls []) rfl ?_
    refine lv_aload_n hx hb dX9_feed_47 rfl (lv_at hl 0 rfl) ?_
    refine mg_2 (x := nI (c 2 + 4 + 4 + 4 + 4 + 4)) hx hb hts hown hK hP rfl dX9_feed_48 ?_
    exact fs_i hx hb hr hlocks hq (nI (c 2 + 4 + 4 + 4 + 4 + 4), (up c 2 (c 2 + 4 + 4 + 4 + 4 + 4), up v 0 0, nm, up a 1 (put4 (put4 (put4 (put4 (put4 (a 1) (c 2) x) (c 2 + 4) y) (c 2 + 4 + 4) z) (c 2 + 4 + 4 + 4) w) (c 2 + 4 + 4 + 4 + 4) t))) (by simp [mFeed, mT0, mCome, up_up, up_eq, c15]) hP hD hS dX9_feed_51 rfl
  · replace c15 : ¬ (((c 2) + 20) ≤ 320) := fun z => c15 ((nI_leI (a := (c 2) + 20) (b := 320) (by omega) (by omega)).mpr z)
    refine lv_iconst (v := (-1)) hx hb dX9_feed_18 (by decide) ?_
    exact fs_i hx hb hr hlocks hq ((-1), (c, up v 0 0, nm, a)) (by simp [mFeed, mT0, mCome, up_up, up_eq, c15]) hP hD hS dX9_feed_19 rfl
set_option maxHeartbeats 4000000 in
set_option maxRecDepth 100000 in
theorem c_X9_end (l : Launch) (D : va_G) (h : Nat) (q : Nat → Nat) (k : Nat → ClassId) (c : Nat → Nat) (v : Nat → Int32) (nm : Int64) (a : Nat → Nat → Int32) (x : Int32) (ht : c 2 ≤ 320) : Fs (S := Int32 × MSt) l yX9_end cX9_end 2 (some .boolean) 0 0 0 D (TY k) G0 [.ref h, .int x] (Mw h q k c v nm a) (fun u => some (.int u.1)) (fun u => u = mEnd x (c, v, nm, a)) (fun u => MwU h q k u.2) := by
  refine fs_body (by decide +kernel) (Nat.le_of_ble_eq_true rfl) ?_
  intro p e s m args below meth c_ Q A hx hb hml hown hts hK hP hD hS hA hG hin hr hq hlocks ls hl
  replace hl : lv_has ls 2 [(0, .ref h), (1, .int x)] := hl
  change s.vm.findClass RX9 = some m.cls at hown
  refine lv_aload_n hx hb dX9_end_0 rfl (lv_at hl 0 rfl) ?_
  refine lv_iconst (v := 0) hx hb dX9_end_1 (by decide) ?_
  refine mp_0 hx hb hts hown hK hP hD hS 0 dX9_end_2 (fun H locs hP hD hS => ?_)
  refine lv_iload_n hx hb dX9_end_5 rfl (lv_at hl 1 rfl) ?_
  refine lv_if_lt (tgt := 17) hx hb dX9_end_6 (by decide) (fun c6 => ?_) (fun c6 => ?_)
  · refine lv_iconst (v := 0) hx hb dX9_end_17 (by decide) ?_
    exact fs_z hx hb hr hlocks hq (0, (c, up v 0 0, nm, a)) (by simp [mEnd, mT0, c6]) hP hD hS (rfl) dX9_end_18 rfl
  · refine lv_iload_n hx hb dX9_end_9 rfl (lv_at hl 1 rfl) ?_
    refine lv_aload_n hx hb dX9_end_10 rfl (lv_at hl 0 rfl) ?_
    refine mg_2 (x := nI (c 2)) hx hb hts hown hK hP rfl dX9_end_11 ?_
    refine lv_icmp_le (tgt := 19) hx hb dX9_end_14 (by decide) (fun c14 => ?_) (fun c14 => ?_)
    · refine lv_aload_n hx hb dX9_end_19 rfl (lv_at hl 0 rfl) ?_
      refine lv_iload_n hx hb dX9_end_20 rfl (lv_at hl 1 rfl) ?_
      refine rw_topi (y := nI x.toNatClampNeg) (nI_self c6) ?_
      refine mp_2 hx hb hts hown hK hP hD hS x.toNatClampNeg rfl dX9_end_21 (fun H locs hP hD hS => ?_)
      refine lv_iconst (v := 1) hx hb dX9_end_24 (by decide) ?_
      exact fs_z hx hb hr hlocks hq (1, (up c 2 x.toNatClampNeg, up v 0 0, nm, a)) (by simp [mEnd, mT0, c6, c14]) hP hD hS (rfl) dX9_end_25 rfl
    · refine lv_iconst (v := 0) hx hb dX9_end_17 (by decide) ?_
      exact fs_z hx hb hr hlocks hq (0, (c, up v 0 0, nm, a)) (by simp [mEnd, mT0, c6, c14]) hP hD hS (rfl) dX9_end_18 rfl
set_option maxHeartbeats 4000000 in
set_option maxRecDepth 100000 in
theorem c_X9_fault (l : Launch) (D : va_G) (h : Nat) (q : Nat → Nat) (k : Nat → ClassId) (c : Nat → Nat) (v : Nat → Int32) (nm : Int64) (a : Nat → Nat → Int32) : Fs (S := Int32 × MSt) l yX9_fault cX9_fault 1 (some .int) 0 0 0 D (TY k) G0 [.ref h] (Mw h q k c v nm a) (fun u => some (.int u.1)) (fun u => u = (v 8, mT0 (c, v, nm, a))) (fun u => MwU h q k u.2) := by
  refine fs_body (by decide +kernel) (Nat.le_of_ble_eq_true rfl) ?_
  intro p e s m args below meth c_ Q A hx hb hml hown hts hK hP hD hS hA hG hin hr hq hlocks ls hl
  replace hl : lv_has ls 1 [(0, .ref h)] := hl
  change s.vm.findClass RX9 = some m.cls at hown
  refine lv_aload_n hx hb dX9_fault_0 rfl (lv_at hl 0 rfl) ?_
  refine lv_iconst (v := 0) hx hb dX9_fault_1 (by decide) ?_
  refine mp_0 hx hb hts hown hK hP hD hS 0 dX9_fault_2 (fun H locs hP hD hS => ?_)
  refine lv_aload_n hx hb dX9_fault_5 rfl (lv_at hl 0 rfl) ?_
  refine mg_8 (x := v 8) hx hb hts hown hK hP rfl dX9_fault_6 ?_
  exact fs_i hx hb hr hlocks hq (v 8, (c, up v 0 0, nm, a)) (rfl) hP hD hS dX9_fault_9 rfl
set_option maxHeartbeats 4000000 in
set_option maxRecDepth 100000 in
theorem c_X9_rule (l : Launch) (D : va_G) (h : Nat) (q : Nat → Nat) (k : Nat → ClassId) (c : Nat → Nat) (v : Nat → Int32) (nm : Int64) (a : Nat → Nat → Int32) (x : Int32) : Fs (S := Int32 × MSt) l yX9_rule cX9_rule 2 (some .int) 0 0 0 D (TY k) G0 [.ref h, .int x] (Mw h q k c v nm a) (fun u => some (.int u.1)) (fun u => u = (mRule x (c, v, nm, a), mT0 (c, v, nm, a))) (fun u => MwU h q k u.2) := by
  refine fs_body (by decide +kernel) (Nat.le_of_ble_eq_true rfl) ?_
  intro p e s m args below meth c_ Q A hx hb hml hown hts hK hP hD hS hA hG hin hr hq hlocks ls hl
  replace hl : lv_has ls 2 [(0, .ref h), (1, .int x)] := hl
  change s.vm.findClass RX9 = some m.cls at hown
  refine lv_aload_n hx hb dX9_rule_0 rfl (lv_at hl 0 rfl) ?_
  refine lv_iconst (v := 0) hx hb dX9_rule_1 (by decide) ?_
  refine mp_0 hx hb hts hown hK hP hD hS 0 dX9_rule_2 (fun H locs hP hD hS => ?_)
  refine lv_iload_n hx hb dX9_rule_5 rfl (lv_at hl 1 rfl) ?_
  refine lv_if_lt (tgt := 15) hx hb dX9_rule_6 (by decide) (fun c6 => ?_) (fun c6 => ?_)
  · refine lv_iconst (v := (-1)) hx hb dX9_rule_15 (by decide) ?_
    refine lv_goto (tgt := 25) hx hb dX9_rule_16 (by decide) ?_
    exact fs_i hx hb hr hlocks hq ((-1), (c, up v 0 0, nm, a)) (by simp [mRule, mT0, c6]) hP hD hS dX9_rule_25 rfl
  · refine lv_iload_n hx hb dX9_rule_9 rfl (lv_at hl 1 rfl) ?_
    refine lv_bipush (v := 9) hx hb dX9_rule_10 (by decide) ?_
    refine lv_icmp_lt (tgt := 19) hx hb dX9_rule_12 (by decide) (fun c12 => ?_) (fun c12 => ?_)
    · refine lv_aload_n hx hb dX9_rule_19 rfl (lv_at hl 0 rfl) ?_
      refine mg_3 hx hb hts hown hK hP dX9_rule_20 ?_
      refine lv_iload_n hx hb dX9_rule_23 rfl (lv_at hl 1 rfl) ?_
      refine ml_3 (x := (a 3) x.toNatClampNeg) hx hb hK hP x.toNatClampNeg (nI_self c6) (by have := nI_self c6; rw [this] at c12; exact (nI_ltI (a := x.toNatClampNeg) (b := 9) (by have := Int32.toNatClampNeg_lt x; omega) (by decide)).mp c12) rfl dX9_rule_24 ?_
      exact fs_i hx hb hr hlocks hq ((a 3) x.toNatClampNeg, (c, up v 0 0, nm, a)) (by simp [mRule, mT0, c6, c12]) hP hD hS dX9_rule_25 rfl
    · refine lv_iconst (v := (-1)) hx hb dX9_rule_15 (by decide) ?_
      refine lv_goto (tgt := 25) hx hb dX9_rule_16 (by decide) ?_
      exact fs_i hx hb hr hlocks hq ((-1), (c, up v 0 0, nm, a)) (by simp [mRule, mT0, c6, c12]) hP hD hS dX9_rule_25 rfl
set_option maxHeartbeats 4000000 in
set_option maxRecDepth 100000 in
theorem c_X9_person (l : Launch) (D : va_G) (h : Nat) (q : Nat → Nat) (k : Nat → ClassId) (c : Nat → Nat) (v : Nat → Int32) (nm : Int64) (a : Nat → Nat → Int32) (x : Int32) (hn : c 21 ≤ 40) : Fs (S := Int32 × MSt) l yX9_person cX9_person 2 (some .int) 0 0 0 D (TY k) G0 [.ref h, .int x] (Mw h q k c v nm a) (fun u => some (.int u.1)) (fun u => u = mPerson x (c, v, nm, a)) (fun u => MwU h q k u.2) := by
  refine fs_body (by decide +kernel) (Nat.le_of_ble_eq_true rfl) ?_
  intro p e s m args below meth c_ Q A hx hb hml hown hts hK hP hD hS hA hG hin hr hq hlocks ls hl
  replace hl : lv_has ls 2 [(0, .ref h), (1, .int x)] := hl
  change s.vm.findClass RX9 = some m.cls at hown
  refine lv_aload_n hx hb dX9_person_0 rfl (lv_at hl 0 rfl) ?_
  refine lv_iconst (v := 0) hx hb dX9_person_1 (by decide) ?_
  refine mp_0 hx hb hts hown hK hP hD hS 0 dX9_person_2 (fun H locs hP hD hS => ?_)
  refine lv_aload_n hx hb dX9_person_5 rfl (lv_at hl 0 rfl) ?_
  refine mg_21 (x := nI (c 21)) hx hb hts hown hK hP rfl dX9_person_6 ?_
  refine lv_bipush (v := 40) hx hb dX9_person_9 (by decide) ?_
  refine lv_icmp_eq (tgt := 25) hx hb dX9_person_11 (by decide) (fun c11 => ?_) (fun c11 => ?_)
  · replace c11 : (c 21) = 40 := (nI_eq (a := c 21) (b := 40) (by omega) (by omega)).mp c11
    refine lv_iconst (v := (-1)) hx hb dX9_person_25 (by decide) ?_
    exact fs_i hx hb hr hlocks hq ((-1), (c, up v 0 0, nm, a)) (by simp [mPerson, mT0, c11]) hP hD hS dX9_person_26 rfl
  · replace c11 : ¬ ((c 21) = 40) := fun z => c11 ((nI_eq (a := c 21) (b := 40) (by omega) (by omega)).mpr z)
    refine lv_iload_n hx hb dX9_person_14 rfl (lv_at hl 1 rfl) ?_
    refine lv_if_lt (tgt := 25) hx hb dX9_person_15 (by decide) (fun c15 => ?_) (fun c15 => ?_)
    · refine lv_iconst (v := (-1)) hx hb dX9_person_25 (by decide) ?_
      exact fs_i hx hb hr hlocks hq ((-1), (c, up v 0 0, nm, a)) (by simp [mPerson, mT0, c11, c15]) hP hD hS dX9_person_26 rfl
    · refine lv_iload_n hx hb dX9_person_18 rfl (lv_at hl 1 rfl) ?_
      refine lv_sipush (v := 255) hx hb dX9_person_19 (by decide) ?_
      refine lv_icmp_le (tgt := 27) hx hb dX9_person_22 (by decide) (fun c22 => ?_) (fun c22 => ?_)
      · refine lv_aload_n hx hb dX9_person_27 rfl (lv_at hl 0 rfl) ?_
        refine mg_17 hx hb hts hown hK hP dX9_person_28 ?_
        refine lv_aload_n hx hb dX9_person_31 rfl (lv_at hl 0 rfl) ?_
        refine mg_21 (x := nI (c 21)) hx hb hts hown hK hP rfl dX9_person_32 ?_
        refine lv_iload_n hx hb dX9_person_35 rfl (lv_at hl 1 rfl) ?_
        refine mt_17 (f := a 17) hx hb hK hP hD hS (c 21) rfl (by omega) rfl dX9_person_36 (fun H locs hP hD hS => ?_)
        refine lv_aload_n hx hb dX9_person_37 rfl (lv_at hl 0 rfl) ?_
        refine lv_dup hx hb dX9_person_38 rfl ?_
        refine mg_21 (x := nI (c 21)) hx hb hts hown hK hP rfl dX9_person_39 ?_
        refine lv_iconst (v := 1) hx hb dX9_person_42 (by decide) ?_
        refine lv_iadd hx hb dX9_person_43 ?_
        refine rw_topi (y := nI ((c 21) + 1)) (nI_add _ _) ?_
        refine mp_21 hx hb hts hown hK hP hD hS ((c 21) + 1) rfl dX9_person_44 (fun H locs hP hD hS => ?_)
        refine lv_aload_n hx hb dX9_person_47 rfl (lv_at hl 0 rfl) ?_
        refine mg_21 (x := nI ((c 21) + 1)) hx hb hts hown hK hP rfl dX9_person_48 ?_
        refine lv_iconst (v := 1) hx hb dX9_person_51 (by decide) ?_
        refine lv_isub hx hb dX9_person_52 ?_
        refine rw_topi (y := nI (c 21)) (nI_pred _) ?_
        exact fs_i hx hb hr hlocks hq (nI (c 21), (up c 21 ((c 21) + 1), up v 0 0, nm, up a 17 (upd (a 17) (c 21) x))) (by simp [mPerson, mT0, c11, c15, c22]) hP hD hS dX9_person_53 rfl
      · refine lv_iconst (v := (-1)) hx hb dX9_person_25 (by decide) ?_
        exact fs_i hx hb hr hlocks hq ((-1), (c, up v 0 0, nm, a)) (by simp [mPerson, mT0, c11, c15, c22]) hP hD hS dX9_person_26 rfl
set_option maxHeartbeats 4000000 in
set_option maxRecDepth 100000 in
theorem c_X9_fund (l : Launch) (D : va_G) (h : Nat) (q : Nat → Nat) (k : Nat → ClassId) (c : Nat → Nat) (v : Nat → Int32) (nm : Int64) (a : Nat → Nat → Int32) (x : Int32) (y : Int32) (hn : c 22 ≤ 6) : Fs (S := Int32 × MSt) l yX9_fund cX9_fund 3 (some .int) 0 0 0 D (TY k) G0 [.ref h, .int x, .int y] (Mw h q k c v nm a) (fun u => some (.int u.1)) (fun u => u = mFund x y (c, v, nm, a)) (fun u => MwU h q k u.2) := by
  refine fs_body (by decide +kernel) (Nat.le_of_ble_eq_true rfl) ?_
  intro p e s m args below meth c_ Q A hx hb hml hown hts hK hP hD hS hA hG hin hr hq hlocks ls hl
  replace hl : lv_has ls 3 [(0, .ref h), (1, .int x), (2, .int y)] := hl
  change s.vm.findClass RX9 = some m.cls at hown
  refine lv_aload_n hx hb dX9_fund_0 rfl (lv_at hl 0 rfl) ?_
  refine lv_iconst (v := 0) hx hb dX9_fund_1 (by decide) ?_
  refine mp_0 hx hb hts hown hK hP hD hS 0 dX9_fund_2 (fun H locs hP hD hS => ?_)
  refine lv_aload_n hx hb dX9_fund_5 rfl (lv_at hl 0 rfl) ?_
  refine mg_22 (x := nI (c 22)) hx hb hts hown hK hP rfl dX9_fund_6 ?_
  refine lv_bipush (v := 6) hx hb dX9_fund_9 (by decide) ?_
  refine lv_icmp_eq (tgt := 34) hx hb dX9_fund_11 (by decide) (fun c11 => ?_) (fun c11 => ?_)
  · replace c11 : (c 22) = 6 := (nI_eq (a := c 22) (b := 6) (by omega) (by omega)).mp c11
    refine lv_iconst (v := (-1)) hx hb dX9_fund_34 (by decide) ?_
    exact fs_i hx hb hr hlocks hq ((-1), (c, up v 0 0, nm, a)) (by simp [mFund, mT0, c11]) hP hD hS dX9_fund_35 rfl
  · replace c11 : ¬ ((c 22) = 6) := fun z => c11 ((nI_eq (a := c 22) (b := 6) (by omega) (by omega)).mpr z)
    refine lv_iload_n hx hb dX9_fund_14 rfl (lv_at hl 1 rfl) ?_
    refine lv_if_lt (tgt := 34) hx hb dX9_fund_15 (by decide) (fun c15 => ?_) (fun c15 => ?_)
    · refine lv_iconst (v := (-1)) hx hb dX9_fund_34 (by decide) ?_
      exact fs_i hx hb hr hlocks hq ((-1), (c, up v 0 0, nm, a)) (by simp [mFund, mT0, c11, c15]) hP hD hS dX9_fund_35 rfl
    · refine lv_iload_n hx hb dX9_fund_18 rfl (lv_at hl 1 rfl) ?_
      refine lv_bipush (v := 7) hx hb dX9_fund_19 (by decide) ?_
      refine lv_icmp_gt (tgt := 34) hx hb dX9_fund_21 (by decide) (fun c21 => ?_) (fun c21 => ?_)
      · refine lv_iconst (v := (-1)) hx hb dX9_fund_34 (by decide) ?_
        exact fs_i hx hb hr hlocks hq ((-1), (c, up v 0 0, nm, a)) (by simp [mFund, mT0, c11, c15, c21]) hP hD hS dX9_fund_35 rfl
      · refine lv_iload_n hx hb dX9_fund_24 rfl (lv_at hl 2 rfl) ?_
        refine lv_if_lt (tgt := 34) hx hb dX9_fund_25 (by decide) (fun c25 => ?_) (fun c25 => ?_)
        · refine lv_iconst (v := (-1)) hx hb dX9_fund_34 (by decide) ?_
          exact fs_i hx hb hr hlocks hq ((-1), (c, up v 0 0, nm, a)) (by simp [mFund, mT0, c11, c15, c21, c25]) hP hD hS dX9_fund_35 rfl
        · refine lv_iload_n hx hb dX9_fund_28 rfl (lv_at hl 2 rfl) ?_
          refine lv_ldc (v := 100000) hx hb hown (hts _ wd_5_177) dX9_fund_29 ?_
          refine lv_icmp_le (tgt := 36) hx hb dX9_fund_31 (by decide) (fun c31 => ?_) (fun c31 => ?_)
          · refine lv_aload_n hx hb dX9_fund_36 rfl (lv_at hl 0 rfl) ?_
            refine mg_18 hx hb hts hown hK hP dX9_fund_37 ?_
            refine lv_aload_n hx hb dX9_fund_40 rfl (lv_at hl 0 rfl) ?_
            refine mg_22 (x := nI (c 22)) hx hb hts hown hK hP rfl dX9_fund_41 ?_
            refine lv_iload_n hx hb dX9_fund_44 rfl (lv_at hl 1 rfl) ?_
            refine mt_18 (f := a 18) hx hb hK hP hD hS (c 22) rfl (by omega) rfl dX9_fund_45 (fun H locs hP hD hS => ?_)
            refine lv_aload_n hx hb dX9_fund_46 rfl (lv_at hl 0 rfl) ?_
            refine mg_19 hx hb hts hown hK hP dX9_fund_47 ?_
            refine lv_aload_n hx hb dX9_fund_50 rfl (lv_at hl 0 rfl) ?_
            refine mg_22 (x := nI (c 22)) hx hb hts hown hK hP rfl dX9_fund_51 ?_
            refine lv_iload_n hx hb dX9_fund_54 rfl (lv_at hl 2 rfl) ?_
            refine mt_19 (f := a 19) hx hb hK hP hD hS (c 22) rfl (by omega) rfl dX9_fund_55 (fun H locs hP hD hS => ?_)
            refine lv_aload_n hx hb dX9_fund_56 rfl (lv_at hl 0 rfl) ?_
            refine lv_dup hx hb dX9_fund_57 rfl ?_
            refine mg_24 (x := v 24) hx hb hts hown hK hP rfl dX9_fund_58 ?_
            refine lv_iload_n hx hb dX9_fund_61 rfl (lv_at hl 2 rfl) ?_
            refine lv_iadd hx hb dX9_fund_62 ?_
            refine mp_24 hx hb hts hown hK hP hD hS ((v 24) + y) dX9_fund_63 (fun H locs hP hD hS => ?_)
            refine lv_aload_n hx hb dX9_fund_66 rfl (lv_at hl 0 rfl) ?_
            refine lv_dup hx hb dX9_fund_67 rfl ?_
            refine mg_22 (x := nI (c 22)) hx hb hts hown hK hP rfl dX9_fund_68 ?_
            refine lv_iconst (v := 1) hx hb dX9_fund_71 (by decide) ?_
            refine lv_iadd hx hb dX9_fund_72 ?_
            refine rw_topi (y := nI ((c 22) + 1)) (nI_add _ _) ?_
            refine mp_22 hx hb hts hown hK hP hD hS ((c 22) + 1) rfl dX9_fund_73 (fun H locs hP hD hS => ?_)
            refine lv_aload_n hx hb dX9_fund_76 rfl (lv_at hl 0 rfl) ?_
            refine mg_22 (x := nI ((c 22) + 1)) hx hb hts hown hK hP rfl dX9_fund_77 ?_
            refine lv_iconst (v := 1) hx hb dX9_fund_80 (by decide) ?_
            refine lv_isub hx hb dX9_fund_81 ?_
            refine rw_topi (y := nI (c 22)) (nI_pred _) ?_
            exact fs_i hx hb hr hlocks hq (nI (c 22), (up c 22 ((c 22) + 1), up (up v 0 0) 24 ((v 24) + y), nm, up (up a 18 (upd (a 18) (c 22) x)) 19 (upd (a 19) (c 22) y))) (by simp [mFund, mT0, c11, c15, c21, c25, c31]) hP hD hS dX9_fund_82 rfl
          · refine lv_iconst (v := (-1)) hx hb dX9_fund_34 (by decide) ?_
            exact fs_i hx hb hr hlocks hq ((-1), (c, up v 0 0, nm, a)) (by simp [mFund, mT0, c11, c15, c21, c25, c31]) hP hD hS dX9_fund_35 rfl
set_option maxHeartbeats 4000000 in
set_option maxRecDepth 100000 in
theorem c_X9_gift (l : Launch) (D : va_G) (h : Nat) (q : Nat → Nat) (k : Nat → ClassId) (c : Nat → Nat) (v : Nat → Int32) (nm : Int64) (a : Nat → Nat → Int32) (x : Int32) (y : Int32) (hn : c 22 ≤ 6) : Fs (S := Int32 × MSt) l yX9_gift cX9_gift 3 (some .int) 1 0 0 D (TY k) G0 [.ref h, .int x, .int y] (Mw h q k c v nm a) (fun u => some (.int u.1)) (fun u => u = mGift x y (c, v, nm, a)) (fun u => MwU h q k u.2) := by
  refine fs_body (by decide +kernel) (Nat.le_of_ble_eq_true rfl) ?_
  intro p e s m args below meth c_ Q A hx hb hml hown hts hK hP hD hS hA hG hin hr hq hlocks ls hl
  replace hl : lv_has ls 3 [(0, .ref h), (1, .int x), (2, .int y)] := hl
  change s.vm.findClass RX9 = some m.cls at hown
  refine lv_aload_n hx hb dX9_gift_0 rfl (lv_at hl 0 rfl) ?_
  refine lv_iconst (v := 0) hx hb dX9_gift_1 (by decide) ?_
  refine mp_0 hx hb hts hown hK hP hD hS 0 dX9_gift_2 (fun H locs hP hD hS => ?_)
  refine lv_aload_n hx hb dX9_gift_5 rfl (lv_at hl 0 rfl) ?_
  refine lv_iload_n hx hb dX9_gift_6 rfl (lv_at hl 1 rfl) ?_
  refine ro_V (rest := []) (st1 := [.int (bI (isIn x (c 22)))]) (As := [.int x]) ⟨hx, hb, hml, hown, hts⟩ Gd0 trivial hS hK (c_X9_isFund l D h q k c (up v 0 0) nm a x ) mi_X9_isFund wd_5_184 wp_3_1 wd_5_182 ⟨Nat.le_of_ble_eq_true rfl, Nat.le_of_ble_eq_true rfl⟩ (hP) 0 rfl rfl rfl hl.1 rfl (Nat.le_of_ble_eq_true rfl) rfl ⟨Nat.le_of_ble_eq_true rfl, Nat.le_of_ble_eq_true rfl⟩ dX9_gift_7 ?_
  refine lv_if_eq (tgt := 37) hx hb dX9_gift_10 (by decide) (fun c10 => ?_) (fun c10 => ?_)
  · replace c10 : (isIn x (c 22)) = false := bI_0.mp c10
    refine lv_iconst (v := (-1)) hx hb dX9_gift_37 (by decide) ?_
    exact fs_i hx hb hr hlocks hq ((-1), (c, up v 0 0, nm, a)) (by simp [mGift, mT0, upd_eq, c10]) hP hD hS dX9_gift_38 rfl
  · replace c10 : (isIn x (c 22)) = true := bI_n.mp c10
    obtain ⟨ex, hjx⟩ := isIn_spec c10 (by omega)
    refine lv_iload_n hx hb dX9_gift_13 rfl (lv_at hl 2 rfl) ?_
    refine lv_iconst (v := 1) hx hb dX9_gift_14 (by decide) ?_
    refine lv_icmp_lt (tgt := 37) hx hb dX9_gift_15 (by decide) (fun c15 => ?_) (fun c15 => ?_)
    · refine lv_iconst (v := (-1)) hx hb dX9_gift_37 (by decide) ?_
      exact fs_i hx hb hr hlocks hq ((-1), (c, up v 0 0, nm, a)) (by simp [mGift, mT0, upd_eq, c10, c15]) hP hD hS dX9_gift_38 rfl
    · refine lv_iload_n hx hb dX9_gift_18 rfl (lv_at hl 2 rfl) ?_
      refine lv_ldc (v := 100000) hx hb hown (hts _ wd_5_177) dX9_gift_19 ?_
      refine lv_icmp_gt (tgt := 37) hx hb dX9_gift_21 (by decide) (fun c21 => ?_) (fun c21 => ?_)
      · refine lv_iconst (v := (-1)) hx hb dX9_gift_37 (by decide) ?_
        exact fs_i hx hb hr hlocks hq ((-1), (c, up v 0 0, nm, a)) (by simp [mGift, mT0, upd_eq, c10, c15, c21]) hP hD hS dX9_gift_38 rfl
      · refine lv_aload_n hx hb dX9_gift_24 rfl (lv_at hl 0 rfl) ?_
        refine mg_19 hx hb hts hown hK hP dX9_gift_25 ?_
        refine lv_iload_n hx hb dX9_gift_28 rfl (lv_at hl 1 rfl) ?_
        refine ml_19 (x := (a 19) x.toNatClampNeg) hx hb hK hP x.toNatClampNeg ex (by omega) rfl dX9_gift_29 ?_
        refine lv_iload_n hx hb dX9_gift_30 rfl (lv_at hl 2 rfl) ?_
        refine lv_iadd hx hb dX9_gift_31 ?_
        refine lv_ldc (v := 1000000) hx hb hown (hts _ wd_5_186) dX9_gift_32 ?_
        refine lv_icmp_le (tgt := 39) hx hb dX9_gift_34 (by decide) (fun c34 => ?_) (fun c34 => ?_)
        · refine lv_aload_n hx hb dX9_gift_39 rfl (lv_at hl 0 rfl) ?_
          refine mg_19 hx hb hts hown hK hP dX9_gift_40 ?_
          refine lv_iload_n hx hb dX9_gift_43 rfl (lv_at hl 1 rfl) ?_
          refine lv_dup2_11 hx hb dX9_gift_44 rfl rfl ?_
          refine ml_19 (x := (a 19) x.toNatClampNeg) hx hb hK hP x.toNatClampNeg ex (by omega) rfl dX9_gift_45 ?_
          refine lv_iload_n hx hb dX9_gift_46 rfl (lv_at hl 2 rfl) ?_
          refine lv_iadd hx hb dX9_gift_47 ?_
          refine mt_19 (f := a 19) hx hb hK hP hD hS x.toNatClampNeg ex (by omega) rfl dX9_gift_48 (fun H locs hP hD hS => ?_)
          refine lv_aload_n hx hb dX9_gift_49 rfl (lv_at hl 0 rfl) ?_
          refine lv_dup hx hb dX9_gift_50 rfl ?_
          refine mg_24 (x := v 24) hx hb hts hown hK hP rfl dX9_gift_51 ?_
          refine lv_iload_n hx hb dX9_gift_54 rfl (lv_at hl 2 rfl) ?_
          refine lv_iadd hx hb dX9_gift_55 ?_
          refine mp_24 hx hb hts hown hK hP hD hS ((v 24) + y) dX9_gift_56 (fun H locs hP hD hS => ?_)
          refine lv_aload_n hx hb dX9_gift_59 rfl (lv_at hl 0 rfl) ?_
          refine mg_19 hx hb hts hown hK hP dX9_gift_60 ?_
          refine lv_iload_n hx hb dX9_gift_63 rfl (lv_at hl 1 rfl) ?_
          refine ml_19 (x := (upd (a 19) x.toNatClampNeg (((a 19) x.toNatClampNeg) + y)) x.toNatClampNeg) hx hb hK hP x.toNatClampNeg ex (by omega) rfl dX9_gift_64 ?_
          exact fs_i hx hb hr hlocks hq ((upd (a 19) x.toNatClampNeg (((a 19) x.toNatClampNeg) + y)) x.toNatClampNeg, (c, up (up v 0 0) 24 ((v 24) + y), nm, up a 19 (upd (a 19) x.toNatClampNeg (((a 19) x.toNatClampNeg) + y)))) (by simp [mGift, mT0, upd_eq, c10, c15, c21, c34]) hP hD hS dX9_gift_65 rfl
        · refine lv_iconst (v := (-1)) hx hb dX9_gift_37 (by decide) ?_
          exact fs_i hx hb hr hlocks hq ((-1), (c, up v 0 0, nm, a)) (by simp [mGift, mT0, upd_eq, c10, c15, c21, c34]) hP hD hS dX9_gift_38 rfl
set_option maxHeartbeats 4000000 in
set_option maxRecDepth 100000 in
theorem c_X9_tag (l : Launch) (D : va_G) (h : Nat) (q : Nat → Nat) (k : Nat → ClassId) (c : Nat → Nat) (v : Nat → Int32) (nm : Int64) (a : Nat → Nat → Int32) (x : Int32) (y : Int32) (z : Int32) (hn : c 21 ≤ 40) : Fs (S := Int32 × MSt) l yX9_tag cX9_tag 4 (some .boolean) 1 0 0 D (TY k) G0 [.ref h, .int x, .int y, .int z] (Mw h q k c v nm a) (fun u => some (.int u.1)) (fun u => u = mTag x y z (c, v, nm, a)) (fun u => MwU h q k u.2) := by
  refine fs_body (by decide +kernel) (Nat.le_of_ble_eq_true rfl) ?_
  intro p e s m args below meth c_ Q A hx hb hml hown hts hK hP hD hS hA hG hin hr hq hlocks ls hl
  replace hl : lv_has ls 4 [(0, .ref h), (1, .int x), (2, .int y), (3, .int z)] := hl
  change s.vm.findClass RX9 = some m.cls at hown
  refine lv_aload_n hx hb dX9_tag_0 rfl (lv_at hl 0 rfl) ?_
  refine lv_iconst (v := 0) hx hb dX9_tag_1 (by decide) ?_
  refine mp_0 hx hb hts hown hK hP hD hS 0 dX9_tag_2 (fun H locs hP hD hS => ?_)
  refine lv_aload_n hx hb dX9_tag_5 rfl (lv_at hl 0 rfl) ?_
  refine lv_iload_n hx hb dX9_tag_6 rfl (lv_at hl 1 rfl) ?_
  refine ro_V (rest := []) (st1 := [.int (bI (isIn x (c 21)))]) (As := [.int x]) ⟨hx, hb, hml, hown, hts⟩ Gd0 trivial hS hK (c_X9_isPerson l D h q k c (up v 0 0) nm a x ) mi_X9_isPerson wd_5_171 wp_3_0 wd_5_169 ⟨Nat.le_of_ble_eq_true rfl, Nat.le_of_ble_eq_true rfl⟩ (hP) 0 rfl rfl rfl hl.1 rfl (Nat.le_of_ble_eq_true rfl) rfl ⟨Nat.le_of_ble_eq_true rfl, Nat.le_of_ble_eq_true rfl⟩ dX9_tag_7 ?_
  refine lv_if_eq (tgt := 45) hx hb dX9_tag_10 (by decide) (fun c10 => ?_) (fun c10 => ?_)
  · replace c10 : (isIn x (c 21)) = false := bI_0.mp c10
    refine lv_iconst (v := 0) hx hb dX9_tag_45 (by decide) ?_
    exact fs_z hx hb hr hlocks hq (0, (c, up v 0 0, nm, a)) (by simp [mTag, mT0, c10]) hP hD hS (rfl) dX9_tag_46 rfl
  · replace c10 : (isIn x (c 21)) = true := bI_n.mp c10
    obtain ⟨ex, hjx⟩ := isIn_spec c10 (by omega)
    refine lv_iload_n hx hb dX9_tag_13 rfl (lv_at hl 2 rfl) ?_
    refine lv_if_lt (tgt := 45) hx hb dX9_tag_14 (by decide) (fun c14 => ?_) (fun c14 => ?_)
    · refine lv_iconst (v := 0) hx hb dX9_tag_45 (by decide) ?_
      exact fs_z hx hb hr hlocks hq (0, (c, up v 0 0, nm, a)) (by simp [mTag, mT0, c10, c14]) hP hD hS (rfl) dX9_tag_46 rfl
    · refine lv_iload_n hx hb dX9_tag_17 rfl (lv_at hl 2 rfl) ?_
      refine lv_bipush (v := 7) hx hb dX9_tag_18 (by decide) ?_
      refine lv_icmp_gt (tgt := 45) hx hb dX9_tag_20 (by decide) (fun c20 => ?_) (fun c20 => ?_)
      · refine lv_iconst (v := 0) hx hb dX9_tag_45 (by decide) ?_
        exact fs_z hx hb hr hlocks hq (0, (c, up v 0 0, nm, a)) (by simp [mTag, mT0, c10, c14, c20]) hP hD hS (rfl) dX9_tag_46 rfl
      · refine lv_aload_n hx hb dX9_tag_23 rfl (lv_at hl 0 rfl) ?_
        refine mg_17 hx hb hts hown hK hP dX9_tag_24 ?_
        refine lv_iload_n hx hb dX9_tag_27 rfl (lv_at hl 1 rfl) ?_
        refine ml_17 (x := (a 17) x.toNatClampNeg) hx hb hK hP x.toNatClampNeg ex (by omega) rfl dX9_tag_28 ?_
        refine lv_iload_n hx hb dX9_tag_29 rfl (lv_at hl 2 rfl) ?_
        refine lv_ishr hx hb dX9_tag_30 ?_
        refine lv_iconst (v := 1) hx hb dX9_tag_31 (by decide) ?_
        refine lv_iand hx hb dX9_tag_32 ?_
        refine lv_iload_n hx hb dX9_tag_33 rfl (lv_at hl 3 rfl) ?_
        refine lv_if_eq (tgt := 41) hx hb dX9_tag_34 (by decide) (fun c34 => ?_) (fun c34 => ?_)
        · refine lv_iconst (v := 0) hx hb dX9_tag_41 (by decide) ?_
          refine lv_icmp_ne (tgt := 47) hx hb dX9_tag_42 (by decide) (fun c42 => ?_) (fun c42 => ?_)
          · refine lv_aload_n hx hb dX9_tag_47 rfl (lv_at hl 0 rfl) ?_
            refine mg_17 hx hb hts hown hK hP dX9_tag_48 ?_
            refine lv_iload_n hx hb dX9_tag_51 rfl (lv_at hl 1 rfl) ?_
            refine lv_dup2_11 hx hb dX9_tag_52 rfl rfl ?_
            refine ml_17 (x := (a 17) x.toNatClampNeg) hx hb hK hP x.toNatClampNeg ex (by omega) rfl dX9_tag_53 ?_
            refine lv_iconst (v := 1) hx hb dX9_tag_54 (by decide) ?_
            refine lv_iload_n hx hb dX9_tag_55 rfl (lv_at hl 2 rfl) ?_
            refine lv_ishl hx hb dX9_tag_56 ?_
            refine lv_ixor hx hb dX9_tag_57 ?_
            refine mt_17 (f := a 17) hx hb hK hP hD hS x.toNatClampNeg ex (by omega) rfl dX9_tag_58 (fun H locs hP hD hS => ?_)
            refine lv_iconst (v := 1) hx hb dX9_tag_59 (by decide) ?_
            exact fs_z hx hb hr hlocks hq (1, (c, up v 0 0, nm, up a 17 (upd (a 17) x.toNatClampNeg (((a 17) x.toNatClampNeg) ^^^ (1 <<< (y &&& 31)))))) (by simp [mTag, mT0, c10, c14, c20, c34, c42]) hP hD hS (rfl) dX9_tag_60 rfl
          · refine lv_iconst (v := 0) hx hb dX9_tag_45 (by decide) ?_
            exact fs_z hx hb hr hlocks hq (0, (c, up v 0 0, nm, a)) (by simp [mTag, mT0, c10, c14, c20, c34, c42]) hP hD hS (rfl) dX9_tag_46 rfl
        · refine lv_iconst (v := 1) hx hb dX9_tag_37 (by decide) ?_
          refine lv_goto (tgt := 42) hx hb dX9_tag_38 (by decide) ?_
          refine lv_icmp_ne (tgt := 47) hx hb dX9_tag_42 (by decide) (fun c42 => ?_) (fun c42 => ?_)
          · refine lv_aload_n hx hb dX9_tag_47 rfl (lv_at hl 0 rfl) ?_
            refine mg_17 hx hb hts hown hK hP dX9_tag_48 ?_
            refine lv_iload_n hx hb dX9_tag_51 rfl (lv_at hl 1 rfl) ?_
            refine lv_dup2_11 hx hb dX9_tag_52 rfl rfl ?_
            refine ml_17 (x := (a 17) x.toNatClampNeg) hx hb hK hP x.toNatClampNeg ex (by omega) rfl dX9_tag_53 ?_
            refine lv_iconst (v := 1) hx hb dX9_tag_54 (by decide) ?_
            refine lv_iload_n hx hb dX9_tag_55 rfl (lv_at hl 2 rfl) ?_
            refine lv_ishl hx hb dX9_tag_56 ?_
            refine lv_ixor hx hb dX9_tag_57 ?_
            refine mt_17 (f := a 17) hx hb hK hP hD hS x.toNatClampNeg ex (by omega) rfl dX9_tag_58 (fun H locs hP hD hS => ?_)
            refine lv_iconst (v := 1) hx hb dX9_tag_59 (by decide) ?_
            exact fs_z hx hb hr hlocks hq (1, (c, up v 0 0, nm, up a 17 (upd (a 17) x.toNatClampNeg (((a 17) x.toNatClampNeg) ^^^ (1 <<< (y &&& 31)))))) (by simp [mTag, mT0, c10, c14, c20, c34, c42]) hP hD hS (rfl) dX9_tag_60 rfl
          · refine lv_iconst (v := 0) hx hb dX9_tag_45 (by decide) ?_
            exact fs_z hx hb hr hlocks hq (0, (c, up v 0 0, nm, a)) (by simp [mTag, mT0, c10, c14, c20, c34, c42]) hP hD hS (rfl) dX9_tag_46 rfl
