def dig (x : Int32) : Bool := !decide (x < 48) && !decide (57 < x)
def let_ (x : Int32) : Bool := !decide (x < 97) && !decide (122 < x)
set_option maxHeartbeats 4000000 in
set_option maxRecDepth 100000 in
theorem c_X9_isDigit (l : Launch) (D : va_G) (k : Nat → ClassId) (x : Int32) : Ro l yX9_isDigit cX9_isDigit 1 (some .boolean) 0 D (TY k) G0 [.int x] ([]) (some (.int (bI (dig x)))) := by
  refine ro_body (by decide +kernel) (Nat.le_of_ble_eq_true rfl) ?_
  intro p e s m args below meth c_ Q hx hb hml hown hts hK hP hS hG hr hq hlocks ls hl
  replace hl : lv_has ls 1 [(0, .int x)] := hl
  change s.vm.findClass RX9 = some m.cls at hown
  refine lv_iload_n hx hb dX9_isDigit_0 rfl (lv_at hl 0 rfl) ?_
  refine lv_bipush (v := 48) hx hb dX9_isDigit_1 (by decide) ?_
  refine lv_icmp_lt (tgt := 16) hx hb dX9_isDigit_3 (by decide) (fun c3 => ?_) (fun c3 => ?_)
  · refine lv_iconst (v := 0) hx hb dX9_isDigit_16 (by decide) ?_
    exact ro_z hx hb hr hlocks hq (rfl) dX9_isDigit_17 (by simp [bI, dig, c3])
  · refine lv_iload_n hx hb dX9_isDigit_6 rfl (lv_at hl 0 rfl) ?_
    refine lv_bipush (v := 57) hx hb dX9_isDigit_7 (by decide) ?_
    refine lv_icmp_gt (tgt := 16) hx hb dX9_isDigit_9 (by decide) (fun c9 => ?_) (fun c9 => ?_)
    · refine lv_iconst (v := 0) hx hb dX9_isDigit_16 (by decide) ?_
      exact ro_z hx hb hr hlocks hq (rfl) dX9_isDigit_17 (by simp [bI, dig, c3, c9])
    · refine lv_iconst (v := 1) hx hb dX9_isDigit_12 (by decide) ?_
      refine lv_goto (tgt := 17) hx hb dX9_isDigit_13 (by decide) ?_
      exact ro_z hx hb hr hlocks hq (rfl) dX9_isDigit_17 (by simp [bI, dig, c3, c9])
set_option maxHeartbeats 4000000 in
set_option maxRecDepth 100000 in
theorem c_X9_isLetter (l : Launch) (D : va_G) (k : Nat → ClassId) (x : Int32) : Ro l yX9_isLetter cX9_isLetter 1 (some .boolean) 0 D (TY k) G0 [.int x] ([]) (some (.int (bI (let_ x)))) := by
  refine ro_body (by decide +kernel) (Nat.le_of_ble_eq_true rfl) ?_
  intro p e s m args below meth c_ Q hx hb hml hown hts hK hP hS hG hr hq hlocks ls hl
  replace hl : lv_has ls 1 [(0, .int x)] := hl
  change s.vm.findClass RX9 = some m.cls at hown
  refine lv_iload_n hx hb dX9_isLetter_0 rfl (lv_at hl 0 rfl) ?_
  refine lv_bipush (v := 97) hx hb dX9_isLetter_1 (by decide) ?_
  refine lv_icmp_lt (tgt := 16) hx hb dX9_isLetter_3 (by decide) (fun c3 => ?_) (fun c3 => ?_)
  · refine lv_iconst (v := 0) hx hb dX9_isLetter_16 (by decide) ?_
    exact ro_z hx hb hr hlocks hq (rfl) dX9_isLetter_17 (by simp [bI, let_, c3])
  · refine lv_iload_n hx hb dX9_isLetter_6 rfl (lv_at hl 0 rfl) ?_
    refine lv_bipush (v := 122) hx hb dX9_isLetter_7 (by decide) ?_
    refine lv_icmp_gt (tgt := 16) hx hb dX9_isLetter_9 (by decide) (fun c9 => ?_) (fun c9 => ?_)
    · refine lv_iconst (v := 0) hx hb dX9_isLetter_16 (by decide) ?_
      exact ro_z hx hb hr hlocks hq (rfl) dX9_isLetter_17 (by simp [bI, let_, c3, c9])
    · refine lv_iconst (v := 1) hx hb dX9_isLetter_12 (by decide) ?_
      refine lv_goto (tgt := 17) hx hb dX9_isLetter_13 (by decide) ?_
      exact ro_z hx hb hr hlocks hq (rfl) dX9_isLetter_17 (by simp [bI, let_, c3, c9])
set_option maxHeartbeats 4000000 in
set_option maxRecDepth 100000 in
theorem c_X9_isPerson (l : Launch) (D : va_G) (h : Nat) (q : Nat → Nat) (k : Nat → ClassId) (c : Nat → Nat) (v : Nat → Int32) (nm : Int64) (a : Nat → Nat → Int32) (x : Int32) : Ro l yX9_isPerson cX9_isPerson 2 (some .boolean) 0 D (TY k) G0 [.ref h, .int x] (Mw h q k c v nm a) (some (.int (bI (isIn x (c 21))))) := by
  refine ro_body (by decide +kernel) (Nat.le_of_ble_eq_true rfl) ?_
  intro p e s m args below meth c_ Q hx hb hml hown hts hK hP hS hG hr hq hlocks ls hl
  replace hl : lv_has ls 2 [(0, .ref h), (1, .int x)] := hl
  change s.vm.findClass RX9 = some m.cls at hown
  refine lv_iload_n hx hb dX9_isPerson_0 rfl (lv_at hl 1 rfl) ?_
  refine lv_if_lt (tgt := 16) hx hb dX9_isPerson_1 (by decide) (fun c1 => ?_) (fun c1 => ?_)
  · refine lv_iconst (v := 0) hx hb dX9_isPerson_16 (by decide) ?_
    exact ro_z hx hb hr hlocks hq (rfl) dX9_isPerson_17 (by simp [bI, isIn, c1])
  · refine lv_iload_n hx hb dX9_isPerson_4 rfl (lv_at hl 1 rfl) ?_
    refine lv_aload_n hx hb dX9_isPerson_5 rfl (lv_at hl 0 rfl) ?_
    refine mg_21 (x := nI (c 21)) hx hb hts hown hK hP rfl dX9_isPerson_6 ?_
    refine lv_icmp_ge (tgt := 16) hx hb dX9_isPerson_9 (by decide) (fun c9 => ?_) (fun c9 => ?_)
    · refine lv_iconst (v := 0) hx hb dX9_isPerson_16 (by decide) ?_
      exact ro_z hx hb hr hlocks hq (rfl) dX9_isPerson_17 (by simp [bI, isIn, c1, c9])
    · refine lv_iconst (v := 1) hx hb dX9_isPerson_12 (by decide) ?_
      refine lv_goto (tgt := 17) hx hb dX9_isPerson_13 (by decide) ?_
      exact ro_z hx hb hr hlocks hq (rfl) dX9_isPerson_17 (by simp [bI, isIn, c1, c9])
set_option maxHeartbeats 4000000 in
set_option maxRecDepth 100000 in
theorem c_X9_isFund (l : Launch) (D : va_G) (h : Nat) (q : Nat → Nat) (k : Nat → ClassId) (c : Nat → Nat) (v : Nat → Int32) (nm : Int64) (a : Nat → Nat → Int32) (x : Int32) : Ro l yX9_isFund cX9_isFund 2 (some .boolean) 0 D (TY k) G0 [.ref h, .int x] (Mw h q k c v nm a) (some (.int (bI (isIn x (c 22))))) := by
  refine ro_body (by decide +kernel) (Nat.le_of_ble_eq_true rfl) ?_
  intro p e s m args below meth c_ Q hx hb hml hown hts hK hP hS hG hr hq hlocks ls hl
  replace hl : lv_has ls 2 [(0, .ref h), (1, .int x)] := hl
  change s.vm.findClass RX9 = some m.cls at hown
  refine lv_iload_n hx hb dX9_isFund_0 rfl (lv_at hl 1 rfl) ?_
  refine lv_if_lt (tgt := 16) hx hb dX9_isFund_1 (by decide) (fun c1 => ?_) (fun c1 => ?_)
  · refine lv_iconst (v := 0) hx hb dX9_isFund_16 (by decide) ?_
    exact ro_z hx hb hr hlocks hq (rfl) dX9_isFund_17 (by simp [bI, isIn, c1])
  · refine lv_iload_n hx hb dX9_isFund_4 rfl (lv_at hl 1 rfl) ?_
    refine lv_aload_n hx hb dX9_isFund_5 rfl (lv_at hl 0 rfl) ?_
    refine mg_22 (x := nI (c 22)) hx hb hts hown hK hP rfl dX9_isFund_6 ?_
    refine lv_icmp_ge (tgt := 16) hx hb dX9_isFund_9 (by decide) (fun c9 => ?_) (fun c9 => ?_)
    · refine lv_iconst (v := 0) hx hb dX9_isFund_16 (by decide) ?_
      exact ro_z hx hb hr hlocks hq (rfl) dX9_isFund_17 (by simp [bI, isIn, c1, c9])
    · refine lv_iconst (v := 1) hx hb dX9_isFund_12 (by decide) ?_
      refine lv_goto (tgt := 17) hx hb dX9_isFund_13 (by decide) ?_
      exact ro_z hx hb hr hlocks hq (rfl) dX9_isFund_17 (by simp [bI, isIn, c1, c9])
set_option maxHeartbeats 4000000 in
set_option maxRecDepth 100000 in
theorem c_X9_isLoan (l : Launch) (D : va_G) (h : Nat) (q : Nat → Nat) (k : Nat → ClassId) (c : Nat → Nat) (v : Nat → Int32) (nm : Int64) (a : Nat → Nat → Int32) (x : Int32) : Ro l yX9_isLoan cX9_isLoan 2 (some .boolean) 0 D (TY k) G0 [.ref h, .int x] (Mw h q k c v nm a) (some (.int (bI (isIn x (c 42))))) := by
  refine ro_body (by decide +kernel) (Nat.le_of_ble_eq_true rfl) ?_
  intro p e s m args below meth c_ Q hx hb hml hown hts hK hP hS hG hr hq hlocks ls hl
  replace hl : lv_has ls 2 [(0, .ref h), (1, .int x)] := hl
  change s.vm.findClass RX9 = some m.cls at hown
  refine lv_iload_n hx hb dX9_isLoan_0 rfl (lv_at hl 1 rfl) ?_
  refine lv_if_lt (tgt := 16) hx hb dX9_isLoan_1 (by decide) (fun c1 => ?_) (fun c1 => ?_)
  · refine lv_iconst (v := 0) hx hb dX9_isLoan_16 (by decide) ?_
    exact ro_z hx hb hr hlocks hq (rfl) dX9_isLoan_17 (by simp [bI, isIn, c1])
  · refine lv_iload_n hx hb dX9_isLoan_4 rfl (lv_at hl 1 rfl) ?_
    refine lv_aload_n hx hb dX9_isLoan_5 rfl (lv_at hl 0 rfl) ?_
    refine mg_42 (x := nI (c 42)) hx hb hts hown hK hP rfl dX9_isLoan_6 ?_
    refine lv_icmp_ge (tgt := 16) hx hb dX9_isLoan_9 (by decide) (fun c9 => ?_) (fun c9 => ?_)
    · refine lv_iconst (v := 0) hx hb dX9_isLoan_16 (by decide) ?_
      exact ro_z hx hb hr hlocks hq (rfl) dX9_isLoan_17 (by simp [bI, isIn, c1, c9])
    · refine lv_iconst (v := 1) hx hb dX9_isLoan_12 (by decide) ?_
      refine lv_goto (tgt := 17) hx hb dX9_isLoan_13 (by decide) ?_
      exact ro_z hx hb hr hlocks hq (rfl) dX9_isLoan_17 (by simp [bI, isIn, c1, c9])
set_option maxHeartbeats 4000000 in
set_option maxRecDepth 100000 in
theorem c_X9_thrown (l : Launch) (D : va_G) (h : Nat) (q : Nat → Nat) (k : Nat → ClassId) (c : Nat → Nat) (v : Nat → Int32) (nm : Int64) (a : Nat → Nat → Int32) : Ro l yX9_thrown cX9_thrown 1 (some .int) 0 D (TY k) G0 [.ref h] (Mw h q k c v nm a) (some (.int (v 0))) := by
  refine ro_body (by decide +kernel) (Nat.le_of_ble_eq_true rfl) ?_
  intro p e s m args below meth c_ Q hx hb hml hown hts hK hP hS hG hr hq hlocks ls hl
  replace hl : lv_has ls 1 [(0, .ref h)] := hl
  change s.vm.findClass RX9 = some m.cls at hown
  refine lv_aload_n hx hb dX9_thrown_0 rfl (lv_at hl 0 rfl) ?_
  refine mg_0 (x := v 0) hx hb hts hown hK hP rfl dX9_thrown_1 ?_
  exact ro_i hx hb hr hlocks hq dX9_thrown_4 (rfl)
