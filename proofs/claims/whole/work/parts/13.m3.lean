/-- the OPEN one among n of them whose borrower is p -/
def fOpen (who st : Nat → Int32) (p : Int32) (n : Nat) : Option Nat := fnd (fun i => decide (who i = p) && decide (st i = 0)) n 0
def fCallsOf (cw left : Nat → Int32) (p : Int32) (n : Nat) : Int32 := lp (fun i s => if cw i = p then s + left i else s) n 0 0
def fAnyCall (cw left : Nat → Int32) (p : Int32) (n : Nat) : Bool := (fnd (fun i => decide (cw i = p) && !decide (left i ≤ 0)) n 0).isSome
def fCalled (who st : Nat → Int32) (p : Int32) (n : Nat) : Int32 := lp (fun i s => if who i = p then (if st i = 2 then s + 1 else s) else s) n 0 0
def fBarred (cw left who st : Nat → Int32) (bar p : Int32) (nc n : Nat) : Bool := fAnyCall cw left p nc || !decide (fCalled who st p n < bar)
def fStands (st sur : Nat → Int32) (sn : Nat → Nat) (p : Int32) (n : Nat) : Int32 := lp (fun k s => if st k = 0 then lp (fun i s => if sur (3 * k + i) = p then s + 1 else s) (sn k) 0 s else s) n 0 0
def fChar (who st late : Nat → Int32) (p : Int32) (n : Nat) : Int32 := lp (fun i s => if who i = p then (if st i = 2 then (if st i = 1 then s + (if late i = 0 then 10 else 5) else s) + (-30) else (if st i = 1 then s + (if late i = 0 then 10 else 5) else s)) - 2 * late i else s) n 0 100
def fClamp (x : Int32) : Int32 := if 0 ≤ x then (if x ≤ 200 then x else 200) else 0
def fUnpaid (cw left : Nat → Int32) (p : Int32) (n : Nat) : Int32 := lp (fun i s => if cw i = p then (if left i ≤ 0 then s else s + 1) else s) n 0 0
def fOpens (st : Nat → Int32) (n : Nat) : Int32 := lp (fun i s => if st i = 0 then s + 1 else s) n 0 0
def fTwice (t : Nat → Int32) (i : Nat) : Bool := (fnd (fun k => decide (t k = t i)) i 0).isSome
set_option maxHeartbeats 4000000 in
set_option maxRecDepth 100000 in
theorem c_X9_openOf (l : Launch) (D : va_G) (h : Nat) (q : Nat → Nat) (k : Nat → ClassId) (c : Nat → Nat) (v : Nat → Int32) (nm : Int64) (a : Nat → Nat → Int32) (x : Int32) (hn : c 42 ≤ 100) : Ro l yX9_openOf cX9_openOf 3 (some .int) 0 D (TY k) G0 [.ref h, .int x] (Mw h q k c v nm a) (some (.int (oI (fOpen (a 26) (a 37) x (c 42))))) := by
  refine ro_body (by decide +kernel) (Nat.le_of_ble_eq_true rfl) ?_
  intro p e s m args below meth c_ Q hx hb hml hown hts hK hP hS hG hr hq hlocks ls hl
  replace hl : lv_has ls 3 [(0, .ref h), (1, .int x)] := hl
  change s.vm.findClass RX9 = some m.cls at hown
  have L : ∀ (r i : Nat), i + r = c 42 → oI (fnd (fun i => decide (a 26 i = x) && decide (a 37 i = 0)) r i) = oI (fOpen (a 26) (a 37) x (c 42)) → ∀ (ls : Array Slot), lv_has ls 3 [(0, .ref h), (1, .int x), (2, .int (nI i))] → W p l e (rmd 0 0 0) s m args below meth c_ s.heap [] 0 0 Q (F0 m 2 ls []) := by
    intro r
    induction r with
    | zero =>
      intro i hi he ls hl
      refine lv_iload_n hx hb dX9_openOf_2 rfl (lv_at hl 2 rfl) ?_
      refine lv_aload_n hx hb dX9_openOf_3 rfl (lv_at hl 0 rfl) ?_
      refine mg_42 (x := nI (c 42)) hx hb hts hown hK hP rfl dX9_openOf_4 ?_
      refine lv_icmp_ge (tgt := 37) hx hb dX9_openOf_7 (by decide) (fun c7 => ?_) (fun c7 => absurd (nI_le (by omega) (by omega)) c7)
      refine lv_iconst (v := (-1)) hx hb dX9_openOf_37 (by decide) ?_
      exact ro_i hx hb hr hlocks hq dX9_openOf_38 (by rw [← he]; simp [lp, fnd, oI])
    | succ r ih =>
      intro i hi he ls hl
      refine lv_iload_n hx hb dX9_openOf_2 rfl (lv_at hl 2 rfl) ?_
      refine lv_aload_n hx hb dX9_openOf_3 rfl (lv_at hl 0 rfl) ?_
      refine mg_42 (x := nI (c 42)) hx hb hts hown hK hP rfl dX9_openOf_4 ?_
      refine lv_icmp_ge (tgt := 37) hx hb dX9_openOf_7 (by decide) (fun c7 => absurd c7 (nI_ge (by omega) (by omega))) (fun c7 => ?_)
      refine lv_aload_n hx hb dX9_openOf_10 rfl (lv_at hl 0 rfl) ?_
      refine mg_26 hx hb hts hown hK hP dX9_openOf_11 ?_
      refine lv_iload_n hx hb dX9_openOf_14 rfl (lv_at hl 2 rfl) ?_
      refine ml_26 (x := (a 26) i) hx hb hK hP i rfl (by omega) rfl dX9_openOf_15 ?_
      refine lv_iload_n hx hb dX9_openOf_16 rfl (lv_at hl 1 rfl) ?_
      refine lv_icmp_ne (tgt := 31) hx hb dX9_openOf_17 (by decide) (fun c17 => ?_) (fun c17 => ?_)
      · refine lv_iinc (v := nI (i + 1)) (lv' := [(2, .int (nI (i + 1))), (0, .ref h), (1, .int x)]) hx hb dX9_openOf_31 hl (k := 2) rfl (nI_1 _) (by decide) rfl (fun ls hl => ?_)
        refine lv_goto (tgt := 2) hx hb dX9_openOf_34 (by decide) ?_
        exact ih (i + 1)  (by omega) (by rw [← he]; simp [lp, fnd, c17]) ls (lv_sub hl [1, 2, 0] rfl)
      · refine lv_aload_n hx hb dX9_openOf_20 rfl (lv_at hl 0 rfl) ?_
        refine mg_37 hx hb hts hown hK hP dX9_openOf_21 ?_
        refine lv_iload_n hx hb dX9_openOf_24 rfl (lv_at hl 2 rfl) ?_
        refine ml_37 (x := (a 37) i) hx hb hK hP i rfl (by omega) rfl dX9_openOf_25 ?_
        refine lv_if_ne (tgt := 31) hx hb dX9_openOf_26 (by decide) (fun c26 => ?_) (fun c26 => ?_)
        · refine lv_iinc (v := nI (i + 1)) (lv' := [(2, .int (nI (i + 1))), (0, .ref h), (1, .int x)]) hx hb dX9_openOf_31 hl (k := 2) rfl (nI_1 _) (by decide) rfl (fun ls hl => ?_)
          refine lv_goto (tgt := 2) hx hb dX9_openOf_34 (by decide) ?_
          exact ih (i + 1)  (by omega) (by rw [← he]; simp [lp, fnd, c17, c26]) ls (lv_sub hl [1, 2, 0] rfl)
        · refine lv_iload_n hx hb dX9_openOf_29 rfl (lv_at hl 2 rfl) ?_
          exact ro_i hx hb hr hlocks hq dX9_openOf_30 (by rw [← he]; simp [lp, fnd, oI, c17, c26])
  refine lv_iconst (v := 0) hx hb dX9_openOf_0 (by decide) ?_
  refine lv_istore_n (lv' := [(2, .int 0), (0, .ref h), (1, .int x)]) hx hb dX9_openOf_1 rfl hl (by decide) rfl (fun ls hl => ?_)
  exact L (c 42) 0 (by omega) (rfl) ls (lv_sub hl [1, 2, 0] rfl)
set_option maxHeartbeats 4000000 in
set_option maxRecDepth 100000 in
theorem c_X9_callsOf (l : Launch) (D : va_G) (h : Nat) (q : Nat → Nat) (k : Nat → ClassId) (c : Nat → Nat) (v : Nat → Int32) (nm : Int64) (a : Nat → Nat → Int32) (x : Int32) (hn : c 46 ≤ 300) : Ro l yX9_callsOf cX9_callsOf 4 (some .int) 0 D (TY k) G0 [.ref h, .int x] (Mw h q k c v nm a) (some (.int (fCallsOf (a 43) (a 45) x (c 46)))) := by
  refine ro_body (by decide +kernel) (Nat.le_of_ble_eq_true rfl) ?_
  intro p e s m args below meth c_ Q hx hb hml hown hts hK hP hS hG hr hq hlocks ls hl
  replace hl : lv_has ls 4 [(0, .ref h), (1, .int x)] := hl
  change s.vm.findClass RX9 = some m.cls at hown
  have L : ∀ (r i : Nat) (y : Int32), i + r = c 46 → lp (fun i s => if a 43 i = x then s + a 45 i else s) r i y = fCallsOf (a 43) (a 45) x (c 46) → ∀ (ls : Array Slot), lv_has ls 4 [(0, .ref h), (1, .int x), (2, .int y), (3, .int (nI i))] → W p l e (rmd 0 0 0) s m args below meth c_ s.heap [] 0 0 Q (F0 m 4 ls []) := by
    intro r
    induction r with
    | zero =>
      intro i y hi he ls hl
      refine lv_iload_n hx hb dX9_callsOf_4 rfl (lv_at hl 3 rfl) ?_
      refine lv_aload_n hx hb dX9_callsOf_5 rfl (lv_at hl 0 rfl) ?_
      refine mg_46 (x := nI (c 46)) hx hb hts hown hK hP rfl dX9_callsOf_6 ?_
      refine lv_icmp_ge (tgt := 37) hx hb dX9_callsOf_9 (by decide) (fun c9 => ?_) (fun c9 => absurd (nI_le (by omega) (by omega)) c9)
      refine lv_iload_n hx hb dX9_callsOf_37 rfl (lv_at hl 2 rfl) ?_
      exact ro_i hx hb hr hlocks hq dX9_callsOf_38 (by rw [← he]; simp [lp, fnd, ])
    | succ r ih =>
      intro i y hi he ls hl
      refine lv_iload_n hx hb dX9_callsOf_4 rfl (lv_at hl 3 rfl) ?_
      refine lv_aload_n hx hb dX9_callsOf_5 rfl (lv_at hl 0 rfl) ?_
      refine mg_46 (x := nI (c 46)) hx hb hts hown hK hP rfl dX9_callsOf_6 ?_
      refine lv_icmp_ge (tgt := 37) hx hb dX9_callsOf_9 (by decide) (fun c9 => absurd c9 (nI_ge (by omega) (by omega))) (fun c9 => ?_)
      refine lv_aload_n hx hb dX9_callsOf_12 rfl (lv_at hl 0 rfl) ?_
      refine mg_43 hx hb hts hown hK hP dX9_callsOf_13 ?_
      refine lv_iload_n hx hb dX9_callsOf_16 rfl (lv_at hl 3 rfl) ?_
      refine ml_43 (x := (a 43) i) hx hb hK hP i rfl (by omega) rfl dX9_callsOf_17 ?_
      refine lv_iload_n hx hb dX9_callsOf_18 rfl (lv_at hl 1 rfl) ?_
      refine lv_icmp_ne (tgt := 31) hx hb dX9_callsOf_19 (by decide) (fun c19 => ?_) (fun c19 => ?_)
      · refine lv_iinc (v := nI (i + 1)) (lv' := [(3, .int (nI (i + 1))), (0, .ref h), (1, .int x), (2, .int y)]) hx hb dX9_callsOf_31 hl (k := 3) rfl (nI_1 _) (by decide) rfl (fun ls hl => ?_)
        refine lv_goto (tgt := 4) hx hb dX9_callsOf_34 (by decide) ?_
        exact ih (i + 1) y (by omega) (by rw [← he]; simp [lp, fnd, c19]) ls (lv_sub hl [1, 2, 3, 0] rfl)
      · refine lv_iload_n hx hb dX9_callsOf_22 rfl (lv_at hl 2 rfl) ?_
        refine lv_aload_n hx hb dX9_callsOf_23 rfl (lv_at hl 0 rfl) ?_
        refine mg_45 hx hb hts hown hK hP dX9_callsOf_24 ?_
        refine lv_iload_n hx hb dX9_callsOf_27 rfl (lv_at hl 3 rfl) ?_
        refine ml_45 (x := (a 45) i) hx hb hK hP i rfl (by omega) rfl dX9_callsOf_28 ?_
        refine lv_iadd hx hb dX9_callsOf_29 ?_
        refine lv_istore_n (lv' := [(2, .int (y + ((a 45) i))), (0, .ref h), (1, .int x), (3, .int (nI i))]) hx hb dX9_callsOf_30 rfl hl (by decide) rfl (fun ls hl => ?_)
        refine lv_iinc (v := nI (i + 1)) (lv' := [(3, .int (nI (i + 1))), (2, .int (y + ((a 45) i))), (0, .ref h), (1, .int x)]) hx hb dX9_callsOf_31 hl (k := 3) rfl (nI_1 _) (by decide) rfl (fun ls hl => ?_)
        refine lv_goto (tgt := 4) hx hb dX9_callsOf_34 (by decide) ?_
        exact ih (i + 1) (y + ((a 45) i)) (by omega) (by rw [← he]; simp [lp, fnd, c19]) ls (lv_sub hl [2, 3, 1, 0] rfl)
  refine lv_iconst (v := 0) hx hb dX9_callsOf_0 (by decide) ?_
  refine lv_istore_n (lv' := [(2, .int 0), (0, .ref h), (1, .int x)]) hx hb dX9_callsOf_1 rfl hl (by decide) rfl (fun ls hl => ?_)
  refine lv_iconst (v := 0) hx hb dX9_callsOf_2 (by decide) ?_
  refine lv_istore_n (lv' := [(3, .int 0), (2, .int 0), (0, .ref h), (1, .int x)]) hx hb dX9_callsOf_3 rfl hl (by decide) rfl (fun ls hl => ?_)
  exact L (c 46) 0 0 (by omega) (rfl) ls (lv_sub hl [2, 3, 1, 0] rfl)
