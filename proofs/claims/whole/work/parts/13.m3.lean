/-- the OPEN one among n of them whose borrower is p -/
def fOpen (who st : Nat → Int32) (p : Int32) (n : Nat) : Option Nat := fnd (fun i => decide (who i = p) && decide (st i = 0)) n 0
def fCallsOf (cw left : Nat → Int32) (p : Int32) (n : Nat) : Int32 := lp (fun i s => if cw i = p then s + left i else s) n 0 0
def fAnyCall (cw left : Nat → Int32) (p : Int32) (n : Nat) : Bool := (fnd (fun i => decide (cw i = p) && !decide (left i ≤ 0)) n 0).isSome
def fCalled (who st : Nat → Int32) (p : Int32) (n : Nat) : Int32 := lp (fun i s => if who i = p then (if st i = 2 then s + 1 else s) else s) n 0 0
def fBarred (cw left who st : Nat → Int32) (bar p : Int32) (nc n : Nat) : Bool := fAnyCall cw left p nc || !decide (fCalled who st p n < bar)
def fStands (st sur : Nat → Int32) (sn : Nat → Nat) (p : Int32) (n : Nat) : Int32 := lp (fun k s => if st k = 0 then lp (fun i s => if sur (3 * k + i) = p then s + 1 else s) (sn k) 0 s else s) n 0 0
def fChar (who st late : Nat → Int32) (p : Int32) (n : Nat) : Int32 := lp (fun i s => if who i = p then (if st i = 2 then (if st i = 1 then s + (if late i = 0 then 10 else 5) else s) + (-30) else (if st i = 1 then s + (if late i = 0 then 10 else 5) else s)) - 2 * late i else s) n 0 100
def fClamp (x : Int32) : Int32 := if 0 ≤ x then (if x ≤ 200 then x else 200) else 0
def fUnpaid (cw left : Nat → Int32) (p : Int32) (n : Nat) : Int32 := lp (fun i s => if cw i = p then (if left i ≤ 0 then s else s + 1) else s) n 0 0
def fOpens (st : Nat → Int32) (n : Nat) : Int32 := lp (fun i s => if st i = 0 then s + 1 else s) n 0 0
def fTwice (t : Nat → Int32) (i : Nat) : Bool := (fnd (fun k => decide (t k = t i)) i 0).isSome
set_option maxHeartbeats 4000000 in
set_option maxRecDepth 100000 in
theorem c_X9_openOf (l : Launch) (D : va_G) (h : Nat) (q : Nat → Nat) (k : Nat → ClassId) (c : Nat → Nat) (v : Nat → Int32) (nm : Int64) (a : Nat → Nat → Int32) (x : Int32) (hn : c 42 ≤ 100) : Ro l yX9_openOf cX9_openOf 3 (some .int) 0 D (TY k) G0 [.ref h, .int x] (Mw h q k c v nm a) (some (.int (oI (fOpen (a 26) (a 37) x (c 42))))) := by
  refine ro_body (by decide +kernel) (Nat.le_of_ble_eq_true rfl) ?_
  intro p e s m args below meth c_ Q hx hb hml hown hts hK hP hS hG hr hq hlocks ls hl
  replace hl : lv_has ls 3 [(0, .ref h), (1, .int x)] := hl
  change s.vm.findClass RX9 = some m.cls at hown
  have L : ∀ (r i : Nat), i + r = c 42 → oI (fnd (fun i => decide (a 26 i = x) && decide (a 37 i = 0)) r i) = oI (fOpen (a 26) (a 37) x (c 42)) → ∀ (ls : Array Slot), lv_has ls 3 [(0, .ref h), (1, .int x), (2, .int (nI i))] → W p l e (rmd 0 0 0) s m args below meth c_ s.heap [] 0 0 Q (F0 m 2 ls []) := by
    intro r
    induction r with
    | zero =>
      intro i hi he ls hl
      refine lv_iload_n hx hb dX9_openOf_2 rfl (lv_at hl 2 rfl) ?_
      refine lv_aload_n hx hb dX9_openOf_3 rfl (lv_at hl 0 rfl) ?_
      refine mg_42 (x := nI (c 42)) hx hb hts hown hK hP rfl dX9_openOf_4 ?_
      refine lv_icmp_ge (tgt := 37) hx hb dX9_openOf_7 (by decide) (fun c7 => ?_) (fun c7 => absurd (nI_le (by omega) (by omega)) c7)
      refine lv_iconst (v := (-1)) hx hb dX9_openOf_37 (by decide) ?_
      exact ro_i hx hb hr hlocks hq dX9_openOf_38 (by rw [← he]; simp [lp, fnd, oI])
    | succ r ih =>
      intro i hi he ls hl
      refine lv_iload_n hx hb dX9_openOf_2 rfl (lv_at hl 2 rfl) ?_
      refine lv_aload_n hx hb dX9_openOf_3 rfl (lv_at hl 0 rfl) ?_
      refine mg_42 (x := nI (c 42)) hx hb hts hown hK hP rfl dX9_openOf_4 ?_
      refine lv_icmp_ge (tgt := 37) hx hb dX9_openOf_7 (by decide) (fun c7 => absurd c7 (nI_ge (by omega) (by omega))) (fun c7 => ?_)
      refine lv_aload_n hx hb dX9_openOf_10 rfl (lv_at hl 0 rfl) ?_
      refine mg_26 hx hb hts hown hK hP dX9_openOf_11 ?_
      refine lv_iload_n hx hb dX9_openOf_14 rfl (lv_at hl 2 rfl) ?_
      refine ml_26 (x := (a 26) i) hx hb hK hP i rfl (by omega) rfl dX9_openOf_15 ?_
      refine lv_iload_n hx hb dX9_openOf_16 rfl (lv_at hl 1 rfl) ?_
      refine lv_icmp_ne (tgt := 31) hx hb dX9_openOf_17 (by decide) (fun c17 => ?_) (fun c17 => ?_)
      · refine lv_iinc (v := nI (i + 1)) (lv' := [(2, .int (nI (i + 1))), (0, .ref h), (1, .int x)]) hx hb dX9_openOf_31 hl (k := 2) rfl (nI_1 _) (by decide) rfl (fun ls hl => ?_)
        refine lv_goto (tgt := 2) hx hb dX9_openOf_34 (by decide) ?_
        exact ih (i + 1)  (by omega) (by rw [← he]; simp [lp, fnd, c17]) ls (lv_sub hl [1, 2, 0] rfl)
      · refine lv_aload_n hx hb dX9_openOf_20 rfl (lv_at hl 0 rfl) ?_
        refine mg_37 hx hb hts hown hK hP dX9_openOf_21 ?_
        refine lv_iload_n hx hb dX9_openOf_24 rfl (lv_at hl 2 rfl) ?_
        refine ml_37 (x := (a 37) i) hx hb hK hP i rfl (by omega) rfl dX9_openOf_25 ?_
        refine lv_if_ne (tgt := 31) hx hb dX9_openOf_26 (by decide) (fun c26 => ?_) (fun c26 => ?_)
        · refine lv_iinc (v := nI (i + 1)) (lv' := [(2, .int (nI (i + 1))), (0, .ref h), (1, .int x)]) hx hb dX9_openOf_31 hl (k := 2) rfl (nI_1 _) (by decide) rfl (fun ls hl => ?_)
          refine lv_goto (tgt := 2) hx hb dX9_openOf_34 (by decide) ?_
          exact ih (i + 1)  (by omega) (by rw [← he]; simp [lp, fnd, c17, c26]) ls (lv_sub hl [1, 2, 0] rfl)
        · refine lv_iload_n hx hb dX9_openOf_29 rfl (lv_at hl 2 rfl) ?_
          exact ro_i hx hb hr hlocks hq dX9_openOf_30 (by rw [← he]; simp [lp, fnd, oI, c17, c26])
  refine lv_iconst (v := 0) hx hb dX9_openOf_0 (by decide) ?_
  refine lv_istore_n (lv' := [(2, .int 0), (0, .ref h), (1, .int x)]) hx hb dX9_openOf_1 rfl hl (by decide) rfl (fun ls hl => ?_)
  exact L (c 42) 0 (by omega) (rfl) ls (lv_sub hl [1, 2, 0] rfl)
set_option maxHeartbeats 4000000 in
set_option maxRecDepth 100000 in
theorem c_X9_callsOf (l : Launch) (D : va_G) (h : Nat) (q : Nat → Nat) (k : Nat → ClassId) (c : Nat → Nat) (v : Nat → Int32) (nm : Int64) (a : Nat → Nat → Int32) (x : Int32) (hn : c 46 ≤ 300) : Ro l yX9_callsOf cX9_callsOf 4 (some .int) 0 D (TY k) G0 [.ref h, .int x] (Mw h q k c v nm a) (some (.int (fCallsOf (a 43) (a 45) x (c 46)))) := by
  refine ro_body (by decide +kernel) (Nat.le_of_ble_eq_true rfl) ?_
  intro p e s m args below meth c_ Q hx hb hml hown hts hK hP hS hG hr hq hlocks ls hl
  replace hl : lv_has ls 4 [(0, .ref h), (1, .int x)] := hl
  change s.vm.findClass RX9 = some m.cls at hown
  have L : ∀ (r i : Nat) (y : Int32), i + r = c 46 → lp (fun i s => if a 43 i = x then s + a 45 i else s) r i y = fCallsOf (a 43) (a 45) x (c 46) → ∀ (ls : Array Slot), lv_has ls 4 [(0, .ref h), (1, .int x), (2, .int y), (3, .int (nI i))] → W p l e (rmd 0 0 0) s m args below meth c_ s.heap [] 0 0 Q (F0 m 4 ls []) := by
    intro r
    induction r with
    | zero =>
      intro i y hi he ls hl
      refine lv_iload_n hx hb dX9_callsOf_4 rfl (lv_at hl 3 rfl) ?_
      refine lv_aload_n hx hb dX9_callsOf_5 rfl (lv_at hl 0 rfl) ?_
      refine mg_46 (x := nI (c 46)) hx hb hts hown hK hP rfl dX9_callsOf_6 ?_
      refine lv_icmp_ge (tgt := 37) hx hb dX9_callsOf_9 (by decide) (fun c9 => ?_) (fun c9 => absurd (nI_le (by omega) (by omega)) c9)
      refine lv_iload_n hx hb dX9_callsOf_37 rfl (lv_at hl 2 rfl) ?_
      exact ro_i hx hb hr hlocks hq dX9_callsOf_38 (by rw [← he]; simp [lp, fnd, ])
    | succ r ih =>
      intro i y hi he ls hl
      refine lv_iload_n hx hb dX9_callsOf_4 rfl (lv_at hl 3 rfl) ?_
      refine lv_aload_n hx hb dX9_callsOf_5 rfl (lv_at hl 0 rfl) ?_
      refine mg_46 (x := nI (c 46)) hx hb hts hown hK hP rfl dX9_callsOf_6 ?_
      refine lv_icmp_ge (tgt := 37) hx hb dX9_callsOf_9 (by decide) (fun c9 => absurd c9 (nI_ge (by omega) (by omega))) (fun c9 => ?_)
      refine lv_aload_n hx hb dX9_callsOf_12 rfl (lv_at hl 0 rfl) ?_
      refine mg_43 hx hb hts hown hK hP dX9_callsOf_13 ?_
      refine lv_iload_n hx hb dX9_callsOf_16 rfl (lv_at hl 3 rfl) ?_
      refine ml_43 (x := (a 43) i) hx hb hK hP i rfl (by omega) rfl dX9_callsOf_17 ?_
      refine lv_iload_n hx hb dX9_callsOf_18 rfl (lv_at hl 1 rfl) ?_
      refine lv_icmp_ne (tgt := 31) hx hb dX9_callsOf_19 (by decide) (fun c19 => ?_) (fun c19 => ?_)
      · refine lv_iinc (v := nI (i + 1)) (lv' := [(3, .int (nI (i + 1))), (0, .ref h), (1, .int x), (2, .int y)]) hx hb dX9_callsOf_31 hl (k := 3) rfl (nI_1 _) (by decide) rfl (fun ls hl => ?_)
        refine lv_goto (tgt := 4) hx hb dX9_callsOf_34 (by decide) ?_
        exact ih (i + 1) y (by omega) (by rw [← he]; simp [lp, fnd, c19]) ls (lv_sub hl [1, 2, 3, 0] rfl)
      · refine lv_iload_n hx hb dX9_callsOf_22 rfl (lv_at hl 2 rfl) ?_
        refine lv_aload_n hx hb dX9_callsOf_23 rfl (lv_at hl 0 rfl) ?_
        refine mg_45 hx hb hts hown hK hP dX9_callsOf_24 ?_
        refine lv_iload_n hx hb dX9_callsOf_27 rfl (lv_at hl 3 rfl) ?_
        refine ml_45 (x := (a 45) i) hx hb hK hP i rfl (by omega) rfl dX9_callsOf_28 ?_
        refine lv_iadd hx hb dX9_callsOf_29 ?_
        refine lv_istore_n (lv' := [(2, .int (y + ((a 45) i))), (0, .ref h), (1, .int x), (3, .int (nI i))]) hx hb dX9_callsOf_30 rfl hl (by decide) rfl (fun ls hl => ?_)
        refine lv_iinc (v := nI (i + 1)) (lv' := [(3, .int (nI (i + 1))), (2, .int (y + ((a 45) i))), (0, .ref h), (1, .int x)]) hx hb dX9_callsOf_31 hl (k := 3) rfl (nI_1 _) (by decide) rfl (fun ls hl => ?_)
        refine lv_goto (tgt := 4) hx hb dX9_callsOf_34 (by decide) ?_
        exact ih (i + 1) (y + ((a 45) i)) (by omega) (by rw [← he]; simp [lp, fnd, c19]) ls (lv_sub hl [2, 3, 1, 0] rfl)
  refine lv_iconst (v := 0) hx hb dX9_callsOf_0 (by decide) ?_
  refine lv_istore_n (lv' := [(2, .int 0), (0, .ref h), (1, .int x)]) hx hb dX9_callsOf_1 rfl hl (by decide) rfl (fun ls hl => ?_)
  refine lv_iconst (v := 0) hx hb dX9_callsOf_2 (by decide) ?_
  refine lv_istore_n (lv' := [(3, .int 0), (2, .int 0), (0, .ref h), (1, .int x)]) hx hb dX9_callsOf_3 rfl hl (by decide) rfl (fun ls hl => ?_)
  exact L (c 46) 0 0 (by omega) (rfl) ls (lv_sub hl [2, 3, 1, 0] rfl)
set_option maxHeartbeats 4000000 in
set_option maxRecDepth 100000 in
theorem c_X9_isBarred (l : Launch) (D : va_G) (h : Nat) (q : Nat → Nat) (k : Nat → ClassId) (c : Nat → Nat) (v : Nat → Int32) (nm : Int64) (a : Nat → Nat → Int32) (x : Int32) (hc : c 46 ≤ 300) (hn : c 42 ≤ 100) : Ro l yX9_isBarred cX9_isBarred 4 (some .boolean) 0 D (TY k) G0 [.ref h, .int x] (Mw h q k c v nm a) (some (.int (bI (fBarred (a 43) (a 45) (a 26) (a 37) (a 3 8) x (c 46) (c 42))))) := by
  refine ro_body (by decide +kernel) (Nat.le_of_ble_eq_true rfl) ?_
  intro p e s m args below meth c_ Q hx hb hml hown hts hK hP hS hG hr hq hlocks ls hl
  replace hl : lv_has ls 4 [(0, .ref h), (1, .int x)] := hl
  change s.vm.findClass RX9 = some m.cls at hown
  have L2 : ∀ (r i : Nat) (y : Int32), i + r = c 42 → bI (!decide (lp (fun i s => if a 26 i = x then (if a 37 i = 2 then s + 1 else s) else s) r i y < a 3 8)) = bI (fBarred (a 43) (a 45) (a 26) (a 37) (a 3 8) x (c 46) (c 42)) → ∀ (ls : Array Slot), lv_has ls 4 [(0, .ref h), (1, .int x), (2, .int y), (3, .int (nI i))] → W p l e (rmd 0 0 0) s m args below meth c_ s.heap [] 0 0 Q (F0 m 41 ls []) := by
    intro r
    induction r with
    | zero =>
      intro i y hi he ls hl
      refine lv_iload_n hx hb dX9_isBarred_41 rfl (lv_at hl 3 rfl) ?_
      refine lv_aload_n hx hb dX9_isBarred_42 rfl (lv_at hl 0 rfl) ?_
      refine mg_42 (x := nI (c 42)) hx hb hts hown hK hP rfl dX9_isBarred_43 ?_
      refine lv_icmp_ge (tgt := 78) hx hb dX9_isBarred_46 (by decide) (fun c46 => ?_) (fun c46 => absurd (nI_le (by omega) (by omega)) c46)
      refine lv_iload_n hx hb dX9_isBarred_78 rfl (lv_at hl 2 rfl) ?_
      refine lv_aload_n hx hb dX9_isBarred_79 rfl (lv_at hl 0 rfl) ?_
      refine mg_3 hx hb hts hown hK hP dX9_isBarred_80 ?_
      refine lv_bipush (v := 8) hx hb dX9_isBarred_83 (by decide) ?_
      refine ml_3 (x := (a 3) 8) hx hb hK hP 8 rfl (by omega) rfl dX9_isBarred_85 ?_
      refine lv_icmp_lt (tgt := 93) hx hb dX9_isBarred_86 (by decide) (fun c86 => ?_) (fun c86 => ?_)
      · refine lv_iconst (v := 0) hx hb dX9_isBarred_93 (by decide) ?_
        exact ro_z hx hb hr hlocks hq (rfl) dX9_isBarred_94 (by rw [← he]; simp [lp, fnd, bI, c86])
      · refine lv_iconst (v := 1) hx hb dX9_isBarred_89 (by decide) ?_
        refine lv_goto (tgt := 94) hx hb dX9_isBarred_90 (by decide) ?_
        exact ro_z hx hb hr hlocks hq (rfl) dX9_isBarred_94 (by rw [← he]; simp [lp, fnd, bI, c86])
    | succ r ih =>
      intro i y hi he ls hl
      refine lv_iload_n hx hb dX9_isBarred_41 rfl (lv_at hl 3 rfl) ?_
      refine lv_aload_n hx hb dX9_isBarred_42 rfl (lv_at hl 0 rfl) ?_
      refine mg_42 (x := nI (c 42)) hx hb hts hown hK hP rfl dX9_isBarred_43 ?_
      refine lv_icmp_ge (tgt := 78) hx hb dX9_isBarred_46 (by decide) (fun c46 => absurd c46 (nI_ge (by omega) (by omega))) (fun c46 => ?_)
      refine lv_aload_n hx hb dX9_isBarred_49 rfl (lv_at hl 0 rfl) ?_
      refine mg_26 hx hb hts hown hK hP dX9_isBarred_50 ?_
      refine lv_iload_n hx hb dX9_isBarred_53 rfl (lv_at hl 3 rfl) ?_
      refine ml_26 (x := (a 26) i) hx hb hK hP i rfl (by omega) rfl dX9_isBarred_54 ?_
      refine lv_iload_n hx hb dX9_isBarred_55 rfl (lv_at hl 1 rfl) ?_
      refine lv_icmp_ne (tgt := 72) hx hb dX9_isBarred_56 (by decide) (fun c56 => ?_) (fun c56 => ?_)
      · refine lv_iinc (v := nI (i + 1)) (lv' := [(3, .int (nI (i + 1))), (0, .ref h), (1, .int x), (2, .int y)]) hx hb dX9_isBarred_72 hl (k := 3) rfl (nI_1 _) (by decide) rfl (fun ls hl => ?_)
        refine lv_goto (tgt := 41) hx hb dX9_isBarred_75 (by decide) ?_
        exact ih (i + 1) y (by omega) (by rw [← he]; simp [lp, fnd, c56]) ls (lv_sub hl [1, 2, 3, 0] rfl)
      · refine lv_aload_n hx hb dX9_isBarred_59 rfl (lv_at hl 0 rfl) ?_
        refine mg_37 hx hb hts hown hK hP dX9_isBarred_60 ?_
        refine lv_iload_n hx hb dX9_isBarred_63 rfl (lv_at hl 3 rfl) ?_
        refine ml_37 (x := (a 37) i) hx hb hK hP i rfl (by omega) rfl dX9_isBarred_64 ?_
        refine lv_iconst (v := 2) hx hb dX9_isBarred_65 (by decide) ?_
        refine lv_icmp_ne (tgt := 72) hx hb dX9_isBarred_66 (by decide) (fun c66 => ?_) (fun c66 => ?_)
        · refine lv_iinc (v := nI (i + 1)) (lv' := [(3, .int (nI (i + 1))), (0, .ref h), (1, .int x), (2, .int y)]) hx hb dX9_isBarred_72 hl (k := 3) rfl (nI_1 _) (by decide) rfl (fun ls hl => ?_)
          refine lv_goto (tgt := 41) hx hb dX9_isBarred_75 (by decide) ?_
          exact ih (i + 1) y (by omega) (by rw [← he]; simp [lp, fnd, c56, c66]) ls (lv_sub hl [1, 2, 3, 0] rfl)
        · refine lv_iinc (v := y + 1) (lv' := [(2, .int (y + 1)), (0, .ref h), (1, .int x), (3, .int (nI i))]) hx hb dX9_isBarred_69 hl (k := 2) rfl (rfl) (by decide) rfl (fun ls hl => ?_)
          refine lv_iinc (v := nI (i + 1)) (lv' := [(3, .int (nI (i + 1))), (2, .int (y + 1)), (0, .ref h), (1, .int x)]) hx hb dX9_isBarred_72 hl (k := 3) rfl (nI_1 _) (by decide) rfl (fun ls hl => ?_)
          refine lv_goto (tgt := 41) hx hb dX9_isBarred_75 (by decide) ?_
          exact ih (i + 1) (y + 1) (by omega) (by rw [← he]; simp [lp, fnd, c56, c66]) ls (lv_sub hl [2, 3, 1, 0] rfl)
  have L1 : ∀ (r i : Nat), i + r = c 46 → bI ((fnd (fun i => decide (a 43 i = x) && !decide (a 45 i ≤ 0)) r i).isSome || !decide (fCalled (a 26) (a 37) x (c 42) < a 3 8)) = bI (fBarred (a 43) (a 45) (a 26) (a 37) (a 3 8) x (c 46) (c 42)) → ∀ (ls : Array Slot), lv_has ls 4 [(0, .ref h), (1, .int x), (2, .int (nI i))] → W p l e (rmd 0 0 0) s m args below meth c_ s.heap [] 0 0 Q (F0 m 2 ls []) := by
    intro r
    induction r with
    | zero =>
      intro i hi he ls hl
      refine lv_iload_n hx hb dX9_isBarred_2 rfl (lv_at hl 2 rfl) ?_
      refine lv_aload_n hx hb dX9_isBarred_3 rfl (lv_at hl 0 rfl) ?_
      refine mg_46 (x := nI (c 46)) hx hb hts hown hK hP rfl dX9_isBarred_4 ?_
      refine lv_icmp_ge (tgt := 37) hx hb dX9_isBarred_7 (by decide) (fun c7 => ?_) (fun c7 => absurd (nI_le (by omega) (by omega)) c7)
      refine lv_iconst (v := 0) hx hb dX9_isBarred_37 (by decide) ?_
      refine lv_istore_n (lv' := [(2, .int 0), (0, .ref h), (1, .int x)]) hx hb dX9_isBarred_38 rfl hl (by decide) rfl (fun ls hl => ?_)
      refine lv_iconst (v := 0) hx hb dX9_isBarred_39 (by decide) ?_
      refine lv_istore_n (lv' := [(3, .int 0), (2, .int 0), (0, .ref h), (1, .int x)]) hx hb dX9_isBarred_40 rfl hl (by decide) rfl (fun ls hl => ?_)
      exact L2 (c 42) 0 0 (by omega) (by rw [← he]; rfl) ls (lv_sub hl [2, 3, 1, 0] rfl)
    | succ r ih =>
      intro i hi he ls hl
      refine lv_iload_n hx hb dX9_isBarred_2 rfl (lv_at hl 2 rfl) ?_
      refine lv_aload_n hx hb dX9_isBarred_3 rfl (lv_at hl 0 rfl) ?_
      refine mg_46 (x := nI (c 46)) hx hb hts hown hK hP rfl dX9_isBarred_4 ?_
      refine lv_icmp_ge (tgt := 37) hx hb dX9_isBarred_7 (by decide) (fun c7 => absurd c7 (nI_ge (by omega) (by omega))) (fun c7 => ?_)
      refine lv_aload_n hx hb dX9_isBarred_10 rfl (lv_at hl 0 rfl) ?_
      refine mg_43 hx hb hts hown hK hP dX9_isBarred_11 ?_
      refine lv_iload_n hx hb dX9_isBarred_14 rfl (lv_at hl 2 rfl) ?_
      refine ml_43 (x := (a 43) i) hx hb hK hP i rfl (by omega) rfl dX9_isBarred_15 ?_
      refine lv_iload_n hx hb dX9_isBarred_16 rfl (lv_at hl 1 rfl) ?_
      refine lv_icmp_ne (tgt := 31) hx hb dX9_isBarred_17 (by decide) (fun c17 => ?_) (fun c17 => ?_)
      · refine lv_iinc (v := nI (i + 1)) (lv' := [(2, .int (nI (i + 1))), (0, .ref h), (1, .int x)]) hx hb dX9_isBarred_31 hl (k := 2) rfl (nI_1 _) (by decide) rfl (fun ls hl => ?_)
        refine lv_goto (tgt := 2) hx hb dX9_isBarred_34 (by decide) ?_
        exact ih (i + 1)  (by omega) (by rw [← he]; simp [lp, fnd, c17]) ls (lv_sub hl [1, 2, 0] rfl)
      · refine lv_aload_n hx hb dX9_isBarred_20 rfl (lv_at hl 0 rfl) ?_
        refine mg_45 hx hb hts hown hK hP dX9_isBarred_21 ?_
        refine lv_iload_n hx hb dX9_isBarred_24 rfl (lv_at hl 2 rfl) ?_
        refine ml_45 (x := (a 45) i) hx hb hK hP i rfl (by omega) rfl dX9_isBarred_25 ?_
        refine lv_if_le (tgt := 31) hx hb dX9_isBarred_26 (by decide) (fun c26 => ?_) (fun c26 => ?_)
        · refine lv_iinc (v := nI (i + 1)) (lv' := [(2, .int (nI (i + 1))), (0, .ref h), (1, .int x)]) hx hb dX9_isBarred_31 hl (k := 2) rfl (nI_1 _) (by decide) rfl (fun ls hl => ?_)
          refine lv_goto (tgt := 2) hx hb dX9_isBarred_34 (by decide) ?_
          exact ih (i + 1)  (by omega) (by rw [← he]; simp [lp, fnd, c17, c26]) ls (lv_sub hl [1, 2, 0] rfl)
        · refine lv_iconst (v := 1) hx hb dX9_isBarred_29 (by decide) ?_
          exact ro_z hx hb hr hlocks hq (rfl) dX9_isBarred_30 (by rw [← he]; simp [lp, fnd, bI, c17, c26])
  refine lv_iconst (v := 0) hx hb dX9_isBarred_0 (by decide) ?_
  refine lv_istore_n (lv' := [(2, .int 0), (0, .ref h), (1, .int x)]) hx hb dX9_isBarred_1 rfl hl (by decide) rfl (fun ls hl => ?_)
  exact L1 (c 46) 0 (by omega) (rfl) ls (lv_sub hl [1, 2, 0] rfl)
set_option maxHeartbeats 4000000 in
set_option maxRecDepth 100000 in
theorem c_X9_standsFor (l : Launch) (D : va_G) (h : Nat) (q : Nat → Nat) (k : Nat → ClassId) (c : Nat → Nat) (v : Nat → Int32) (nm : Int64) (a : Nat → Nat → Int32) (x : Int32) (hn : c 42 ≤ 100) (sn : Nat → Nat) (hs : ∀ k, k < c 42 → a 39 k = nI (sn k) ∧ sn k ≤ 3) : Ro l yX9_standsFor cX9_standsFor 5 (some .int) 0 D (TY k) G0 [.ref h, .int x] (Mw h q k c v nm a) (some (.int (fStands (a 37) (a 40) sn x (c 42)))) := by
  refine ro_body (by decide +kernel) (Nat.le_of_ble_eq_true rfl) ?_
  intro p e s m args below meth c_ Q hx hb hml hown hts hK hP hS hG hr hq hlocks ls hl
  replace hl : lv_has ls 5 [(0, .ref h), (1, .int x)] := hl
  change s.vm.findClass RX9 = some m.cls at hown
  have L : ∀ (r i : Nat) (y : Int32), i + r = c 42 → lp (fun k s => if a 37 k = 0 then lp (fun i s => if a 40 (3 * k + i) = x then s + 1 else s) (sn k) 0 s else s) r i y = fStands (a 37) (a 40) sn x (c 42) → ∀ (ls : Array Slot), lv_has ls 5 [(0, .ref h), (1, .int x), (2, .int y), (3, .int (nI i))] → W p l e (rmd 0 0 0) s m args below meth c_ s.heap [] 0 0 Q (F0 m 4 ls []) := by
    intro r
    induction r with
    | zero =>
      intro i y hi he ls hl
      refine lv_iload_n hx hb dX9_standsFor_4 rfl (lv_at hl 3 rfl) ?_
      refine lv_aload_n hx hb dX9_standsFor_5 rfl (lv_at hl 0 rfl) ?_
      refine mg_42 (x := nI (c 42)) hx hb hts hown hK hP rfl dX9_standsFor_6 ?_
      refine lv_icmp_ge (tgt := 68) hx hb dX9_standsFor_9 (by decide) (fun c9 => ?_) (fun c9 => absurd (nI_le (by omega) (by omega)) c9)
      refine lv_iload_n hx hb dX9_standsFor_68 rfl (lv_at hl 2 rfl) ?_
      exact ro_i hx hb hr hlocks hq dX9_standsFor_69 (by rw [← he]; simp [lp, fnd, ])
    | succ r ih =>
      intro i y hi he ls hl
      refine lv_iload_n hx hb dX9_standsFor_4 rfl (lv_at hl 3 rfl) ?_
      refine lv_aload_n hx hb dX9_standsFor_5 rfl (lv_at hl 0 rfl) ?_
      refine mg_42 (x := nI (c 42)) hx hb hts hown hK hP rfl dX9_standsFor_6 ?_
      refine lv_icmp_ge (tgt := 68) hx hb dX9_standsFor_9 (by decide) (fun c9 => absurd c9 (nI_ge (by omega) (by omega))) (fun c9 => ?_)
      refine lv_aload_n hx hb dX9_standsFor_12 rfl (lv_at hl 0 rfl) ?_
      refine mg_37 hx hb hts hown hK hP dX9_standsFor_13 ?_
      refine lv_iload_n hx hb dX9_standsFor_16 rfl (lv_at hl 3 rfl) ?_
      refine ml_37 (x := (a 37) i) hx hb hK hP i rfl (by omega) rfl dX9_standsFor_17 ?_
      refine lv_if_eq (tgt := 24) hx hb dX9_standsFor_18 (by decide) (fun c18 => ?_) (fun c18 => ?_)
      · have hsk := (hs i (by omega)).2
        have L2 : ∀ (r2 j : Nat) (y2 : Int32), j + r2 = sn i → lp (fun k s => if a 37 k = 0 then lp (fun i s => if a 40 (3 * k + i) = x then s + 1 else s) (sn k) 0 s else s) r (i + 1) (lp (fun t s => if a 40 (3 * i + t) = x then s + 1 else s) r2 j y2) = fStands (a 37) (a 40) sn x (c 42) → ∀ (ls : Array Slot), lv_has ls 5 [(0, .ref h), (1, .int x), (2, .int y2), (3, .int (nI i)), (4, .int (nI j))] → W p l e (rmd 0 0 0) s m args below meth c_ s.heap [] 0 0 Q (F0 m 27 ls []) := by
          intro r2
          induction r2 with
          | zero =>
            intro j y2 hi2 he2 ls hl
            refine lv_iload hx hb dX9_standsFor_27 (lv_at hl 4 rfl) ?_
            refine lv_aload_n hx hb dX9_standsFor_29 rfl (lv_at hl 0 rfl) ?_
            refine mg_39 hx hb hts hown hK hP dX9_standsFor_30 ?_
            refine lv_iload_n hx hb dX9_standsFor_33 rfl (lv_at hl 3 rfl) ?_
            refine ml_39 (x := (a 39) i) hx hb hK hP i rfl (by omega) rfl dX9_standsFor_34 ?_
            refine rw_topi (y := nI (sn i)) ((hs i (by omega)).1) ?_
            refine lv_icmp_ge (tgt := 62) hx hb dX9_standsFor_35 (by decide) (fun c35 => ?_) (fun c35 => absurd (nI_le (by omega) (by omega)) c35)
            refine lv_iinc (v := nI (i + 1)) (lv' := [(3, .int (nI (i + 1))), (0, .ref h), (1, .int x), (2, .int y2), (4, .int (nI j))]) hx hb dX9_standsFor_62 hl (k := 3) rfl (nI_1 _) (by decide) rfl (fun ls hl => ?_)
            refine lv_goto (tgt := 4) hx hb dX9_standsFor_65 (by decide) ?_
            exact ih (i + 1) y2 (by omega) (by rw [← he2]; simp [lp]) ls (lv_sub hl [1, 2, 3, 0] rfl)
          | succ r2 ih2 =>
            intro j y2 hi2 he2 ls hl
            refine lv_iload hx hb dX9_standsFor_27 (lv_at hl 4 rfl) ?_
            refine lv_aload_n hx hb dX9_standsFor_29 rfl (lv_at hl 0 rfl) ?_
            refine mg_39 hx hb hts hown hK hP dX9_standsFor_30 ?_
            refine lv_iload_n hx hb dX9_standsFor_33 rfl (lv_at hl 3 rfl) ?_
            refine ml_39 (x := (a 39) i) hx hb hK hP i rfl (by omega) rfl dX9_standsFor_34 ?_
            refine rw_topi (y := nI (sn i)) ((hs i (by omega)).1) ?_
            refine lv_icmp_ge (tgt := 62) hx hb dX9_standsFor_35 (by decide) (fun c35 => absurd c35 (nI_ge (by omega) (by omega))) (fun c35 => ?_)
            refine lv_aload_n hx hb dX9_standsFor_38 rfl (lv_at hl 0 rfl) ?_
            refine mg_40 hx hb hts hown hK hP dX9_standsFor_39 ?_
            refine lv_iconst (v := 3) hx hb dX9_standsFor_42 (by decide) ?_
            refine lv_iload_n hx hb dX9_standsFor_43 rfl (lv_at hl 3 rfl) ?_
            refine lv_imul hx hb dX9_standsFor_44 ?_
            refine rw_topi (y := nI (3 * i)) (pk_mul _ _) ?_
            refine lv_iload hx hb dX9_standsFor_45 (lv_at hl 4 rfl) ?_
            refine lv_iadd hx hb dX9_standsFor_47 ?_
            refine rw_topi (y := nI ((3 * i) + j)) (nI_add _ _) ?_
            refine ml_40 (x := (a 40) ((3 * i) + j)) hx hb hK hP ((3 * i) + j) rfl (by omega) rfl dX9_standsFor_48 ?_
            refine lv_iload_n hx hb dX9_standsFor_49 rfl (lv_at hl 1 rfl) ?_
            refine lv_icmp_ne (tgt := 56) hx hb dX9_standsFor_50 (by decide) (fun c50 => ?_) (fun c50 => ?_)
            · refine lv_iinc (v := nI (j + 1)) (lv' := [(4, .int (nI (j + 1))), (0, .ref h), (1, .int x), (2, .int y2), (3, .int (nI i))]) hx hb dX9_standsFor_56 hl (k := 4) rfl (nI_1 _) (by decide) rfl (fun ls hl => ?_)
              refine lv_goto (tgt := 27) hx hb dX9_standsFor_59 (by decide) ?_
              exact ih2 (j + 1) y2 (by omega) (by rw [← he2]; simp [lp, c50]) ls (lv_sub hl [1, 2, 3, 4, 0] rfl)
            · refine lv_iinc (v := y2 + 1) (lv' := [(2, .int (y2 + 1)), (0, .ref h), (1, .int x), (3, .int (nI i)), (4, .int (nI j))]) hx hb dX9_standsFor_53 hl (k := 2) rfl (rfl) (by decide) rfl (fun ls hl => ?_)
              refine lv_iinc (v := nI (j + 1)) (lv' := [(4, .int (nI (j + 1))), (2, .int (y2 + 1)), (0, .ref h), (1, .int x), (3, .int (nI i))]) hx hb dX9_standsFor_56 hl (k := 4) rfl (nI_1 _) (by decide) rfl (fun ls hl => ?_)
              refine lv_goto (tgt := 27) hx hb dX9_standsFor_59 (by decide) ?_
              exact ih2 (j + 1) (y2 + 1) (by omega) (by rw [← he2]; simp [lp, c50]) ls (lv_sub hl [2, 3, 1, 4, 0] rfl)
        refine lv_iconst (v := 0) hx hb dX9_standsFor_24 (by decide) ?_
        refine lv_istore (lv' := [(4, .int 0), (0, .ref h), (1, .int x), (2, .int y), (3, .int (nI i))]) hx hb dX9_standsFor_25 hl (by decide) rfl (fun ls hl => ?_)
        exact L2 (sn i) 0 y (by omega) (by rw [← he]; simp [lp, c18]) ls (lv_sub hl [1, 2, 3, 4, 0] rfl)
      · refine lv_goto (tgt := 62) hx hb dX9_standsFor_21 (by decide) ?_
        refine lv_iinc (v := nI (i + 1)) (lv' := [(3, .int (nI (i + 1))), (0, .ref h), (1, .int x), (2, .int y)]) hx hb dX9_standsFor_62 hl (k := 3) rfl (nI_1 _) (by decide) rfl (fun ls hl => ?_)
        refine lv_goto (tgt := 4) hx hb dX9_standsFor_65 (by decide) ?_
        exact ih (i + 1) y (by omega) (by rw [← he]; simp [lp, fnd, c18]) ls (lv_sub hl [1, 2, 3, 0] rfl)
  refine lv_iconst (v := 0) hx hb dX9_standsFor_0 (by decide) ?_
  refine lv_istore_n (lv' := [(2, .int 0), (0, .ref h), (1, .int x)]) hx hb dX9_standsFor_1 rfl hl (by decide) rfl (fun ls hl => ?_)
  refine lv_iconst (v := 0) hx hb dX9_standsFor_2 (by decide) ?_
  refine lv_istore_n (lv' := [(3, .int 0), (2, .int 0), (0, .ref h), (1, .int x)]) hx hb dX9_standsFor_3 rfl hl (by decide) rfl (fun ls hl => ?_)
  exact L (c 42) 0 0 (by omega) (rfl) ls (lv_sub hl [2, 3, 1, 0] rfl)
set_option maxHeartbeats 4000000 in
set_option maxRecDepth 100000 in
theorem c_X9_character (l : Launch) (D : va_G) (h : Nat) (q : Nat → Nat) (k : Nat → ClassId) (c : Nat → Nat) (v : Nat → Int32) (nm : Int64) (a : Nat → Nat → Int32) (x : Int32) (hn : c 42 ≤ 100) : Ro l yX9_character cX9_character 4 (some .int) 0 D (TY k) G0 [.ref h, .int x] (Mw h q k c v nm a) (some (.int (fClamp (fChar (a 26) (a 37) (a 35) x (c 42))))) := by
  refine ro_body (by decide +kernel) (Nat.le_of_ble_eq_true rfl) ?_
  intro p e s m args below meth c_ Q hx hb hml hown hts hK hP hS hG hr hq hlocks ls hl
  replace hl : lv_has ls 4 [(0, .ref h), (1, .int x)] := hl
  change s.vm.findClass RX9 = some m.cls at hown
  have L : ∀ (r i : Nat) (y : Int32), i + r = c 42 → fClamp (lp (fun i s => if a 26 i = x then (if a 37 i = 2 then (if a 37 i = 1 then s + (if a 35 i = 0 then 10 else 5) else s) + (-30) else (if a 37 i = 1 then s + (if a 35 i = 0 then 10 else 5) else s)) - 2 * a 35 i else s) r i y) = fClamp (fChar (a 26) (a 37) (a 35) x (c 42)) → ∀ (ls : Array Slot), lv_has ls 4 [(0, .ref h), (1, .int x), (2, .int y), (3, .int (nI i))] → W p l e (rmd 0 0 0) s m args below meth c_ s.heap [] 0 0 Q (F0 m 5 ls []) := by
    intro r
    induction r with
    | zero =>
      intro i y hi he ls hl
      refine lv_iload_n hx hb dX9_character_5 rfl (lv_at hl 3 rfl) ?_
      refine lv_aload_n hx hb dX9_character_6 rfl (lv_at hl 0 rfl) ?_
      refine mg_42 (x := nI (c 42)) hx hb hts hown hK hP rfl dX9_character_7 ?_
      refine lv_icmp_ge (tgt := 84) hx hb dX9_character_10 (by decide) (fun c10 => ?_) (fun c10 => absurd (nI_le (by omega) (by omega)) c10)
      refine lv_iload_n hx hb dX9_character_84 rfl (lv_at hl 2 rfl) ?_
      refine lv_if_ge (tgt := 92) hx hb dX9_character_85 (by decide) (fun c85 => ?_) (fun c85 => ?_)
      · refine lv_iload_n hx hb dX9_character_92 rfl (lv_at hl 2 rfl) ?_
        refine lv_sipush (v := 200) hx hb dX9_character_93 (by decide) ?_
        refine lv_icmp_le (tgt := 105) hx hb dX9_character_96 (by decide) (fun c96 => ?_) (fun c96 => ?_)
        · refine lv_iload_n hx hb dX9_character_105 rfl (lv_at hl 2 rfl) ?_
          exact ro_i hx hb hr hlocks hq dX9_character_106 (by rw [← he]; show _ = some (Value.int (fClamp y)); unfold fClamp; rw [if_pos c85, if_pos c96])
        · refine lv_sipush (v := 200) hx hb dX9_character_99 (by decide) ?_
          refine lv_goto (tgt := 106) hx hb dX9_character_102 (by decide) ?_
          exact ro_i hx hb hr hlocks hq dX9_character_106 (by rw [← he]; show _ = some (Value.int (fClamp y)); unfold fClamp; rw [if_pos c85, if_neg c96])
      · refine lv_iconst (v := 0) hx hb dX9_character_88 (by decide) ?_
        refine lv_goto (tgt := 106) hx hb dX9_character_89 (by decide) ?_
        exact ro_i hx hb hr hlocks hq dX9_character_106 (by rw [← he]; show _ = some (Value.int (fClamp y)); unfold fClamp; rw [if_neg c85])
    | succ r ih =>
      intro i y hi he ls hl
      refine lv_iload_n hx hb dX9_character_5 rfl (lv_at hl 3 rfl) ?_
      refine lv_aload_n hx hb dX9_character_6 rfl (lv_at hl 0 rfl) ?_
      refine mg_42 (x := nI (c 42)) hx hb hts hown hK hP rfl dX9_character_7 ?_
      refine lv_icmp_ge (tgt := 84) hx hb dX9_character_10 (by decide) (fun c10 => absurd c10 (nI_ge (by omega) (by omega))) (fun c10 => ?_)
      refine lv_aload_n hx hb dX9_character_13 rfl (lv_at hl 0 rfl) ?_
      refine mg_26 hx hb hts hown hK hP dX9_character_14 ?_
      refine lv_iload_n hx hb dX9_character_17 rfl (lv_at hl 3 rfl) ?_
      refine ml_26 (x := (a 26) i) hx hb hK hP i rfl (by omega) rfl dX9_character_18 ?_
      refine lv_iload_n hx hb dX9_character_19 rfl (lv_at hl 1 rfl) ?_
      refine lv_icmp_eq (tgt := 26) hx hb dX9_character_20 (by decide) (fun c20 => ?_) (fun c20 => ?_)
      · refine lv_aload_n hx hb dX9_character_26 rfl (lv_at hl 0 rfl) ?_
        refine mg_37 hx hb hts hown hK hP dX9_character_27 ?_
        refine lv_iload_n hx hb dX9_character_30 rfl (lv_at hl 3 rfl) ?_
        refine ml_37 (x := (a 37) i) hx hb hK hP i rfl (by omega) rfl dX9_character_31 ?_
        refine lv_iconst (v := 1) hx hb dX9_character_32 (by decide) ?_
        refine lv_icmp_ne (tgt := 54) hx hb dX9_character_33 (by decide) (fun c33 => ?_) (fun c33 => ?_)
        · refine lv_aload_n hx hb dX9_character_54 rfl (lv_at hl 0 rfl) ?_
          refine mg_37 hx hb hts hown hK hP dX9_character_55 ?_
          refine lv_iload_n hx hb dX9_character_58 rfl (lv_at hl 3 rfl) ?_
          refine ml_37 (x := (a 37) i) hx hb hK hP i rfl (by omega) rfl dX9_character_59 ?_
          refine lv_iconst (v := 2) hx hb dX9_character_60 (by decide) ?_
          refine lv_icmp_ne (tgt := 67) hx hb dX9_character_61 (by decide) (fun c61 => ?_) (fun c61 => ?_)
          · refine lv_iload_n hx hb dX9_character_67 rfl (lv_at hl 2 rfl) ?_
            refine lv_iconst (v := 2) hx hb dX9_character_68 (by decide) ?_
            refine lv_aload_n hx hb dX9_character_69 rfl (lv_at hl 0 rfl) ?_
            refine mg_35 hx hb hts hown hK hP dX9_character_70 ?_
            refine lv_iload_n hx hb dX9_character_73 rfl (lv_at hl 3 rfl) ?_
            refine ml_35 (x := (a 35) i) hx hb hK hP i rfl (by omega) rfl dX9_character_74 ?_
            refine lv_imul hx hb dX9_character_75 ?_
            refine lv_isub hx hb dX9_character_76 ?_
            refine lv_istore_n (lv' := [(2, .int (y - (2 * ((a 35) i)))), (0, .ref h), (1, .int x), (3, .int (nI i))]) hx hb dX9_character_77 rfl hl (by decide) rfl (fun ls hl => ?_)
            refine lv_iinc (v := nI (i + 1)) (lv' := [(3, .int (nI (i + 1))), (2, .int (y - (2 * ((a 35) i)))), (0, .ref h), (1, .int x)]) hx hb dX9_character_78 hl (k := 3) rfl (nI_1 _) (by decide) rfl (fun ls hl => ?_)
            refine lv_goto (tgt := 5) hx hb dX9_character_81 (by decide) ?_
            exact ih (i + 1) (y - (2 * ((a 35) i))) (by omega) (by rw [← he]; simp only [lp, if_pos c20, if_neg c33, if_neg c61]) ls (lv_sub hl [2, 3, 1, 0] rfl)
          · refine lv_iinc (v := y + (-30)) (lv' := [(2, .int (y + (-30))), (0, .ref h), (1, .int x), (3, .int (nI i))]) hx hb dX9_character_64 hl (k := 2) rfl (rfl) (by decide) rfl (fun ls hl => ?_)
            refine lv_iload_n hx hb dX9_character_67 rfl (lv_at hl 0 rfl) ?_
            refine lv_iconst (v := 2) hx hb dX9_character_68 (by decide) ?_
            refine lv_aload_n hx hb dX9_character_69 rfl (lv_at hl 1 rfl) ?_
            refine mg_35 hx hb hts hown hK hP dX9_character_70 ?_
            refine lv_iload_n hx hb dX9_character_73 rfl (lv_at hl 3 rfl) ?_
            refine ml_35 (x := (a 35) i) hx hb hK hP i rfl (by omega) rfl dX9_character_74 ?_
            refine lv_imul hx hb dX9_character_75 ?_
            refine lv_isub hx hb dX9_character_76 ?_
            refine lv_istore_n (lv' := [(2, .int ((y + (-30)) - (2 * ((a 35) i)))), (0, .ref h), (1, .int x), (3, .int (nI i))]) hx hb dX9_character_77 rfl hl (by decide) rfl (fun ls hl => ?_)
            refine lv_iinc (v := nI (i + 1)) (lv' := [(3, .int (nI (i + 1))), (2, .int ((y + (-30)) - (2 * ((a 35) i)))), (0, .ref h), (1, .int x)]) hx hb dX9_character_78 hl (k := 3) rfl (nI_1 _) (by decide) rfl (fun ls hl => ?_)
            refine lv_goto (tgt := 5) hx hb dX9_character_81 (by decide) ?_
            exact ih (i + 1) ((y + (-30)) - (2 * ((a 35) i))) (by omega) (by rw [← he]; simp only [lp, if_pos c20, if_neg c33, if_pos c61]) ls (lv_sub hl [2, 3, 1, 0] rfl)
        · refine lv_iload_n hx hb dX9_character_36 rfl (lv_at hl 2 rfl) ?_
          refine lv_aload_n hx hb dX9_character_37 rfl (lv_at hl 0 rfl) ?_
          refine mg_35 hx hb hts hown hK hP dX9_character_38 ?_
          refine lv_iload_n hx hb dX9_character_41 rfl (lv_at hl 3 rfl) ?_
          refine ml_35 (x := (a 35) i) hx hb hK hP i rfl (by omega) rfl dX9_character_42 ?_
          refine lv_if_ne (tgt := 51) hx hb dX9_character_43 (by decide) (fun c43 => ?_) (fun c43 => ?_)
          · refine lv_iconst (v := 5) hx hb dX9_character_51 (by decide) ?_
            refine lv_iadd hx hb dX9_character_52 ?_
            refine lv_istore_n (lv' := [(2, .int (y + 5)), (0, .ref h), (1, .int x), (3, .int (nI i))]) hx hb dX9_character_53 rfl hl (by decide) rfl (fun ls hl => ?_)
            refine lv_aload_n hx hb dX9_character_54 rfl (lv_at hl 1 rfl) ?_
            refine mg_37 hx hb hts hown hK hP dX9_character_55 ?_
            refine lv_iload_n hx hb dX9_character_58 rfl (lv_at hl 3 rfl) ?_
            refine ml_37 (x := (a 37) i) hx hb hK hP i rfl (by omega) rfl dX9_character_59 ?_
            refine lv_iconst (v := 2) hx hb dX9_character_60 (by decide) ?_
            refine lv_icmp_ne (tgt := 67) hx hb dX9_character_61 (by decide) (fun c61 => ?_) (fun c61 => ?_)
            · refine lv_iload_n hx hb dX9_character_67 rfl (lv_at hl 0 rfl) ?_
              refine lv_iconst (v := 2) hx hb dX9_character_68 (by decide) ?_
              refine lv_aload_n hx hb dX9_character_69 rfl (lv_at hl 1 rfl) ?_
              refine mg_35 hx hb hts hown hK hP dX9_character_70 ?_
              refine lv_iload_n hx hb dX9_character_73 rfl (lv_at hl 3 rfl) ?_
              refine ml_35 (x := (a 35) i) hx hb hK hP i rfl (by omega) rfl dX9_character_74 ?_
              refine lv_imul hx hb dX9_character_75 ?_
              refine lv_isub hx hb dX9_character_76 ?_
              refine lv_istore_n (lv' := [(2, .int ((y + 5) - (2 * ((a 35) i)))), (0, .ref h), (1, .int x), (3, .int (nI i))]) hx hb dX9_character_77 rfl hl (by decide) rfl (fun ls hl => ?_)
              refine lv_iinc (v := nI (i + 1)) (lv' := [(3, .int (nI (i + 1))), (2, .int ((y + 5) - (2 * ((a 35) i)))), (0, .ref h), (1, .int x)]) hx hb dX9_character_78 hl (k := 3) rfl (nI_1 _) (by decide) rfl (fun ls hl => ?_)
              refine lv_goto (tgt := 5) hx hb dX9_character_81 (by decide) ?_
              exact ih (i + 1) ((y + 5) - (2 * ((a 35) i))) (by omega) (by rw [← he]; simp only [lp, if_pos c20, if_pos c33, if_neg c43, if_neg c61]) ls (lv_sub hl [2, 3, 1, 0] rfl)
            · refine lv_iinc (v := (y + 5) + (-30)) (lv' := [(2, .int ((y + 5) + (-30))), (0, .ref h), (1, .int x), (3, .int (nI i))]) hx hb dX9_character_64 hl (k := 0) rfl (rfl) (by decide) rfl (fun ls hl => ?_)
              refine lv_iload_n hx hb dX9_character_67 rfl (lv_at hl 0 rfl) ?_
              refine lv_iconst (v := 2) hx hb dX9_character_68 (by decide) ?_
              refine lv_aload_n hx hb dX9_character_69 rfl (lv_at hl 1 rfl) ?_
              refine mg_35 hx hb hts hown hK hP dX9_character_70 ?_
              refine lv_iload_n hx hb dX9_character_73 rfl (lv_at hl 3 rfl) ?_
              refine ml_35 (x := (a 35) i) hx hb hK hP i rfl (by omega) rfl dX9_character_74 ?_
              refine lv_imul hx hb dX9_character_75 ?_
              refine lv_isub hx hb dX9_character_76 ?_
              refine lv_istore_n (lv' := [(2, .int (((y + 5) + (-30)) - (2 * ((a 35) i)))), (0, .ref h), (1, .int x), (3, .int (nI i))]) hx hb dX9_character_77 rfl hl (by decide) rfl (fun ls hl => ?_)
              refine lv_iinc (v := nI (i + 1)) (lv' := [(3, .int (nI (i + 1))), (2, .int (((y + 5) + (-30)) - (2 * ((a 35) i)))), (0, .ref h), (1, .int x)]) hx hb dX9_character_78 hl (k := 3) rfl (nI_1 _) (by decide) rfl (fun ls hl => ?_)
              refine lv_goto (tgt := 5) hx hb dX9_character_81 (by decide) ?_
              exact ih (i + 1) (((y + 5) + (-30)) - (2 * ((a 35) i))) (by omega) (by rw [← he]; simp only [lp, if_pos c20, if_pos c33, if_neg c43, if_pos c61]) ls (lv_sub hl [2, 3, 1, 0] rfl)
          · refine lv_bipush (v := 10) hx hb dX9_character_46 (by decide) ?_
            refine lv_goto (tgt := 52) hx hb dX9_character_48 (by decide) ?_
            refine lv_iadd hx hb dX9_character_52 ?_
            refine lv_istore_n (lv' := [(2, .int (y + 10)), (0, .ref h), (1, .int x), (3, .int (nI i))]) hx hb dX9_character_53 rfl hl (by decide) rfl (fun ls hl => ?_)
            refine lv_aload_n hx hb dX9_character_54 rfl (lv_at hl 1 rfl) ?_
            refine mg_37 hx hb hts hown hK hP dX9_character_55 ?_
            refine lv_iload_n hx hb dX9_character_58 rfl (lv_at hl 3 rfl) ?_
            refine ml_37 (x := (a 37) i) hx hb hK hP i rfl (by omega) rfl dX9_character_59 ?_
            refine lv_iconst (v := 2) hx hb dX9_character_60 (by decide) ?_
            refine lv_icmp_ne (tgt := 67) hx hb dX9_character_61 (by decide) (fun c61 => ?_) (fun c61 => ?_)
            · refine lv_iload_n hx hb dX9_character_67 rfl (lv_at hl 0 rfl) ?_
              refine lv_iconst (v := 2) hx hb dX9_character_68 (by decide) ?_
              refine lv_aload_n hx hb dX9_character_69 rfl (lv_at hl 1 rfl) ?_
              refine mg_35 hx hb hts hown hK hP dX9_character_70 ?_
              refine lv_iload_n hx hb dX9_character_73 rfl (lv_at hl 3 rfl) ?_
              refine ml_35 (x := (a 35) i) hx hb hK hP i rfl (by omega) rfl dX9_character_74 ?_
              refine lv_imul hx hb dX9_character_75 ?_
              refine lv_isub hx hb dX9_character_76 ?_
              refine lv_istore_n (lv' := [(2, .int ((y + 10) - (2 * ((a 35) i)))), (0, .ref h), (1, .int x), (3, .int (nI i))]) hx hb dX9_character_77 rfl hl (by decide) rfl (fun ls hl => ?_)
              refine lv_iinc (v := nI (i + 1)) (lv' := [(3, .int (nI (i + 1))), (2, .int ((y + 10) - (2 * ((a 35) i)))), (0, .ref h), (1, .int x)]) hx hb dX9_character_78 hl (k := 3) rfl (nI_1 _) (by decide) rfl (fun ls hl => ?_)
              refine lv_goto (tgt := 5) hx hb dX9_character_81 (by decide) ?_
              exact ih (i + 1) ((y + 10) - (2 * ((a 35) i))) (by omega) (by rw [← he]; simp only [lp, if_pos c20, if_pos c33, if_pos c43, if_neg c61]) ls (lv_sub hl [2, 3, 1, 0] rfl)
            · refine lv_iinc (v := (y + 10) + (-30)) (lv' := [(2, .int ((y + 10) + (-30))), (0, .ref h), (1, .int x), (3, .int (nI i))]) hx hb dX9_character_64 hl (k := 0) rfl (rfl) (by decide) rfl (fun ls hl => ?_)
              refine lv_iload_n hx hb dX9_character_67 rfl (lv_at hl 0 rfl) ?_
              refine lv_iconst (v := 2) hx hb dX9_character_68 (by decide) ?_
              refine lv_aload_n hx hb dX9_character_69 rfl (lv_at hl 1 rfl) ?_
              refine mg_35 hx hb hts hown hK hP dX9_character_70 ?_
              refine lv_iload_n hx hb dX9_character_73 rfl (lv_at hl 3 rfl) ?_
              refine ml_35 (x := (a 35) i) hx hb hK hP i rfl (by omega) rfl dX9_character_74 ?_
              refine lv_imul hx hb dX9_character_75 ?_
              refine lv_isub hx hb dX9_character_76 ?_
              refine lv_istore_n (lv' := [(2, .int (((y + 10) + (-30)) - (2 * ((a 35) i)))), (0, .ref h), (1, .int x), (3, .int (nI i))]) hx hb dX9_character_77 rfl hl (by decide) rfl (fun ls hl => ?_)
              refine lv_iinc (v := nI (i + 1)) (lv' := [(3, .int (nI (i + 1))), (2, .int (((y + 10) + (-30)) - (2 * ((a 35) i)))), (0, .ref h), (1, .int x)]) hx hb dX9_character_78 hl (k := 3) rfl (nI_1 _) (by decide) rfl (fun ls hl => ?_)
              refine lv_goto (tgt := 5) hx hb dX9_character_81 (by decide) ?_
              exact ih (i + 1) (((y + 10) + (-30)) - (2 * ((a 35) i))) (by omega) (by rw [← he]; simp only [lp, if_pos c20, if_pos c33, if_pos c43, if_pos c61]) ls (lv_sub hl [2, 3, 1, 0] rfl)
      · refine lv_goto (tgt := 78) hx hb dX9_character_23 (by decide) ?_
        refine lv_iinc (v := nI (i + 1)) (lv' := [(3, .int (nI (i + 1))), (0, .ref h), (1, .int x), (2, .int y)]) hx hb dX9_character_78 hl (k := 3) rfl (nI_1 _) (by decide) rfl (fun ls hl => ?_)
        refine lv_goto (tgt := 5) hx hb dX9_character_81 (by decide) ?_
        exact ih (i + 1) y (by omega) (by rw [← he]; simp only [lp, if_neg c20]) ls (lv_sub hl [1, 2, 3, 0] rfl)
  refine lv_bipush (v := 100) hx hb dX9_character_0 (by decide) ?_
  refine lv_istore_n (lv' := [(2, .int 100), (0, .ref h), (1, .int x)]) hx hb dX9_character_2 rfl hl (by decide) rfl (fun ls hl => ?_)
  refine lv_iconst (v := 0) hx hb dX9_character_3 (by decide) ?_
  refine lv_istore_n (lv' := [(3, .int 0), (2, .int 100), (0, .ref h), (1, .int x)]) hx hb dX9_character_4 rfl hl (by decide) rfl (fun ls hl => ?_)
  exact L (c 42) 0 100 (by omega) (rfl) ls (lv_sub hl [2, 3, 1, 0] rfl)
set_option maxHeartbeats 4000000 in
set_option maxRecDepth 100000 in
theorem c_X9_isTwice (l : Launch) (D : va_G) (h : Nat) (q : Nat → Nat) (k : Nat → ClassId) (c : Nat → Nat) (v : Nat → Int32) (nm : Int64) (a : Nat → Nat → Int32) (x : Int32) (j : Nat) (hj : j < 320) : Ro l yX9_isTwice cX9_isTwice 4 (some .boolean) 0 D (TY k) G0 [.ref h, .int x, .int (nI j)] (Mw h q k c v nm a) (some (.int (bI (fTwice (a 1) j)))) := by
  refine ro_body (by decide +kernel) (Nat.le_of_ble_eq_true rfl) ?_
  intro p e s m args below meth c_ Q hx hb hml hown hts hK hP hS hG hr hq hlocks ls hl
  replace hl : lv_has ls 4 [(0, .ref h), (1, .int x), (2, .int (nI j))] := hl
  change s.vm.findClass RX9 = some m.cls at hown
  have L : ∀ (r i : Nat), i + r = j → bI ((fnd (fun k => decide (a 1 k = a 1 j)) r i).isSome) = bI (fTwice (a 1) j) → ∀ (ls : Array Slot), lv_has ls 4 [(0, .ref h), (1, .int x), (2, .int (nI j)), (3, .int (nI i))] → W p l e (rmd 0 0 0) s m args below meth c_ s.heap [] 0 0 Q (F0 m 2 ls []) := by
    intro r
    induction r with
    | zero =>
      intro i hi he ls hl
      refine lv_iload_n hx hb dX9_isTwice_2 rfl (lv_at hl 3 rfl) ?_
      refine lv_iload_n hx hb dX9_isTwice_3 rfl (lv_at hl 2 rfl) ?_
      refine lv_icmp_ge (tgt := 30) hx hb dX9_isTwice_4 (by decide) (fun c4 => ?_) (fun c4 => absurd (nI_le (by omega) (by omega)) c4)
      refine lv_iconst (v := 0) hx hb dX9_isTwice_30 (by decide) ?_
      exact ro_z hx hb hr hlocks hq (rfl) dX9_isTwice_31 (by rw [← he]; simp [lp, fnd, bI])
    | succ r ih =>
      intro i hi he ls hl
      refine lv_iload_n hx hb dX9_isTwice_2 rfl (lv_at hl 3 rfl) ?_
      refine lv_iload_n hx hb dX9_isTwice_3 rfl (lv_at hl 2 rfl) ?_
      refine lv_icmp_ge (tgt := 30) hx hb dX9_isTwice_4 (by decide) (fun c4 => absurd c4 (nI_ge (by omega) (by omega))) (fun c4 => ?_)
      refine lv_aload_n hx hb dX9_isTwice_7 rfl (lv_at hl 0 rfl) ?_
      refine mg_1 hx hb hts hown hK hP dX9_isTwice_8 ?_
      refine lv_iload_n hx hb dX9_isTwice_11 rfl (lv_at hl 3 rfl) ?_
      refine ml_1 (x := (a 1) i) hx hb hK hP i rfl (by omega) rfl dX9_isTwice_12 ?_
      refine lv_aload_n hx hb dX9_isTwice_13 rfl (lv_at hl 0 rfl) ?_
      refine mg_1 hx hb hts hown hK hP dX9_isTwice_14 ?_
      refine lv_iload_n hx hb dX9_isTwice_17 rfl (lv_at hl 2 rfl) ?_
      refine ml_1 (x := (a 1) j) hx hb hK hP j rfl (by omega) rfl dX9_isTwice_18 ?_
      refine lv_icmp_ne (tgt := 24) hx hb dX9_isTwice_19 (by decide) (fun c19 => ?_) (fun c19 => ?_)
      · refine lv_iinc (v := nI (i + 1)) (lv' := [(3, .int (nI (i + 1))), (0, .ref h), (1, .int x), (2, .int (nI j))]) hx hb dX9_isTwice_24 hl (k := 3) rfl (nI_1 _) (by decide) rfl (fun ls hl => ?_)
        refine lv_goto (tgt := 2) hx hb dX9_isTwice_27 (by decide) ?_
        exact ih (i + 1)  (by omega) (by rw [← he]; simp [lp, fnd, c19]) ls (lv_sub hl [1, 2, 3, 0] rfl)
      · refine lv_iconst (v := 1) hx hb dX9_isTwice_22 (by decide) ?_
        exact ro_z hx hb hr hlocks hq (rfl) dX9_isTwice_23 (by rw [← he]; simp [lp, fnd, bI, c19])
  refine lv_iconst (v := 0) hx hb dX9_isTwice_0 (by decide) ?_
  refine lv_istore_n (lv' := [(3, .int 0), (0, .ref h), (1, .int x), (2, .int (nI j))]) hx hb dX9_isTwice_1 rfl hl (by decide) rfl (fun ls hl => ?_)
  exact L j 0 (by omega) (rfl) ls (lv_sub hl [1, 2, 3, 0] rfl)
set_option maxHeartbeats 4000000 in
set_option maxRecDepth 100000 in
theorem c_X9_at (l : Launch) (D : va_G) (h : Nat) (q : Nat → Nat) (k : Nat → ClassId) (c : Nat → Nat) (v : Nat → Int32) (nm : Int64) (a : Nat → Nat → Int32) (j : Nat) (hs : c 10 ≤ 320) (hj : j < 2147483648) : Ro l yX9_at cX9_at 2 (some .int) 0 D (TY k) G0 [.ref h, .int (nI j)] (Mw h q k c v nm a) (some (.int (if c 10 ≤ j then 0 else a 1 j))) := by
  refine ro_body (by decide +kernel) (Nat.le_of_ble_eq_true rfl) ?_
  intro p e s m args below meth c_ Q hx hb hml hown hts hK hP hS hG hr hq hlocks ls hl
  replace hl : lv_has ls 2 [(0, .ref h), (1, .int (nI j))] := hl
  change s.vm.findClass RX9 = some m.cls at hown
  refine lv_iload_n hx hb dX9_at_0 rfl (lv_at hl 1 rfl) ?_
  refine lv_aload_n hx hb dX9_at_1 rfl (lv_at hl 0 rfl) ?_
  refine mg_10 (x := nI (c 10)) hx hb hts hown hK hP rfl dX9_at_2 ?_
  refine lv_icmp_ge (tgt := 17) hx hb dX9_at_5 (by decide) (fun c5 => ?_) (fun c5 => ?_)
  · replace c5 : (c 10) ≤ j := (nI_leI (a := c 10) (b := j) (by omega) (by omega)).mp c5
    refine lv_iconst (v := 0) hx hb dX9_at_17 (by decide) ?_
    exact ro_i hx hb hr hlocks hq dX9_at_18 (by simp [c5])
  · replace c5 : ¬ ((c 10) ≤ j) := fun z => c5 ((nI_leI (a := c 10) (b := j) (by omega) (by omega)).mpr z)
    refine lv_aload_n hx hb dX9_at_8 rfl (lv_at hl 0 rfl) ?_
    refine mg_1 hx hb hts hown hK hP dX9_at_9 ?_
    refine lv_iload_n hx hb dX9_at_12 rfl (lv_at hl 1 rfl) ?_
    refine ml_1 (x := (a 1) j) hx hb hK hP j rfl (by omega) rfl dX9_at_13 ?_
    refine lv_goto (tgt := 18) hx hb dX9_at_14 (by decide) ?_
    exact ro_i hx hb hr hlocks hq dX9_at_18 (by simp [c5])
