def fOwed (x : Int32) (u : MSt) : Int32 := match fOpen (u.2.2.2 26) (u.2.2.2 37) x (u.1 42) with
  | none => fCallsOf (u.2.2.2 43) (u.2.2.2 45) x (u.1 46) + 0
  | some k => fCallsOf (u.2.2.2 43) (u.2.2.2 45) x (u.1 46) + (u.2.2.2 33 k - u.2.2.2 34 k + u.2.2.2 27 k - u.2.2.2 32 k)
theorem fOpen_lt {who st : Nat → Int32} {p : Int32} {n j : Nat} (h : fOpen who st p n = some j) : j < n := by
  have := fnd_lt h; omega
theorem fOpen_spec {who st : Nat → Int32} {p : Int32} {n j : Nat} (h : fOpen who st p n = some j) : who j = p ∧ st j = 0 := by
  have := (fnd_lt h).2.2
  simpa using this
set_option maxHeartbeats 4000000 in
set_option maxRecDepth 100000 in
theorem c_X9_owed (l : Launch) (D : va_G) (h : Nat) (q : Nat → Nat) (k : Nat → ClassId) (c : Nat → Nat) (v : Nat → Int32) (nm : Int64) (a : Nat → Nat → Int32) (x : Int32) (hn : c 42 ≤ 100) (hc : c 46 ≤ 300) : Ro l yX9_owed cX9_owed 3 (some .int) 1 D (TY k) G0 [.ref h, .int x] (Mw h q k c v nm a) (some (.int (fOwed x (c, v, nm, a)))) := by
  refine ro_body (by decide +kernel) (Nat.le_of_ble_eq_true rfl) ?_
  intro p e s m args below meth c_ Q hx hb hml hown hts hK hP hS hG hr hq hlocks ls hl
  replace hl : lv_has ls 3 [(0, .ref h), (1, .int x)] := hl
  change s.vm.findClass RX9 = some m.cls at hown
  refine lv_aload_n hx hb dX9_owed_0 rfl (lv_at hl 0 rfl) ?_
  refine lv_iload_n hx hb dX9_owed_1 rfl (lv_at hl 1 rfl) ?_
  refine ro_V (rest := []) (st1 := [.int (oI (fOpen (a 26) (a 37) x (c 42)))]) (As := [.int x]) ⟨hx, hb, hml, hown, hts⟩ Gd0 trivial hS hK (c_X9_openOf l D h q k c v nm a x hn) mi_X9_openOf wd_5_197 wp_3_3 wd_5_195 ⟨Nat.le_of_ble_eq_true rfl, Nat.le_of_ble_eq_true rfl⟩ (hP) 0 rfl rfl rfl hl.1 rfl (Nat.le_of_ble_eq_true rfl) rfl ⟨Nat.le_of_ble_eq_true rfl, Nat.le_of_ble_eq_true rfl⟩ dX9_owed_2 ?_
  refine lv_istore_n (lv' := [(2, .int (oI (fOpen (a 26) (a 37) x (c 42)))), (0, .ref h), (1, .int x)]) hx hb dX9_owed_5 rfl hl (by decide) rfl (fun ls hl => ?_)
  refine lv_aload_n hx hb dX9_owed_6 rfl (lv_at hl 1 rfl) ?_
  refine lv_iload_n hx hb dX9_owed_7 rfl (lv_at hl 2 rfl) ?_
  refine ro_V (rest := []) (st1 := [.int (fCallsOf (a 43) (a 45) x (c 46))]) (As := [.int x]) ⟨hx, hb, hml, hown, hts⟩ Gd0 trivial hS hK (c_X9_callsOf l D h q k c v nm a x hc) mi_X9_callsOf wd_5_233 wp_3_11 wd_5_231 ⟨Nat.le_of_ble_eq_true rfl, Nat.le_of_ble_eq_true rfl⟩ (hP) 0 rfl rfl rfl hl.1 rfl (Nat.le_of_ble_eq_true rfl) rfl ⟨Nat.le_of_ble_eq_true rfl, Nat.le_of_ble_eq_true rfl⟩ dX9_owed_8 ?_
  refine lv_iload_n hx hb dX9_owed_11 rfl (lv_at hl 0 rfl) ?_
  refine lv_iconst (v := (-1)) hx hb dX9_owed_12 (by decide) ?_
  refine lv_icmp_ne (tgt := 20) hx hb dX9_owed_13 (by decide) (fun c13 => ?_) (fun c13 => ?_)
  · obtain ⟨j, ej, eo⟩ := oI_some c13
    have hjn := fOpen_lt ej
    refine lv_aload_n hx hb dX9_owed_20 rfl (lv_at hl 1 rfl) ?_
    refine mg_33 hx hb hts hown hK hP dX9_owed_21 ?_
    refine lv_iload_n hx hb dX9_owed_24 rfl (lv_at hl 0 rfl) ?_
    refine ml_33 (x := (a 33) j) hx hb hK hP j eo (by omega) rfl dX9_owed_25 ?_
    refine lv_aload_n hx hb dX9_owed_26 rfl (lv_at hl 1 rfl) ?_
    refine mg_34 hx hb hts hown hK hP dX9_owed_27 ?_
    refine lv_iload_n hx hb dX9_owed_30 rfl (lv_at hl 0 rfl) ?_
    refine ml_34 (x := (a 34) j) hx hb hK hP j eo (by omega) rfl dX9_owed_31 ?_
    refine lv_isub hx hb dX9_owed_32 ?_
    refine lv_aload_n hx hb dX9_owed_33 rfl (lv_at hl 1 rfl) ?_
    refine mg_27 hx hb hts hown hK hP dX9_owed_34 ?_
    refine lv_iload_n hx hb dX9_owed_37 rfl (lv_at hl 0 rfl) ?_
    refine ml_27 (x := (a 27) j) hx hb hK hP j eo (by omega) rfl dX9_owed_38 ?_
    refine lv_iadd hx hb dX9_owed_39 ?_
    refine lv_aload_n hx hb dX9_owed_40 rfl (lv_at hl 1 rfl) ?_
    refine mg_32 hx hb hts hown hK hP dX9_owed_41 ?_
    refine lv_iload_n hx hb dX9_owed_44 rfl (lv_at hl 0 rfl) ?_
    refine ml_32 (x := (a 32) j) hx hb hK hP j eo (by omega) rfl dX9_owed_45 ?_
    refine lv_isub hx hb dX9_owed_46 ?_
    refine lv_iadd hx hb dX9_owed_47 ?_
    exact ro_i hx hb hr hlocks hq dX9_owed_48 (by simp only [fOwed, ej])
  · have en := oI_none c13 (fun j hj => by have := fOpen_lt hj; omega)
    refine lv_iconst (v := 0) hx hb dX9_owed_16 (by decide) ?_
    refine lv_goto (tgt := 47) hx hb dX9_owed_17 (by decide) ?_
    refine lv_iadd hx hb dX9_owed_47 ?_
    exact ro_i hx hb hr hlocks hq dX9_owed_48 (by simp only [fOwed, en])
def mOwes (x : Int32) (u : MSt) : Int32 × MSt := (if isIn x (u.1 21) = false then -1 else fOwed x u, mT0 u)
def mCount (x : Int32) (u : MSt) : Int32 := match swN x 7 with
  | 0 => nI (u.1 23) | 1 => nI (u.1 21) | 2 => nI (u.1 22) | 3 => nI (u.1 42) | 4 => fOpens (u.2.2.2 37) (u.1 42) | 5 => u.2.1 25 | 6 => u.2.1 24 | 7 => nI (u.1 2) | _ => -1
def mAboutV (x y : Int32) (sn : Nat → Nat) (u : MSt) : Int32 := match swN y 6 with
  | 0 => u.2.2.2 17 x.toNatClampNeg | 1 => fClamp (fChar (u.2.2.2 26) (u.2.2.2 37) (u.2.2.2 35) x (u.1 42)) | 2 => bI (fBarred (u.2.2.2 43) (u.2.2.2 45) (u.2.2.2 26) (u.2.2.2 37) (u.2.2.2 3 8) x (u.1 46) (u.1 42)) | 3 => oI (fOpen (u.2.2.2 26) (u.2.2.2 37) x (u.1 42)) | 4 => fStands (u.2.2.2 37) (u.2.2.2 40) sn x (u.1 42) | 5 => fUnpaid (u.2.2.2 43) (u.2.2.2 45) x (u.1 46) | 6 => fCallsOf (u.2.2.2 43) (u.2.2.2 45) x (u.1 46) | _ => 0
def mAbout (x y : Int32) (sn : Nat → Nat) (u : MSt) : Int32 × MSt := if isIn x (u.1 21) = false then (0, mT1 u) else if y < 0 then (0, mT1 u) else if y ≤ 6 then (mAboutV x y sn u, mT0 u) else (0, mT1 u)
def mLoanV (x y : Int32) (u : MSt) : Int32 := match swN y 8 with
  | 0 => u.2.2.2 26 x.toNatClampNeg | 1 => u.2.2.2 27 x.toNatClampNeg | 2 => u.2.2.2 28 x.toNatClampNeg | 3 => u.2.2.2 32 x.toNatClampNeg | 4 => u.2.2.2 33 x.toNatClampNeg | 5 => u.2.2.2 34 x.toNatClampNeg | 6 => u.2.2.2 35 x.toNatClampNeg | 7 => u.2.2.2 37 x.toNatClampNeg | 8 => u.2.2.2 39 x.toNatClampNeg | _ => u.2.2.2 38 x.toNatClampNeg
def mLoan (x y : Int32) (u : MSt) : Int32 × MSt := if isIn x (u.1 42) = false then (0, mT1 u) else if y < 0 then (0, mT1 u) else if y ≤ 9 then (mLoanV x y u, mT0 u) else (0, mT1 u)
def mSurety (x y : Int32) (u : MSt) : Int32 × MSt := if isIn x (u.1 42) = false then (0, mT1 u) else if y < 0 then (0, mT1 u) else if y < u.2.2.2 39 x.toNatClampNeg then (u.2.2.2 40 (3 * x.toNatClampNeg + y.toNatClampNeg), mT0 u) else (0, mT1 u)
def mTaken (x y : Int32) (u : MSt) : Int32 × MSt := if isIn x (u.1 42) = false then (0, mT1 u) else if isIn y (u.1 22) = true then (u.2.2.2 41 (6 * x.toNatClampNeg + y.toNatClampNeg), mT0 u) else (0, mT1 u)
def mChest (x y : Int32) (u : MSt) : Int32 × MSt := (if isIn x (u.1 22) = false then -1 else if y < 0 then -1 else if y ≤ nI (u.1 23) then (if y = nI (u.1 23) then u.2.2.2 19 x.toNatClampNeg else u.2.2.2 20 (6 * y.toNatClampNeg + x.toNatClampNeg)) else -1, mT0 u)
set_option maxHeartbeats 4000000 in
set_option maxRecDepth 100000 in
theorem c_X9_owes (l : Launch) (D : va_G) (h : Nat) (q : Nat → Nat) (k : Nat → ClassId) (c : Nat → Nat) (v : Nat → Int32) (nm : Int64) (a : Nat → Nat → Int32) (x : Int32) (hp : c 21 ≤ 40) (hn : c 42 ≤ 100) (hc : c 46 ≤ 300) : Fs (S := Int32 × MSt) l yX9_owes cX9_owes 2 (some .int) 2 0 0 D (TY k) G0 [.ref h, .int x] (Mw h q k c v nm a) (fun u => some (.int u.1)) (fun u => u = mOwes x (c, v, nm, a)) (fun u => MwU h q k u.2) := by
  refine fs_body (by decide +kernel) (Nat.le_of_ble_eq_true rfl) ?_
  intro p e s m args below meth c_ Q A hx hb hml hown hts hK hP hD hS hA hG hin hr hq hlocks ls hl
  replace hl : lv_has ls 2 [(0, .ref h), (1, .int x)] := hl
  change s.vm.findClass RX9 = some m.cls at hown
  refine lv_aload_n hx hb dX9_owes_0 rfl (lv_at hl 0 rfl) ?_
  refine lv_iconst (v := 0) hx hb dX9_owes_1 (by decide) ?_
  refine mp_0 hx hb hts hown hK hP hD hS 0 dX9_owes_2 (fun H locs hP hD hS => ?_)
  refine lv_aload_n hx hb dX9_owes_5 rfl (lv_at hl 0 rfl) ?_
  refine lv_iload_n hx hb dX9_owes_6 rfl (lv_at hl 1 rfl) ?_
  refine ro_V (rest := []) (st1 := [.int (bI (isIn x (c 21)))]) (As := [.int x]) ⟨hx, hb, hml, hown, hts⟩ Gd0 trivial hS hK (c_X9_isPerson l D h q k c (up v 0 0) nm a x ) mi_X9_isPerson wd_5_171 wp_3_0 wd_5_169 ⟨Nat.le_of_ble_eq_true rfl, Nat.le_of_ble_eq_true rfl⟩ (hP) 0 rfl rfl rfl hl.1 rfl (Nat.le_of_ble_eq_true rfl) rfl ⟨Nat.le_of_ble_eq_true rfl, Nat.le_of_ble_eq_true rfl⟩ dX9_owes_7 ?_
  refine lv_if_eq (tgt := 21) hx hb dX9_owes_10 (by decide) (fun c10 => ?_) (fun c10 => ?_)
  · replace c10 : (isIn x (c 21)) = false := bI_0.mp c10
    refine lv_iconst (v := (-1)) hx hb dX9_owes_21 (by decide) ?_
    exact fs_i hx hb hr hlocks hq ((-1), (c, up v 0 0, nm, a)) (by simp [mOwes, mT0, fOwed, c10]) hP hD hS dX9_owes_22 rfl
  · replace c10 : (isIn x (c 21)) = true := bI_n.mp c10
    refine lv_aload_n hx hb dX9_owes_13 rfl (lv_at hl 0 rfl) ?_
    refine lv_iload_n hx hb dX9_owes_14 rfl (lv_at hl 1 rfl) ?_
    refine ro_V (rest := []) (st1 := [.int (fOwed x (c, up v 0 0, nm, a))]) (As := [.int x]) ⟨hx, hb, hml, hown, hts⟩ Gd0 trivial hS hK (c_X9_owed l D h q k c (up v 0 0) nm a x hn hc) mi_X9_owed wd_5_229 wp_3_10 wd_5_227 ⟨Nat.le_of_ble_eq_true rfl, Nat.le_of_ble_eq_true rfl⟩ (hP) 0 rfl rfl rfl hl.1 rfl (Nat.le_of_ble_eq_true rfl) rfl ⟨Nat.le_of_ble_eq_true rfl, Nat.le_of_ble_eq_true rfl⟩ dX9_owes_15 ?_
    refine lv_goto (tgt := 22) hx hb dX9_owes_18 (by decide) ?_
    exact fs_i hx hb hr hlocks hq (fOwed x (c, up v 0 0, nm, a), (c, up v 0 0, nm, a)) (by simp [mOwes, mT0, fOwed, c10]) hP hD hS dX9_owes_22 rfl
set_option maxHeartbeats 4000000 in
set_option maxRecDepth 100000 in
theorem c_X9_count (l : Launch) (D : va_G) (h : Nat) (q : Nat → Nat) (k : Nat → ClassId) (c : Nat → Nat) (v : Nat → Int32) (nm : Int64) (a : Nat → Nat → Int32) (x : Int32) (hn : c 42 ≤ 100) : Fs (S := Int32 × MSt) l yX9_count cX9_count 4 (some .int) 0 0 0 D (TY k) G0 [.ref h, .int x] (Mw h q k c v nm a) (fun u => some (.int u.1)) (fun u => u = (mCount x (c, v, nm, a), mT0 (c, v, nm, a))) (fun u => MwU h q k u.2) := by
  refine fs_body (by decide +kernel) (Nat.le_of_ble_eq_true rfl) ?_
  intro p e s m args below meth c_ Q A hx hb hml hown hts hK hP hD hS hA hG hin hr hq hlocks ls hl
  replace hl : lv_has ls 4 [(0, .ref h), (1, .int x)] := hl
  change s.vm.findClass RX9 = some m.cls at hown
  refine lv_aload_n hx hb dX9_count_0 rfl (lv_at hl 0 rfl) ?_
  refine lv_iconst (v := 0) hx hb dX9_count_1 (by decide) ?_
  refine mp_0 hx hb hts hown hK hP hD hS 0 dX9_count_2 (fun H locs hP hD hS => ?_)
  refine lv_iload_n hx hb dX9_count_5 rfl (lv_at hl 1 rfl) ?_
  rcases sw_cases x 7 with sw_2 | ⟨j_1, hj_1, ej_1⟩
  · refine lv_tableOut (tgt := 87) hx hb dX9_count_6 sw_2 (by decide) ?_
    refine lv_iload_n hx hb dX9_count_87 rfl (lv_at hl 1 rfl) ?_
    refine lv_iconst (v := 4) hx hb dX9_count_88 (by decide) ?_
    refine lv_icmp_eq (tgt := 94) hx hb dX9_count_89 (by decide) (fun c89 => absurd c89 (fun e9 => by rw [e9] at sw_2; revert sw_2; decide)) (fun c89 => ?_)
    refine lv_iconst (v := (-1)) hx hb dX9_count_92 (by decide) ?_
    exact fs_i hx hb hr hlocks hq ((-1), (c, up v 0 0, nm, a)) (by simp only [mCount, swN_out sw_2]; rfl) hP hD hS dX9_count_93 rfl
  · subst ej_1
    rcases (show j_1 = 0 ∨ j_1 = 1 ∨ j_1 = 2 ∨ j_1 = 3 ∨ j_1 = 4 ∨ j_1 = 5 ∨ j_1 = 6 ∨ j_1 = 7 by omega) with rfl | rfl | rfl | rfl | rfl | rfl | rfl | rfl
    · refine lv_tableIn (off := 46) (tgt := 52) hx hb dX9_count_6 (by decide) (by decide) (by decide) (by decide) ?_
      refine lv_aload_n hx hb dX9_count_52 rfl (lv_at hl 0 rfl) ?_
      refine mg_23 (x := nI (c 23)) hx hb hts hown hK hP rfl dX9_count_53 ?_
      exact fs_i hx hb hr hlocks hq (nI (c 23), (c, up v 0 0, nm, a)) (by simp only [mCount, swN_in (show 0 ≤ 7 by decide) (by decide)]; rfl) hP hD hS dX9_count_56 rfl
    · refine lv_tableIn (off := 51) (tgt := 57) hx hb dX9_count_6 (by decide) (by decide) (by decide) (by decide) ?_
      refine lv_aload_n hx hb dX9_count_57 rfl (lv_at hl 0 rfl) ?_
      refine mg_21 (x := nI (c 21)) hx hb hts hown hK hP rfl dX9_count_58 ?_
      exact fs_i hx hb hr hlocks hq (nI (c 21), (c, up v 0 0, nm, a)) (by simp only [mCount, swN_in (show 1 ≤ 7 by decide) (by decide)]; rfl) hP hD hS dX9_count_61 rfl
    · refine lv_tableIn (off := 56) (tgt := 62) hx hb dX9_count_6 (by decide) (by decide) (by decide) (by decide) ?_
      refine lv_aload_n hx hb dX9_count_62 rfl (lv_at hl 0 rfl) ?_
      refine mg_22 (x := nI (c 22)) hx hb hts hown hK hP rfl dX9_count_63 ?_
      exact fs_i hx hb hr hlocks hq (nI (c 22), (c, up v 0 0, nm, a)) (by simp only [mCount, swN_in (show 2 ≤ 7 by decide) (by decide)]; rfl) hP hD hS dX9_count_66 rfl
    · refine lv_tableIn (off := 61) (tgt := 67) hx hb dX9_count_6 (by decide) (by decide) (by decide) (by decide) ?_
      refine lv_aload_n hx hb dX9_count_67 rfl (lv_at hl 0 rfl) ?_
      refine mg_42 (x := nI (c 42)) hx hb hts hown hK hP rfl dX9_count_68 ?_
      exact fs_i hx hb hr hlocks hq (nI (c 42), (c, up v 0 0, nm, a)) (by simp only [mCount, swN_in (show 3 ≤ 7 by decide) (by decide)]; rfl) hP hD hS dX9_count_71 rfl
    · refine lv_tableIn (off := 81) (tgt := 87) hx hb dX9_count_6 (by decide) (by decide) (by decide) (by decide) ?_
      refine lv_iload_n hx hb dX9_count_87 rfl (lv_at hl 1 rfl) ?_
      refine lv_iconst (v := 4) hx hb dX9_count_88 (by decide) ?_
      refine lv_icmp_eq (tgt := 94) hx hb dX9_count_89 (by decide) (fun c89 => ?_) (fun c89 => absurd (rfl) c89)
      have L : ∀ (r i : Nat) (y : Int32), i + r = c 42 → lp (fun i s => if a 37 i = 0 then s + 1 else s) r i y = fOpens (a 37) (c 42) → ∀ (ls : Array Slot), lv_has ls 4 [(0, .ref h), (1, .int (nI 4)), (2, .int y), (3, .int (nI i))] → W p l e (rmd 0 0 0) s m args below meth c_ H locs 0 0 Q (F0 m 98 ls []) := by
        intro r
        induction r with
        | zero =>
          intro i y hi he ls hl
          refine lv_iload_n hx hb dX9_count_98 rfl (lv_at hl 3 rfl) ?_
          refine lv_aload_n hx hb dX9_count_99 rfl (lv_at hl 0 rfl) ?_
          refine mg_42 (x := nI (c 42)) hx hb hts hown hK hP rfl dX9_count_100 ?_
          refine lv_icmp_ge (tgt := 124) hx hb dX9_count_103 (by decide) (fun c103 => ?_) (fun c103 => absurd (nI_le (by omega) (by omega)) c103)
          refine lv_iload_n hx hb dX9_count_124 rfl (lv_at hl 2 rfl) ?_
          exact fs_i hx hb hr hlocks hq (y, (c, up v 0 0, nm, a)) (by simp only [mCount, swN_in (show 4 ≤ 7 by decide) (show 7 < 2 ^ 31 by decide)]; rw [← he]; rfl) hP hD hS dX9_count_125 rfl
        | succ r ih =>
          intro i y hi he ls hl
          refine lv_iload_n hx hb dX9_count_98 rfl (lv_at hl 3 rfl) ?_
          refine lv_aload_n hx hb dX9_count_99 rfl (lv_at hl 0 rfl) ?_
          refine mg_42 (x := nI (c 42)) hx hb hts hown hK hP rfl dX9_count_100 ?_
          refine lv_icmp_ge (tgt := 124) hx hb dX9_count_103 (by decide) (fun c103 => absurd c103 (nI_ge (by omega) (by omega))) (fun c103 => ?_)
          refine lv_aload_n hx hb dX9_count_106 rfl (lv_at hl 0 rfl) ?_
          refine mg_37 hx hb hts hown hK hP dX9_count_107 ?_
          refine lv_iload_n hx hb dX9_count_110 rfl (lv_at hl 3 rfl) ?_
          refine ml_37 (x := (a 37) i) hx hb hK hP i rfl (by omega) rfl dX9_count_111 ?_
          refine lv_if_ne (tgt := 118) hx hb dX9_count_112 (by decide) (fun c112 => ?_) (fun c112 => ?_)
          · refine lv_iinc (v := nI (i + 1)) (lv' := [(3, .int (nI (i + 1))), (0, .ref h), (1, .int (nI 4)), (2, .int y)]) hx hb dX9_count_118 hl (k := 3) rfl (nI_1 _) (by decide) rfl (fun ls hl => ?_)
            refine lv_goto (tgt := 98) hx hb dX9_count_121 (by decide) ?_
            exact ih (i + 1) y (by omega) (by rw [← he]; simp [lp, fnd, c112]) ls (lv_sub hl [1, 2, 3, 0] rfl)
          · refine lv_iinc (v := y + 1) (lv' := [(2, .int (y + 1)), (0, .ref h), (1, .int (nI 4)), (3, .int (nI i))]) hx hb dX9_count_115 hl (k := 2) rfl (rfl) (by decide) rfl (fun ls hl => ?_)
            refine lv_iinc (v := nI (i + 1)) (lv' := [(3, .int (nI (i + 1))), (2, .int (y + 1)), (0, .ref h), (1, .int (nI 4))]) hx hb dX9_count_118 hl (k := 3) rfl (nI_1 _) (by decide) rfl (fun ls hl => ?_)
            refine lv_goto (tgt := 98) hx hb dX9_count_121 (by decide) ?_
            exact ih (i + 1) (y + 1) (by omega) (by rw [← he]; simp [lp, fnd, c112]) ls (lv_sub hl [2, 3, 1, 0] rfl)
      refine lv_iconst (v := 0) hx hb dX9_count_94 (by decide) ?_
      refine lv_istore_n (lv' := [(2, .int 0), (0, .ref h), (1, .int (nI 4))]) hx hb dX9_count_95 rfl hl (by decide) rfl (fun ls hl => ?_)
      refine lv_iconst (v := 0) hx hb dX9_count_96 (by decide) ?_
      refine lv_istore_n (lv' := [(3, .int 0), (2, .int 0), (0, .ref h), (1, .int (nI 4))]) hx hb dX9_count_97 rfl hl (by decide) rfl (fun ls hl => ?_)
      exact L (c 42) 0 0 (by omega) (rfl) ls (lv_sub hl [2, 3, 1, 0] rfl)
    · refine lv_tableIn (off := 66) (tgt := 72) hx hb dX9_count_6 (by decide) (by decide) (by decide) (by decide) ?_
      refine lv_aload_n hx hb dX9_count_72 rfl (lv_at hl 0 rfl) ?_
      refine mg_25 (x := v 25) hx hb hts hown hK hP rfl dX9_count_73 ?_
      exact fs_i hx hb hr hlocks hq (v 25, (c, up v 0 0, nm, a)) (by simp only [mCount, swN_in (show 5 ≤ 7 by decide) (by decide)]; rfl) hP hD hS dX9_count_76 rfl
    · refine lv_tableIn (off := 71) (tgt := 77) hx hb dX9_count_6 (by decide) (by decide) (by decide) (by decide) ?_
      refine lv_aload_n hx hb dX9_count_77 rfl (lv_at hl 0 rfl) ?_
      refine mg_24 (x := v 24) hx hb hts hown hK hP rfl dX9_count_78 ?_
      exact fs_i hx hb hr hlocks hq (v 24, (c, up v 0 0, nm, a)) (by simp only [mCount, swN_in (show 6 ≤ 7 by decide) (by decide)]; rfl) hP hD hS dX9_count_81 rfl
    · refine lv_tableIn (off := 76) (tgt := 82) hx hb dX9_count_6 (by decide) (by decide) (by decide) (by decide) ?_
      refine lv_aload_n hx hb dX9_count_82 rfl (lv_at hl 0 rfl) ?_
      refine mg_2 (x := nI (c 2)) hx hb hts hown hK hP rfl dX9_count_83 ?_
      exact fs_i hx hb hr hlocks hq (nI (c 2), (c, up v 0 0, nm, a)) (by simp only [mCount, swN_in (show 7 ≤ 7 by decide) (by decide)]; rfl) hP hD hS dX9_count_86 rfl
set_option maxHeartbeats 4000000 in
set_option maxRecDepth 100000 in
theorem c_X9_loan (l : Launch) (D : va_G) (h : Nat) (q : Nat → Nat) (k : Nat → ClassId) (c : Nat → Nat) (v : Nat → Int32) (nm : Int64) (a : Nat → Nat → Int32) (x : Int32) (y : Int32) (hn : c 42 ≤ 100) : Fs (S := Int32 × MSt) l yX9_loan cX9_loan 3 (some .int) 1 0 0 D (TY k) G0 [.ref h, .int x, .int y] (Mw h q k c v nm a) (fun u => some (.int u.1)) (fun u => u = mLoan x y (c, v, nm, a)) (fun u => MwU h q k u.2) := by
  refine fs_body (by decide +kernel) (Nat.le_of_ble_eq_true rfl) ?_
  intro p e s m args below meth c_ Q A hx hb hml hown hts hK hP hD hS hA hG hin hr hq hlocks ls hl
  replace hl : lv_has ls 3 [(0, .ref h), (1, .int x), (2, .int y)] := hl
  change s.vm.findClass RX9 = some m.cls at hown
  refine lv_aload_n hx hb dX9_loan_0 rfl (lv_at hl 0 rfl) ?_
  refine lv_iload_n hx hb dX9_loan_1 rfl (lv_at hl 1 rfl) ?_
  refine ro_V (rest := []) (st1 := [.int (bI (isIn x (c 42)))]) (As := [.int x]) ⟨hx, hb, hml, hown, hts⟩ Gd0 trivial hS hK (c_X9_isLoan l D h q k c v nm a x ) mi_X9_isLoan wd_6_21 wp_3_14 wd_6_19 ⟨Nat.le_of_ble_eq_true rfl, Nat.le_of_ble_eq_true rfl⟩ (hP) 0 rfl rfl rfl hl.1 rfl (Nat.le_of_ble_eq_true rfl) rfl ⟨Nat.le_of_ble_eq_true rfl, Nat.le_of_ble_eq_true rfl⟩ dX9_loan_2 ?_
  refine lv_if_eq (tgt := 18) hx hb dX9_loan_5 (by decide) (fun c5 => ?_) (fun c5 => ?_)
  · replace c5 : (isIn x (c 42)) = false := bI_0.mp c5
    refine lv_aload_n hx hb dX9_loan_18 rfl (lv_at hl 0 rfl) ?_
    refine fs_Vw (rest := []) (As := []) ⟨hx, hb, hml, hown, hts⟩ Gd0 trivial hS hA hK (hP) (hD) (c_X9_refuse l D h q k c v nm a  ) mi_X9_refuse wd_6_25 wp_3_15 wd_6_23 ⟨Nat.le_of_ble_eq_true rfl, Nat.le_of_ble_eq_true rfl⟩ 0 rfl rfl rfl hl.1 rfl (Nat.le_of_ble_eq_true rfl) ⟨Nat.le_of_ble_eq_true rfl, Nat.le_of_ble_eq_true rfl⟩ dX9_loan_19 (fun u_1 H locs hu_2 hP hD hS => ?_)
    subst hu_2
    replace hP : va_P D vwCl (Mw h q k c (up v 0 1) nm a) H := hP
    replace hD : va_D A (Mw h q k c (up v 0 1) nm a) := hD
    refine W.eq (g2 := F0 m 22 ls [.int 0]) rfl ?_
    exact fs_i hx hb hr hlocks hq (0, (c, up v 0 1, nm, a)) (by simp only [mLoan, if_pos c5]; rfl) hP hD hS dX9_loan_22 rfl
  · replace c5 : (isIn x (c 42)) = true := bI_n.mp c5
    obtain ⟨ex, hjx⟩ := isIn_spec c5 (by omega)
    refine lv_iload_n hx hb dX9_loan_8 rfl (lv_at hl 2 rfl) ?_
    refine lv_if_lt (tgt := 18) hx hb dX9_loan_9 (by decide) (fun c9 => ?_) (fun c9 => ?_)
    · refine lv_aload_n hx hb dX9_loan_18 rfl (lv_at hl 0 rfl) ?_
      refine fs_Vw (rest := []) (As := []) ⟨hx, hb, hml, hown, hts⟩ Gd0 trivial hS hA hK (hP) (hD) (c_X9_refuse l D h q k c v nm a  ) mi_X9_refuse wd_6_25 wp_3_15 wd_6_23 ⟨Nat.le_of_ble_eq_true rfl, Nat.le_of_ble_eq_true rfl⟩ 0 rfl rfl rfl hl.1 rfl (Nat.le_of_ble_eq_true rfl) ⟨Nat.le_of_ble_eq_true rfl, Nat.le_of_ble_eq_true rfl⟩ dX9_loan_19 (fun u_3 H locs hu_4 hP hD hS => ?_)
      subst hu_4
      replace hP : va_P D vwCl (Mw h q k c (up v 0 1) nm a) H := hP
      replace hD : va_D A (Mw h q k c (up v 0 1) nm a) := hD
      refine W.eq (g2 := F0 m 22 ls [.int 0]) rfl ?_
      exact fs_i hx hb hr hlocks hq (0, (c, up v 0 1, nm, a)) (by simp only [mLoan, if_neg (show ¬ (isIn x (c 42) = false) by rw [c5]; decide), if_pos c9]; rfl) hP hD hS dX9_loan_22 rfl
    · refine lv_iload_n hx hb dX9_loan_12 rfl (lv_at hl 2 rfl) ?_
      refine lv_bipush (v := 9) hx hb dX9_loan_13 (by decide) ?_
      refine lv_icmp_le (tgt := 23) hx hb dX9_loan_15 (by decide) (fun c15 => ?_) (fun c15 => ?_)
      · refine lv_aload_n hx hb dX9_loan_23 rfl (lv_at hl 0 rfl) ?_
        refine lv_iconst (v := 0) hx hb dX9_loan_24 (by decide) ?_
        refine mp_0 hx hb hts hown hK hP hD hS 0 dX9_loan_25 (fun H locs hP hD hS => ?_)
        refine lv_iload_n hx hb dX9_loan_28 rfl (lv_at hl 2 rfl) ?_
        rcases sw_cases y 8 with sw_6 | ⟨j_5, hj_5, ej_5⟩
        · refine lv_tableOut (tgt := 143) hx hb dX9_loan_29 sw_6 (by decide) ?_
          refine lv_aload_n hx hb dX9_loan_143 rfl (lv_at hl 0 rfl) ?_
          refine mg_38 hx hb hts hown hK hP dX9_loan_144 ?_
          refine lv_iload_n hx hb dX9_loan_147 rfl (lv_at hl 1 rfl) ?_
          refine ml_38 (x := (a 38) x.toNatClampNeg) hx hb hK hP x.toNatClampNeg ex (by omega) rfl dX9_loan_148 ?_
          exact fs_i hx hb hr hlocks hq ((a 38) x.toNatClampNeg, (c, up v 0 0, nm, a)) (by simp only [mLoan, mLoanV, if_neg (show ¬ (isIn x (c 42) = false) by rw [c5]; decide), if_neg c9, if_pos c15, swN_out sw_6]; rfl) hP hD hS dX9_loan_149 rfl
        · subst ej_5
          rcases (show j_5 = 0 ∨ j_5 = 1 ∨ j_5 = 2 ∨ j_5 = 3 ∨ j_5 = 4 ∨ j_5 = 5 ∨ j_5 = 6 ∨ j_5 = 7 ∨ j_5 = 8 by omega) with rfl | rfl | rfl | rfl | rfl | rfl | rfl | rfl | rfl
          · refine lv_tableIn (off := 51) (tgt := 80) hx hb dX9_loan_29 (by decide) (by decide) (by decide) (by decide) ?_
            refine lv_aload_n hx hb dX9_loan_80 rfl (lv_at hl 0 rfl) ?_
            refine mg_26 hx hb hts hown hK hP dX9_loan_81 ?_
            refine lv_iload_n hx hb dX9_loan_84 rfl (lv_at hl 1 rfl) ?_
            refine ml_26 (x := (a 26) x.toNatClampNeg) hx hb hK hP x.toNatClampNeg ex (by omega) rfl dX9_loan_85 ?_
            exact fs_i hx hb hr hlocks hq ((a 26) x.toNatClampNeg, (c, up v 0 0, nm, a)) (by simp only [mLoan, mLoanV, if_neg (show ¬ (isIn x (c 42) = false) by rw [c5]; decide), if_neg c9, if_pos c15, swN_in (show 0 ≤ 8 by decide) (by decide)]; rfl) hP hD hS dX9_loan_86 rfl
          · refine lv_tableIn (off := 58) (tgt := 87) hx hb dX9_loan_29 (by decide) (by decide) (by decide) (by decide) ?_
            refine lv_aload_n hx hb dX9_loan_87 rfl (lv_at hl 0 rfl) ?_
            refine mg_27 hx hb hts hown hK hP dX9_loan_88 ?_
            refine lv_iload_n hx hb dX9_loan_91 rfl (lv_at hl 1 rfl) ?_
            refine ml_27 (x := (a 27) x.toNatClampNeg) hx hb hK hP x.toNatClampNeg ex (by omega) rfl dX9_loan_92 ?_
            exact fs_i hx hb hr hlocks hq ((a 27) x.toNatClampNeg, (c, up v 0 0, nm, a)) (by simp only [mLoan, mLoanV, if_neg (show ¬ (isIn x (c 42) = false) by rw [c5]; decide), if_neg c9, if_pos c15, swN_in (show 1 ≤ 8 by decide) (by decide)]; rfl) hP hD hS dX9_loan_93 rfl
          · refine lv_tableIn (off := 65) (tgt := 94) hx hb dX9_loan_29 (by decide) (by decide) (by decide) (by decide) ?_
            refine lv_aload_n hx hb dX9_loan_94 rfl (lv_at hl 0 rfl) ?_
            refine mg_28 hx hb hts hown hK hP dX9_loan_95 ?_
            refine lv_iload_n hx hb dX9_loan_98 rfl (lv_at hl 1 rfl) ?_
            refine ml_28 (x := (a 28) x.toNatClampNeg) hx hb hK hP x.toNatClampNeg ex (by omega) rfl dX9_loan_99 ?_
            exact fs_i hx hb hr hlocks hq ((a 28) x.toNatClampNeg, (c, up v 0 0, nm, a)) (by simp only [mLoan, mLoanV, if_neg (show ¬ (isIn x (c 42) = false) by rw [c5]; decide), if_neg c9, if_pos c15, swN_in (show 2 ≤ 8 by decide) (by decide)]; rfl) hP hD hS dX9_loan_100 rfl
          · refine lv_tableIn (off := 72) (tgt := 101) hx hb dX9_loan_29 (by decide) (by decide) (by decide) (by decide) ?_
            refine lv_aload_n hx hb dX9_loan_101 rfl (lv_at hl 0 rfl) ?_
            refine mg_32 hx hb hts hown hK hP dX9_loan_102 ?_
            refine lv_iload_n hx hb dX9_loan_105 rfl (lv_at hl 1 rfl) ?_
            refine ml_32 (x := (a 32) x.toNatClampNeg) hx hb hK hP x.toNatClampNeg ex (by omega) rfl dX9_loan_106 ?_
            exact fs_i hx hb hr hlocks hq ((a 32) x.toNatClampNeg, (c, up v 0 0, nm, a)) (by simp only [mLoan, mLoanV, if_neg (show ¬ (isIn x (c 42) = false) by rw [c5]; decide), if_neg c9, if_pos c15, swN_in (show 3 ≤ 8 by decide) (by decide)]; rfl) hP hD hS dX9_loan_107 rfl
          · refine lv_tableIn (off := 79) (tgt := 108) hx hb dX9_loan_29 (by decide) (by decide) (by decide) (by decide) ?_
            refine lv_aload_n hx hb dX9_loan_108 rfl (lv_at hl 0 rfl) ?_
            refine mg_33 hx hb hts hown hK hP dX9_loan_109 ?_
            refine lv_iload_n hx hb dX9_loan_112 rfl (lv_at hl 1 rfl) ?_
            refine ml_33 (x := (a 33) x.toNatClampNeg) hx hb hK hP x.toNatClampNeg ex (by omega) rfl dX9_loan_113 ?_
            exact fs_i hx hb hr hlocks hq ((a 33) x.toNatClampNeg, (c, up v 0 0, nm, a)) (by simp only [mLoan, mLoanV, if_neg (show ¬ (isIn x (c 42) = false) by rw [c5]; decide), if_neg c9, if_pos c15, swN_in (show 4 ≤ 8 by decide) (by decide)]; rfl) hP hD hS dX9_loan_114 rfl
          · refine lv_tableIn (off := 86) (tgt := 115) hx hb dX9_loan_29 (by decide) (by decide) (by decide) (by decide) ?_
            refine lv_aload_n hx hb dX9_loan_115 rfl (lv_at hl 0 rfl) ?_
            refine mg_34 hx hb hts hown hK hP dX9_loan_116 ?_
            refine lv_iload_n hx hb dX9_loan_119 rfl (lv_at hl 1 rfl) ?_
            refine ml_34 (x := (a 34) x.toNatClampNeg) hx hb hK hP x.toNatClampNeg ex (by omega) rfl dX9_loan_120 ?_
            exact fs_i hx hb hr hlocks hq ((a 34) x.toNatClampNeg, (c, up v 0 0, nm, a)) (by simp only [mLoan, mLoanV, if_neg (show ¬ (isIn x (c 42) = false) by rw [c5]; decide), if_neg c9, if_pos c15, swN_in (show 5 ≤ 8 by decide) (by decide)]; rfl) hP hD hS dX9_loan_121 rfl
          · refine lv_tableIn (off := 93) (tgt := 122) hx hb dX9_loan_29 (by decide) (by decide) (by decide) (by decide) ?_
            refine lv_aload_n hx hb dX9_loan_122 rfl (lv_at hl 0 rfl) ?_
            refine mg_35 hx hb hts hown hK hP dX9_loan_123 ?_
            refine lv_iload_n hx hb dX9_loan_126 rfl (lv_at hl 1 rfl) ?_
            refine ml_35 (x := (a 35) x.toNatClampNeg) hx hb hK hP x.toNatClampNeg ex (by omega) rfl dX9_loan_127 ?_
            exact fs_i hx hb hr hlocks hq ((a 35) x.toNatClampNeg, (c, up v 0 0, nm, a)) (by simp only [mLoan, mLoanV, if_neg (show ¬ (isIn x (c 42) = false) by rw [c5]; decide), if_neg c9, if_pos c15, swN_in (show 6 ≤ 8 by decide) (by decide)]; rfl) hP hD hS dX9_loan_128 rfl
          · refine lv_tableIn (off := 100) (tgt := 129) hx hb dX9_loan_29 (by decide) (by decide) (by decide) (by decide) ?_
            refine lv_aload_n hx hb dX9_loan_129 rfl (lv_at hl 0 rfl) ?_
            refine mg_37 hx hb hts hown hK hP dX9_loan_130 ?_
            refine lv_iload_n hx hb dX9_loan_133 rfl (lv_at hl 1 rfl) ?_
            refine ml_37 (x := (a 37) x.toNatClampNeg) hx hb hK hP x.toNatClampNeg ex (by omega) rfl dX9_loan_134 ?_
            exact fs_i hx hb hr hlocks hq ((a 37) x.toNatClampNeg, (c, up v 0 0, nm, a)) (by simp only [mLoan, mLoanV, if_neg (show ¬ (isIn x (c 42) = false) by rw [c5]; decide), if_neg c9, if_pos c15, swN_in (show 7 ≤ 8 by decide) (by decide)]; rfl) hP hD hS dX9_loan_135 rfl
          · refine lv_tableIn (off := 107) (tgt := 136) hx hb dX9_loan_29 (by decide) (by decide) (by decide) (by decide) ?_
            refine lv_aload_n hx hb dX9_loan_136 rfl (lv_at hl 0 rfl) ?_
            refine mg_39 hx hb hts hown hK hP dX9_loan_137 ?_
            refine lv_iload_n hx hb dX9_loan_140 rfl (lv_at hl 1 rfl) ?_
            refine ml_39 (x := (a 39) x.toNatClampNeg) hx hb hK hP x.toNatClampNeg ex (by omega) rfl dX9_loan_141 ?_
            exact fs_i hx hb hr hlocks hq ((a 39) x.toNatClampNeg, (c, up v 0 0, nm, a)) (by simp only [mLoan, mLoanV, if_neg (show ¬ (isIn x (c 42) = false) by rw [c5]; decide), if_neg c9, if_pos c15, swN_in (show 8 ≤ 8 by decide) (by decide)]; rfl) hP hD hS dX9_loan_142 rfl
      · refine lv_aload_n hx hb dX9_loan_18 rfl (lv_at hl 0 rfl) ?_
        refine fs_Vw (rest := []) (As := []) ⟨hx, hb, hml, hown, hts⟩ Gd0 trivial hS hA hK (hP) (hD) (c_X9_refuse l D h q k c v nm a  ) mi_X9_refuse wd_6_25 wp_3_15 wd_6_23 ⟨Nat.le_of_ble_eq_true rfl, Nat.le_of_ble_eq_true rfl⟩ 0 rfl rfl rfl hl.1 rfl (Nat.le_of_ble_eq_true rfl) ⟨Nat.le_of_ble_eq_true rfl, Nat.le_of_ble_eq_true rfl⟩ dX9_loan_19 (fun u_7 H locs hu_8 hP hD hS => ?_)
        subst hu_8
        replace hP : va_P D vwCl (Mw h q k c (up v 0 1) nm a) H := hP
        replace hD : va_D A (Mw h q k c (up v 0 1) nm a) := hD
        refine W.eq (g2 := F0 m 22 ls [.int 0]) rfl ?_
        exact fs_i hx hb hr hlocks hq (0, (c, up v 0 1, nm, a)) (by simp only [mLoan, if_neg (show ¬ (isIn x (c 42) = false) by rw [c5]; decide), if_neg c9, if_neg c15]; rfl) hP hD hS dX9_loan_22 rfl
set_option maxHeartbeats 4000000 in
set_option maxRecDepth 100000 in
theorem c_X9_about (l : Launch) (D : va_G) (h : Nat) (q : Nat → Nat) (k : Nat → ClassId) (c : Nat → Nat) (v : Nat → Int32) (nm : Int64) (a : Nat → Nat → Int32) (x : Int32) (y : Int32) (hp : c 21 ≤ 40) (hn : c 42 ≤ 100) (hc : c 46 ≤ 300) (sn : Nat → Nat) (hs : ∀ k, k < c 42 → a 39 k = nI (sn k) ∧ sn k ≤ 3) : Fs (S := Int32 × MSt) l yX9_about cX9_about 5 (some .int) 1 0 0 D (TY k) G0 [.ref h, .int x, .int y] (Mw h q k c v nm a) (fun u => some (.int u.1)) (fun u => u = mAbout x y sn (c, v, nm, a)) (fun u => MwU h q k u.2) := by
  refine fs_body (by decide +kernel) (Nat.le_of_ble_eq_true rfl) ?_
  intro p e s m args below meth c_ Q A hx hb hml hown hts hK hP hD hS hA hG hin hr hq hlocks ls hl
  replace hl : lv_has ls 5 [(0, .ref h), (1, .int x), (2, .int y)] := hl
  change s.vm.findClass RX9 = some m.cls at hown
  refine lv_aload_n hx hb dX9_about_0 rfl (lv_at hl 0 rfl) ?_
  refine lv_iload_n hx hb dX9_about_1 rfl (lv_at hl 1 rfl) ?_
  refine ro_V (rest := []) (st1 := [.int (bI (isIn x (c 21)))]) (As := [.int x]) ⟨hx, hb, hml, hown, hts⟩ Gd0 trivial hS hK (c_X9_isPerson l D h q k c v nm a x ) mi_X9_isPerson wd_5_171 wp_3_0 wd_5_169 ⟨Nat.le_of_ble_eq_true rfl, Nat.le_of_ble_eq_true rfl⟩ (hP) 0 rfl rfl rfl hl.1 rfl (Nat.le_of_ble_eq_true rfl) rfl ⟨Nat.le_of_ble_eq_true rfl, Nat.le_of_ble_eq_true rfl⟩ dX9_about_2 ?_
  refine lv_if_eq (tgt := 18) hx hb dX9_about_5 (by decide) (fun c5 => ?_) (fun c5 => ?_)
  · replace c5 : (isIn x (c 21)) = false := bI_0.mp c5
    refine lv_aload_n hx hb dX9_about_18 rfl (lv_at hl 0 rfl) ?_
    refine fs_Vw (rest := []) (As := []) ⟨hx, hb, hml, hown, hts⟩ Gd0 trivial hS hA hK (hP) (hD) (c_X9_refuse l D h q k c v nm a  ) mi_X9_refuse wd_6_25 wp_3_15 wd_6_23 ⟨Nat.le_of_ble_eq_true rfl, Nat.le_of_ble_eq_true rfl⟩ 0 rfl rfl rfl hl.1 rfl (Nat.le_of_ble_eq_true rfl) ⟨Nat.le_of_ble_eq_true rfl, Nat.le_of_ble_eq_true rfl⟩ dX9_about_19 (fun u_1 H locs hu_2 hP hD hS => ?_)
    subst hu_2
    replace hP : va_P D vwCl (Mw h q k c (up v 0 1) nm a) H := hP
    replace hD : va_D A (Mw h q k c (up v 0 1) nm a) := hD
    refine W.eq (g2 := F0 m 22 ls [.int 0]) rfl ?_
    exact fs_i hx hb hr hlocks hq (0, (c, up v 0 1, nm, a)) (by simp only [mAbout, if_pos c5]; rfl) hP hD hS dX9_about_22 rfl
  · replace c5 : (isIn x (c 21)) = true := bI_n.mp c5
    obtain ⟨ex, hjx⟩ := isIn_spec c5 (by omega)
    refine lv_iload_n hx hb dX9_about_8 rfl (lv_at hl 2 rfl) ?_
    refine lv_if_lt (tgt := 18) hx hb dX9_about_9 (by decide) (fun c9 => ?_) (fun c9 => ?_)
    · refine lv_aload_n hx hb dX9_about_18 rfl (lv_at hl 0 rfl) ?_
      refine fs_Vw (rest := []) (As := []) ⟨hx, hb, hml, hown, hts⟩ Gd0 trivial hS hA hK (hP) (hD) (c_X9_refuse l D h q k c v nm a  ) mi_X9_refuse wd_6_25 wp_3_15 wd_6_23 ⟨Nat.le_of_ble_eq_true rfl, Nat.le_of_ble_eq_true rfl⟩ 0 rfl rfl rfl hl.1 rfl (Nat.le_of_ble_eq_true rfl) ⟨Nat.le_of_ble_eq_true rfl, Nat.le_of_ble_eq_true rfl⟩ dX9_about_19 (fun u_3 H locs hu_4 hP hD hS => ?_)
      subst hu_4
      replace hP : va_P D vwCl (Mw h q k c (up v 0 1) nm a) H := hP
      replace hD : va_D A (Mw h q k c (up v 0 1) nm a) := hD
      refine W.eq (g2 := F0 m 22 ls [.int 0]) rfl ?_
      exact fs_i hx hb hr hlocks hq (0, (c, up v 0 1, nm, a)) (by simp only [mAbout, if_neg (show ¬ (isIn x (c 21) = false) by rw [c5]; decide), if_pos c9]; rfl) hP hD hS dX9_about_22 rfl
    · refine lv_iload_n hx hb dX9_about_12 rfl (lv_at hl 2 rfl) ?_
      refine lv_bipush (v := 6) hx hb dX9_about_13 (by decide) ?_
      refine lv_icmp_le (tgt := 23) hx hb dX9_about_15 (by decide) (fun c15 => ?_) (fun c15 => ?_)
      · refine lv_aload_n hx hb dX9_about_23 rfl (lv_at hl 0 rfl) ?_
        refine lv_iconst (v := 0) hx hb dX9_about_24 (by decide) ?_
        refine mp_0 hx hb hts hown hK hP hD hS 0 dX9_about_25 (fun H locs hP hD hS => ?_)
        refine lv_iload_n hx hb dX9_about_28 rfl (lv_at hl 2 rfl) ?_
        rcases sw_cases y 6 with sw_6 | ⟨j_5, hj_5, ej_5⟩
        · exact absurd sw_6 (by have h1 := toInt_lt0 c9; have h2 := toInt_le_nI (n := 6) c15 (by decide); omega)
        · subst ej_5
          rcases (show j_5 = 0 ∨ j_5 = 1 ∨ j_5 = 2 ∨ j_5 = 3 ∨ j_5 = 4 ∨ j_5 = 5 ∨ j_5 = 6 by omega) with rfl | rfl | rfl | rfl | rfl | rfl | rfl
          · refine lv_tableIn (off := 43) (tgt := 72) hx hb dX9_about_29 (by decide) (by decide) (by decide) (by decide) ?_
            refine lv_aload_n hx hb dX9_about_72 rfl (lv_at hl 0 rfl) ?_
            refine mg_17 hx hb hts hown hK hP dX9_about_73 ?_
            refine lv_iload_n hx hb dX9_about_76 rfl (lv_at hl 1 rfl) ?_
            refine ml_17 (x := (a 17) x.toNatClampNeg) hx hb hK hP x.toNatClampNeg ex (by omega) rfl dX9_about_77 ?_
            exact fs_i hx hb hr hlocks hq ((a 17) x.toNatClampNeg, (c, up v 0 0, nm, a)) (by simp only [mAbout, mAboutV, if_neg (show ¬ (isIn x (c 21) = false) by rw [c5]; decide), if_neg c9, if_pos c15, swN_in (show 0 ≤ 6 by decide) (by decide)]; rfl) hP hD hS dX9_about_78 rfl
          · refine lv_tableIn (off := 50) (tgt := 79) hx hb dX9_about_29 (by decide) (by decide) (by decide) (by decide) ?_
            refine lv_aload_n hx hb dX9_about_79 rfl (lv_at hl 0 rfl) ?_
            refine lv_iload_n hx hb dX9_about_80 rfl (lv_at hl 1 rfl) ?_
            refine ro_V (rest := []) (st1 := [.int (fClamp (fChar (a 26) (a 37) (a 35) x (c 42)))]) (As := [.int x]) ⟨hx, hb, hml, hown, hts⟩ Gd0 trivial hS hK (c_X9_character l D h q k c (up v 0 0) nm a x hn) mi_X9_character wd_6_41 wp_4_0 wd_6_39 ⟨Nat.le_of_ble_eq_true rfl, Nat.le_of_ble_eq_true rfl⟩ (hP) 0 rfl rfl rfl hl.1 rfl (Nat.le_of_ble_eq_true rfl) rfl ⟨Nat.le_of_ble_eq_true rfl, Nat.le_of_ble_eq_true rfl⟩ dX9_about_81 ?_
            exact fs_i hx hb hr hlocks hq (fClamp (fChar (a 26) (a 37) (a 35) x (c 42)), (c, up v 0 0, nm, a)) (by simp only [mAbout, mAboutV, if_neg (show ¬ (isIn x (c 21) = false) by rw [c5]; decide), if_neg c9, if_pos c15, swN_in (show 1 ≤ 6 by decide) (by decide)]; rfl) hP hD hS dX9_about_84 rfl
          · refine lv_tableIn (off := 56) (tgt := 85) hx hb dX9_about_29 (by decide) (by decide) (by decide) (by decide) ?_
            refine lv_aload_n hx hb dX9_about_85 rfl (lv_at hl 0 rfl) ?_
            refine lv_iload_n hx hb dX9_about_86 rfl (lv_at hl 1 rfl) ?_
            refine ro_V (rest := []) (st1 := [.int (bI (fBarred (a 43) (a 45) (a 26) (a 37) ((a 3) 8) x (c 46) (c 42)))]) (As := [.int x]) ⟨hx, hb, hml, hown, hts⟩ Gd0 trivial hS hK (c_X9_isBarred l D h q k c (up v 0 0) nm a x hc hn) mi_X9_isBarred wd_5_201 wp_3_4 wd_5_199 ⟨Nat.le_of_ble_eq_true rfl, Nat.le_of_ble_eq_true rfl⟩ (hP) 0 rfl rfl rfl hl.1 rfl (Nat.le_of_ble_eq_true rfl) rfl ⟨Nat.le_of_ble_eq_true rfl, Nat.le_of_ble_eq_true rfl⟩ dX9_about_87 ?_
            refine lv_if_eq (tgt := 97) hx hb dX9_about_90 (by decide) (fun c90 => ?_) (fun c90 => ?_)
            · replace c90 : (fBarred (a 43) (a 45) (a 26) (a 37) ((a 3) 8) x (c 46) (c 42)) = false := bI_0.mp c90
              refine lv_iconst (v := 0) hx hb dX9_about_97 (by decide) ?_
              exact fs_i hx hb hr hlocks hq (0, (c, up v 0 0, nm, a)) (by simp only [mAbout, mAboutV, if_neg (show ¬ (isIn x (c 21) = false) by rw [c5]; decide), if_neg c9, if_pos c15, swN_in (show 2 ≤ 6 by decide) (by decide), c90]; rfl) hP hD hS dX9_about_98 rfl
            · replace c90 : (fBarred (a 43) (a 45) (a 26) (a 37) ((a 3) 8) x (c 46) (c 42)) = true := bI_n.mp c90
              refine lv_iconst (v := 1) hx hb dX9_about_93 (by decide) ?_
              refine lv_goto (tgt := 98) hx hb dX9_about_94 (by decide) ?_
              exact fs_i hx hb hr hlocks hq (1, (c, up v 0 0, nm, a)) (by simp only [mAbout, mAboutV, if_neg (show ¬ (isIn x (c 21) = false) by rw [c5]; decide), if_neg c9, if_pos c15, swN_in (show 2 ≤ 6 by decide) (by decide), c90]; rfl) hP hD hS dX9_about_98 rfl
          · refine lv_tableIn (off := 70) (tgt := 99) hx hb dX9_about_29 (by decide) (by decide) (by decide) (by decide) ?_
            refine lv_aload_n hx hb dX9_about_99 rfl (lv_at hl 0 rfl) ?_
            refine lv_iload_n hx hb dX9_about_100 rfl (lv_at hl 1 rfl) ?_
            refine ro_V (rest := []) (st1 := [.int (oI (fOpen (a 26) (a 37) x (c 42)))]) (As := [.int x]) ⟨hx, hb, hml, hown, hts⟩ Gd0 trivial hS hK (c_X9_openOf l D h q k c (up v 0 0) nm a x hn) mi_X9_openOf wd_5_197 wp_3_3 wd_5_195 ⟨Nat.le_of_ble_eq_true rfl, Nat.le_of_ble_eq_true rfl⟩ (hP) 0 rfl rfl rfl hl.1 rfl (Nat.le_of_ble_eq_true rfl) rfl ⟨Nat.le_of_ble_eq_true rfl, Nat.le_of_ble_eq_true rfl⟩ dX9_about_101 ?_
            exact fs_i hx hb hr hlocks hq (oI (fOpen (a 26) (a 37) x (c 42)), (c, up v 0 0, nm, a)) (by simp only [mAbout, mAboutV, if_neg (show ¬ (isIn x (c 21) = false) by rw [c5]; decide), if_neg c9, if_pos c15, swN_in (show 3 ≤ 6 by decide) (by decide)]; rfl) hP hD hS dX9_about_104 rfl
          · refine lv_tableIn (off := 76) (tgt := 105) hx hb dX9_about_29 (by decide) (by decide) (by decide) (by decide) ?_
            refine lv_aload_n hx hb dX9_about_105 rfl (lv_at hl 0 rfl) ?_
            refine lv_iload_n hx hb dX9_about_106 rfl (lv_at hl 1 rfl) ?_
            refine ro_V (rest := []) (st1 := [.int (fStands (a 37) (a 40) sn x (c 42))]) (As := [.int x]) ⟨hx, hb, hml, hown, hts⟩ Gd0 trivial hS hK (c_X9_standsFor l D h q k c (up v 0 0) nm a x hn sn hs) mi_X9_standsFor wd_5_209 wp_3_6 wd_5_207 ⟨Nat.le_of_ble_eq_true rfl, Nat.le_of_ble_eq_true rfl⟩ (hP) 0 rfl rfl rfl hl.1 rfl (Nat.le_of_ble_eq_true rfl) rfl ⟨Nat.le_of_ble_eq_true rfl, Nat.le_of_ble_eq_true rfl⟩ dX9_about_107 ?_
            exact fs_i hx hb hr hlocks hq (fStands (a 37) (a 40) sn x (c 42), (c, up v 0 0, nm, a)) (by simp only [mAbout, mAboutV, if_neg (show ¬ (isIn x (c 21) = false) by rw [c5]; decide), if_neg c9, if_pos c15, swN_in (show 4 ≤ 6 by decide) (by decide)]; rfl) hP hD hS dX9_about_110 rfl
          · refine lv_tableIn (off := 88) (tgt := 117) hx hb dX9_about_29 (by decide) (by decide) (by decide) (by decide) ?_
            refine lv_iconst (v := 0) hx hb dX9_about_117 (by decide) ?_
            refine lv_istore_n (lv' := [(3, .int 0), (0, .ref h), (1, .int x), (2, .int (nI 5))]) hx hb dX9_about_118 rfl hl (by decide) rfl (fun ls hl => ?_)
            have L : ∀ (r i : Nat) (z : Int32), i + r = c 46 → lp (fun i s => if a 43 i = x then (if a 45 i ≤ 0 then s else s + 1) else s) r i z = fUnpaid (a 43) (a 45) x (c 46) → ∀ (ls : Array Slot), lv_has ls 5 [(0, .ref h), (1, .int x), (2, .int (nI 5)), (3, .int z), (4, .int (nI i))] → W p l e (rmd 1 0 0) s m args below meth c_ H locs 0 0 Q (F0 m 122 ls []) := by
              intro r
              induction r with
              | zero =>
                intro i z hi he ls hl
                refine lv_iload hx hb dX9_about_122 (lv_at hl 4 rfl) ?_
                refine lv_aload_n hx hb dX9_about_124 rfl (lv_at hl 0 rfl) ?_
                refine mg_46 (x := nI (c 46)) hx hb hts hown hK hP rfl dX9_about_125 ?_
                refine lv_icmp_ge (tgt := 161) hx hb dX9_about_128 (by decide) (fun c128 => ?_) (fun c128 => absurd (nI_le (by omega) (by omega)) c128)
                refine lv_iload_n hx hb dX9_about_161 rfl (lv_at hl 3 rfl) ?_
                exact fs_i hx hb hr hlocks hq (z, (c, up v 0 0, nm, a)) (by simp only [mAbout, if_neg (show ¬ (isIn x (c 21) = false) by rw [c5]; decide), if_neg c9, if_pos c15, mAboutV, swN_in (show 5 ≤ 6 by decide) (show 6 < 2 ^ 31 by decide)]; rw [← he]; rfl) hP hD hS dX9_about_162 rfl
              | succ r ih =>
                intro i z hi he ls hl
                refine lv_iload hx hb dX9_about_122 (lv_at hl 4 rfl) ?_
                refine lv_aload_n hx hb dX9_about_124 rfl (lv_at hl 0 rfl) ?_
                refine mg_46 (x := nI (c 46)) hx hb hts hown hK hP rfl dX9_about_125 ?_
                refine lv_icmp_ge (tgt := 161) hx hb dX9_about_128 (by decide) (fun c128 => absurd c128 (nI_ge (by omega) (by omega))) (fun c128 => ?_)
                refine lv_aload_n hx hb dX9_about_131 rfl (lv_at hl 0 rfl) ?_
                refine mg_43 hx hb hts hown hK hP dX9_about_132 ?_
                refine lv_iload hx hb dX9_about_135 (lv_at hl 4 rfl) ?_
                refine ml_43 (x := (a 43) i) hx hb hK hP i rfl (by omega) rfl dX9_about_137 ?_
                refine lv_iload_n hx hb dX9_about_138 rfl (lv_at hl 1 rfl) ?_
                refine lv_icmp_ne (tgt := 155) hx hb dX9_about_139 (by decide) (fun c139 => ?_) (fun c139 => ?_)
                · refine lv_iinc (v := nI (i + 1)) (lv' := [(4, .int (nI (i + 1))), (0, .ref h), (1, .int x), (2, .int (nI 5)), (3, .int z)]) hx hb dX9_about_155 hl (k := 4) rfl (nI_1 _) (by decide) rfl (fun ls hl => ?_)
                  refine lv_goto (tgt := 122) hx hb dX9_about_158 (by decide) ?_
                  exact ih (i + 1) z (by omega) (by rw [← he]; simp only [lp, if_neg c139]) ls (lv_sub hl [1, 2, 3, 4, 0] rfl)
                · refine lv_aload_n hx hb dX9_about_142 rfl (lv_at hl 0 rfl) ?_
                  refine mg_45 hx hb hts hown hK hP dX9_about_143 ?_
                  refine lv_iload hx hb dX9_about_146 (lv_at hl 4 rfl) ?_
                  refine ml_45 (x := (a 45) i) hx hb hK hP i rfl (by omega) rfl dX9_about_148 ?_
                  refine lv_if_le (tgt := 155) hx hb dX9_about_149 (by decide) (fun c149 => ?_) (fun c149 => ?_)
                  · refine lv_iinc (v := nI (i + 1)) (lv' := [(4, .int (nI (i + 1))), (0, .ref h), (1, .int x), (2, .int (nI 5)), (3, .int z)]) hx hb dX9_about_155 hl (k := 4) rfl (nI_1 _) (by decide) rfl (fun ls hl => ?_)
                    refine lv_goto (tgt := 122) hx hb dX9_about_158 (by decide) ?_
                    exact ih (i + 1) z (by omega) (by rw [← he]; simp only [lp, if_pos c139, if_pos c149]) ls (lv_sub hl [1, 2, 3, 4, 0] rfl)
                  · refine lv_iinc (v := z + 1) (lv' := [(3, .int (z + 1)), (0, .ref h), (1, .int x), (2, .int (nI 5)), (4, .int (nI i))]) hx hb dX9_about_152 hl (k := 3) rfl (rfl) (by decide) rfl (fun ls hl => ?_)
                    refine lv_iinc (v := nI (i + 1)) (lv' := [(4, .int (nI (i + 1))), (3, .int (z + 1)), (0, .ref h), (1, .int x), (2, .int (nI 5))]) hx hb dX9_about_155 hl (k := 4) rfl (nI_1 _) (by decide) rfl (fun ls hl => ?_)
                    refine lv_goto (tgt := 122) hx hb dX9_about_158 (by decide) ?_
                    exact ih (i + 1) (z + 1) (by omega) (by rw [← he]; simp only [lp, if_pos c139, if_neg c149]) ls (lv_sub hl [2, 3, 4, 1, 0] rfl)
            refine lv_iconst (v := 0) hx hb dX9_about_119 (by decide) ?_
            refine lv_istore (lv' := [(4, .int 0), (3, .int 0), (0, .ref h), (1, .int x), (2, .int (nI 5))]) hx hb dX9_about_120 hl (by decide) rfl (fun ls hl => ?_)
            exact L (c 46) 0 0 (by omega) (rfl) ls (lv_sub hl [2, 3, 4, 1, 0] rfl)
          · refine lv_tableIn (off := 82) (tgt := 111) hx hb dX9_about_29 (by decide) (by decide) (by decide) (by decide) ?_
            refine lv_aload_n hx hb dX9_about_111 rfl (lv_at hl 0 rfl) ?_
            refine lv_iload_n hx hb dX9_about_112 rfl (lv_at hl 1 rfl) ?_
            refine ro_V (rest := []) (st1 := [.int (fCallsOf (a 43) (a 45) x (c 46))]) (As := [.int x]) ⟨hx, hb, hml, hown, hts⟩ Gd0 trivial hS hK (c_X9_callsOf l D h q k c (up v 0 0) nm a x hc) mi_X9_callsOf wd_5_233 wp_3_11 wd_5_231 ⟨Nat.le_of_ble_eq_true rfl, Nat.le_of_ble_eq_true rfl⟩ (hP) 0 rfl rfl rfl hl.1 rfl (Nat.le_of_ble_eq_true rfl) rfl ⟨Nat.le_of_ble_eq_true rfl, Nat.le_of_ble_eq_true rfl⟩ dX9_about_113 ?_
            exact fs_i hx hb hr hlocks hq (fCallsOf (a 43) (a 45) x (c 46), (c, up v 0 0, nm, a)) (by simp only [mAbout, mAboutV, if_neg (show ¬ (isIn x (c 21) = false) by rw [c5]; decide), if_neg c9, if_pos c15, swN_in (show 6 ≤ 6 by decide) (by decide)]; rfl) hP hD hS dX9_about_116 rfl
      · refine lv_aload_n hx hb dX9_about_18 rfl (lv_at hl 0 rfl) ?_
        refine fs_Vw (rest := []) (As := []) ⟨hx, hb, hml, hown, hts⟩ Gd0 trivial hS hA hK (hP) (hD) (c_X9_refuse l D h q k c v nm a  ) mi_X9_refuse wd_6_25 wp_3_15 wd_6_23 ⟨Nat.le_of_ble_eq_true rfl, Nat.le_of_ble_eq_true rfl⟩ 0 rfl rfl rfl hl.1 rfl (Nat.le_of_ble_eq_true rfl) ⟨Nat.le_of_ble_eq_true rfl, Nat.le_of_ble_eq_true rfl⟩ dX9_about_19 (fun u_7 H locs hu_8 hP hD hS => ?_)
        subst hu_8
        replace hP : va_P D vwCl (Mw h q k c (up v 0 1) nm a) H := hP
        replace hD : va_D A (Mw h q k c (up v 0 1) nm a) := hD
        refine W.eq (g2 := F0 m 22 ls [.int 0]) rfl ?_
        exact fs_i hx hb hr hlocks hq (0, (c, up v 0 1, nm, a)) (by simp only [mAbout, if_neg (show ¬ (isIn x (c 21) = false) by rw [c5]; decide), if_neg c9, if_neg c15]; rfl) hP hD hS dX9_about_22 rfl
set_option maxHeartbeats 4000000 in
set_option maxRecDepth 100000 in
theorem c_X9_surety (l : Launch) (D : va_G) (h : Nat) (q : Nat → Nat) (k : Nat → ClassId) (c : Nat → Nat) (v : Nat → Int32) (nm : Int64) (a : Nat → Nat → Int32) (x : Int32) (y : Int32) (hn : c 42 ≤ 100) (sn : Nat → Nat) (hs : ∀ k, k < c 42 → a 39 k = nI (sn k) ∧ sn k ≤ 3) : Fs (S := Int32 × MSt) l yX9_surety cX9_surety 3 (some .int) 1 0 0 D (TY k) G0 [.ref h, .int x, .int y] (Mw h q k c v nm a) (fun u => some (.int u.1)) (fun u => u = mSurety x y (c, v, nm, a)) (fun u => MwU h q k u.2) := by
  refine fs_body (by decide +kernel) (Nat.le_of_ble_eq_true rfl) ?_
  intro p e s m args below meth c_ Q A hx hb hml hown hts hK hP hD hS hA hG hin hr hq hlocks ls hl
  replace hl : lv_has ls 3 [(0, .ref h), (1, .int x), (2, .int y)] := hl
  change s.vm.findClass RX9 = some m.cls at hown
  refine lv_aload_n hx hb dX9_surety_0 rfl (lv_at hl 0 rfl) ?_
  refine lv_iload_n hx hb dX9_surety_1 rfl (lv_at hl 1 rfl) ?_
  refine ro_V (rest := []) (st1 := [.int (bI (isIn x (c 42)))]) (As := [.int x]) ⟨hx, hb, hml, hown, hts⟩ Gd0 trivial hS hK (c_X9_isLoan l D h q k c v nm a x ) mi_X9_isLoan wd_6_21 wp_3_14 wd_6_19 ⟨Nat.le_of_ble_eq_true rfl, Nat.le_of_ble_eq_true rfl⟩ (hP) 0 rfl rfl rfl hl.1 rfl (Nat.le_of_ble_eq_true rfl) rfl ⟨Nat.le_of_ble_eq_true rfl, Nat.le_of_ble_eq_true rfl⟩ dX9_surety_2 ?_
  refine lv_if_eq (tgt := 22) hx hb dX9_surety_5 (by decide) (fun c5 => ?_) (fun c5 => ?_)
  · replace c5 : (isIn x (c 42)) = false := bI_0.mp c5
    refine lv_aload_n hx hb dX9_surety_22 rfl (lv_at hl 0 rfl) ?_
    refine fs_Vw (rest := []) (As := []) ⟨hx, hb, hml, hown, hts⟩ Gd0 trivial hS hA hK (hP) (hD) (c_X9_refuse l D h q k c v nm a  ) mi_X9_refuse wd_6_25 wp_3_15 wd_6_23 ⟨Nat.le_of_ble_eq_true rfl, Nat.le_of_ble_eq_true rfl⟩ 0 rfl rfl rfl hl.1 rfl (Nat.le_of_ble_eq_true rfl) ⟨Nat.le_of_ble_eq_true rfl, Nat.le_of_ble_eq_true rfl⟩ dX9_surety_23 (fun u_1 H locs hu_2 hP hD hS => ?_)
    subst hu_2
    replace hP : va_P D vwCl (Mw h q k c (up v 0 1) nm a) H := hP
    replace hD : va_D A (Mw h q k c (up v 0 1) nm a) := hD
    refine W.eq (g2 := F0 m 26 ls [.int 0]) rfl ?_
    exact fs_i hx hb hr hlocks hq (0, (c, up v 0 1, nm, a)) (by simp only [mSurety, if_pos c5]; rfl) hP hD hS dX9_surety_26 rfl
  · replace c5 : (isIn x (c 42)) = true := bI_n.mp c5
    obtain ⟨ex, hjx⟩ := isIn_spec c5 (by omega)
    refine lv_iload_n hx hb dX9_surety_8 rfl (lv_at hl 2 rfl) ?_
    refine lv_if_lt (tgt := 22) hx hb dX9_surety_9 (by decide) (fun c9 => ?_) (fun c9 => ?_)
    · refine lv_aload_n hx hb dX9_surety_22 rfl (lv_at hl 0 rfl) ?_
      refine fs_Vw (rest := []) (As := []) ⟨hx, hb, hml, hown, hts⟩ Gd0 trivial hS hA hK (hP) (hD) (c_X9_refuse l D h q k c v nm a  ) mi_X9_refuse wd_6_25 wp_3_15 wd_6_23 ⟨Nat.le_of_ble_eq_true rfl, Nat.le_of_ble_eq_true rfl⟩ 0 rfl rfl rfl hl.1 rfl (Nat.le_of_ble_eq_true rfl) ⟨Nat.le_of_ble_eq_true rfl, Nat.le_of_ble_eq_true rfl⟩ dX9_surety_23 (fun u_3 H locs hu_4 hP hD hS => ?_)
      subst hu_4
      replace hP : va_P D vwCl (Mw h q k c (up v 0 1) nm a) H := hP
      replace hD : va_D A (Mw h q k c (up v 0 1) nm a) := hD
      refine W.eq (g2 := F0 m 26 ls [.int 0]) rfl ?_
      exact fs_i hx hb hr hlocks hq (0, (c, up v 0 1, nm, a)) (by simp only [mSurety, if_neg (show ¬ (isIn x (c 42) = false) by rw [c5]; decide), if_pos c9]; rfl) hP hD hS dX9_surety_26 rfl
    · refine lv_iload_n hx hb dX9_surety_12 rfl (lv_at hl 2 rfl) ?_
      refine lv_aload_n hx hb dX9_surety_13 rfl (lv_at hl 0 rfl) ?_
      refine mg_39 hx hb hts hown hK hP dX9_surety_14 ?_
      refine lv_iload_n hx hb dX9_surety_17 rfl (lv_at hl 1 rfl) ?_
      refine ml_39 (x := (a 39) x.toNatClampNeg) hx hb hK hP x.toNatClampNeg ex (by omega) rfl dX9_surety_18 ?_
      refine lv_icmp_lt (tgt := 27) hx hb dX9_surety_19 (by decide) (fun c19 => ?_) (fun c19 => ?_)
      · have hsn := (hs _ hjx).2
        have hyj : y.toNatClampNeg < sn x.toNatClampNeg := clamp_lt c9 (by rw [← (hs _ hjx).1]; exact c19) (by omega)
        refine lv_aload_n hx hb dX9_surety_27 rfl (lv_at hl 0 rfl) ?_
        refine lv_iconst (v := 0) hx hb dX9_surety_28 (by decide) ?_
        refine mp_0 hx hb hts hown hK hP hD hS 0 dX9_surety_29 (fun H locs hP hD hS => ?_)
        refine lv_aload_n hx hb dX9_surety_32 rfl (lv_at hl 0 rfl) ?_
        refine mg_40 hx hb hts hown hK hP dX9_surety_33 ?_
        refine lv_iconst (v := 3) hx hb dX9_surety_36 (by decide) ?_
        refine lv_iload_n hx hb dX9_surety_37 rfl (lv_at hl 1 rfl) ?_
        refine rw_topi (y := nI x.toNatClampNeg) (ex) ?_
        refine lv_imul hx hb dX9_surety_38 ?_
        refine rw_topi (y := nI (3 * x.toNatClampNeg)) (pk_mul _ _) ?_
        refine lv_iload_n hx hb dX9_surety_39 rfl (lv_at hl 2 rfl) ?_
        refine rw_topi (y := nI y.toNatClampNeg) (nI_self c9) ?_
        refine lv_iadd hx hb dX9_surety_40 ?_
        refine rw_topi (y := nI ((3 * x.toNatClampNeg) + y.toNatClampNeg)) (nI_add _ _) ?_
        refine ml_40 (x := (a 40) ((3 * x.toNatClampNeg) + y.toNatClampNeg)) hx hb hK hP ((3 * x.toNatClampNeg) + y.toNatClampNeg) rfl (by omega) rfl dX9_surety_41 ?_
        exact fs_i hx hb hr hlocks hq ((a 40) ((3 * x.toNatClampNeg) + y.toNatClampNeg), (c, up v 0 0, nm, a)) (by simp only [mSurety, if_neg (show ¬ (isIn x (c 42) = false) by rw [c5]; decide), if_neg c9, if_pos c19]; rfl) hP hD hS dX9_surety_42 rfl
      · refine lv_aload_n hx hb dX9_surety_22 rfl (lv_at hl 0 rfl) ?_
        refine fs_Vw (rest := []) (As := []) ⟨hx, hb, hml, hown, hts⟩ Gd0 trivial hS hA hK (hP) (hD) (c_X9_refuse l D h q k c v nm a  ) mi_X9_refuse wd_6_25 wp_3_15 wd_6_23 ⟨Nat.le_of_ble_eq_true rfl, Nat.le_of_ble_eq_true rfl⟩ 0 rfl rfl rfl hl.1 rfl (Nat.le_of_ble_eq_true rfl) ⟨Nat.le_of_ble_eq_true rfl, Nat.le_of_ble_eq_true rfl⟩ dX9_surety_23 (fun u_5 H locs hu_6 hP hD hS => ?_)
        subst hu_6
        replace hP : va_P D vwCl (Mw h q k c (up v 0 1) nm a) H := hP
        replace hD : va_D A (Mw h q k c (up v 0 1) nm a) := hD
        refine W.eq (g2 := F0 m 26 ls [.int 0]) rfl ?_
        exact fs_i hx hb hr hlocks hq (0, (c, up v 0 1, nm, a)) (by simp only [mSurety, if_neg (show ¬ (isIn x (c 42) = false) by rw [c5]; decide), if_neg c9, if_neg c19]; rfl) hP hD hS dX9_surety_26 rfl
set_option maxHeartbeats 4000000 in
set_option maxRecDepth 100000 in
theorem c_X9_taken (l : Launch) (D : va_G) (h : Nat) (q : Nat → Nat) (k : Nat → ClassId) (c : Nat → Nat) (v : Nat → Int32) (nm : Int64) (a : Nat → Nat → Int32) (x : Int32) (y : Int32) (hn : c 42 ≤ 100) (hf : c 22 ≤ 6) : Fs (S := Int32 × MSt) l yX9_taken cX9_taken 3 (some .int) 1 0 0 D (TY k) G0 [.ref h, .int x, .int y] (Mw h q k c v nm a) (fun u => some (.int u.1)) (fun u => u = mTaken x y (c, v, nm, a)) (fun u => MwU h q k u.2) := by
  refine fs_body (by decide +kernel) (Nat.le_of_ble_eq_true rfl) ?_
  intro p e s m args below meth c_ Q A hx hb hml hown hts hK hP hD hS hA hG hin hr hq hlocks ls hl
  replace hl : lv_has ls 3 [(0, .ref h), (1, .int x), (2, .int y)] := hl
  change s.vm.findClass RX9 = some m.cls at hown
  refine lv_aload_n hx hb dX9_taken_0 rfl (lv_at hl 0 rfl) ?_
  refine lv_iload_n hx hb dX9_taken_1 rfl (lv_at hl 1 rfl) ?_
  refine ro_V (rest := []) (st1 := [.int (bI (isIn x (c 42)))]) (As := [.int x]) ⟨hx, hb, hml, hown, hts⟩ Gd0 trivial hS hK (c_X9_isLoan l D h q k c v nm a x ) mi_X9_isLoan wd_6_21 wp_3_14 wd_6_19 ⟨Nat.le_of_ble_eq_true rfl, Nat.le_of_ble_eq_true rfl⟩ (hP) 0 rfl rfl rfl hl.1 rfl (Nat.le_of_ble_eq_true rfl) rfl ⟨Nat.le_of_ble_eq_true rfl, Nat.le_of_ble_eq_true rfl⟩ dX9_taken_2 ?_
  refine lv_if_eq (tgt := 16) hx hb dX9_taken_5 (by decide) (fun c5 => ?_) (fun c5 => ?_)
  · replace c5 : (isIn x (c 42)) = false := bI_0.mp c5
    refine lv_aload_n hx hb dX9_taken_16 rfl (lv_at hl 0 rfl) ?_
    refine fs_Vw (rest := []) (As := []) ⟨hx, hb, hml, hown, hts⟩ Gd0 trivial hS hA hK (hP) (hD) (c_X9_refuse l D h q k c v nm a  ) mi_X9_refuse wd_6_25 wp_3_15 wd_6_23 ⟨Nat.le_of_ble_eq_true rfl, Nat.le_of_ble_eq_true rfl⟩ 0 rfl rfl rfl hl.1 rfl (Nat.le_of_ble_eq_true rfl) ⟨Nat.le_of_ble_eq_true rfl, Nat.le_of_ble_eq_true rfl⟩ dX9_taken_17 (fun u_1 H locs hu_2 hP hD hS => ?_)
    subst hu_2
    replace hP : va_P D vwCl (Mw h q k c (up v 0 1) nm a) H := hP
    replace hD : va_D A (Mw h q k c (up v 0 1) nm a) := hD
    refine W.eq (g2 := F0 m 20 ls [.int 0]) rfl ?_
    exact fs_i hx hb hr hlocks hq (0, (c, up v 0 1, nm, a)) (by simp only [mTaken, if_pos c5]; rfl) hP hD hS dX9_taken_20 rfl
  · replace c5 : (isIn x (c 42)) = true := bI_n.mp c5
    obtain ⟨ex, hjx⟩ := isIn_spec c5 (by omega)
    refine lv_aload_n hx hb dX9_taken_8 rfl (lv_at hl 0 rfl) ?_
    refine lv_iload_n hx hb dX9_taken_9 rfl (lv_at hl 2 rfl) ?_
    refine ro_V (rest := []) (st1 := [.int (bI (isIn y (c 22)))]) (As := [.int y]) ⟨hx, hb, hml, hown, hts⟩ Gd0 trivial hS hK (c_X9_isFund l D h q k c v nm a y ) mi_X9_isFund wd_5_184 wp_3_1 wd_5_182 ⟨Nat.le_of_ble_eq_true rfl, Nat.le_of_ble_eq_true rfl⟩ (hP) 0 rfl rfl rfl hl.1 rfl (Nat.le_of_ble_eq_true rfl) rfl ⟨Nat.le_of_ble_eq_true rfl, Nat.le_of_ble_eq_true rfl⟩ dX9_taken_10 ?_
    refine lv_if_ne (tgt := 21) hx hb dX9_taken_13 (by decide) (fun c13 => ?_) (fun c13 => ?_)
    · replace c13 : (isIn y (c 22)) = true := bI_n.mp c13
      obtain ⟨ey, hjy⟩ := isIn_spec c13 (by omega)
      refine lv_aload_n hx hb dX9_taken_21 rfl (lv_at hl 0 rfl) ?_
      refine lv_iconst (v := 0) hx hb dX9_taken_22 (by decide) ?_
      refine mp_0 hx hb hts hown hK hP hD hS 0 dX9_taken_23 (fun H locs hP hD hS => ?_)
      refine lv_aload_n hx hb dX9_taken_26 rfl (lv_at hl 0 rfl) ?_
      refine mg_41 hx hb hts hown hK hP dX9_taken_27 ?_
      refine lv_bipush (v := 6) hx hb dX9_taken_30 (by decide) ?_
      refine lv_iload_n hx hb dX9_taken_32 rfl (lv_at hl 1 rfl) ?_
      refine rw_topi (y := nI x.toNatClampNeg) (ex) ?_
      refine lv_imul hx hb dX9_taken_33 ?_
      refine rw_topi (y := nI (6 * x.toNatClampNeg)) (pk_mul _ _) ?_
      refine lv_iload_n hx hb dX9_taken_34 rfl (lv_at hl 2 rfl) ?_
      refine rw_topi (y := nI y.toNatClampNeg) (ey) ?_
      refine lv_iadd hx hb dX9_taken_35 ?_
      refine rw_topi (y := nI ((6 * x.toNatClampNeg) + y.toNatClampNeg)) (nI_add _ _) ?_
      refine ml_41 (x := (a 41) ((6 * x.toNatClampNeg) + y.toNatClampNeg)) hx hb hK hP ((6 * x.toNatClampNeg) + y.toNatClampNeg) rfl (by omega) rfl dX9_taken_36 ?_
      exact fs_i hx hb hr hlocks hq ((a 41) ((6 * x.toNatClampNeg) + y.toNatClampNeg), (c, up v 0 0, nm, a)) (by simp only [mTaken, if_neg (show ¬ (isIn x (c 42) = false) by rw [c5]; decide), if_pos c13]; rfl) hP hD hS dX9_taken_37 rfl
    · replace c13 : (isIn y (c 22)) = false := bI_0.mp c13
      refine lv_aload_n hx hb dX9_taken_16 rfl (lv_at hl 0 rfl) ?_
      refine fs_Vw (rest := []) (As := []) ⟨hx, hb, hml, hown, hts⟩ Gd0 trivial hS hA hK (hP) (hD) (c_X9_refuse l D h q k c v nm a  ) mi_X9_refuse wd_6_25 wp_3_15 wd_6_23 ⟨Nat.le_of_ble_eq_true rfl, Nat.le_of_ble_eq_true rfl⟩ 0 rfl rfl rfl hl.1 rfl (Nat.le_of_ble_eq_true rfl) ⟨Nat.le_of_ble_eq_true rfl, Nat.le_of_ble_eq_true rfl⟩ dX9_taken_17 (fun u_3 H locs hu_4 hP hD hS => ?_)
      subst hu_4
      replace hP : va_P D vwCl (Mw h q k c (up v 0 1) nm a) H := hP
      replace hD : va_D A (Mw h q k c (up v 0 1) nm a) := hD
      refine W.eq (g2 := F0 m 20 ls [.int 0]) rfl ?_
      exact fs_i hx hb hr hlocks hq (0, (c, up v 0 1, nm, a)) (by simp only [mTaken, if_neg (show ¬ (isIn x (c 42) = false) by rw [c5]; decide), if_neg (show ¬ (isIn y (c 22) = true) by rw [c13]; decide)]; rfl) hP hD hS dX9_taken_20 rfl
set_option maxHeartbeats 4000000 in
set_option maxRecDepth 100000 in
theorem c_X9_chest (l : Launch) (D : va_G) (h : Nat) (q : Nat → Nat) (k : Nat → ClassId) (c : Nat → Nat) (v : Nat → Int32) (nm : Int64) (a : Nat → Nat → Int32) (x : Int32) (y : Int32) (hf : c 22 ≤ 6) (hw : c 23 ≤ 400) : Fs (S := Int32 × MSt) l yX9_chest cX9_chest 3 (some .int) 1 0 0 D (TY k) G0 [.ref h, .int x, .int y] (Mw h q k c v nm a) (fun u => some (.int u.1)) (fun u => u = mChest x y (c, v, nm, a)) (fun u => MwU h q k u.2) := by
  refine fs_body (by decide +kernel) (Nat.le_of_ble_eq_true rfl) ?_
  intro p e s m args below meth c_ Q A hx hb hml hown hts hK hP hD hS hA hG hin hr hq hlocks ls hl
  replace hl : lv_has ls 3 [(0, .ref h), (1, .int x), (2, .int y)] := hl
  change s.vm.findClass RX9 = some m.cls at hown
  refine lv_aload_n hx hb dX9_chest_0 rfl (lv_at hl 0 rfl) ?_
  refine lv_iconst (v := 0) hx hb dX9_chest_1 (by decide) ?_
  refine mp_0 hx hb hts hown hK hP hD hS 0 dX9_chest_2 (fun H locs hP hD hS => ?_)
  refine lv_aload_n hx hb dX9_chest_5 rfl (lv_at hl 0 rfl) ?_
  refine lv_iload_n hx hb dX9_chest_6 rfl (lv_at hl 1 rfl) ?_
  refine ro_V (rest := []) (st1 := [.int (bI (isIn x (c 22)))]) (As := [.int x]) ⟨hx, hb, hml, hown, hts⟩ Gd0 trivial hS hK (c_X9_isFund l D h q k c (up v 0 0) nm a x ) mi_X9_isFund wd_5_184 wp_3_1 wd_5_182 ⟨Nat.le_of_ble_eq_true rfl, Nat.le_of_ble_eq_true rfl⟩ (hP) 0 rfl rfl rfl hl.1 rfl (Nat.le_of_ble_eq_true rfl) rfl ⟨Nat.le_of_ble_eq_true rfl, Nat.le_of_ble_eq_true rfl⟩ dX9_chest_7 ?_
  refine lv_if_eq (tgt := 25) hx hb dX9_chest_10 (by decide) (fun c10 => ?_) (fun c10 => ?_)
  · replace c10 : (isIn x (c 22)) = false := bI_0.mp c10
    refine lv_iconst (v := (-1)) hx hb dX9_chest_25 (by decide) ?_
    exact fs_i hx hb hr hlocks hq ((-1), (c, up v 0 0, nm, a)) (by simp only [mChest, if_pos c10]; rfl) hP hD hS dX9_chest_26 rfl
  · replace c10 : (isIn x (c 22)) = true := bI_n.mp c10
    obtain ⟨ex, hjx⟩ := isIn_spec c10 (by omega)
    refine lv_iload_n hx hb dX9_chest_13 rfl (lv_at hl 2 rfl) ?_
    refine lv_if_lt (tgt := 25) hx hb dX9_chest_14 (by decide) (fun c14 => ?_) (fun c14 => ?_)
    · refine lv_iconst (v := (-1)) hx hb dX9_chest_25 (by decide) ?_
      exact fs_i hx hb hr hlocks hq ((-1), (c, up v 0 0, nm, a)) (by simp only [mChest, if_neg (show ¬ (isIn x (c 22) = false) by rw [c10]; decide), if_pos c14]; rfl) hP hD hS dX9_chest_26 rfl
    · refine lv_iload_n hx hb dX9_chest_17 rfl (lv_at hl 2 rfl) ?_
      refine lv_aload_n hx hb dX9_chest_18 rfl (lv_at hl 0 rfl) ?_
      refine mg_23 (x := nI (c 23)) hx hb hts hown hK hP rfl dX9_chest_19 ?_
      refine lv_icmp_le (tgt := 27) hx hb dX9_chest_22 (by decide) (fun c22 => ?_) (fun c22 => ?_)
      · have hyl := clamp_le c14 c22 (by omega)
        refine lv_iload_n hx hb dX9_chest_27 rfl (lv_at hl 2 rfl) ?_
        refine lv_aload_n hx hb dX9_chest_28 rfl (lv_at hl 0 rfl) ?_
        refine mg_23 (x := nI (c 23)) hx hb hts hown hK hP rfl dX9_chest_29 ?_
        refine lv_icmp_ne (tgt := 44) hx hb dX9_chest_32 (by decide) (fun c32 => ?_) (fun c32 => ?_)
        · refine lv_aload_n hx hb dX9_chest_44 rfl (lv_at hl 0 rfl) ?_
          refine mg_20 hx hb hts hown hK hP dX9_chest_45 ?_
          refine lv_bipush (v := 6) hx hb dX9_chest_48 (by decide) ?_
          refine lv_iload_n hx hb dX9_chest_50 rfl (lv_at hl 2 rfl) ?_
          refine rw_topi (y := nI y.toNatClampNeg) (nI_self c14) ?_
          refine lv_imul hx hb dX9_chest_51 ?_
          refine rw_topi (y := nI (6 * y.toNatClampNeg)) (pk_mul _ _) ?_
          refine lv_iload_n hx hb dX9_chest_52 rfl (lv_at hl 1 rfl) ?_
          refine rw_topi (y := nI x.toNatClampNeg) (ex) ?_
          refine lv_iadd hx hb dX9_chest_53 ?_
          refine rw_topi (y := nI ((6 * y.toNatClampNeg) + x.toNatClampNeg)) (nI_add _ _) ?_
          refine ml_20 (x := (a 20) ((6 * y.toNatClampNeg) + x.toNatClampNeg)) hx hb hK hP ((6 * y.toNatClampNeg) + x.toNatClampNeg) rfl (by omega) rfl dX9_chest_54 ?_
          exact fs_i hx hb hr hlocks hq ((a 20) ((6 * y.toNatClampNeg) + x.toNatClampNeg), (c, up v 0 0, nm, a)) (by simp only [mChest, if_neg (show ¬ (isIn x (c 22) = false) by rw [c10]; decide), if_neg c14, if_pos c22, if_neg c32]; rfl) hP hD hS dX9_chest_55 rfl
        · refine lv_aload_n hx hb dX9_chest_35 rfl (lv_at hl 0 rfl) ?_
          refine mg_19 hx hb hts hown hK hP dX9_chest_36 ?_
          refine lv_iload_n hx hb dX9_chest_39 rfl (lv_at hl 1 rfl) ?_
          refine ml_19 (x := (a 19) x.toNatClampNeg) hx hb hK hP x.toNatClampNeg ex (by omega) rfl dX9_chest_40 ?_
          refine lv_goto (tgt := 55) hx hb dX9_chest_41 (by decide) ?_
          exact fs_i hx hb hr hlocks hq ((a 19) x.toNatClampNeg, (c, up v 0 0, nm, a)) (by simp only [mChest, if_neg (show ¬ (isIn x (c 22) = false) by rw [c10]; decide), if_neg c14, if_pos c22, if_pos c32]; rfl) hP hD hS dX9_chest_55 rfl
      · refine lv_iconst (v := (-1)) hx hb dX9_chest_25 (by decide) ?_
        exact fs_i hx hb hr hlocks hq ((-1), (c, up v 0 0, nm, a)) (by simp only [mChest, if_neg (show ¬ (isIn x (c 22) = false) by rw [c10]; decide), if_neg c14, if_neg c22]; rfl) hP hD hS dX9_chest_26 rfl
