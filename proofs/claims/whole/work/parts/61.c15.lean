set_option maxHeartbeats 4000000 in
set_option maxRecDepth 100000 in
theorem c_X3_howManyLoans (l : Launch) (D : va_G) (k : Nat → ClassId) (dz : Nat) (q : Nat → Nat → Nat) (n : Nat) (gt : Nat → Int64) (gn : Nat → Nat) (gr : Nat → Nat → Nat → Int32) (ga : Nat → Nat → Int32) (lost : Int32) (mm : Nat) (gc : Nat → Nat → Int32) (gl : Nat → Nat) (d1 d2 : Int32) : Ro l yX3_howManyLoans cX3_howManyLoans 1 (some .int) 1 D (TY k) G0 [.ref (q 5 0)] (bG k dz q n gt gn gr ga lost mm gc gl d1 d2) (some (.int (nI n))) := by
  refine ro_body (by decide +kernel) (Nat.le_of_ble_eq_true rfl) ?_
  intro p e s m args below meth c_ Q hx hb hml hown hts hK hP hS hG hr hq hlocks ls hl
  replace hl : lv_has ls 1 [(0, .ref (q 5 0))] := hl
  change s.vm.findClass RX3 = some m.cls at hown
  refine lv_aload_n hx hb dX3_howManyLoans_0 rfl (lv_at hl 0 rfl) ?_
  refine va_get (D := D) (ci := 3) (v := .ref (q 5 1)) (C := RX3) (T := TX3) (N := 3) hx hb hts inX3 hown hK (hP.mem bG_o) 0 rfl rfl 0 (by decide) (hts _ wd_1_146) (fun _ h9 => h9) rfl dX3_howManyLoans_1 ?_
  refine ro_V (rest := []) (st1 := [.int (nI n)]) (As := []) ⟨hx, hb, hml, hown, hts⟩ Gd0 trivial hS hK (c_Jx4a65c_size_8abf5 l D k (q 5 1) (if n = 0 then dz else q 5 3) d1 n) mi_Jx4a65c_size_8abf5 wd_2_147 wd_2_148 wd_2_146 ⟨Nat.le_of_ble_eq_true rfl, Nat.le_of_ble_eq_true rfl⟩ (hP.mem bG_l) 0 rfl rfl rfl hl.1 rfl (Nat.le_of_ble_eq_true rfl) rfl ⟨Nat.le_of_ble_eq_true rfl, Nat.le_of_ble_eq_true rfl⟩ dX3_howManyLoans_4 ?_
  exact ro_i hx hb hr hlocks hq dX3_howManyLoans_7 (rfl)
set_option maxHeartbeats 4000000 in
set_option maxRecDepth 100000 in
theorem c_X3_lostPence (l : Launch) (D : va_G) (k : Nat → ClassId) (dz : Nat) (q : Nat → Nat → Nat) (n : Nat) (gt : Nat → Int64) (gn : Nat → Nat) (gr : Nat → Nat → Nat → Int32) (ga : Nat → Nat → Int32) (lost : Int32) (mm : Nat) (gc : Nat → Nat → Int32) (gl : Nat → Nat) (d1 d2 : Int32) : Ro l yX3_lostPence cX3_lostPence 1 (some .int) 0 D (TY k) G0 [.ref (q 5 0)] (bG k dz q n gt gn gr ga lost mm gc gl d1 d2) (some (.int lost)) := by
  refine ro_body (by decide +kernel) (Nat.le_of_ble_eq_true rfl) ?_
  intro p e s m args below meth c_ Q hx hb hml hown hts hK hP hS hG hr hq hlocks ls hl
  replace hl : lv_has ls 1 [(0, .ref (q 5 0))] := hl
  change s.vm.findClass RX3 = some m.cls at hown
  refine lv_aload_n hx hb dX3_lostPence_0 rfl (lv_at hl 0 rfl) ?_
  refine va_get (D := D) (ci := 3) (v := .int lost) (C := RX3) (T := TX3) (N := 3) hx hb hts inX3 hown hK (hP.mem bG_o) 0 rfl rfl 2 (by decide) (hts _ wd_1_148) (fun _ h9 => h9) rfl dX3_lostPence_1 ?_
  exact ro_i hx hb hr hlocks hq dX3_lostPence_4 (rfl)
theorem mi_X3_loanAt : MI RX3 yX3_loanAt cX3_loanAt 2 (some (.object "LoanChest$Loan")) 1 := ⟨⟨wd_1_6, wd_4_80⟩, rfl, by decide +kernel, by decide +kernel, by decide +kernel⟩
theorem mi_X3_openLoanOf : MI RX3 yX3_openLoanOf cX3_openLoanOf 3 (some (.object "LoanChest$Loan")) 1 := ⟨⟨wd_1_6, wd_2_153⟩, rfl, by decide +kernel, by decide +kernel, by decide +kernel⟩
abbrev col (g : Nat → Nat → Int32) (j : Nat) : Nat → Int32 := fun i => g i j
abbrev leftOf (gc : Nat → Nat → Int32) : Nat → Int32 := fun i => gc i 2 - gc i 3
def atO (x : Int32) (n : Nat) : Option Nat := if isIn x n = true then some x.toNatClampNeg else none
set_option maxHeartbeats 4000000 in
set_option maxRecDepth 100000 in
theorem c_X3_loanAt (l : Launch) (D : va_G) (k : Nat → ClassId) (dz : Nat) (q : Nat → Nat → Nat) (n : Nat) (gt : Nat → Int64) (gn : Nat → Nat) (gr : Nat → Nat → Nat → Int32) (ga : Nat → Nat → Int32) (lost : Int32) (mm : Nat) (gc : Nat → Nat → Int32) (gl : Nat → Nat) (d1 d2 : Int32) (x : Int32) (hn : n ≤ 100) (hm : mm ≤ 600) : Ro l yX3_loanAt cX3_loanAt 2 (some (.object "LoanChest$Loan")) 3 D (TY k) G0 [.ref (q 5 0), .int x] (bG k dz q n gt gn gr ga lost mm gc gl d1 d2) (some (oR (q 0) (atO x n))) := by
  refine ro_body (by decide +kernel) (Nat.le_of_ble_eq_true rfl) ?_
  intro p e s m args below meth c_ Q hx hb hml hown hts hK hP hS hG hr hq hlocks ls hl
  replace hl : lv_has ls 2 [(0, .ref (q 5 0)), (1, .int x)] := hl
  change s.vm.findClass RX3 = some m.cls at hown
  refine lv_iload_n hx hb dX3_loanAt_0 rfl (lv_at hl 1 rfl) ?_
  refine lv_if_lt (tgt := 29) hx hb dX3_loanAt_1 (by decide) (fun c1 => ?_) (fun c1 => ?_)
  · refine lv_null hx hb dX3_loanAt_29 ?_
    exact ro_a hx hb hr (Or.inl ⟨_, rfl⟩) hlocks hq (Or.inl rfl) dX3_loanAt_30 (by unfold atO; rw [if_neg (by simp [isIn, c1])]; rfl)
  · refine lv_iload_n hx hb dX3_loanAt_4 rfl (lv_at hl 1 rfl) ?_
    refine lv_aload_n hx hb dX3_loanAt_5 rfl (lv_at hl 0 rfl) ?_
    refine va_get (D := D) (ci := 3) (v := .ref (q 5 1)) (C := RX3) (T := TX3) (N := 3) hx hb hts inX3 hown hK (hP.mem bG_o) 0 rfl rfl 0 (by decide) (hts _ wd_1_146) (fun _ h9 => h9) rfl dX3_loanAt_6 ?_
    refine ro_V (rest := [.int x]) (st1 := [.int (nI n), .int x]) (As := []) ⟨hx, hb, hml, hown, hts⟩ Gd0 trivial hS hK (c_Jx4a65c_size_8abf5 l D k (q 5 1) (if n = 0 then dz else q 5 3) d1 n) mi_Jx4a65c_size_8abf5 wd_2_147 wd_2_148 wd_2_146 ⟨Nat.le_of_ble_eq_true rfl, Nat.le_of_ble_eq_true rfl⟩ (hP.mem bG_l) 0 rfl rfl rfl hl.1 rfl (Nat.le_of_ble_eq_true rfl) rfl ⟨Nat.le_of_ble_eq_true rfl, Nat.le_of_ble_eq_true rfl⟩ dX3_loanAt_9 ?_
    refine lv_icmp_ge (tgt := 29) hx hb dX3_loanAt_12 (by decide) (fun c12 => ?_) (fun c12 => ?_)
    · refine lv_null hx hb dX3_loanAt_29 ?_
      exact ro_a hx hb hr (Or.inl ⟨_, rfl⟩) hlocks hq (Or.inl rfl) dX3_loanAt_30 (by unfold atO; rw [if_neg (by simp [isIn, c1, c12])]; rfl)
    · have hxi : isIn x n = true := by simp only [isIn, Bool.and_eq_true, Bool.not_eq_true', decide_eq_false_iff_not]; exact ⟨c1, c12⟩
      have hxn := (isIn_spec hxi (by omega)).2
      refine lv_aload_n hx hb dX3_loanAt_15 rfl (lv_at hl 0 rfl) ?_
      refine va_get (D := D) (ci := 3) (v := .ref (q 5 1)) (C := RX3) (T := TX3) (N := 3) hx hb hts inX3 hown hK (hP.mem bG_o) 0 rfl rfl 0 (by decide) (hts _ wd_1_146) (fun _ h9 => h9) rfl dX3_loanAt_16 ?_
      refine lv_iload_n hx hb dX3_loanAt_19 rfl (lv_at hl 1 rfl) ?_
      refine rw_topi (y := nI x.toNatClampNeg) (nI_self c1) ?_
      refine ro_V (rest := []) (st1 := [.ref (q 0 x.toNatClampNeg)]) (As := [.int (nI x.toNatClampNeg)]) ⟨hx, hb, hml, hown, hts⟩ Gd0 trivial hS hK (c_Jx4a65c_get_915e3 l D k (q 5 1) (q 5 3) d1 n (capOf n) (q 0) x.toNatClampNeg (by omega) (capOf_ok _).1 (by have := (capOf_ok n).2.1; omega)) mi_Jx4a65c_get_915e3 wd_2_155 wd_2_156 wd_2_154 ⟨Nat.le_of_ble_eq_true rfl, Nat.le_of_ble_eq_true rfl⟩ (hP.mem2 (bG_lp (by omega)) (bG_la (by omega))) 0 rfl rfl rfl hl.1 rfl (Nat.le_of_ble_eq_true rfl) rfl ⟨Nat.le_of_ble_eq_true rfl, Nat.le_of_ble_eq_true rfl⟩ dX3_loanAt_20 ?_
      refine va_castS hx hb hown (hts _ wd_2_166) (hK.1 4 _ rfl).2 (va_recv hK (hP.mem (bG_L (i := x.toNatClampNeg) (by omega))) (q0 := 0) rfl rfl) dX3_loanAt_23 ?_
      refine lv_goto (tgt := 30) hx hb dX3_loanAt_26 (by decide) ?_
      exact ro_a hx hb hr (Or.inl ⟨_, rfl⟩) hlocks hq (Or.inr ⟨_, rfl⟩) dX3_loanAt_30 (by unfold atO; rw [if_pos hxi]; rfl)
set_option maxHeartbeats 4000000 in
set_option maxRecDepth 100000 in
theorem c_X3_howManyOpen (l : Launch) (D : va_G) (k : Nat → ClassId) (dz : Nat) (q : Nat → Nat → Nat) (n : Nat) (gt : Nat → Int64) (gn : Nat → Nat) (gr : Nat → Nat → Nat → Int32) (ga : Nat → Nat → Int32) (lost : Int32) (mm : Nat) (gc : Nat → Nat → Int32) (gl : Nat → Nat) (d1 d2 : Int32) (hn : n ≤ 100) (hm : mm ≤ 600) : Ro l yX3_howManyOpen cX3_howManyOpen 3 (some .int) 3 D (TY k) G0 [.ref (q 5 0)] (bG k dz q n gt gn gr ga lost mm gc gl d1 d2) (some (.int (fOpens (col ga 16) n))) := by
  refine ro_body (by decide +kernel) (Nat.le_of_ble_eq_true rfl) ?_
  intro p e s m args below meth c_ Q hx hb hml hown hts hK hP hS hG hr hq hlocks ls hl
  replace hl : lv_has ls 3 [(0, .ref (q 5 0))] := hl
  change s.vm.findClass RX3 = some m.cls at hown
  have L : ∀ (r i : Nat) (y : Int32), i + r = n → lp (fun i s => if col ga 16 i = 0 then s + 1 else s) r i y = fOpens (col ga 16) n → ∀ (ls : Array Slot), lv_has ls 3 [(0, .ref (q 5 0)), (1, .int y), (2, .int (nI i))] → W p l e (rmd 3 0 0) s m args below meth c_ s.heap [] 0 0 Q (F0 m 4 ls []) := by
    intro r
    induction r with
    | zero =>
      intro i y hi he ls hl
      refine lv_iload_n hx hb dX3_howManyOpen_4 rfl (lv_at hl 2 rfl) ?_
      refine lv_aload_n hx hb dX3_howManyOpen_5 rfl (lv_at hl 0 rfl) ?_
      refine va_get (D := D) (ci := 3) (v := .ref (q 5 1)) (C := RX3) (T := TX3) (N := 3) hx hb hts inX3 hown hK (hP.mem bG_o) 0 rfl rfl 0 (by decide) (hts _ wd_1_146) (fun _ h9 => h9) rfl dX3_howManyOpen_6 ?_
      refine ro_V (rest := [.int (nI i)]) (st1 := [.int (nI n), .int (nI i)]) (As := []) ⟨hx, hb, hml, hown, hts⟩ Gd0 trivial hS hK (c_Jx4a65c_size_8abf5 l D k (q 5 1) (if n = 0 then dz else q 5 3) d1 n) mi_Jx4a65c_size_8abf5 wd_2_147 wd_2_148 wd_2_146 ⟨Nat.le_of_ble_eq_true rfl, Nat.le_of_ble_eq_true rfl⟩ (hP.mem bG_l) 0 rfl rfl rfl hl.1 rfl (Nat.le_of_ble_eq_true rfl) rfl ⟨Nat.le_of_ble_eq_true rfl, Nat.le_of_ble_eq_true rfl⟩ dX3_howManyOpen_9 ?_
      refine lv_icmp_ge (tgt := 41) hx hb dX3_howManyOpen_12 (by decide) (fun c12 => ?_) (fun c12 => absurd (nI_le (by omega) (by omega)) c12)
      refine lv_iload_n hx hb dX3_howManyOpen_41 rfl (lv_at hl 1 rfl) ?_
      exact ro_i hx hb hr hlocks hq dX3_howManyOpen_42 (by rw [← he]; rfl)
    | succ r ih =>
      intro i y hi he ls hl
      refine lv_iload_n hx hb dX3_howManyOpen_4 rfl (lv_at hl 2 rfl) ?_
      refine lv_aload_n hx hb dX3_howManyOpen_5 rfl (lv_at hl 0 rfl) ?_
      refine va_get (D := D) (ci := 3) (v := .ref (q 5 1)) (C := RX3) (T := TX3) (N := 3) hx hb hts inX3 hown hK (hP.mem bG_o) 0 rfl rfl 0 (by decide) (hts _ wd_1_146) (fun _ h9 => h9) rfl dX3_howManyOpen_6 ?_
      refine ro_V (rest := [.int (nI i)]) (st1 := [.int (nI n), .int (nI i)]) (As := []) ⟨hx, hb, hml, hown, hts⟩ Gd0 trivial hS hK (c_Jx4a65c_size_8abf5 l D k (q 5 1) (if n = 0 then dz else q 5 3) d1 n) mi_Jx4a65c_size_8abf5 wd_2_147 wd_2_148 wd_2_146 ⟨Nat.le_of_ble_eq_true rfl, Nat.le_of_ble_eq_true rfl⟩ (hP.mem bG_l) 0 rfl rfl rfl hl.1 rfl (Nat.le_of_ble_eq_true rfl) rfl ⟨Nat.le_of_ble_eq_true rfl, Nat.le_of_ble_eq_true rfl⟩ dX3_howManyOpen_9 ?_
      refine lv_icmp_ge (tgt := 41) hx hb dX3_howManyOpen_12 (by decide) (fun c12 => absurd c12 (nI_ge (by omega) (by omega))) (fun c12 => ?_)
      refine lv_aload_n hx hb dX3_howManyOpen_15 rfl (lv_at hl 0 rfl) ?_
      refine va_get (D := D) (ci := 3) (v := .ref (q 5 1)) (C := RX3) (T := TX3) (N := 3) hx hb hts inX3 hown hK (hP.mem bG_o) 0 rfl rfl 0 (by decide) (hts _ wd_1_146) (fun _ h9 => h9) rfl dX3_howManyOpen_16 ?_
      refine lv_iload_n hx hb dX3_howManyOpen_19 rfl (lv_at hl 2 rfl) ?_
      refine ro_V (rest := []) (st1 := [.ref (q 0 i)]) (As := [.int (nI i)]) ⟨hx, hb, hml, hown, hts⟩ Gd0 trivial hS hK (c_Jx4a65c_get_915e3 l D k (q 5 1) (q 5 3) d1 n (capOf n) (q 0) i (by omega) (capOf_ok _).1 (by have := (capOf_ok n).2.1; omega)) mi_Jx4a65c_get_915e3 wd_2_155 wd_2_156 wd_2_154 ⟨Nat.le_of_ble_eq_true rfl, Nat.le_of_ble_eq_true rfl⟩ (hP.mem2 (bG_lp (by omega)) (bG_la (by omega))) 0 rfl rfl rfl hl.1 rfl (Nat.le_of_ble_eq_true rfl) rfl ⟨Nat.le_of_ble_eq_true rfl, Nat.le_of_ble_eq_true rfl⟩ dX3_howManyOpen_20 ?_
      refine va_castS hx hb hown (hts _ wd_2_166) (hK.1 4 _ rfl).2 (va_recv hK (hP.mem (bG_L (i := i) (by omega))) (q0 := 0) rfl rfl) dX3_howManyOpen_23 ?_
      refine va_get (D := D) (ci := 4) (v := .int (ga i 16)) (C := RX4) (T := TX4) (N := 18) hx hb hts inX4 hown hK (hP.mem (bG_L (i := i) (by omega))) 0 rfl rfl 16 (by decide) (hts _ wd_3_71) (fun _ h9 => h9) rfl dX3_howManyOpen_26 ?_
      refine lv_if_ne (tgt := 35) hx hb dX3_howManyOpen_29 (by decide) (fun c29 => ?_) (fun c29 => ?_)
      · refine lv_iinc (v := nI (i + 1)) (lv' := [(2, .int (nI (i + 1))), (0, .ref (q 5 0)), (1, .int y)]) hx hb dX3_howManyOpen_35 hl (k := 2) rfl (nI_1 _) (by decide) rfl (fun ls hl => ?_)
        refine lv_goto (tgt := 4) hx hb dX3_howManyOpen_38 (by decide) ?_
        exact ih (i + 1) y (by omega) (by rw [← he]; simp only [lp, col, if_neg c29]) ls (lv_sub hl [1, 2, 0] rfl)
      · refine lv_iinc (v := y + 1) (lv' := [(1, .int (y + 1)), (0, .ref (q 5 0)), (2, .int (nI i))]) hx hb dX3_howManyOpen_32 hl (k := 1) rfl (rfl) (by decide) rfl (fun ls hl => ?_)
        refine lv_iinc (v := nI (i + 1)) (lv' := [(2, .int (nI (i + 1))), (1, .int (y + 1)), (0, .ref (q 5 0))]) hx hb dX3_howManyOpen_35 hl (k := 2) rfl (nI_1 _) (by decide) rfl (fun ls hl => ?_)
        refine lv_goto (tgt := 4) hx hb dX3_howManyOpen_38 (by decide) ?_
        exact ih (i + 1) (y + 1) (by omega) (by rw [← he]; simp only [lp, col, if_pos c29]) ls (lv_sub hl [2, 1, 0] rfl)
  refine lv_iconst (v := 0) hx hb dX3_howManyOpen_0 (by decide) ?_
  refine lv_istore_n (lv' := [(1, .int 0), (0, .ref (q 5 0))]) hx hb dX3_howManyOpen_1 rfl hl (by decide) rfl (fun ls hl => ?_)
  refine lv_iconst (v := 0) hx hb dX3_howManyOpen_2 (by decide) ?_
  refine lv_istore_n (lv' := [(2, .int 0), (1, .int 0), (0, .ref (q 5 0))]) hx hb dX3_howManyOpen_3 rfl hl (by decide) rfl (fun ls hl => ?_)
  exact L n 0 0 (by omega) (rfl) ls (lv_sub hl [2, 1, 0] rfl)
set_option maxHeartbeats 4000000 in
set_option maxRecDepth 100000 in
theorem c_X3_openLoanOf (l : Launch) (D : va_G) (k : Nat → ClassId) (dz : Nat) (q : Nat → Nat → Nat) (n : Nat) (gt : Nat → Int64) (gn : Nat → Nat) (gr : Nat → Nat → Nat → Int32) (ga : Nat → Nat → Int32) (lost : Int32) (mm : Nat) (gc : Nat → Nat → Int32) (gl : Nat → Nat) (d1 d2 : Int32) (x : Int32) (hn : n ≤ 100) (hm : mm ≤ 600) : Ro l yX3_openLoanOf cX3_openLoanOf 3 (some (.object "LoanChest$Loan")) 3 D (TY k) G0 [.ref (q 5 0), .int x] (bG k dz q n gt gn gr ga lost mm gc gl d1 d2) (some (oR (q 0) (fOpen (col ga 1) (col ga 16) x n))) := by
  refine ro_body (by decide +kernel) (Nat.le_of_ble_eq_true rfl) ?_
  intro p e s m args below meth c_ Q hx hb hml hown hts hK hP hS hG hr hq hlocks ls hl
  replace hl : lv_has ls 3 [(0, .ref (q 5 0)), (1, .int x)] := hl
  change s.vm.findClass RX3 = some m.cls at hown
  have L : ∀ (r i : Nat), i + r = n → oR (q 0) (fnd (fun i => decide (col ga 1 i = x) && decide (col ga 16 i = 0)) r i) = oR (q 0) (fOpen (col ga 1) (col ga 16) x n) → ∀ (ls : Array Slot), lv_has ls 3 [(0, .ref (q 5 0)), (1, .int x), (2, .int (nI i))] → W p l e (rmd 3 0 0) s m args below meth c_ s.heap [] 0 0 Q (F0 m 2 ls []) := by
    intro r
    induction r with
    | zero =>
      intro i hi he ls hl
      refine lv_iload_n hx hb dX3_openLoanOf_2 rfl (lv_at hl 2 rfl) ?_
      refine lv_aload_n hx hb dX3_openLoanOf_3 rfl (lv_at hl 0 rfl) ?_
      refine va_get (D := D) (ci := 3) (v := .ref (q 5 1)) (C := RX3) (T := TX3) (N := 3) hx hb hts inX3 hown hK (hP.mem bG_o) 0 rfl rfl 0 (by decide) (hts _ wd_1_146) (fun _ h9 => h9) rfl dX3_openLoanOf_4 ?_
      refine ro_V (rest := [.int (nI i)]) (st1 := [.int (nI n), .int (nI i)]) (As := []) ⟨hx, hb, hml, hown, hts⟩ Gd0 trivial hS hK (c_Jx4a65c_size_8abf5 l D k (q 5 1) (if n = 0 then dz else q 5 3) d1 n) mi_Jx4a65c_size_8abf5 wd_2_147 wd_2_148 wd_2_146 ⟨Nat.le_of_ble_eq_true rfl, Nat.le_of_ble_eq_true rfl⟩ (hP.mem bG_l) 0 rfl rfl rfl hl.1 rfl (Nat.le_of_ble_eq_true rfl) rfl ⟨Nat.le_of_ble_eq_true rfl, Nat.le_of_ble_eq_true rfl⟩ dX3_openLoanOf_7 ?_
      refine lv_icmp_ge (tgt := 49) hx hb dX3_openLoanOf_10 (by decide) (fun c10 => ?_) (fun c10 => absurd (nI_le (by omega) (by omega)) c10)
      refine lv_null hx hb dX3_openLoanOf_49 ?_
      exact ro_a hx hb hr (Or.inl ⟨_, rfl⟩) hlocks hq (Or.inl rfl) dX3_openLoanOf_50 (by rw [← he]; rfl)
    | succ r ih =>
      intro i hi he ls hl
      refine lv_iload_n hx hb dX3_openLoanOf_2 rfl (lv_at hl 2 rfl) ?_
      refine lv_aload_n hx hb dX3_openLoanOf_3 rfl (lv_at hl 0 rfl) ?_
      refine va_get (D := D) (ci := 3) (v := .ref (q 5 1)) (C := RX3) (T := TX3) (N := 3) hx hb hts inX3 hown hK (hP.mem bG_o) 0 rfl rfl 0 (by decide) (hts _ wd_1_146) (fun _ h9 => h9) rfl dX3_openLoanOf_4 ?_
      refine ro_V (rest := [.int (nI i)]) (st1 := [.int (nI n), .int (nI i)]) (As := []) ⟨hx, hb, hml, hown, hts⟩ Gd0 trivial hS hK (c_Jx4a65c_size_8abf5 l D k (q 5 1) (if n = 0 then dz else q 5 3) d1 n) mi_Jx4a65c_size_8abf5 wd_2_147 wd_2_148 wd_2_146 ⟨Nat.le_of_ble_eq_true rfl, Nat.le_of_ble_eq_true rfl⟩ (hP.mem bG_l) 0 rfl rfl rfl hl.1 rfl (Nat.le_of_ble_eq_true rfl) rfl ⟨Nat.le_of_ble_eq_true rfl, Nat.le_of_ble_eq_true rfl⟩ dX3_openLoanOf_7 ?_
      refine lv_icmp_ge (tgt := 49) hx hb dX3_openLoanOf_10 (by decide) (fun c10 => absurd c10 (nI_ge (by omega) (by omega))) (fun c10 => ?_)
      refine lv_aload_n hx hb dX3_openLoanOf_13 rfl (lv_at hl 0 rfl) ?_
      refine va_get (D := D) (ci := 3) (v := .ref (q 5 1)) (C := RX3) (T := TX3) (N := 3) hx hb hts inX3 hown hK (hP.mem bG_o) 0 rfl rfl 0 (by decide) (hts _ wd_1_146) (fun _ h9 => h9) rfl dX3_openLoanOf_14 ?_
      refine lv_iload_n hx hb dX3_openLoanOf_17 rfl (lv_at hl 2 rfl) ?_
      refine ro_V (rest := []) (st1 := [.ref (q 0 i)]) (As := [.int (nI i)]) ⟨hx, hb, hml, hown, hts⟩ Gd0 trivial hS hK (c_Jx4a65c_get_915e3 l D k (q 5 1) (q 5 3) d1 n (capOf n) (q 0) i (by omega) (capOf_ok _).1 (by have := (capOf_ok n).2.1; omega)) mi_Jx4a65c_get_915e3 wd_2_155 wd_2_156 wd_2_154 ⟨Nat.le_of_ble_eq_true rfl, Nat.le_of_ble_eq_true rfl⟩ (hP.mem2 (bG_lp (by omega)) (bG_la (by omega))) 0 rfl rfl rfl hl.1 rfl (Nat.le_of_ble_eq_true rfl) rfl ⟨Nat.le_of_ble_eq_true rfl, Nat.le_of_ble_eq_true rfl⟩ dX3_openLoanOf_18 ?_
      refine va_castS hx hb hown (hts _ wd_2_166) (hK.1 4 _ rfl).2 (va_recv hK (hP.mem (bG_L (i := i) (by omega))) (q0 := 0) rfl rfl) dX3_openLoanOf_21 ?_
      refine lv_iload_n hx hb dX3_openLoanOf_24 rfl (lv_at hl 1 rfl) ?_
      refine ro_V (rest := []) (st1 := [.int (bI (decide (ga i 16 = 0) && decide (ga i 1 = x)))]) (As := [.int x]) ⟨hx, hb, hml, hown, hts⟩ Gd0 trivial hS hK (c_X4_isOpenOf l D k (q 0 i) (ga i) (q 1 i) (q 2 i) (q 3 i) (gt i) x) mi_X4_isOpenOf wd_2_168 wd_2_169 wd_2_167 ⟨Nat.le_of_ble_eq_true rfl, Nat.le_of_ble_eq_true rfl⟩ ((hP.mem (bG_L (i := i) (by omega)))) 0 rfl rfl rfl hl.1 rfl (Nat.le_of_ble_eq_true rfl) rfl ⟨Nat.le_of_ble_eq_true rfl, Nat.le_of_ble_eq_true rfl⟩ dX3_openLoanOf_25 ?_
      refine lv_if_eq (tgt := 43) hx hb dX3_openLoanOf_28 (by decide) (fun c28 => ?_) (fun c28 => ?_)
      · replace c28 : (decide (ga i 16 = 0) && decide (ga i 1 = x)) = false := bI_0.mp c28
        refine lv_iinc (v := nI (i + 1)) (lv' := [(2, .int (nI (i + 1))), (0, .ref (q 5 0)), (1, .int x)]) hx hb dX3_openLoanOf_43 hl (k := 2) rfl (nI_1 _) (by decide) rfl (fun ls hl => ?_)
        refine lv_goto (tgt := 2) hx hb dX3_openLoanOf_46 (by decide) ?_
        exact ih (i + 1)  (by omega) (by rw [← he, fnd, if_neg (show ¬ ((decide (ga i 1 = x) && decide (ga i 16 = 0)) = true) by rw [Bool.and_comm, c28]; decide)]) ls (lv_sub hl [1, 2, 0] rfl)
      · replace c28 : (decide (ga i 16 = 0) && decide (ga i 1 = x)) = true := bI_n.mp c28
        refine lv_aload_n hx hb dX3_openLoanOf_31 rfl (lv_at hl 0 rfl) ?_
        refine va_get (D := D) (ci := 3) (v := .ref (q 5 1)) (C := RX3) (T := TX3) (N := 3) hx hb hts inX3 hown hK (hP.mem bG_o) 0 rfl rfl 0 (by decide) (hts _ wd_1_146) (fun _ h9 => h9) rfl dX3_openLoanOf_32 ?_
        refine lv_iload_n hx hb dX3_openLoanOf_35 rfl (lv_at hl 2 rfl) ?_
        refine ro_V (rest := []) (st1 := [.ref (q 0 i)]) (As := [.int (nI i)]) ⟨hx, hb, hml, hown, hts⟩ Gd0 trivial hS hK (c_Jx4a65c_get_915e3 l D k (q 5 1) (q 5 3) d1 n (capOf n) (q 0) i (by omega) (capOf_ok _).1 (by have := (capOf_ok n).2.1; omega)) mi_Jx4a65c_get_915e3 wd_2_155 wd_2_156 wd_2_154 ⟨Nat.le_of_ble_eq_true rfl, Nat.le_of_ble_eq_true rfl⟩ (hP.mem2 (bG_lp (by omega)) (bG_la (by omega))) 0 rfl rfl rfl hl.1 rfl (Nat.le_of_ble_eq_true rfl) rfl ⟨Nat.le_of_ble_eq_true rfl, Nat.le_of_ble_eq_true rfl⟩ dX3_openLoanOf_36 ?_
        refine va_castS hx hb hown (hts _ wd_2_166) (hK.1 4 _ rfl).2 (va_recv hK (hP.mem (bG_L (i := i) (by omega))) (q0 := 0) rfl rfl) dX3_openLoanOf_39 ?_
        exact ro_a hx hb hr (Or.inl ⟨_, rfl⟩) hlocks hq (Or.inr ⟨_, rfl⟩) dX3_openLoanOf_42 (by rw [← he, fnd, if_pos (show (decide (ga i 1 = x) && decide (ga i 16 = 0)) = true by rw [Bool.and_comm]; exact c28)]; rfl)
  refine lv_iconst (v := 0) hx hb dX3_openLoanOf_0 (by decide) ?_
  refine lv_istore_n (lv' := [(2, .int 0), (0, .ref (q 5 0)), (1, .int x)]) hx hb dX3_openLoanOf_1 rfl hl (by decide) rfl (fun ls hl => ?_)
  exact L n 0 (by omega) (rfl) ls (lv_sub hl [1, 2, 0] rfl)
set_option maxHeartbeats 4000000 in
set_option maxRecDepth 100000 in
theorem c_X3_calledLoansOf (l : Launch) (D : va_G) (k : Nat → ClassId) (dz : Nat) (q : Nat → Nat → Nat) (n : Nat) (gt : Nat → Int64) (gn : Nat → Nat) (gr : Nat → Nat → Nat → Int32) (ga : Nat → Nat → Int32) (lost : Int32) (mm : Nat) (gc : Nat → Nat → Int32) (gl : Nat → Nat) (d1 d2 : Int32) (x : Int32) (hn : n ≤ 100) (hm : mm ≤ 600) : Ro l yX3_calledLoansOf cX3_calledLoansOf 4 (some .int) 3 D (TY k) G0 [.ref (q 5 0), .int x] (bG k dz q n gt gn gr ga lost mm gc gl d1 d2) (some (.int (fCalled (col ga 1) (col ga 16) x n))) := by
  refine ro_body (by decide +kernel) (Nat.le_of_ble_eq_true rfl) ?_
  intro p e s m args below meth c_ Q hx hb hml hown hts hK hP hS hG hr hq hlocks ls hl
  replace hl : lv_has ls 4 [(0, .ref (q 5 0)), (1, .int x)] := hl
  change s.vm.findClass RX3 = some m.cls at hown
  have L : ∀ (r i : Nat) (y : Int32), i + r = n → lp (fun i s => if col ga 1 i = x then (if col ga 16 i = 2 then s + 1 else s) else s) r i y = fCalled (col ga 1) (col ga 16) x n → ∀ (ls : Array Slot), lv_has ls 4 [(0, .ref (q 5 0)), (1, .int x), (2, .int y), (3, .int (nI i))] → W p l e (rmd 3 0 0) s m args below meth c_ s.heap [] 0 0 Q (F0 m 4 ls []) := by
    intro r
    induction r with
    | zero =>
      intro i y hi he ls hl
      refine lv_iload_n hx hb dX3_calledLoansOf_4 rfl (lv_at hl 3 rfl) ?_
      refine lv_aload_n hx hb dX3_calledLoansOf_5 rfl (lv_at hl 0 rfl) ?_
      refine va_get (D := D) (ci := 3) (v := .ref (q 5 1)) (C := RX3) (T := TX3) (N := 3) hx hb hts inX3 hown hK (hP.mem bG_o) 0 rfl rfl 0 (by decide) (hts _ wd_1_146) (fun _ h9 => h9) rfl dX3_calledLoansOf_6 ?_
      refine ro_V (rest := [.int (nI i)]) (st1 := [.int (nI n), .int (nI i)]) (As := []) ⟨hx, hb, hml, hown, hts⟩ Gd0 trivial hS hK (c_Jx4a65c_size_8abf5 l D k (q 5 1) (if n = 0 then dz else q 5 3) d1 n) mi_Jx4a65c_size_8abf5 wd_2_147 wd_2_148 wd_2_146 ⟨Nat.le_of_ble_eq_true rfl, Nat.le_of_ble_eq_true rfl⟩ (hP.mem bG_l) 0 rfl rfl rfl hl.1 rfl (Nat.le_of_ble_eq_true rfl) rfl ⟨Nat.le_of_ble_eq_true rfl, Nat.le_of_ble_eq_true rfl⟩ dX3_calledLoansOf_9 ?_
      refine lv_icmp_ge (tgt := 60) hx hb dX3_calledLoansOf_12 (by decide) (fun c12 => ?_) (fun c12 => absurd (nI_le (by omega) (by omega)) c12)
      refine lv_iload_n hx hb dX3_calledLoansOf_60 rfl (lv_at hl 2 rfl) ?_
      exact ro_i hx hb hr hlocks hq dX3_calledLoansOf_61 (by rw [← he]; rfl)
    | succ r ih =>
      intro i y hi he ls hl
      refine lv_iload_n hx hb dX3_calledLoansOf_4 rfl (lv_at hl 3 rfl) ?_
      refine lv_aload_n hx hb dX3_calledLoansOf_5 rfl (lv_at hl 0 rfl) ?_
      refine va_get (D := D) (ci := 3) (v := .ref (q 5 1)) (C := RX3) (T := TX3) (N := 3) hx hb hts inX3 hown hK (hP.mem bG_o) 0 rfl rfl 0 (by decide) (hts _ wd_1_146) (fun _ h9 => h9) rfl dX3_calledLoansOf_6 ?_
      refine ro_V (rest := [.int (nI i)]) (st1 := [.int (nI n), .int (nI i)]) (As := []) ⟨hx, hb, hml, hown, hts⟩ Gd0 trivial hS hK (c_Jx4a65c_size_8abf5 l D k (q 5 1) (if n = 0 then dz else q 5 3) d1 n) mi_Jx4a65c_size_8abf5 wd_2_147 wd_2_148 wd_2_146 ⟨Nat.le_of_ble_eq_true rfl, Nat.le_of_ble_eq_true rfl⟩ (hP.mem bG_l) 0 rfl rfl rfl hl.1 rfl (Nat.le_of_ble_eq_true rfl) rfl ⟨Nat.le_of_ble_eq_true rfl, Nat.le_of_ble_eq_true rfl⟩ dX3_calledLoansOf_9 ?_
      refine lv_icmp_ge (tgt := 60) hx hb dX3_calledLoansOf_12 (by decide) (fun c12 => absurd c12 (nI_ge (by omega) (by omega))) (fun c12 => ?_)
      refine lv_aload_n hx hb dX3_calledLoansOf_15 rfl (lv_at hl 0 rfl) ?_
      refine va_get (D := D) (ci := 3) (v := .ref (q 5 1)) (C := RX3) (T := TX3) (N := 3) hx hb hts inX3 hown hK (hP.mem bG_o) 0 rfl rfl 0 (by decide) (hts _ wd_1_146) (fun _ h9 => h9) rfl dX3_calledLoansOf_16 ?_
      refine lv_iload_n hx hb dX3_calledLoansOf_19 rfl (lv_at hl 3 rfl) ?_
      refine ro_V (rest := []) (st1 := [.ref (q 0 i)]) (As := [.int (nI i)]) ⟨hx, hb, hml, hown, hts⟩ Gd0 trivial hS hK (c_Jx4a65c_get_915e3 l D k (q 5 1) (q 5 3) d1 n (capOf n) (q 0) i (by omega) (capOf_ok _).1 (by have := (capOf_ok n).2.1; omega)) mi_Jx4a65c_get_915e3 wd_2_155 wd_2_156 wd_2_154 ⟨Nat.le_of_ble_eq_true rfl, Nat.le_of_ble_eq_true rfl⟩ (hP.mem2 (bG_lp (by omega)) (bG_la (by omega))) 0 rfl rfl rfl hl.1 rfl (Nat.le_of_ble_eq_true rfl) rfl ⟨Nat.le_of_ble_eq_true rfl, Nat.le_of_ble_eq_true rfl⟩ dX3_calledLoansOf_20 ?_
      refine va_castS hx hb hown (hts _ wd_2_166) (hK.1 4 _ rfl).2 (va_recv hK (hP.mem (bG_L (i := i) (by omega))) (q0 := 0) rfl rfl) dX3_calledLoansOf_23 ?_
      refine va_get (D := D) (ci := 4) (v := .int (ga i 1)) (C := RX4) (T := TX4) (N := 18) hx hb hts inX4 hown hK (hP.mem (bG_L (i := i) (by omega))) 0 rfl rfl 1 (by decide) (hts _ wd_3_34) (fun _ h9 => h9) rfl dX3_calledLoansOf_26 ?_
      refine lv_iload_n hx hb dX3_calledLoansOf_29 rfl (lv_at hl 1 rfl) ?_
      refine lv_icmp_ne (tgt := 54) hx hb dX3_calledLoansOf_30 (by decide) (fun c30 => ?_) (fun c30 => ?_)
      · refine lv_iinc (v := nI (i + 1)) (lv' := [(3, .int (nI (i + 1))), (0, .ref (q 5 0)), (1, .int x), (2, .int y)]) hx hb dX3_calledLoansOf_54 hl (k := 3) rfl (nI_1 _) (by decide) rfl (fun ls hl => ?_)
        refine lv_goto (tgt := 4) hx hb dX3_calledLoansOf_57 (by decide) ?_
        exact ih (i + 1) y (by omega) (by rw [← he]; simp only [lp, col, if_neg c30]) ls (lv_sub hl [1, 2, 3, 0] rfl)
      · refine lv_aload_n hx hb dX3_calledLoansOf_33 rfl (lv_at hl 0 rfl) ?_
        refine va_get (D := D) (ci := 3) (v := .ref (q 5 1)) (C := RX3) (T := TX3) (N := 3) hx hb hts inX3 hown hK (hP.mem bG_o) 0 rfl rfl 0 (by decide) (hts _ wd_1_146) (fun _ h9 => h9) rfl dX3_calledLoansOf_34 ?_
        refine lv_iload_n hx hb dX3_calledLoansOf_37 rfl (lv_at hl 3 rfl) ?_
        refine ro_V (rest := []) (st1 := [.ref (q 0 i)]) (As := [.int (nI i)]) ⟨hx, hb, hml, hown, hts⟩ Gd0 trivial hS hK (c_Jx4a65c_get_915e3 l D k (q 5 1) (q 5 3) d1 n (capOf n) (q 0) i (by omega) (capOf_ok _).1 (by have := (capOf_ok n).2.1; omega)) mi_Jx4a65c_get_915e3 wd_2_155 wd_2_156 wd_2_154 ⟨Nat.le_of_ble_eq_true rfl, Nat.le_of_ble_eq_true rfl⟩ (hP.mem2 (bG_lp (by omega)) (bG_la (by omega))) 0 rfl rfl rfl hl.1 rfl (Nat.le_of_ble_eq_true rfl) rfl ⟨Nat.le_of_ble_eq_true rfl, Nat.le_of_ble_eq_true rfl⟩ dX3_calledLoansOf_38 ?_
        refine va_castS hx hb hown (hts _ wd_2_166) (hK.1 4 _ rfl).2 (va_recv hK (hP.mem (bG_L (i := i) (by omega))) (q0 := 0) rfl rfl) dX3_calledLoansOf_41 ?_
        refine va_get (D := D) (ci := 4) (v := .int (ga i 16)) (C := RX4) (T := TX4) (N := 18) hx hb hts inX4 hown hK (hP.mem (bG_L (i := i) (by omega))) 0 rfl rfl 16 (by decide) (hts _ wd_3_71) (fun _ h9 => h9) rfl dX3_calledLoansOf_44 ?_
        refine lv_iconst (v := 2) hx hb dX3_calledLoansOf_47 (by decide) ?_
        refine lv_icmp_ne (tgt := 54) hx hb dX3_calledLoansOf_48 (by decide) (fun c48 => ?_) (fun c48 => ?_)
        · refine lv_iinc (v := nI (i + 1)) (lv' := [(3, .int (nI (i + 1))), (0, .ref (q 5 0)), (1, .int x), (2, .int y)]) hx hb dX3_calledLoansOf_54 hl (k := 3) rfl (nI_1 _) (by decide) rfl (fun ls hl => ?_)
          refine lv_goto (tgt := 4) hx hb dX3_calledLoansOf_57 (by decide) ?_
          exact ih (i + 1) y (by omega) (by rw [← he]; simp only [lp, col, if_pos c30, if_neg c48]) ls (lv_sub hl [1, 2, 3, 0] rfl)
        · refine lv_iinc (v := y + 1) (lv' := [(2, .int (y + 1)), (0, .ref (q 5 0)), (1, .int x), (3, .int (nI i))]) hx hb dX3_calledLoansOf_51 hl (k := 2) rfl (rfl) (by decide) rfl (fun ls hl => ?_)
          refine lv_iinc (v := nI (i + 1)) (lv' := [(3, .int (nI (i + 1))), (2, .int (y + 1)), (0, .ref (q 5 0)), (1, .int x)]) hx hb dX3_calledLoansOf_54 hl (k := 3) rfl (nI_1 _) (by decide) rfl (fun ls hl => ?_)
          refine lv_goto (tgt := 4) hx hb dX3_calledLoansOf_57 (by decide) ?_
          exact ih (i + 1) (y + 1) (by omega) (by rw [← he]; simp only [lp, col, if_pos c30, if_pos c48]) ls (lv_sub hl [2, 3, 1, 0] rfl)
  refine lv_iconst (v := 0) hx hb dX3_calledLoansOf_0 (by decide) ?_
  refine lv_istore_n (lv' := [(2, .int 0), (0, .ref (q 5 0)), (1, .int x)]) hx hb dX3_calledLoansOf_1 rfl hl (by decide) rfl (fun ls hl => ?_)
  refine lv_iconst (v := 0) hx hb dX3_calledLoansOf_2 (by decide) ?_
  refine lv_istore_n (lv' := [(3, .int 0), (2, .int 0), (0, .ref (q 5 0)), (1, .int x)]) hx hb dX3_calledLoansOf_3 rfl hl (by decide) rfl (fun ls hl => ?_)
  exact L n 0 0 (by omega) (rfl) ls (lv_sub hl [2, 3, 1, 0] rfl)
def cStands (st : Nat → Int32) (gt : Nat → Int64) (x : Int32) (n : Nat) : Int32 := lp (fun i s => if cOpS (st i) (gt i) x = false then s else s + 1) n 0 0
set_option maxHeartbeats 4000000 in
set_option maxRecDepth 100000 in
theorem c_X3_standsFor (l : Launch) (D : va_G) (k : Nat → ClassId) (kz : Nat) (ke sK sV : Nat → Nat) (dz : Nat) (q : Nat → Nat → Nat) (n : Nat) (gt : Nat → Int64) (gn : Nat → Nat) (gr : Nat → Nat → Nat → Int32) (ga : Nat → Nat → Int32) (lost : Int32) (mm : Nat) (gc : Nat → Nat → Int32) (gl : Nat → Nat) (d1 d2 : Int32) (x : Int32) (hn : n ≤ 100) (hm : mm ≤ 600) : Ro l yX3_standsFor cX3_standsFor 4 (some .int) 3 D (TY k) (GK kz ke sK sV) [.ref (q 5 0), .int x] (bG k dz q n gt gn gr ga lost mm gc gl d1 d2) (some (.int (cStands (col ga 16) gt x n))) := by
  refine ro_body (by decide +kernel) (Nat.le_of_ble_eq_true rfl) ?_
  intro p e s m args below meth c_ Q hx hb hml hown hts hK hP hS hG hr hq hlocks ls hl
  replace hl : lv_has ls 4 [(0, .ref (q 5 0)), (1, .int x)] := hl
  change s.vm.findClass RX3 = some m.cls at hown
  have L : ∀ (r i : Nat) (y : Int32), i + r = n → lp (fun i s => if cOpS (col ga 16 i) (gt i) x = false then s else s + 1) r i y = cStands (col ga 16) gt x n → ∀ (ls : Array Slot), lv_has ls 4 [(0, .ref (q 5 0)), (1, .int x), (2, .int y), (3, .int (nI i))] → W p l e (rmd 3 0 0) s m args below meth c_ s.heap [] 0 0 Q (F0 m 4 ls []) := by
    intro r
    induction r with
    | zero =>
      intro i y hi he ls hl
      refine lv_iload_n hx hb dX3_standsFor_4 rfl (lv_at hl 3 rfl) ?_
      refine lv_aload_n hx hb dX3_standsFor_5 rfl (lv_at hl 0 rfl) ?_
      refine va_get (D := D) (ci := 3) (v := .ref (q 5 1)) (C := RX3) (T := TX3) (N := 3) hx hb hts inX3 hown hK (hP.mem bG_o) 0 rfl rfl 0 (by decide) (hts _ wd_1_146) (fun _ h9 => h9) rfl dX3_standsFor_6 ?_
      refine ro_V (rest := [.int (nI i)]) (st1 := [.int (nI n), .int (nI i)]) (As := []) ⟨hx, hb, hml, hown, hts⟩ Gd0 trivial hS hK (c_Jx4a65c_size_8abf5 l D k (q 5 1) (if n = 0 then dz else q 5 3) d1 n) mi_Jx4a65c_size_8abf5 wd_2_147 wd_2_148 wd_2_146 ⟨Nat.le_of_ble_eq_true rfl, Nat.le_of_ble_eq_true rfl⟩ (hP.mem bG_l) 0 rfl rfl rfl hl.1 rfl (Nat.le_of_ble_eq_true rfl) rfl ⟨Nat.le_of_ble_eq_true rfl, Nat.le_of_ble_eq_true rfl⟩ dX3_standsFor_9 ?_
      refine lv_icmp_ge (tgt := 42) hx hb dX3_standsFor_12 (by decide) (fun c12 => ?_) (fun c12 => absurd (nI_le (by omega) (by omega)) c12)
      refine lv_iload_n hx hb dX3_standsFor_42 rfl (lv_at hl 2 rfl) ?_
      exact ro_i hx hb hr hlocks hq dX3_standsFor_43 (by rw [← he]; rfl)
    | succ r ih =>
      intro i y hi he ls hl
      refine lv_iload_n hx hb dX3_standsFor_4 rfl (lv_at hl 3 rfl) ?_
      refine lv_aload_n hx hb dX3_standsFor_5 rfl (lv_at hl 0 rfl) ?_
      refine va_get (D := D) (ci := 3) (v := .ref (q 5 1)) (C := RX3) (T := TX3) (N := 3) hx hb hts inX3 hown hK (hP.mem bG_o) 0 rfl rfl 0 (by decide) (hts _ wd_1_146) (fun _ h9 => h9) rfl dX3_standsFor_6 ?_
      refine ro_V (rest := [.int (nI i)]) (st1 := [.int (nI n), .int (nI i)]) (As := []) ⟨hx, hb, hml, hown, hts⟩ Gd0 trivial hS hK (c_Jx4a65c_size_8abf5 l D k (q 5 1) (if n = 0 then dz else q 5 3) d1 n) mi_Jx4a65c_size_8abf5 wd_2_147 wd_2_148 wd_2_146 ⟨Nat.le_of_ble_eq_true rfl, Nat.le_of_ble_eq_true rfl⟩ (hP.mem bG_l) 0 rfl rfl rfl hl.1 rfl (Nat.le_of_ble_eq_true rfl) rfl ⟨Nat.le_of_ble_eq_true rfl, Nat.le_of_ble_eq_true rfl⟩ dX3_standsFor_9 ?_
      refine lv_icmp_ge (tgt := 42) hx hb dX3_standsFor_12 (by decide) (fun c12 => absurd c12 (nI_ge (by omega) (by omega))) (fun c12 => ?_)
      refine lv_aload_n hx hb dX3_standsFor_15 rfl (lv_at hl 0 rfl) ?_
      refine va_get (D := D) (ci := 3) (v := .ref (q 5 1)) (C := RX3) (T := TX3) (N := 3) hx hb hts inX3 hown hK (hP.mem bG_o) 0 rfl rfl 0 (by decide) (hts _ wd_1_146) (fun _ h9 => h9) rfl dX3_standsFor_16 ?_
      refine lv_iload_n hx hb dX3_standsFor_19 rfl (lv_at hl 3 rfl) ?_
      refine ro_V (rest := []) (st1 := [.ref (q 0 i)]) (As := [.int (nI i)]) ⟨hx, hb, hml, hown, hts⟩ Gd0 trivial hS hK (c_Jx4a65c_get_915e3 l D k (q 5 1) (q 5 3) d1 n (capOf n) (q 0) i (by omega) (capOf_ok _).1 (by have := (capOf_ok n).2.1; omega)) mi_Jx4a65c_get_915e3 wd_2_155 wd_2_156 wd_2_154 ⟨Nat.le_of_ble_eq_true rfl, Nat.le_of_ble_eq_true rfl⟩ (hP.mem2 (bG_lp (by omega)) (bG_la (by omega))) 0 rfl rfl rfl hl.1 rfl (Nat.le_of_ble_eq_true rfl) rfl ⟨Nat.le_of_ble_eq_true rfl, Nat.le_of_ble_eq_true rfl⟩ dX3_standsFor_20 ?_
      refine va_castS hx hb hown (hts _ wd_2_166) (hK.1 4 _ rfl).2 (va_recv hK (hP.mem (bG_L (i := i) (by omega))) (q0 := 0) rfl rfl) dX3_standsFor_23 ?_
      refine lv_iload_n hx hb dX3_standsFor_26 rfl (lv_at hl 1 rfl) ?_
      refine ro_V (rest := []) (st1 := [.int (bI (cOpS (ga i 16) (gt i) x))]) (As := [.int x]) ⟨hx, hb, hml, hown, hts⟩ GdK hG hS hK (c_X4_isOpenWithSurety l D k kz ke sK sV (q 0 i) (ga i) (q 1 i) (q 2 i) (q 3 i) (gt i) x) mi_X4_isOpenWithSurety wd_2_209 wd_2_210 wd_2_208 ⟨Nat.le_of_ble_eq_true rfl, Nat.le_of_ble_eq_true rfl⟩ ((hP.mem (bG_L (i := i) (by omega)))) 0 rfl rfl rfl hl.1 rfl (Nat.le_of_ble_eq_true rfl) rfl ⟨Nat.le_of_ble_eq_true rfl, Nat.le_of_ble_eq_true rfl⟩ dX3_standsFor_27 ?_
      refine lv_if_eq (tgt := 36) hx hb dX3_standsFor_30 (by decide) (fun c30 => ?_) (fun c30 => ?_)
      · replace c30 : (cOpS (ga i 16) (gt i) x) = false := bI_0.mp c30
        refine lv_iinc (v := nI (i + 1)) (lv' := [(3, .int (nI (i + 1))), (0, .ref (q 5 0)), (1, .int x), (2, .int y)]) hx hb dX3_standsFor_36 hl (k := 3) rfl (nI_1 _) (by decide) rfl (fun ls hl => ?_)
        refine lv_goto (tgt := 4) hx hb dX3_standsFor_39 (by decide) ?_
        exact ih (i + 1) y (by omega) (by rw [← he]; show _ = lp (fun i s => if cOpS (col ga 16 i) (gt i) x = false then s else s + 1) r (i + 1) (if cOpS (ga i 16) (gt i) x = false then y else y + 1); rw [if_pos c30]) ls (lv_sub hl [1, 2, 3, 0] rfl)
      · replace c30 : (cOpS (ga i 16) (gt i) x) = true := bI_n.mp c30
        refine lv_iinc (v := y + 1) (lv' := [(2, .int (y + 1)), (0, .ref (q 5 0)), (1, .int x), (3, .int (nI i))]) hx hb dX3_standsFor_33 hl (k := 2) rfl (rfl) (by decide) rfl (fun ls hl => ?_)
        refine lv_iinc (v := nI (i + 1)) (lv' := [(3, .int (nI (i + 1))), (2, .int (y + 1)), (0, .ref (q 5 0)), (1, .int x)]) hx hb dX3_standsFor_36 hl (k := 3) rfl (nI_1 _) (by decide) rfl (fun ls hl => ?_)
        refine lv_goto (tgt := 4) hx hb dX3_standsFor_39 (by decide) ?_
        exact ih (i + 1) (y + 1) (by omega) (by rw [← he]; show _ = lp (fun i s => if cOpS (col ga 16 i) (gt i) x = false then s else s + 1) r (i + 1) (if cOpS (ga i 16) (gt i) x = false then y else y + 1); rw [if_neg (by rw [c30]; decide)]) ls (lv_sub hl [2, 3, 1, 0] rfl)
  refine lv_iconst (v := 0) hx hb dX3_standsFor_0 (by decide) ?_
  refine lv_istore_n (lv' := [(2, .int 0), (0, .ref (q 5 0)), (1, .int x)]) hx hb dX3_standsFor_1 rfl hl (by decide) rfl (fun ls hl => ?_)
  refine lv_iconst (v := 0) hx hb dX3_standsFor_2 (by decide) ?_
  refine lv_istore_n (lv' := [(3, .int 0), (2, .int 0), (0, .ref (q 5 0)), (1, .int x)]) hx hb dX3_standsFor_3 rfl hl (by decide) rfl (fun ls hl => ?_)
  exact L n 0 0 (by omega) (rfl) ls (lv_sub hl [2, 3, 1, 0] rfl)
def cWorth (st late : Int32) : Int32 := if st = 1 then -2 * late + (if late = 0 then 10 else 5) else if st = 2 then -2 * late + (-30) else -2 * late
def cChar (who st late : Nat → Int32) (x : Int32) (n : Nat) : Int32 := lp (fun i s => if who i = x then s + cWorth (st i) (late i) else s) n 0 100
def cClamp (y : Int32) : Int32 := if 0 < (if y < 200 then y else 200) then (if y < 200 then y else 200) else 0
set_option maxHeartbeats 4000000 in
set_option maxRecDepth 100000 in
theorem c_X3_worthOf (l : Launch) (D : va_G) (k : Nat → ClassId) (p_ : Nat) (F : Nat → Int32) (rs rt ra : Nat) (bt : Int64) : Ro l yX3_worthOf cX3_worthOf 2 (some .int) 0 D (TY k) G0 [.ref p_] ([cL p_ F rs rt ra bt]) (some (.int (cWorth (F 16) (F 14)))) := by
  refine ro_body (by decide +kernel) (Nat.le_of_ble_eq_true rfl) ?_
  intro p e s m args below meth c_ Q hx hb hml hown hts hK hP hS hG hr hq hlocks ls hl
  replace hl : lv_has ls 2 [(0, .ref p_)] := hl
  change s.vm.findClass RX3 = some m.cls at hown
  refine lv_bipush (v := (-2)) hx hb dX3_worthOf_0 (by decide) ?_
  refine lv_aload_n hx hb dX3_worthOf_2 rfl (lv_at hl 0 rfl) ?_
  refine va_get (D := D) (ci := 4) (v := .int (F 14)) (C := RX4) (T := TX4) (N := 18) hx hb hts inX4 hown hK hP 0 rfl rfl 14 (by decide) (hts _ wd_3_67) (fun _ h9 => h9) rfl dX3_worthOf_3 ?_
  refine lv_imul hx hb dX3_worthOf_6 ?_
  refine lv_istore_n (lv' := [(1, .int ((-2) * (F 14))), (0, .ref p_)]) hx hb dX3_worthOf_7 rfl hl (by decide) rfl (fun ls hl => ?_)
  refine lv_aload_n hx hb dX3_worthOf_8 rfl (lv_at hl 1 rfl) ?_
  refine va_get (D := D) (ci := 4) (v := .int (F 16)) (C := RX4) (T := TX4) (N := 18) hx hb hts inX4 hown hK hP 0 rfl rfl 16 (by decide) (hts _ wd_3_71) (fun _ h9 => h9) rfl dX3_worthOf_9 ?_
  refine lv_iconst (v := 1) hx hb dX3_worthOf_12 (by decide) ?_
  refine lv_icmp_ne (tgt := 35) hx hb dX3_worthOf_13 (by decide) (fun c13 => ?_) (fun c13 => ?_)
  · refine lv_aload_n hx hb dX3_worthOf_35 rfl (lv_at hl 1 rfl) ?_
    refine va_get (D := D) (ci := 4) (v := .int (F 16)) (C := RX4) (T := TX4) (N := 18) hx hb hts inX4 hown hK hP 0 rfl rfl 16 (by decide) (hts _ wd_3_71) (fun _ h9 => h9) rfl dX3_worthOf_36 ?_
    refine lv_iconst (v := 2) hx hb dX3_worthOf_39 (by decide) ?_
    refine lv_icmp_ne (tgt := 46) hx hb dX3_worthOf_40 (by decide) (fun c40 => ?_) (fun c40 => ?_)
    · refine lv_iload_n hx hb dX3_worthOf_46 rfl (lv_at hl 0 rfl) ?_
      exact ro_i hx hb hr hlocks hq dX3_worthOf_47 (by rw [cWorth, if_neg c13, if_neg c40])
    · refine lv_iinc (v := ((-2) * (F 14)) + (-30)) (lv' := [(1, .int (((-2) * (F 14)) + (-30))), (0, .ref p_)]) hx hb dX3_worthOf_43 hl (k := 0) rfl (rfl) (by decide) rfl (fun ls hl => ?_)
      refine lv_iload_n hx hb dX3_worthOf_46 rfl (lv_at hl 0 rfl) ?_
      exact ro_i hx hb hr hlocks hq dX3_worthOf_47 (by rw [cWorth, if_neg c13, if_pos c40])
  · refine lv_iload_n hx hb dX3_worthOf_16 rfl (lv_at hl 0 rfl) ?_
    refine lv_aload_n hx hb dX3_worthOf_17 rfl (lv_at hl 1 rfl) ?_
    refine va_get (D := D) (ci := 4) (v := .int (F 14)) (C := RX4) (T := TX4) (N := 18) hx hb hts inX4 hown hK hP 0 rfl rfl 14 (by decide) (hts _ wd_3_67) (fun _ h9 => h9) rfl dX3_worthOf_18 ?_
    refine lv_if_ne (tgt := 29) hx hb dX3_worthOf_21 (by decide) (fun c21 => ?_) (fun c21 => ?_)
    · refine lv_iconst (v := 5) hx hb dX3_worthOf_29 (by decide) ?_
      refine lv_iadd hx hb dX3_worthOf_30 ?_
      refine lv_istore_n (lv' := [(1, .int (((-2) * (F 14)) + 5)), (0, .ref p_)]) hx hb dX3_worthOf_31 rfl hl (by decide) rfl (fun ls hl => ?_)
      refine lv_goto (tgt := 46) hx hb dX3_worthOf_32 (by decide) ?_
      refine lv_iload_n hx hb dX3_worthOf_46 rfl (lv_at hl 0 rfl) ?_
      exact ro_i hx hb hr hlocks hq dX3_worthOf_47 (by rw [cWorth, if_pos c13, if_neg c21])
    · refine lv_bipush (v := 10) hx hb dX3_worthOf_24 (by decide) ?_
      refine lv_goto (tgt := 30) hx hb dX3_worthOf_26 (by decide) ?_
      refine lv_iadd hx hb dX3_worthOf_30 ?_
      refine lv_istore_n (lv' := [(1, .int (((-2) * (F 14)) + 10)), (0, .ref p_)]) hx hb dX3_worthOf_31 rfl hl (by decide) rfl (fun ls hl => ?_)
      refine lv_goto (tgt := 46) hx hb dX3_worthOf_32 (by decide) ?_
      refine lv_iload_n hx hb dX3_worthOf_46 rfl (lv_at hl 0 rfl) ?_
      exact ro_i hx hb hr hlocks hq dX3_worthOf_47 (by rw [cWorth, if_pos c13, if_pos c21])
set_option maxHeartbeats 4000000 in
set_option maxRecDepth 100000 in
theorem c_X3_characterOf (l : Launch) (D : va_G) (k : Nat → ClassId) (dz : Nat) (q : Nat → Nat → Nat) (n : Nat) (gt : Nat → Int64) (gn : Nat → Nat) (gr : Nat → Nat → Nat → Int32) (ga : Nat → Nat → Int32) (lost : Int32) (mm : Nat) (gc : Nat → Nat → Int32) (gl : Nat → Nat) (d1 d2 : Int32) (x : Int32) (hn : n ≤ 100) (hm : mm ≤ 600) : Ro l yX3_characterOf cX3_characterOf 4 (some .int) 3 D (TY k) G0 [.ref (q 5 0), .int x] (bG k dz q n gt gn gr ga lost mm gc gl d1 d2) (some (.int (cClamp (cChar (col ga 1) (col ga 16) (col ga 14) x n)))) := by
  refine ro_body (by decide +kernel) (Nat.le_of_ble_eq_true rfl) ?_
  intro p e s m args below meth c_ Q hx hb hml hown hts hK hP hS hG hr hq hlocks ls hl
  replace hl : lv_has ls 4 [(0, .ref (q 5 0)), (1, .int x)] := hl
  change s.vm.findClass RX3 = some m.cls at hown
  have L : ∀ (r i : Nat) (y : Int32), i + r = n → cClamp (lp (fun i s => if col ga 1 i = x then s + cWorth (col ga 16 i) (col ga 14 i) else s) r i y) = cClamp (cChar (col ga 1) (col ga 16) (col ga 14) x n) → ∀ (ls : Array Slot), lv_has ls 4 [(0, .ref (q 5 0)), (1, .int x), (2, .int y), (3, .int (nI i))] → W p l e (rmd 3 0 0) s m args below meth c_ s.heap [] 0 0 Q (F0 m 5 ls []) := by
    intro r
    induction r with
    | zero =>
      intro i y hi he ls hl
      refine lv_iload_n hx hb dX3_characterOf_5 rfl (lv_at hl 3 rfl) ?_
      refine lv_aload_n hx hb dX3_characterOf_6 rfl (lv_at hl 0 rfl) ?_
      refine va_get (D := D) (ci := 3) (v := .ref (q 5 1)) (C := RX3) (T := TX3) (N := 3) hx hb hts inX3 hown hK (hP.mem bG_o) 0 rfl rfl 0 (by decide) (hts _ wd_1_146) (fun _ h9 => h9) rfl dX3_characterOf_7 ?_
      refine ro_V (rest := [.int (nI i)]) (st1 := [.int (nI n), .int (nI i)]) (As := []) ⟨hx, hb, hml, hown, hts⟩ Gd0 trivial hS hK (c_Jx4a65c_size_8abf5 l D k (q 5 1) (if n = 0 then dz else q 5 3) d1 n) mi_Jx4a65c_size_8abf5 wd_2_147 wd_2_148 wd_2_146 ⟨Nat.le_of_ble_eq_true rfl, Nat.le_of_ble_eq_true rfl⟩ (hP.mem bG_l) 0 rfl rfl rfl hl.1 rfl (Nat.le_of_ble_eq_true rfl) rfl ⟨Nat.le_of_ble_eq_true rfl, Nat.le_of_ble_eq_true rfl⟩ dX3_characterOf_10 ?_
      refine lv_icmp_ge (tgt := 57) hx hb dX3_characterOf_13 (by decide) (fun c13 => ?_) (fun c13 => absurd (nI_le (by omega) (by omega)) c13)
      refine lv_iconst (v := 0) hx hb dX3_characterOf_57 (by decide) ?_
      refine lv_sipush (v := 200) hx hb dX3_characterOf_58 (by decide) ?_
      refine lv_iload_n hx hb dX3_characterOf_61 rfl (lv_at hl 2 rfl) ?_
      refine va_mmin hx hb (hml.trans hl.1.symm) hown (hts _ wd_3_204) (hts _ wd_1_223) (hts _ wd_1_11) (hts _ wd_1_224) (by decide) (Nat.le_of_ble_eq_true rfl) (Nat.le_of_ble_eq_true rfl) (Nat.le_of_ble_eq_true rfl) dX3_characterOf_62 ?_
      refine va_mmax hx hb (hml.trans hl.1.symm) hown (hts _ wd_4_179) (hts _ wd_3_1) (hts _ wd_1_11) (hts _ wd_3_2) (by decide) (Nat.le_of_ble_eq_true rfl) (Nat.le_of_ble_eq_true rfl) (Nat.le_of_ble_eq_true rfl) dX3_characterOf_65 ?_
      exact ro_i hx hb hr hlocks hq dX3_characterOf_68 (by rw [← he]; rfl)
    | succ r ih =>
      intro i y hi he ls hl
      refine lv_iload_n hx hb dX3_characterOf_5 rfl (lv_at hl 3 rfl) ?_
      refine lv_aload_n hx hb dX3_characterOf_6 rfl (lv_at hl 0 rfl) ?_
      refine va_get (D := D) (ci := 3) (v := .ref (q 5 1)) (C := RX3) (T := TX3) (N := 3) hx hb hts inX3 hown hK (hP.mem bG_o) 0 rfl rfl 0 (by decide) (hts _ wd_1_146) (fun _ h9 => h9) rfl dX3_characterOf_7 ?_
      refine ro_V (rest := [.int (nI i)]) (st1 := [.int (nI n), .int (nI i)]) (As := []) ⟨hx, hb, hml, hown, hts⟩ Gd0 trivial hS hK (c_Jx4a65c_size_8abf5 l D k (q 5 1) (if n = 0 then dz else q 5 3) d1 n) mi_Jx4a65c_size_8abf5 wd_2_147 wd_2_148 wd_2_146 ⟨Nat.le_of_ble_eq_true rfl, Nat.le_of_ble_eq_true rfl⟩ (hP.mem bG_l) 0 rfl rfl rfl hl.1 rfl (Nat.le_of_ble_eq_true rfl) rfl ⟨Nat.le_of_ble_eq_true rfl, Nat.le_of_ble_eq_true rfl⟩ dX3_characterOf_10 ?_
      refine lv_icmp_ge (tgt := 57) hx hb dX3_characterOf_13 (by decide) (fun c13 => absurd c13 (nI_ge (by omega) (by omega))) (fun c13 => ?_)
      refine lv_aload_n hx hb dX3_characterOf_16 rfl (lv_at hl 0 rfl) ?_
      refine va_get (D := D) (ci := 3) (v := .ref (q 5 1)) (C := RX3) (T := TX3) (N := 3) hx hb hts inX3 hown hK (hP.mem bG_o) 0 rfl rfl 0 (by decide) (hts _ wd_1_146) (fun _ h9 => h9) rfl dX3_characterOf_17 ?_
      refine lv_iload_n hx hb dX3_characterOf_20 rfl (lv_at hl 3 rfl) ?_
      refine ro_V (rest := []) (st1 := [.ref (q 0 i)]) (As := [.int (nI i)]) ⟨hx, hb, hml, hown, hts⟩ Gd0 trivial hS hK (c_Jx4a65c_get_915e3 l D k (q 5 1) (q 5 3) d1 n (capOf n) (q 0) i (by omega) (capOf_ok _).1 (by have := (capOf_ok n).2.1; omega)) mi_Jx4a65c_get_915e3 wd_2_155 wd_2_156 wd_2_154 ⟨Nat.le_of_ble_eq_true rfl, Nat.le_of_ble_eq_true rfl⟩ (hP.mem2 (bG_lp (by omega)) (bG_la (by omega))) 0 rfl rfl rfl hl.1 rfl (Nat.le_of_ble_eq_true rfl) rfl ⟨Nat.le_of_ble_eq_true rfl, Nat.le_of_ble_eq_true rfl⟩ dX3_characterOf_21 ?_
      refine va_castS hx hb hown (hts _ wd_2_166) (hK.1 4 _ rfl).2 (va_recv hK (hP.mem (bG_L (i := i) (by omega))) (q0 := 0) rfl rfl) dX3_characterOf_24 ?_
      refine va_get (D := D) (ci := 4) (v := .int (ga i 1)) (C := RX4) (T := TX4) (N := 18) hx hb hts inX4 hown hK (hP.mem (bG_L (i := i) (by omega))) 0 rfl rfl 1 (by decide) (hts _ wd_3_34) (fun _ h9 => h9) rfl dX3_characterOf_27 ?_
      refine lv_iload_n hx hb dX3_characterOf_30 rfl (lv_at hl 1 rfl) ?_
      refine lv_icmp_ne (tgt := 51) hx hb dX3_characterOf_31 (by decide) (fun c31 => ?_) (fun c31 => ?_)
      · refine lv_iinc (v := nI (i + 1)) (lv' := [(3, .int (nI (i + 1))), (0, .ref (q 5 0)), (1, .int x), (2, .int y)]) hx hb dX3_characterOf_51 hl (k := 3) rfl (nI_1 _) (by decide) rfl (fun ls hl => ?_)
        refine lv_goto (tgt := 5) hx hb dX3_characterOf_54 (by decide) ?_
        exact ih (i + 1) y (by omega) (by rw [← he]; simp only [lp, col, if_neg c31]) ls (lv_sub hl [1, 2, 3, 0] rfl)
      · refine lv_iload_n hx hb dX3_characterOf_34 rfl (lv_at hl 2 rfl) ?_
        refine lv_aload_n hx hb dX3_characterOf_35 rfl (lv_at hl 0 rfl) ?_
        refine va_get (D := D) (ci := 3) (v := .ref (q 5 1)) (C := RX3) (T := TX3) (N := 3) hx hb hts inX3 hown hK (hP.mem bG_o) 0 rfl rfl 0 (by decide) (hts _ wd_1_146) (fun _ h9 => h9) rfl dX3_characterOf_36 ?_
        refine lv_iload_n hx hb dX3_characterOf_39 rfl (lv_at hl 3 rfl) ?_
        refine ro_V (rest := [.int y]) (st1 := [.ref (q 0 i), .int y]) (As := [.int (nI i)]) ⟨hx, hb, hml, hown, hts⟩ Gd0 trivial hS hK (c_Jx4a65c_get_915e3 l D k (q 5 1) (q 5 3) d1 n (capOf n) (q 0) i (by omega) (capOf_ok _).1 (by have := (capOf_ok n).2.1; omega)) mi_Jx4a65c_get_915e3 wd_2_155 wd_2_156 wd_2_154 ⟨Nat.le_of_ble_eq_true rfl, Nat.le_of_ble_eq_true rfl⟩ (hP.mem2 (bG_lp (by omega)) (bG_la (by omega))) 0 rfl rfl rfl hl.1 rfl (Nat.le_of_ble_eq_true rfl) rfl ⟨Nat.le_of_ble_eq_true rfl, Nat.le_of_ble_eq_true rfl⟩ dX3_characterOf_40 ?_
        refine va_castS hx hb hown (hts _ wd_2_166) (hK.1 4 _ rfl).2 (va_recv hK (hP.mem (bG_L (i := i) (by omega))) (q0 := 0) rfl rfl) dX3_characterOf_43 ?_
        refine ro_S (rest := [.int y]) (st1 := [.int (cWorth (ga i 16) (ga i 14)), .int y]) (As := [.ref (q 0 i)]) ⟨hx, hb, hml, hown, hts⟩ Gd0 trivial hS hK (c_X3_worthOf l D k (q 0 i) (ga i) (q 1 i) (q 2 i) (q 3 i) (gt i)) mi_X3_worthOf wd_4_177 wd_4_176 ⟨Nat.le_of_ble_eq_true rfl, Nat.le_of_ble_eq_true rfl⟩ ((hP.mem (bG_L (i := i) (by omega)))) rfl hl.1 rfl (Nat.le_of_ble_eq_true rfl) rfl ⟨Nat.le_of_ble_eq_true rfl, Nat.le_of_ble_eq_true rfl⟩ dX3_characterOf_46 ?_
        refine lv_iadd hx hb dX3_characterOf_49 ?_
        refine lv_istore_n (lv' := [(2, .int (y + (cWorth (ga i 16) (ga i 14)))), (0, .ref (q 5 0)), (1, .int x), (3, .int (nI i))]) hx hb dX3_characterOf_50 rfl hl (by decide) rfl (fun ls hl => ?_)
        refine lv_iinc (v := nI (i + 1)) (lv' := [(3, .int (nI (i + 1))), (2, .int (y + (cWorth (ga i 16) (ga i 14)))), (0, .ref (q 5 0)), (1, .int x)]) hx hb dX3_characterOf_51 hl (k := 3) rfl (nI_1 _) (by decide) rfl (fun ls hl => ?_)
        refine lv_goto (tgt := 5) hx hb dX3_characterOf_54 (by decide) ?_
        exact ih (i + 1) (y + (cWorth (ga i 16) (ga i 14))) (by omega) (by rw [← he]; simp only [lp, col, if_pos c31]) ls (lv_sub hl [2, 3, 1, 0] rfl)
  refine lv_bipush (v := 100) hx hb dX3_characterOf_0 (by decide) ?_
  refine lv_istore_n (lv' := [(2, .int 100), (0, .ref (q 5 0)), (1, .int x)]) hx hb dX3_characterOf_2 rfl hl (by decide) rfl (fun ls hl => ?_)
  refine lv_iconst (v := 0) hx hb dX3_characterOf_3 (by decide) ?_
  refine lv_istore_n (lv' := [(3, .int 0), (2, .int 100), (0, .ref (q 5 0)), (1, .int x)]) hx hb dX3_characterOf_4 rfl hl (by decide) rfl (fun ls hl => ?_)
  exact L n 0 100 (by omega) (rfl) ls (lv_sub hl [2, 3, 1, 0] rfl)
set_option maxHeartbeats 4000000 in
set_option maxRecDepth 100000 in
theorem c_X3_unpaidCalls (l : Launch) (D : va_G) (k : Nat → ClassId) (dz : Nat) (q : Nat → Nat → Nat) (n : Nat) (gt : Nat → Int64) (gn : Nat → Nat) (gr : Nat → Nat → Nat → Int32) (ga : Nat → Nat → Int32) (lost : Int32) (mm : Nat) (gc : Nat → Nat → Int32) (gl : Nat → Nat) (d1 d2 : Int32) (x : Int32) (hn : n ≤ 100) (hm : mm ≤ 600) : Ro l yX3_unpaidCalls cX3_unpaidCalls 4 (some .int) 3 D (TY k) G0 [.ref (q 5 0), .int x] (bG k dz q n gt gn gr ga lost mm gc gl d1 d2) (some (.int (fUnpaid (col gc 0) (leftOf gc) x mm))) := by
  refine ro_body (by decide +kernel) (Nat.le_of_ble_eq_true rfl) ?_
  intro p e s m args below meth c_ Q hx hb hml hown hts hK hP hS hG hr hq hlocks ls hl
  replace hl : lv_has ls 4 [(0, .ref (q 5 0)), (1, .int x)] := hl
  change s.vm.findClass RX3 = some m.cls at hown
  have L : ∀ (r i : Nat) (y : Int32), i + r = mm → lp (fun i s => if col gc 0 i = x then (if leftOf gc i ≤ 0 then s else s + 1) else s) r i y = fUnpaid (col gc 0) (leftOf gc) x mm → ∀ (ls : Array Slot), lv_has ls 4 [(0, .ref (q 5 0)), (1, .int x), (2, .int y), (3, .int (nI i))] → W p l e (rmd 3 0 0) s m args below meth c_ s.heap [] 0 0 Q (F0 m 4 ls []) := by
    intro r
    induction r with
    | zero =>
      intro i y hi he ls hl
      refine lv_iload_n hx hb dX3_unpaidCalls_4 rfl (lv_at hl 3 rfl) ?_
      refine lv_aload_n hx hb dX3_unpaidCalls_5 rfl (lv_at hl 0 rfl) ?_
      refine va_get (D := D) (ci := 3) (v := .ref (q 5 2)) (C := RX3) (T := TX3) (N := 3) hx hb hts inX3 hown hK (hP.mem bG_o) 0 rfl rfl 1 (by decide) (hts _ wd_1_147) (fun _ h9 => h9) rfl dX3_unpaidCalls_6 ?_
      refine ro_V (rest := [.int (nI i)]) (st1 := [.int (nI mm), .int (nI i)]) (As := []) ⟨hx, hb, hml, hown, hts⟩ Gd0 trivial hS hK (c_Jx4a65c_size_8abf5 l D k (q 5 2) (if mm = 0 then dz else q 5 4) d2 mm) mi_Jx4a65c_size_8abf5 wd_2_147 wd_2_148 wd_2_146 ⟨Nat.le_of_ble_eq_true rfl, Nat.le_of_ble_eq_true rfl⟩ (hP.mem bG_c) 0 rfl rfl rfl hl.1 rfl (Nat.le_of_ble_eq_true rfl) rfl ⟨Nat.le_of_ble_eq_true rfl, Nat.le_of_ble_eq_true rfl⟩ dX3_unpaidCalls_9 ?_
      refine lv_icmp_ge (tgt := 59) hx hb dX3_unpaidCalls_12 (by decide) (fun c12 => ?_) (fun c12 => absurd (nI_le (by omega) (by omega)) c12)
      refine lv_iload_n hx hb dX3_unpaidCalls_59 rfl (lv_at hl 2 rfl) ?_
      exact ro_i hx hb hr hlocks hq dX3_unpaidCalls_60 (by rw [← he]; rfl)
    | succ r ih =>
      intro i y hi he ls hl
      refine lv_iload_n hx hb dX3_unpaidCalls_4 rfl (lv_at hl 3 rfl) ?_
      refine lv_aload_n hx hb dX3_unpaidCalls_5 rfl (lv_at hl 0 rfl) ?_
      refine va_get (D := D) (ci := 3) (v := .ref (q 5 2)) (C := RX3) (T := TX3) (N := 3) hx hb hts inX3 hown hK (hP.mem bG_o) 0 rfl rfl 1 (by decide) (hts _ wd_1_147) (fun _ h9 => h9) rfl dX3_unpaidCalls_6 ?_
      refine ro_V (rest := [.int (nI i)]) (st1 := [.int (nI mm), .int (nI i)]) (As := []) ⟨hx, hb, hml, hown, hts⟩ Gd0 trivial hS hK (c_Jx4a65c_size_8abf5 l D k (q 5 2) (if mm = 0 then dz else q 5 4) d2 mm) mi_Jx4a65c_size_8abf5 wd_2_147 wd_2_148 wd_2_146 ⟨Nat.le_of_ble_eq_true rfl, Nat.le_of_ble_eq_true rfl⟩ (hP.mem bG_c) 0 rfl rfl rfl hl.1 rfl (Nat.le_of_ble_eq_true rfl) rfl ⟨Nat.le_of_ble_eq_true rfl, Nat.le_of_ble_eq_true rfl⟩ dX3_unpaidCalls_9 ?_
      refine lv_icmp_ge (tgt := 59) hx hb dX3_unpaidCalls_12 (by decide) (fun c12 => absurd c12 (nI_ge (by omega) (by omega))) (fun c12 => ?_)
      refine lv_aload_n hx hb dX3_unpaidCalls_15 rfl (lv_at hl 0 rfl) ?_
      refine va_get (D := D) (ci := 3) (v := .ref (q 5 2)) (C := RX3) (T := TX3) (N := 3) hx hb hts inX3 hown hK (hP.mem bG_o) 0 rfl rfl 1 (by decide) (hts _ wd_1_147) (fun _ h9 => h9) rfl dX3_unpaidCalls_16 ?_
      refine lv_iload_n hx hb dX3_unpaidCalls_19 rfl (lv_at hl 3 rfl) ?_
      refine ro_V (rest := []) (st1 := [.ref (q 4 i)]) (As := [.int (nI i)]) ⟨hx, hb, hml, hown, hts⟩ Gd0 trivial hS hK (c_Jx4a65c_get_915e3 l D k (q 5 2) (q 5 4) d2 mm (capOf mm) (q 4) i (by omega) (capOf_ok _).1 (by have := (capOf_ok mm).2.1; omega)) mi_Jx4a65c_get_915e3 wd_2_155 wd_2_156 wd_2_154 ⟨Nat.le_of_ble_eq_true rfl, Nat.le_of_ble_eq_true rfl⟩ (hP.mem2 (bG_cp (by omega)) (bG_ca (by omega))) 0 rfl rfl rfl hl.1 rfl (Nat.le_of_ble_eq_true rfl) rfl ⟨Nat.le_of_ble_eq_true rfl, Nat.le_of_ble_eq_true rfl⟩ dX3_unpaidCalls_20 ?_
      refine va_castS hx hb hown (hts _ wd_2_179) (hK.1 1 _ rfl).2 (va_recv hK (hP.mem (bG_K (i := i) (by omega))) (q0 := 0) rfl rfl) dX3_unpaidCalls_23 ?_
      refine va_get (D := D) (ci := 1) (v := .int (gc i 0)) (C := RX0) (T := TX0) (N := 4) hx hb hts inX0 hown hK (hP.mem (bG_K (i := i) (by omega))) 0 rfl rfl 0 (by decide) (hts _ wd_4_19) (fun _ h9 => h9) rfl dX3_unpaidCalls_26 ?_
      refine lv_iload_n hx hb dX3_unpaidCalls_29 rfl (lv_at hl 1 rfl) ?_
      refine lv_icmp_ne (tgt := 53) hx hb dX3_unpaidCalls_30 (by decide) (fun c30 => ?_) (fun c30 => ?_)
      · refine lv_iinc (v := nI (i + 1)) (lv' := [(3, .int (nI (i + 1))), (0, .ref (q 5 0)), (1, .int x), (2, .int y)]) hx hb dX3_unpaidCalls_53 hl (k := 3) rfl (nI_1 _) (by decide) rfl (fun ls hl => ?_)
        refine lv_goto (tgt := 4) hx hb dX3_unpaidCalls_56 (by decide) ?_
        exact ih (i + 1) y (by omega) (by rw [← he]; simp only [lp, col, leftOf, if_neg c30]) ls (lv_sub hl [1, 2, 3, 0] rfl)
      · refine lv_aload_n hx hb dX3_unpaidCalls_33 rfl (lv_at hl 0 rfl) ?_
        refine va_get (D := D) (ci := 3) (v := .ref (q 5 2)) (C := RX3) (T := TX3) (N := 3) hx hb hts inX3 hown hK (hP.mem bG_o) 0 rfl rfl 1 (by decide) (hts _ wd_1_147) (fun _ h9 => h9) rfl dX3_unpaidCalls_34 ?_
        refine lv_iload_n hx hb dX3_unpaidCalls_37 rfl (lv_at hl 3 rfl) ?_
        refine ro_V (rest := []) (st1 := [.ref (q 4 i)]) (As := [.int (nI i)]) ⟨hx, hb, hml, hown, hts⟩ Gd0 trivial hS hK (c_Jx4a65c_get_915e3 l D k (q 5 2) (q 5 4) d2 mm (capOf mm) (q 4) i (by omega) (capOf_ok _).1 (by have := (capOf_ok mm).2.1; omega)) mi_Jx4a65c_get_915e3 wd_2_155 wd_2_156 wd_2_154 ⟨Nat.le_of_ble_eq_true rfl, Nat.le_of_ble_eq_true rfl⟩ (hP.mem2 (bG_cp (by omega)) (bG_ca (by omega))) 0 rfl rfl rfl hl.1 rfl (Nat.le_of_ble_eq_true rfl) rfl ⟨Nat.le_of_ble_eq_true rfl, Nat.le_of_ble_eq_true rfl⟩ dX3_unpaidCalls_38 ?_
        refine va_castS hx hb hown (hts _ wd_2_179) (hK.1 1 _ rfl).2 (va_recv hK (hP.mem (bG_K (i := i) (by omega))) (q0 := 0) rfl rfl) dX3_unpaidCalls_41 ?_
        refine ro_V (rest := []) (st1 := [.int (gc i 2 - gc i 3)]) (As := []) ⟨hx, hb, hml, hown, hts⟩ Gd0 trivial hS hK (c_X0_rest l D k (q 4 i) (gc i 0) (q 0 (gl i)) (gc i 2) (gc i 3)) mi_X0_rest wd_2_181 wd_2_182 wd_2_180 ⟨Nat.le_of_ble_eq_true rfl, Nat.le_of_ble_eq_true rfl⟩ ((hP.mem (bG_K (i := i) (by omega)))) 0 rfl rfl rfl hl.1 rfl (Nat.le_of_ble_eq_true rfl) rfl ⟨Nat.le_of_ble_eq_true rfl, Nat.le_of_ble_eq_true rfl⟩ dX3_unpaidCalls_44 ?_
        refine lv_if_le (tgt := 53) hx hb dX3_unpaidCalls_47 (by decide) (fun c47 => ?_) (fun c47 => ?_)
        · refine lv_iinc (v := nI (i + 1)) (lv' := [(3, .int (nI (i + 1))), (0, .ref (q 5 0)), (1, .int x), (2, .int y)]) hx hb dX3_unpaidCalls_53 hl (k := 3) rfl (nI_1 _) (by decide) rfl (fun ls hl => ?_)
          refine lv_goto (tgt := 4) hx hb dX3_unpaidCalls_56 (by decide) ?_
          exact ih (i + 1) y (by omega) (by rw [← he]; simp only [lp, col, leftOf, if_pos c30, if_pos c47]) ls (lv_sub hl [1, 2, 3, 0] rfl)
        · refine lv_iinc (v := y + 1) (lv' := [(2, .int (y + 1)), (0, .ref (q 5 0)), (1, .int x), (3, .int (nI i))]) hx hb dX3_unpaidCalls_50 hl (k := 2) rfl (rfl) (by decide) rfl (fun ls hl => ?_)
          refine lv_iinc (v := nI (i + 1)) (lv' := [(3, .int (nI (i + 1))), (2, .int (y + 1)), (0, .ref (q 5 0)), (1, .int x)]) hx hb dX3_unpaidCalls_53 hl (k := 3) rfl (nI_1 _) (by decide) rfl (fun ls hl => ?_)
          refine lv_goto (tgt := 4) hx hb dX3_unpaidCalls_56 (by decide) ?_
          exact ih (i + 1) (y + 1) (by omega) (by rw [← he]; simp only [lp, col, leftOf, if_pos c30, if_neg c47]) ls (lv_sub hl [2, 3, 1, 0] rfl)
  refine lv_iconst (v := 0) hx hb dX3_unpaidCalls_0 (by decide) ?_
  refine lv_istore_n (lv' := [(2, .int 0), (0, .ref (q 5 0)), (1, .int x)]) hx hb dX3_unpaidCalls_1 rfl hl (by decide) rfl (fun ls hl => ?_)
  refine lv_iconst (v := 0) hx hb dX3_unpaidCalls_2 (by decide) ?_
  refine lv_istore_n (lv' := [(3, .int 0), (2, .int 0), (0, .ref (q 5 0)), (1, .int x)]) hx hb dX3_unpaidCalls_3 rfl hl (by decide) rfl (fun ls hl => ?_)
  exact L mm 0 0 (by omega) (rfl) ls (lv_sub hl [2, 3, 1, 0] rfl)
set_option maxHeartbeats 4000000 in
set_option maxRecDepth 100000 in
theorem c_X3_owedByCalls (l : Launch) (D : va_G) (k : Nat → ClassId) (dz : Nat) (q : Nat → Nat → Nat) (n : Nat) (gt : Nat → Int64) (gn : Nat → Nat) (gr : Nat → Nat → Nat → Int32) (ga : Nat → Nat → Int32) (lost : Int32) (mm : Nat) (gc : Nat → Nat → Int32) (gl : Nat → Nat) (d1 d2 : Int32) (x : Int32) (hn : n ≤ 100) (hm : mm ≤ 600) : Ro l yX3_owedByCalls cX3_owedByCalls 4 (some .int) 3 D (TY k) G0 [.ref (q 5 0), .int x] (bG k dz q n gt gn gr ga lost mm gc gl d1 d2) (some (.int (fCallsOf (col gc 0) (leftOf gc) x mm))) := by
  refine ro_body (by decide +kernel) (Nat.le_of_ble_eq_true rfl) ?_
  intro p e s m args below meth c_ Q hx hb hml hown hts hK hP hS hG hr hq hlocks ls hl
  replace hl : lv_has ls 4 [(0, .ref (q 5 0)), (1, .int x)] := hl
  change s.vm.findClass RX3 = some m.cls at hown
  have L : ∀ (r i : Nat) (y : Int32), i + r = mm → lp (fun i s => if col gc 0 i = x then s + leftOf gc i else s) r i y = fCallsOf (col gc 0) (leftOf gc) x mm → ∀ (ls : Array Slot), lv_has ls 4 [(0, .ref (q 5 0)), (1, .int x), (2, .int y), (3, .int (nI i))] → W p l e (rmd 3 0 0) s m args below meth c_ s.heap [] 0 0 Q (F0 m 4 ls []) := by
    intro r
    induction r with
    | zero =>
      intro i y hi he ls hl
      refine lv_iload_n hx hb dX3_owedByCalls_4 rfl (lv_at hl 3 rfl) ?_
      refine lv_aload_n hx hb dX3_owedByCalls_5 rfl (lv_at hl 0 rfl) ?_
      refine va_get (D := D) (ci := 3) (v := .ref (q 5 2)) (C := RX3) (T := TX3) (N := 3) hx hb hts inX3 hown hK (hP.mem bG_o) 0 rfl rfl 1 (by decide) (hts _ wd_1_147) (fun _ h9 => h9) rfl dX3_owedByCalls_6 ?_
      refine ro_V (rest := [.int (nI i)]) (st1 := [.int (nI mm), .int (nI i)]) (As := []) ⟨hx, hb, hml, hown, hts⟩ Gd0 trivial hS hK (c_Jx4a65c_size_8abf5 l D k (q 5 2) (if mm = 0 then dz else q 5 4) d2 mm) mi_Jx4a65c_size_8abf5 wd_2_147 wd_2_148 wd_2_146 ⟨Nat.le_of_ble_eq_true rfl, Nat.le_of_ble_eq_true rfl⟩ (hP.mem bG_c) 0 rfl rfl rfl hl.1 rfl (Nat.le_of_ble_eq_true rfl) rfl ⟨Nat.le_of_ble_eq_true rfl, Nat.le_of_ble_eq_true rfl⟩ dX3_owedByCalls_9 ?_
      refine lv_icmp_ge (tgt := 56) hx hb dX3_owedByCalls_12 (by decide) (fun c12 => ?_) (fun c12 => absurd (nI_le (by omega) (by omega)) c12)
      refine lv_iload_n hx hb dX3_owedByCalls_56 rfl (lv_at hl 2 rfl) ?_
      exact ro_i hx hb hr hlocks hq dX3_owedByCalls_57 (by rw [← he]; rfl)
    | succ r ih =>
      intro i y hi he ls hl
      refine lv_iload_n hx hb dX3_owedByCalls_4 rfl (lv_at hl 3 rfl) ?_
      refine lv_aload_n hx hb dX3_owedByCalls_5 rfl (lv_at hl 0 rfl) ?_
      refine va_get (D := D) (ci := 3) (v := .ref (q 5 2)) (C := RX3) (T := TX3) (N := 3) hx hb hts inX3 hown hK (hP.mem bG_o) 0 rfl rfl 1 (by decide) (hts _ wd_1_147) (fun _ h9 => h9) rfl dX3_owedByCalls_6 ?_
      refine ro_V (rest := [.int (nI i)]) (st1 := [.int (nI mm), .int (nI i)]) (As := []) ⟨hx, hb, hml, hown, hts⟩ Gd0 trivial hS hK (c_Jx4a65c_size_8abf5 l D k (q 5 2) (if mm = 0 then dz else q 5 4) d2 mm) mi_Jx4a65c_size_8abf5 wd_2_147 wd_2_148 wd_2_146 ⟨Nat.le_of_ble_eq_true rfl, Nat.le_of_ble_eq_true rfl⟩ (hP.mem bG_c) 0 rfl rfl rfl hl.1 rfl (Nat.le_of_ble_eq_true rfl) rfl ⟨Nat.le_of_ble_eq_true rfl, Nat.le_of_ble_eq_true rfl⟩ dX3_owedByCalls_9 ?_
      refine lv_icmp_ge (tgt := 56) hx hb dX3_owedByCalls_12 (by decide) (fun c12 => absurd c12 (nI_ge (by omega) (by omega))) (fun c12 => ?_)
      refine lv_aload_n hx hb dX3_owedByCalls_15 rfl (lv_at hl 0 rfl) ?_
      refine va_get (D := D) (ci := 3) (v := .ref (q 5 2)) (C := RX3) (T := TX3) (N := 3) hx hb hts inX3 hown hK (hP.mem bG_o) 0 rfl rfl 1 (by decide) (hts _ wd_1_147) (fun _ h9 => h9) rfl dX3_owedByCalls_16 ?_
      refine lv_iload_n hx hb dX3_owedByCalls_19 rfl (lv_at hl 3 rfl) ?_
      refine ro_V (rest := []) (st1 := [.ref (q 4 i)]) (As := [.int (nI i)]) ⟨hx, hb, hml, hown, hts⟩ Gd0 trivial hS hK (c_Jx4a65c_get_915e3 l D k (q 5 2) (q 5 4) d2 mm (capOf mm) (q 4) i (by omega) (capOf_ok _).1 (by have := (capOf_ok mm).2.1; omega)) mi_Jx4a65c_get_915e3 wd_2_155 wd_2_156 wd_2_154 ⟨Nat.le_of_ble_eq_true rfl, Nat.le_of_ble_eq_true rfl⟩ (hP.mem2 (bG_cp (by omega)) (bG_ca (by omega))) 0 rfl rfl rfl hl.1 rfl (Nat.le_of_ble_eq_true rfl) rfl ⟨Nat.le_of_ble_eq_true rfl, Nat.le_of_ble_eq_true rfl⟩ dX3_owedByCalls_20 ?_
      refine va_castS hx hb hown (hts _ wd_2_179) (hK.1 1 _ rfl).2 (va_recv hK (hP.mem (bG_K (i := i) (by omega))) (q0 := 0) rfl rfl) dX3_owedByCalls_23 ?_
      refine va_get (D := D) (ci := 1) (v := .int (gc i 0)) (C := RX0) (T := TX0) (N := 4) hx hb hts inX0 hown hK (hP.mem (bG_K (i := i) (by omega))) 0 rfl rfl 0 (by decide) (hts _ wd_4_19) (fun _ h9 => h9) rfl dX3_owedByCalls_26 ?_
      refine lv_iload_n hx hb dX3_owedByCalls_29 rfl (lv_at hl 1 rfl) ?_
      refine lv_icmp_ne (tgt := 50) hx hb dX3_owedByCalls_30 (by decide) (fun c30 => ?_) (fun c30 => ?_)
      · refine lv_iinc (v := nI (i + 1)) (lv' := [(3, .int (nI (i + 1))), (0, .ref (q 5 0)), (1, .int x), (2, .int y)]) hx hb dX3_owedByCalls_50 hl (k := 3) rfl (nI_1 _) (by decide) rfl (fun ls hl => ?_)
        refine lv_goto (tgt := 4) hx hb dX3_owedByCalls_53 (by decide) ?_
        exact ih (i + 1) y (by omega) (by rw [← he]; simp only [lp, col, leftOf, if_neg c30]) ls (lv_sub hl [1, 2, 3, 0] rfl)
      · refine lv_iload_n hx hb dX3_owedByCalls_33 rfl (lv_at hl 2 rfl) ?_
        refine lv_aload_n hx hb dX3_owedByCalls_34 rfl (lv_at hl 0 rfl) ?_
        refine va_get (D := D) (ci := 3) (v := .ref (q 5 2)) (C := RX3) (T := TX3) (N := 3) hx hb hts inX3 hown hK (hP.mem bG_o) 0 rfl rfl 1 (by decide) (hts _ wd_1_147) (fun _ h9 => h9) rfl dX3_owedByCalls_35 ?_
        refine lv_iload_n hx hb dX3_owedByCalls_38 rfl (lv_at hl 3 rfl) ?_
        refine ro_V (rest := [.int y]) (st1 := [.ref (q 4 i), .int y]) (As := [.int (nI i)]) ⟨hx, hb, hml, hown, hts⟩ Gd0 trivial hS hK (c_Jx4a65c_get_915e3 l D k (q 5 2) (q 5 4) d2 mm (capOf mm) (q 4) i (by omega) (capOf_ok _).1 (by have := (capOf_ok mm).2.1; omega)) mi_Jx4a65c_get_915e3 wd_2_155 wd_2_156 wd_2_154 ⟨Nat.le_of_ble_eq_true rfl, Nat.le_of_ble_eq_true rfl⟩ (hP.mem2 (bG_cp (by omega)) (bG_ca (by omega))) 0 rfl rfl rfl hl.1 rfl (Nat.le_of_ble_eq_true rfl) rfl ⟨Nat.le_of_ble_eq_true rfl, Nat.le_of_ble_eq_true rfl⟩ dX3_owedByCalls_39 ?_
        refine va_castS hx hb hown (hts _ wd_2_179) (hK.1 1 _ rfl).2 (va_recv hK (hP.mem (bG_K (i := i) (by omega))) (q0 := 0) rfl rfl) dX3_owedByCalls_42 ?_
        refine ro_V (rest := [.int y]) (st1 := [.int (gc i 2 - gc i 3), .int y]) (As := []) ⟨hx, hb, hml, hown, hts⟩ Gd0 trivial hS hK (c_X0_rest l D k (q 4 i) (gc i 0) (q 0 (gl i)) (gc i 2) (gc i 3)) mi_X0_rest wd_2_181 wd_2_182 wd_2_180 ⟨Nat.le_of_ble_eq_true rfl, Nat.le_of_ble_eq_true rfl⟩ ((hP.mem (bG_K (i := i) (by omega)))) 0 rfl rfl rfl hl.1 rfl (Nat.le_of_ble_eq_true rfl) rfl ⟨Nat.le_of_ble_eq_true rfl, Nat.le_of_ble_eq_true rfl⟩ dX3_owedByCalls_45 ?_
        refine lv_iadd hx hb dX3_owedByCalls_48 ?_
        refine lv_istore_n (lv' := [(2, .int (y + (gc i 2 - gc i 3))), (0, .ref (q 5 0)), (1, .int x), (3, .int (nI i))]) hx hb dX3_owedByCalls_49 rfl hl (by decide) rfl (fun ls hl => ?_)
        refine lv_iinc (v := nI (i + 1)) (lv' := [(3, .int (nI (i + 1))), (2, .int (y + (gc i 2 - gc i 3))), (0, .ref (q 5 0)), (1, .int x)]) hx hb dX3_owedByCalls_50 hl (k := 3) rfl (nI_1 _) (by decide) rfl (fun ls hl => ?_)
        refine lv_goto (tgt := 4) hx hb dX3_owedByCalls_53 (by decide) ?_
        exact ih (i + 1) (y + (gc i 2 - gc i 3)) (by omega) (by rw [← he]; simp only [lp, col, leftOf, if_pos c30]) ls (lv_sub hl [2, 3, 1, 0] rfl)
  refine lv_iconst (v := 0) hx hb dX3_owedByCalls_0 (by decide) ?_
  refine lv_istore_n (lv' := [(2, .int 0), (0, .ref (q 5 0)), (1, .int x)]) hx hb dX3_owedByCalls_1 rfl hl (by decide) rfl (fun ls hl => ?_)
  refine lv_iconst (v := 0) hx hb dX3_owedByCalls_2 (by decide) ?_
  refine lv_istore_n (lv' := [(3, .int 0), (2, .int 0), (0, .ref (q 5 0)), (1, .int x)]) hx hb dX3_owedByCalls_3 rfl hl (by decide) rfl (fun ls hl => ?_)
  exact L mm 0 0 (by omega) (rfl) ls (lv_sub hl [2, 3, 1, 0] rfl)
