theorem atO_lt {x : Int32} {n j : Nat} (h : atO x n = some j) (hn : n < 2 ^ 31) : j < n := by
  unfold atO at h
  by_cases c : isIn x n = true
  · rw [if_pos c] at h
    cases h
    exact (isIn_spec c hn).2
  · rw [if_neg c] at h
    cases h
def cRest (a : Nat → Int32) : Int32 := a 2 - a 11 + a 12 - a 13
def cDebt (n : Nat) (ga : Nat → Nat → Int32) (mm : Nat) (gc : Nat → Nat → Int32) (x : Int32) : Int32 := fCallsOf (col gc 0) (leftOf gc) x mm + (match fOpen (col ga 1) (col ga 16) x n with | none => 0 | some j => cRest (ga j))
set_option maxHeartbeats 4000000 in
set_option maxRecDepth 100000 in
theorem c_X3_debtOf (l : Launch) (D : va_G) (k : Nat → ClassId) (dz : Nat) (q : Nat → Nat → Nat) (n : Nat) (gt : Nat → Int64) (gn : Nat → Nat) (gr : Nat → Nat → Nat → Int32) (ga : Nat → Nat → Int32) (lost : Int32) (mm : Nat) (gc : Nat → Nat → Int32) (gl : Nat → Nat) (d1 d2 : Int32) (x : Int32) (hn : n ≤ 100) (hm : mm ≤ 600) : Ro l yX3_debtOf cX3_debtOf 3 (some .int) 4 D (TY k) G0 [.ref (q 5 0), .int x] (bG k dz q n gt gn gr ga lost mm gc gl d1 d2) (some (.int (cDebt n ga mm gc x))) := by
  refine ro_body (by decide +kernel) (Nat.le_of_ble_eq_true rfl) ?_
  intro p e s m args below meth c_ Q hx hb hml hown hts hK hP hS hG hr hq hlocks ls hl
  replace hl : lv_has ls 3 [(0, .ref (q 5 0)), (1, .int x)] := hl
  change s.vm.findClass RX3 = some m.cls at hown
  refine lv_aload_n hx hb dX3_debtOf_0 rfl (lv_at hl 0 rfl) ?_
  refine lv_iload_n hx hb dX3_debtOf_1 rfl (lv_at hl 1 rfl) ?_
  refine ro_V (rest := []) (st1 := oR (q 0) (fOpen (col ga 1) (col ga 16) x n) :: []) (As := [.int x]) ⟨hx, hb, hml, hown, hts⟩ Gd0 trivial hS hK (c_X3_openLoanOf l D k dz q n gt gn gr ga lost mm gc gl d1 d2 x hn hm) mi_X3_openLoanOf wd_2_151 wd_2_152 wd_3_188 ⟨Nat.le_of_ble_eq_true rfl, Nat.le_of_ble_eq_true rfl⟩ (hP) 0 rfl rfl rfl hl.1 rfl (Nat.le_of_ble_eq_true rfl) rfl ⟨Nat.le_of_ble_eq_true rfl, Nat.le_of_ble_eq_true rfl⟩ dX3_debtOf_2 ?_
  cases o2 : fOpen (col ga 1) (col ga 16) x n with
  | none =>
    refine W.eq (g2 := F0 m 5 ls [.null]) rfl ?_
    refine lv_astore_nN (lv' := [(2, .null), (0, .ref (q 5 0)), (1, .int x)]) hx hb dX3_debtOf_5 rfl hl (by decide) rfl (fun ls hl => ?_)
    refine lv_aload_n hx hb dX3_debtOf_6 rfl (lv_at hl 1 rfl) ?_
    refine lv_iload_n hx hb dX3_debtOf_7 rfl (lv_at hl 2 rfl) ?_
    refine ro_V (rest := []) (st1 := [.int (fCallsOf (col gc 0) (leftOf gc) x mm)]) (As := [.int x]) ⟨hx, hb, hml, hown, hts⟩ Gd0 trivial hS hK (c_X3_owedByCalls l D k dz q n gt gn gr ga lost mm gc gl d1 d2 x hn hm) mi_X3_owedByCalls wd_3_190 wd_3_191 wd_3_189 ⟨Nat.le_of_ble_eq_true rfl, Nat.le_of_ble_eq_true rfl⟩ (hP) 0 rfl rfl rfl hl.1 rfl (Nat.le_of_ble_eq_true rfl) rfl ⟨Nat.le_of_ble_eq_true rfl, Nat.le_of_ble_eq_true rfl⟩ dX3_debtOf_8 ?_
    refine lv_aload_nN hx hb dX3_debtOf_11 rfl (lv_at hl 0 rfl) ?_
    refine lv_ifnonnullN hx hb dX3_debtOf_12 ?_
    refine lv_iconst (v := 0) hx hb dX3_debtOf_15 (by decide) ?_
    refine lv_goto (tgt := 23) hx hb dX3_debtOf_16 (by decide) ?_
    refine lv_iadd hx hb dX3_debtOf_23 ?_
    exact ro_i hx hb hr hlocks hq dX3_debtOf_24 (by rw [cDebt, o2]; try rfl)
  | some j2 =>
    refine W.eq (g2 := F0 m 5 ls [.ref (q 0 j2)]) rfl ?_
    have hj2 : j2 < n := by have := (fnd_lt o2).2.1; omega
    refine lv_astore_n (lv' := [(2, .ref (q 0 j2)), (0, .ref (q 5 0)), (1, .int x)]) hx hb dX3_debtOf_5 rfl hl (by decide) rfl (fun ls hl => ?_)
    refine lv_aload_n hx hb dX3_debtOf_6 rfl (lv_at hl 1 rfl) ?_
    refine lv_iload_n hx hb dX3_debtOf_7 rfl (lv_at hl 2 rfl) ?_
    refine ro_V (rest := []) (st1 := [.int (fCallsOf (col gc 0) (leftOf gc) x mm)]) (As := [.int x]) ⟨hx, hb, hml, hown, hts⟩ Gd0 trivial hS hK (c_X3_owedByCalls l D k dz q n gt gn gr ga lost mm gc gl d1 d2 x hn hm) mi_X3_owedByCalls wd_3_190 wd_3_191 wd_3_189 ⟨Nat.le_of_ble_eq_true rfl, Nat.le_of_ble_eq_true rfl⟩ (hP) 0 rfl rfl rfl hl.1 rfl (Nat.le_of_ble_eq_true rfl) rfl ⟨Nat.le_of_ble_eq_true rfl, Nat.le_of_ble_eq_true rfl⟩ dX3_debtOf_8 ?_
    refine lv_aload_n hx hb dX3_debtOf_11 rfl (lv_at hl 0 rfl) ?_
    refine lv_ifnonnull (tgt := 19) hx hb dX3_debtOf_12 (by decide) ?_
    refine lv_aload_n hx hb dX3_debtOf_19 rfl (lv_at hl 0 rfl) ?_
    refine ro_V (rest := [.int (fCallsOf (col gc 0) (leftOf gc) x mm)]) (st1 := [.int (ga j2 2 - ga j2 11 + ga j2 12 - ga j2 13), .int (fCallsOf (col gc 0) (leftOf gc) x mm)]) (As := []) ⟨hx, hb, hml, hown, hts⟩ Gd0 trivial hS hK (c_X4_rest l D k (q 0 j2) (ga j2) (q 1 j2) (q 2 j2) (q 3 j2) (gt j2)) mi_X4_rest wd_3_194 wd_3_195 wd_3_193 ⟨Nat.le_of_ble_eq_true rfl, Nat.le_of_ble_eq_true rfl⟩ ((hP.mem (bG_L (i := j2) (by omega)))) 0 rfl rfl rfl hl.1 rfl (Nat.le_of_ble_eq_true rfl) rfl ⟨Nat.le_of_ble_eq_true rfl, Nat.le_of_ble_eq_true rfl⟩ dX3_debtOf_20 ?_
    refine lv_iadd hx hb dX3_debtOf_23 ?_
    exact ro_i hx hb hr hlocks hq dX3_debtOf_24 (by rw [cDebt, o2]; try rfl)
def cSur (who st : Nat → Int32) (gt : Nat → Int64) (n : Nat) (x : Int64) : Int64 := lp (fun i s => if st i = 0 then (if x &&& cBit (who i) = 0 then s else s ||| gt i) else s) n 0 0
def cRing (who st : Nat → Int32) (gt : Nat → Int64) (n : Nat) (x : Int32) : Nat → Nat → Int64 → Int32
  | 0, _, _ => -1
  | r + 1, i, z => if z = 0 then -1 else if z &&& cBit x = 0 then cRing who st gt n x r (i + 1) (cSur who st gt n z) else nI i
set_option maxHeartbeats 4000000 in
set_option maxRecDepth 100000 in
theorem c_X3_suretiesOfAll (l : Launch) (D : va_G) (k : Nat → ClassId) (kz : Nat) (ke sK sV : Nat → Nat) (dz : Nat) (q : Nat → Nat → Nat) (n : Nat) (gt : Nat → Int64) (gn : Nat → Nat) (gr : Nat → Nat → Nat → Int32) (ga : Nat → Nat → Int32) (lost : Int32) (mm : Nat) (gc : Nat → Nat → Int32) (gl : Nat → Nat) (d1 d2 : Int32) (x : Int64) (hn : n ≤ 100) (hm : mm ≤ 600) : Ro l yX3_suretiesOfAll cX3_suretiesOfAll 7 (some .long) 3 D (TY k) (GK kz ke sK sV) [.ref (q 5 0), .long x] (bG k dz q n gt gn gr ga lost mm gc gl d1 d2) (some (.long (cSur (col ga 1) (col ga 16) gt n x))) := by
  refine ro_body (by decide +kernel) (Nat.le_of_ble_eq_true rfl) ?_
  intro p e s m args below meth c_ Q hx hb hml hown hts hK hP hS hG hr hq hlocks ls hl
  replace hl : lv_has ls 7 [(0, .ref (q 5 0)), (1, .long x)] := hl
  change s.vm.findClass RX3 = some m.cls at hown
  have L : ∀ (r i : Nat) (y : Int64), i + r = n → lp (fun i s => if col ga 16 i = 0 then (if x &&& cBit (col ga 1 i) = 0 then s else s ||| gt i) else s) r i y = cSur (col ga 1) (col ga 16) gt n x → ∀ (ls : Array Slot), lv_has ls 7 [(0, .ref (q 5 0)), (1, .long x), (3, .long y), (5, .int (nI i))] → W p l e (rmd 3 0 0) s m args below meth c_ s.heap [] 0 0 Q (F0 m 5 ls []) := by
    intro r
    induction r with
    | zero =>
      intro i y hi he ls hl
      refine lv_iload hx hb dX3_suretiesOfAll_5 (lv_at hl 3 rfl) ?_
      refine lv_aload_n hx hb dX3_suretiesOfAll_7 rfl (lv_at hl 0 rfl) ?_
      refine va_get (D := D) (ci := 3) (v := .ref (q 5 1)) (C := RX3) (T := TX3) (N := 3) hx hb hts inX3 hown hK (hP.mem bG_o) 0 rfl rfl 0 (by decide) (hts _ wd_1_146) (fun _ h9 => h9) rfl dX3_suretiesOfAll_8 ?_
      refine ro_V (rest := [.int (nI i)]) (st1 := [.int (nI n), .int (nI i)]) (As := []) ⟨hx, hb, hml, hown, hts⟩ Gd0 trivial hS hK (c_Jx4a65c_size_8abf5 l D k (q 5 1) (if n = 0 then dz else q 5 3) d1 n) mi_Jx4a65c_size_8abf5 wd_2_147 wd_2_148 wd_2_146 ⟨Nat.le_of_ble_eq_true rfl, Nat.le_of_ble_eq_true rfl⟩ (hP.mem bG_l) 0 rfl rfl rfl hl.1 rfl (Nat.le_of_ble_eq_true rfl) rfl ⟨Nat.le_of_ble_eq_true rfl, Nat.le_of_ble_eq_true rfl⟩ dX3_suretiesOfAll_11 ?_
      refine lv_icmp_ge (tgt := 68) hx hb dX3_suretiesOfAll_14 (by decide) (fun c14 => ?_) (fun c14 => absurd (nI_le (by omega) (by omega)) c14)
      refine lv_lload_n hx hb dX3_suretiesOfAll_68 rfl (lv_at hl 2 rfl) ?_
      exact ro_l hx hb hr hlocks hq dX3_suretiesOfAll_69 (by rw [← he]; rfl)
    | succ r ih =>
      intro i y hi he ls hl
      refine lv_iload hx hb dX3_suretiesOfAll_5 (lv_at hl 3 rfl) ?_
      refine lv_aload_n hx hb dX3_suretiesOfAll_7 rfl (lv_at hl 0 rfl) ?_
      refine va_get (D := D) (ci := 3) (v := .ref (q 5 1)) (C := RX3) (T := TX3) (N := 3) hx hb hts inX3 hown hK (hP.mem bG_o) 0 rfl rfl 0 (by decide) (hts _ wd_1_146) (fun _ h9 => h9) rfl dX3_suretiesOfAll_8 ?_
      refine ro_V (rest := [.int (nI i)]) (st1 := [.int (nI n), .int (nI i)]) (As := []) ⟨hx, hb, hml, hown, hts⟩ Gd0 trivial hS hK (c_Jx4a65c_size_8abf5 l D k (q 5 1) (if n = 0 then dz else q 5 3) d1 n) mi_Jx4a65c_size_8abf5 wd_2_147 wd_2_148 wd_2_146 ⟨Nat.le_of_ble_eq_true rfl, Nat.le_of_ble_eq_true rfl⟩ (hP.mem bG_l) 0 rfl rfl rfl hl.1 rfl (Nat.le_of_ble_eq_true rfl) rfl ⟨Nat.le_of_ble_eq_true rfl, Nat.le_of_ble_eq_true rfl⟩ dX3_suretiesOfAll_11 ?_
      refine lv_icmp_ge (tgt := 68) hx hb dX3_suretiesOfAll_14 (by decide) (fun c14 => absurd c14 (nI_ge (by omega) (by omega))) (fun c14 => ?_)
      refine lv_aload_n hx hb dX3_suretiesOfAll_17 rfl (lv_at hl 0 rfl) ?_
      refine va_get (D := D) (ci := 3) (v := .ref (q 5 1)) (C := RX3) (T := TX3) (N := 3) hx hb hts inX3 hown hK (hP.mem bG_o) 0 rfl rfl 0 (by decide) (hts _ wd_1_146) (fun _ h9 => h9) rfl dX3_suretiesOfAll_18 ?_
      refine lv_iload hx hb dX3_suretiesOfAll_21 (lv_at hl 3 rfl) ?_
      refine ro_V (rest := []) (st1 := [.ref (q 0 i)]) (As := [.int (nI i)]) ⟨hx, hb, hml, hown, hts⟩ Gd0 trivial hS hK (c_Jx4a65c_get_915e3 l D k (q 5 1) (q 5 3) d1 n (capOf n) (q 0) i (by omega) (capOf_ok _).1 (by have := (capOf_ok n).2.1; omega)) mi_Jx4a65c_get_915e3 wd_2_155 wd_2_156 wd_2_154 ⟨Nat.le_of_ble_eq_true rfl, Nat.le_of_ble_eq_true rfl⟩ (hP.mem2 (bG_lp (by omega)) (bG_la (by omega))) 0 rfl rfl rfl hl.1 rfl (Nat.le_of_ble_eq_true rfl) rfl ⟨Nat.le_of_ble_eq_true rfl, Nat.le_of_ble_eq_true rfl⟩ dX3_suretiesOfAll_23 ?_
      refine va_castS hx hb hown (hts _ wd_2_166) (hK.1 4 _ rfl).2 (va_recv hK (hP.mem (bG_L (i := i) (by omega))) (q0 := 0) rfl rfl) dX3_suretiesOfAll_26 ?_
      refine lv_astore (lv' := [(6, .ref (q 0 i)), (0, .ref (q 5 0)), (1, .long x), (3, .long y), (5, .int (nI i))]) hx hb dX3_suretiesOfAll_29 hl (by decide) rfl (fun ls hl => ?_)
      refine lv_aload hx hb dX3_suretiesOfAll_31 (lv_at hl 0 rfl) ?_
      refine va_get (D := D) (ci := 4) (v := .int (ga i 16)) (C := RX4) (T := TX4) (N := 18) hx hb hts inX4 hown hK (hP.mem (bG_L (i := i) (by omega))) 0 rfl rfl 16 (by decide) (hts _ wd_3_71) (fun _ h9 => h9) rfl dX3_suretiesOfAll_33 ?_
      refine lv_if_ne (tgt := 62) hx hb dX3_suretiesOfAll_36 (by decide) (fun c36 => ?_) (fun c36 => ?_)
      · refine lv_iinc (v := nI (i + 1)) (lv' := [(5, .int (nI (i + 1))), (6, .ref (q 0 i)), (0, .ref (q 5 0)), (1, .long x), (3, .long y)]) hx hb dX3_suretiesOfAll_62 hl (k := 4) rfl (nI_1 _) (by decide) rfl (fun ls hl => ?_)
        refine lv_goto (tgt := 5) hx hb dX3_suretiesOfAll_65 (by decide) ?_
        exact ih (i + 1) y (by omega) (by rw [← he]; simp only [lp, col, if_neg c36]) ls (lv_sub hl [2, 3, 4, 0] rfl)
      · refine lv_lload_n hx hb dX3_suretiesOfAll_39 rfl (lv_at hl 2 rfl) ?_
        refine lv_aload hx hb dX3_suretiesOfAll_40 (lv_at hl 0 rfl) ?_
        refine va_get (D := D) (ci := 4) (v := .int (ga i 1)) (C := RX4) (T := TX4) (N := 18) hx hb hts inX4 hown hK (hP.mem (bG_L (i := i) (by omega))) 0 rfl rfl 1 (by decide) (hts _ wd_3_34) (fun _ h9 => h9) rfl dX3_suretiesOfAll_42 ?_
        refine ro_SN (host := "LoanChest") (rest := [.long x]) (st1 := [.long (cBit (ga i 1)), .long x]) (As := [.int (ga i 1)]) ⟨hx, hb, hml, hown, hts⟩ Gd0 trivial hS hK (c_X8_bitOf l D k (ga i 1)) mi_X8_bitOf wd_2_201 hG.2.2.2.2.2.2.2.2.2.2.2.2.2.2.2.2.2.1 ⟨Nat.le_of_ble_eq_true rfl, Nat.le_of_ble_eq_true rfl⟩ (fun k9 q9 h9 => by simp at h9) rfl hl.1 rfl (Nat.le_of_ble_eq_true rfl) rfl ⟨Nat.le_of_ble_eq_true rfl, Nat.le_of_ble_eq_true rfl⟩ dX3_suretiesOfAll_45 ?_
        refine lv_land hx hb dX3_suretiesOfAll_48 ?_
        refine lv_lconst (v := 0) hx hb dX3_suretiesOfAll_49 (by decide) ?_
        refine W.lcmp hx hb dX3_suretiesOfAll_50 ?_
        refine lv_if_eq (tgt := 62) hx hb dX3_suretiesOfAll_51 (by decide) (fun c51 => ?_) (fun c51 => ?_)
        · replace c51 := lg_cmp0.mp c51
          refine lv_iinc (v := nI (i + 1)) (lv' := [(5, .int (nI (i + 1))), (6, .ref (q 0 i)), (0, .ref (q 5 0)), (1, .long x), (3, .long y)]) hx hb dX3_suretiesOfAll_62 hl (k := 4) rfl (nI_1 _) (by decide) rfl (fun ls hl => ?_)
          refine lv_goto (tgt := 5) hx hb dX3_suretiesOfAll_65 (by decide) ?_
          exact ih (i + 1) y (by omega) (by rw [← he]; simp only [lp, col, if_pos c36, if_pos c51]) ls (lv_sub hl [2, 3, 4, 0] rfl)
        · replace c51 := lg_cmpN c51
          refine lv_lload_n hx hb dX3_suretiesOfAll_54 rfl (lv_at hl 3 rfl) ?_
          refine lv_aload hx hb dX3_suretiesOfAll_55 (lv_at hl 0 rfl) ?_
          refine va_get (D := D) (ci := 4) (v := .long (gt i)) (C := RX4) (T := TX4) (N := 18) hx hb hts inX4 hown hK (hP.mem (bG_L (i := i) (by omega))) 0 rfl rfl 5 (by decide) (hts _ wd_3_47) (fun _ h9 => h9) rfl dX3_suretiesOfAll_57 ?_
          refine lv_lor hx hb dX3_suretiesOfAll_60 ?_
          refine lv_lstore_n (lv' := [(3, .long (y ||| (gt i))), (6, .ref (q 0 i)), (0, .ref (q 5 0)), (1, .long x), (5, .int (nI i))]) hx hb dX3_suretiesOfAll_61 rfl hl (by decide) rfl (fun ls hl => ?_)
          refine lv_iinc (v := nI (i + 1)) (lv' := [(5, .int (nI (i + 1))), (3, .long (y ||| (gt i))), (6, .ref (q 0 i)), (0, .ref (q 5 0)), (1, .long x)]) hx hb dX3_suretiesOfAll_62 hl (k := 4) rfl (nI_1 _) (by decide) rfl (fun ls hl => ?_)
          refine lv_goto (tgt := 5) hx hb dX3_suretiesOfAll_65 (by decide) ?_
          exact ih (i + 1) (y ||| (gt i)) (by omega) (by rw [← he]; simp only [lp, col, if_pos c36, if_neg c51]) ls (lv_sub hl [3, 4, 1, 0] rfl)
  refine lv_lconst (v := 0) hx hb dX3_suretiesOfAll_0 (by decide) ?_
  refine lv_lstore_n (lv' := [(3, .long 0), (0, .ref (q 5 0)), (1, .long x)]) hx hb dX3_suretiesOfAll_1 rfl hl (by decide) rfl (fun ls hl => ?_)
  refine lv_iconst (v := 0) hx hb dX3_suretiesOfAll_2 (by decide) ?_
  refine lv_istore (lv' := [(5, .int 0), (3, .long 0), (0, .ref (q 5 0)), (1, .long x)]) hx hb dX3_suretiesOfAll_3 hl (by decide) rfl (fun ls hl => ?_)
  exact L n 0 0 (by omega) (rfl) ls (lv_sub hl [2, 3, 1, 0] rfl)
set_option maxHeartbeats 4000000 in
set_option maxRecDepth 100000 in
theorem c_X3_shortestRing (l : Launch) (D : va_G) (k : Nat → ClassId) (kz : Nat) (ke sK sV : Nat → Nat) (dz : Nat) (q : Nat → Nat → Nat) (n : Nat) (gt : Nat → Int64) (gn : Nat → Nat) (gr : Nat → Nat → Nat → Int32) (ga : Nat → Nat → Int32) (lost : Int32) (mm : Nat) (gc : Nat → Nat → Int32) (gl : Nat → Nat) (d1 d2 : Int32) (x : Int32) (y : Int64) (hn : n ≤ 100) (hm : mm ≤ 600) : Ro l yX3_shortestRing cX3_shortestRing 7 (some .int) 4 D (TY k) (GK kz ke sK sV) [.ref (q 5 0), .int x, .long y] (bG k dz q n gt gn gr ga lost mm gc gl d1 d2) (some (.int (cRing (col ga 1) (col ga 16) gt n x 40 1 y))) := by
  refine ro_body (by decide +kernel) (Nat.le_of_ble_eq_true rfl) ?_
  intro p e s m args below meth c_ Q hx hb hml hown hts hK hP hS hG hr hq hlocks ls hl
  replace hl : lv_has ls 7 [(0, .ref (q 5 0)), (1, .int x), (2, .long y)] := hl
  change s.vm.findClass RX3 = some m.cls at hown
  have L : ∀ (r i : Nat) (z : Int64), i + r = 41 → cRing (col ga 1) (col ga 16) gt n x r i z = cRing (col ga 1) (col ga 16) gt n x 40 1 y → ∀ (ls : Array Slot), lv_has ls 7 [(0, .ref (q 5 0)), (1, .int x), (4, .long z), (6, .int (nI i))] → W p l e (rmd 4 0 0) s m args below meth c_ s.heap [] 0 0 Q (F0 m 6 ls []) := by
    intro r
    induction r with
    | zero =>
      intro i z hi he ls hl
      refine lv_iload hx hb dX3_shortestRing_6 (lv_at hl 3 rfl) ?_
      refine lv_bipush (v := 40) hx hb dX3_shortestRing_8 (by decide) ?_
      refine lv_icmp_gt (tgt := 49) hx hb dX3_shortestRing_10 (by decide) (fun c10 => ?_) (fun c10 => absurd (nI_lt (a := 40) (by omega) (by omega)) c10)
      refine lv_iconst (v := (-1)) hx hb dX3_shortestRing_49 (by decide) ?_
      exact ro_i hx hb hr hlocks hq dX3_shortestRing_50 (by rw [← he]; rfl)
    | succ r ih =>
      intro i z hi he ls hl
      refine lv_iload hx hb dX3_shortestRing_6 (lv_at hl 3 rfl) ?_
      refine lv_bipush (v := 40) hx hb dX3_shortestRing_8 (by decide) ?_
      refine lv_icmp_gt (tgt := 49) hx hb dX3_shortestRing_10 (by decide) (fun c10 => absurd c10 (nI_nlt (a := 40) (by omega) (by omega))) (fun c10 => ?_)
      refine lv_lload hx hb dX3_shortestRing_13 (lv_at hl 2 rfl) ?_
      refine lv_lconst (v := 0) hx hb dX3_shortestRing_15 (by decide) ?_
      refine W.lcmp hx hb dX3_shortestRing_16 ?_
      refine lv_if_eq (tgt := 49) hx hb dX3_shortestRing_17 (by decide) (fun c17 => ?_) (fun c17 => ?_)
      · replace c17 := lg_cmp0.mp c17
        refine lv_iconst (v := (-1)) hx hb dX3_shortestRing_49 (by decide) ?_
        exact ro_i hx hb hr hlocks hq dX3_shortestRing_50 (by rw [← he]; simp only [cRing, if_pos c17])
      · replace c17 := lg_cmpN c17
        refine lv_lload hx hb dX3_shortestRing_20 (lv_at hl 2 rfl) ?_
        refine lv_iload_n hx hb dX3_shortestRing_22 rfl (lv_at hl 1 rfl) ?_
        refine ro_SN (host := "LoanChest") (rest := [.long z]) (st1 := [.long (cBit x), .long z]) (As := [.int x]) ⟨hx, hb, hml, hown, hts⟩ Gd0 trivial hS hK (c_X8_bitOf l D k x) mi_X8_bitOf wd_2_201 hG.2.2.2.2.2.2.2.2.2.2.2.2.2.2.2.2.2.1 ⟨Nat.le_of_ble_eq_true rfl, Nat.le_of_ble_eq_true rfl⟩ (fun k9 q9 h9 => by simp at h9) rfl hl.1 rfl (Nat.le_of_ble_eq_true rfl) rfl ⟨Nat.le_of_ble_eq_true rfl, Nat.le_of_ble_eq_true rfl⟩ dX3_shortestRing_23 ?_
        refine lv_land hx hb dX3_shortestRing_26 ?_
        refine lv_lconst (v := 0) hx hb dX3_shortestRing_27 (by decide) ?_
        refine W.lcmp hx hb dX3_shortestRing_28 ?_
        refine lv_if_eq (tgt := 35) hx hb dX3_shortestRing_29 (by decide) (fun c29 => ?_) (fun c29 => ?_)
        · replace c29 := lg_cmp0.mp c29
          refine lv_aload_n hx hb dX3_shortestRing_35 rfl (lv_at hl 0 rfl) ?_
          refine lv_lload hx hb dX3_shortestRing_36 (lv_at hl 2 rfl) ?_
          refine ro_V (rest := []) (st1 := [.long (cSur (col ga 1) (col ga 16) gt n z)]) (As := [.long z]) ⟨hx, hb, hml, hown, hts⟩ GdK hG hS hK (c_X3_suretiesOfAll l D k kz ke sK sV dz q n gt gn gr ga lost mm gc gl d1 d2 z hn hm) mi_X3_suretiesOfAll wd_2_226 wp_1_14 wd_2_224 ⟨Nat.le_of_ble_eq_true rfl, Nat.le_of_ble_eq_true rfl⟩ (hP) 0 rfl rfl rfl hl.1 rfl (Nat.le_of_ble_eq_true rfl) rfl ⟨Nat.le_of_ble_eq_true rfl, Nat.le_of_ble_eq_true rfl⟩ dX3_shortestRing_38 ?_
          refine lv_lstore (lv' := [(4, .long (cSur (col ga 1) (col ga 16) gt n z)), (0, .ref (q 5 0)), (1, .int x), (6, .int (nI i))]) hx hb dX3_shortestRing_41 hl (by decide) rfl (fun ls hl => ?_)
          refine lv_iinc (v := nI (i + 1)) (lv' := [(6, .int (nI (i + 1))), (4, .long (cSur (col ga 1) (col ga 16) gt n z)), (0, .ref (q 5 0)), (1, .int x)]) hx hb dX3_shortestRing_43 hl (k := 3) rfl (nI_1 _) (by decide) rfl (fun ls hl => ?_)
          refine lv_goto (tgt := 6) hx hb dX3_shortestRing_46 (by decide) ?_
          exact ih (i + 1) (cSur (col ga 1) (col ga 16) gt n z) (by omega) (by rw [← he]; simp only [cRing, if_neg c17, if_pos c29]) ls (lv_sub hl [2, 3, 1, 0] rfl)
        · replace c29 := lg_cmpN c29
          refine lv_iload hx hb dX3_shortestRing_32 (lv_at hl 3 rfl) ?_
          exact ro_i hx hb hr hlocks hq dX3_shortestRing_34 (by rw [← he]; simp only [cRing, if_neg c17, if_neg c29])
  refine lv_lload_n hx hb dX3_shortestRing_0 rfl (lv_at hl 2 rfl) ?_
  refine lv_lstore (lv' := [(4, .long y), (0, .ref (q 5 0)), (1, .int x), (2, .long y)]) hx hb dX3_shortestRing_1 hl (by decide) rfl (fun ls hl => ?_)
  refine lv_iconst (v := 1) hx hb dX3_shortestRing_3 (by decide) ?_
  refine lv_istore (lv' := [(6, .int 1), (4, .long y), (0, .ref (q 5 0)), (1, .int x), (2, .long y)]) hx hb dX3_shortestRing_4 hl (by decide) rfl (fun ls hl => ?_)
  exact L 40 1 y (by omega) (rfl) ls (lv_sub hl [2, 3, 1, 0] rfl)
