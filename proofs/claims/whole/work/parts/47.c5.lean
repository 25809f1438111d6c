/-- the reader and the tape -/
def bRT (t y : Nat → Nat) (k : Nat → ClassId) (n : Nat) (f : Nat → Int32) (u : RSt) : va_W := bR t k u ++ bT y k (n, f)
def byteF (n : Nat) (f : Nat → Int32) (x : Int32) : Int32 := if x < 0 then -1 else if nI n ≤ x then -1 else f x.toNatClampNeg
theorem byteF_in {n : Nat} {f : Nat → Int32} {i : Nat} (h : i < n) (hn : n ≤ 320) : byteF n f (nI i) = f i := by
  rw [byteF, if_neg (nI_pos (by omega)), if_neg (nI_ge h (by omega)), nI_clamp (by omega)]
def rNum (f : Nat → Int32) (st be : Nat) : Int32 := lp (fun i s => s * 10 + f i - 48) (be - st) st 0
set_option maxHeartbeats 4000000 in
set_option maxRecDepth 100000 in
theorem c_X5_numberRead (l : Launch) (D : va_G) (k : Nat → ClassId) (t : Nat → Nat) (fm : Int32) (st be : Nat) (fk : Int32) (rd mt : Nat → Int32) (y : Nat → Nat) (n : Nat) (f : Nat → Int32) (hn : n ≤ 320) (h1 : st ≤ be) (h2 : be ≤ n) : Ro l yX5_numberRead cX5_numberRead 4 (some .int) 1 D (TY k) G0 [.ref (t 0), .ref (y 0)] (bRT t y k n f (fm, st, be, fk, rd, mt)) (some (.int (rNum f st be))) := by
  refine ro_body (by decide +kernel) (Nat.le_of_ble_eq_true rfl) ?_
  intro p e s m args below meth c_ Q hx hb hml hown hts hK hP hS hG hr hq hlocks ls hl
  replace hl : lv_has ls 4 [(0, .ref (t 0)), (1, .ref (y 0))] := hl
  change s.vm.findClass RX5 = some m.cls at hown
  have L : ∀ (r i : Nat) (w : Int32), i + r = be → lp (fun i s => s * 10 + f i - 48) r i w = rNum f st be → ∀ (ls : Array Slot), lv_has ls 4 [(0, .ref (t 0)), (1, .ref (y 0)), (2, .int w), (3, .int (nI i))] → W p l e (rmd 1 0 0) s m args below meth c_ s.heap [] 0 0 Q (F0 m 7 ls []) := by
    intro r
    induction r with
    | zero =>
      intro i w hi he ls hl
      refine lv_iload_n hx hb dX5_numberRead_7 rfl (lv_at hl 3 rfl) ?_
      refine lv_aload_n hx hb dX5_numberRead_8 rfl (lv_at hl 0 rfl) ?_
      refine va_get (D := D) (ci := 5) (v := .int (nI be)) (C := RX5) (T := TX5) (N := 6) hx hb hts inX5 hown hK hP 0 rfl rfl 4 (by decide) (hts _ wd_1_62) (fun _ h9 => h9) rfl dX5_numberRead_9 ?_
      refine lv_icmp_ge (tgt := 35) hx hb dX5_numberRead_12 (by decide) (fun c12 => ?_) (fun c12 => absurd (nI_le (by omega) (by omega)) c12)
      refine lv_iload_n hx hb dX5_numberRead_35 rfl (lv_at hl 2 rfl) ?_
      exact ro_i hx hb hr hlocks hq dX5_numberRead_36 (by rw [← he]; rfl)
    | succ r ih =>
      intro i w hi he ls hl
      refine lv_iload_n hx hb dX5_numberRead_7 rfl (lv_at hl 3 rfl) ?_
      refine lv_aload_n hx hb dX5_numberRead_8 rfl (lv_at hl 0 rfl) ?_
      refine va_get (D := D) (ci := 5) (v := .int (nI be)) (C := RX5) (T := TX5) (N := 6) hx hb hts inX5 hown hK hP 0 rfl rfl 4 (by decide) (hts _ wd_1_62) (fun _ h9 => h9) rfl dX5_numberRead_9 ?_
      refine lv_icmp_ge (tgt := 35) hx hb dX5_numberRead_12 (by decide) (fun c12 => absurd c12 (nI_ge (by omega) (by omega))) (fun c12 => ?_)
      refine lv_iload_n hx hb dX5_numberRead_15 rfl (lv_at hl 2 rfl) ?_
      refine lv_bipush (v := 10) hx hb dX5_numberRead_16 (by decide) ?_
      refine lv_imul hx hb dX5_numberRead_18 ?_
      refine lv_aload_n hx hb dX5_numberRead_19 rfl (lv_at hl 1 rfl) ?_
      refine lv_iload_n hx hb dX5_numberRead_20 rfl (lv_at hl 3 rfl) ?_
      refine ro_V (rest := [.int (w * 10)]) (st1 := [.int (byteF n f (nI i)), .int (w * 10)]) (As := [.int (nI i)]) ⟨hx, hb, hml, hown, hts⟩ Gd0 trivial hS hK (c_X7_byteAt l D k y n f (nI i) hn) mi_X7_byteAt wd_1_226 wd_1_227 wd_1_225 ⟨Nat.le_of_ble_eq_true rfl, Nat.le_of_ble_eq_true rfl⟩ (hP.sub [3, 4] rfl) 0 rfl rfl rfl hl.1 rfl (Nat.le_of_ble_eq_true rfl) rfl ⟨Nat.le_of_ble_eq_true rfl, Nat.le_of_ble_eq_true rfl⟩ dX5_numberRead_21 ?_
      refine rw_topi (y := f i) (byteF_in (by omega) hn) ?_
      refine lv_iadd hx hb dX5_numberRead_24 ?_
      refine lv_bipush (v := 48) hx hb dX5_numberRead_25 (by decide) ?_
      refine lv_isub hx hb dX5_numberRead_27 ?_
      refine lv_istore_n (lv' := [(2, .int (((w * 10) + (f i)) - 48)), (0, .ref (t 0)), (1, .ref (y 0)), (3, .int (nI i))]) hx hb dX5_numberRead_28 rfl hl (by decide) rfl (fun ls hl => ?_)
      refine lv_iinc (v := nI (i + 1)) (lv' := [(3, .int (nI (i + 1))), (2, .int (((w * 10) + (f i)) - 48)), (0, .ref (t 0)), (1, .ref (y 0))]) hx hb dX5_numberRead_29 hl (k := 3) rfl (nI_1 _) (by decide) rfl (fun ls hl => ?_)
      refine lv_goto (tgt := 7) hx hb dX5_numberRead_32 (by decide) ?_
      exact ih (i + 1) (((w * 10) + (f i)) - 48) (by omega) (by rw [← he]; rfl) ls (lv_sub hl [2, 3, 1, 0] rfl)
  refine lv_iconst (v := 0) hx hb dX5_numberRead_0 (by decide) ?_
  refine lv_istore_n (lv' := [(2, .int 0), (0, .ref (t 0)), (1, .ref (y 0))]) hx hb dX5_numberRead_1 rfl hl (by decide) rfl (fun ls hl => ?_)
  refine lv_aload_n hx hb dX5_numberRead_2 rfl (lv_at hl 1 rfl) ?_
  refine va_get (D := D) (ci := 5) (v := .int (nI st)) (C := RX5) (T := TX5) (N := 6) hx hb hts inX5 hown hK hP 0 rfl rfl 3 (by decide) (hts _ wd_1_61) (fun _ h9 => h9) rfl dX5_numberRead_3 ?_
  refine lv_istore_n (lv' := [(3, .int (nI st)), (2, .int 0), (0, .ref (t 0)), (1, .ref (y 0))]) hx hb dX5_numberRead_6 rfl hl (by decide) rfl (fun ls hl => ?_)
  exact L (be - st) st 0 (by omega) (rfl) ls (lv_sub hl [2, 3, 1, 0] rfl)
/-- (where it ends, letters, digits) -/
def rTok (f : Nat → Int32) : Nat → Nat → Nat → Nat → Nat × Nat × Nat
  | 0, i, a, b => (i, a, b)
  | r + 1, i, a, b => if isLD (f i) = true then (if dig (f i) = true then rTok f r (i + 1) a (b + 1) else rTok f r (i + 1) (a + 1) b) else (i, a, b)
theorem rTok_bd (f : Nat → Int32) : ∀ (r i a b : Nat), i ≤ (rTok f r i a b).1 ∧ (rTok f r i a b).1 ≤ i + r ∧ (rTok f r i a b).1 - i + a + b = (rTok f r i a b).2.1 + (rTok f r i a b).2.2
  | 0, i, a, b => ⟨Nat.le_refl _, Nat.le_refl _, by show i - i + a + b = a + b; omega⟩
  | r + 1, i, a, b => by
    unfold rTok
    split
    · split
      · have h := rTok_bd f r (i + 1) a (b + 1)
        omega
      · have h := rTok_bd f r (i + 1) (a + 1) b
        omega
    · exact ⟨Nat.le_refl _, by show i ≤ _; omega, by show i - i + a + b = a + b; omega⟩
def rForm (a b : Nat) : Int32 := if b = 0 then 1 else 0
def rTokU (f : Nat → Int32) (n : Nat) (u : RSt) : RSt :=
  if (rTok f (n - u.2.1) u.2.1 0 0).2.1 ≤ 0 then (if (rTok f (n - u.2.1) u.2.1 0 0).2.2 ≤ 0 then (if f u.2.1 = 59 then 3 else 0, u.2.1, u.2.1 + 1, u.2.2.2) else (if 5 < (rTok f (n - u.2.1) u.2.1 0 0).2.2 then 0 else 2, u.2.1, (rTok f (n - u.2.1) u.2.1 0 0).1, u.2.2.2)) else (if (rTok f (n - u.2.1) u.2.1 0 0).2.2 = 0 then 1 else 0, u.2.1, (rTok f (n - u.2.1) u.2.1 0 0).1, u.2.2.2)
set_option maxHeartbeats 4000000 in
set_option maxRecDepth 100000 in
theorem c_X5_readToken (l : Launch) (D : va_G) (k : Nat → ClassId) (t : Nat → Nat) (fm : Int32) (st be : Nat) (fk : Int32) (rd mt : Nat → Int32) (y : Nat → Nat) (n : Nat) (f : Nat → Int32) (hn : n ≤ 320) (h1 : st < n) : Fs (S := RSt) l yX5_readToken cX5_readToken 4 none 2 0 0 D (TY k) G0 [.ref (t 0), .ref (y 0)] (bRT t y k n f (fm, st, be, fk, rd, mt)) (fun _ => none) (fun u => u = rTokU f n (fm, st, be, fk, rd, mt)) (fun u => bRT t y k n f u) := by
  refine fs_body (by decide +kernel) (Nat.le_of_ble_eq_true rfl) ?_
  intro p e s m args below meth c_ Q A hx hb hml hown hts hK hP hD hS hA hG hin hr hq hlocks ls hl
  replace hl : lv_has ls 4 [(0, .ref (t 0)), (1, .ref (y 0))] := hl
  change s.vm.findClass RX5 = some m.cls at hown
  have J : ∀ (i : Nat) (a : Nat) (b : Nat) (H : Heap) (locs : List Loc), (i, a, b) = rTok f (n - st) st 0 0 → va_P D vwCl ([(t 0, .inr (5, [.ref (t 1), .ref (t 2), .int fm, .int (nI st), .int (nI i), .int fk])), (t 1, .inl (k 0, 9, .inl rd)), (t 2, .inl (k 1, 9, .inl mt)), (y 0, .inr (7, [.ref (y 1), .int (nI n)])), (y 1, .inl (k 0, 320, .inl f))]) H → va_D A ([(t 0, .inr (5, [.ref (t 1), .ref (t 2), .int fm, .int (nI st), .int (nI i), .int fk])), (t 1, .inl (k 0, 9, .inl rd)), (t 2, .inl (k 1, 9, .inl mt)), (y 0, .inr (7, [.ref (y 1), .int (nI n)])), (y 1, .inl (k 0, 320, .inl f))]) → va_S A s.heap H locs → ∀ (ls : Array Slot), lv_has ls 4 [(0, .ref (t 0)), (1, .ref (y 0)), (2, .int (nI a)), (3, .int (nI b))] → W p l e (rmd 2 0 0) s m args below meth c_ H locs 0 0 Q (F0 m 73 ls []) := by
    intro i a b H locs he hP hD hS ls hl
    have hbd := rTok_bd f (n - st) st 0 0
    rw [← he] at hbd
    replace hbd : st ≤ i ∧ i ≤ st + (n - st) ∧ i - st + 0 + 0 = a + b := hbd
    refine lv_iload_n hx hb dX5_readToken_73 rfl (lv_at hl 2 rfl) ?_
    refine lv_if_le (tgt := 93) hx hb dX5_readToken_74 (by decide) (fun c74 => ?_) (fun c74 => ?_)
    · replace c74 : a ≤ 0 := (nI_leI (a := a) (b := 0) (by omega) (by omega)).mp c74
      refine lv_iload_n hx hb dX5_readToken_93 rfl (lv_at hl 3 rfl) ?_
      refine lv_if_le (tgt := 114) hx hb dX5_readToken_94 (by decide) (fun c94 => ?_) (fun c94 => ?_)
      · replace c94 : b ≤ 0 := (nI_leI (a := b) (b := 0) (by omega) (by omega)).mp c94
        refine lv_aload_n hx hb dX5_readToken_114 rfl (lv_at hl 0 rfl) ?_
        refine lv_aload_n hx hb dX5_readToken_115 rfl (lv_at hl 1 rfl) ?_
        refine lv_aload_n hx hb dX5_readToken_116 rfl (lv_at hl 0 rfl) ?_
        refine va_get (D := D) (ci := 5) (v := .int (nI st)) (C := RX5) (T := TX5) (N := 6) hx hb hts inX5 hown hK hP 0 rfl rfl 3 (by decide) (hts _ wd_1_61) (fun _ h9 => h9) rfl dX5_readToken_117 ?_
        refine ro_V (rest := [.ref (t 0)]) (st1 := [.int (byteF n f (nI st)), .ref (t 0)]) (As := [.int (nI st)]) ⟨hx, hb, hml, hown, hts⟩ Gd0 trivial hS hK (c_X7_byteAt l D k y n f (nI st) hn) mi_X7_byteAt wd_1_226 wd_1_227 wd_1_225 ⟨Nat.le_of_ble_eq_true rfl, Nat.le_of_ble_eq_true rfl⟩ (hP.sub [3, 4] rfl) 0 rfl rfl rfl hl.1 rfl (Nat.le_of_ble_eq_true rfl) rfl ⟨Nat.le_of_ble_eq_true rfl, Nat.le_of_ble_eq_true rfl⟩ dX5_readToken_120 ?_
        refine rw_topi (y := f st) (byteF_in (by omega) hn) ?_
        refine lv_bipush (v := 59) hx hb dX5_readToken_123 (by decide) ?_
        refine lv_icmp_ne (tgt := 132) hx hb dX5_readToken_125 (by decide) (fun c125 => ?_) (fun c125 => ?_)
        · refine lv_iconst (v := 0) hx hb dX5_readToken_132 (by decide) ?_
          refine va_put (D := D) (ci := 5) (v := .int 0) (C := RX5) (T := TX5) (N := 6) hx hb hts inX5 tyX5 tyX5_ok nmX5 hown hK hP hD hS 0 rfl rfl 2 (by decide) (hts _ wd_1_60) (fun _ h9 => h9) rfl (tyX5_ok 2 (by decide)) rfl rfl (Nat.le_of_ble_eq_true rfl) dX5_readToken_133 (fun H locs hP hD hS => ?_)
          replace hP : va_P D vwCl ([(t 0, .inr (5, [.ref (t 1), .ref (t 2), .int 0, .int (nI st), .int (nI i), .int fk])), (t 1, .inl (k 0, 9, .inl rd)), (t 2, .inl (k 1, 9, .inl mt)), (y 0, .inr (7, [.ref (y 1), .int (nI n)])), (y 1, .inl (k 0, 320, .inl f))]) H := hP
          replace hD : va_D A ([(t 0, .inr (5, [.ref (t 1), .ref (t 2), .int 0, .int (nI st), .int (nI i), .int fk])), (t 1, .inl (k 0, 9, .inl rd)), (t 2, .inl (k 1, 9, .inl mt)), (y 0, .inr (7, [.ref (y 1), .int (nI n)])), (y 1, .inl (k 0, 320, .inl f))]) := hD
          refine lv_aload_n hx hb dX5_readToken_136 rfl (lv_at hl 0 rfl) ?_
          refine lv_aload_n hx hb dX5_readToken_137 rfl (lv_at hl 0 rfl) ?_
          refine va_get (D := D) (ci := 5) (v := .int (nI st)) (C := RX5) (T := TX5) (N := 6) hx hb hts inX5 hown hK hP 0 rfl rfl 3 (by decide) (hts _ wd_1_61) (fun _ h9 => h9) rfl dX5_readToken_138 ?_
          refine lv_iconst (v := 1) hx hb dX5_readToken_141 (by decide) ?_
          refine lv_iadd hx hb dX5_readToken_142 ?_
          refine rw_topi (y := nI (st + 1)) (nI_add _ _) ?_
          refine va_put (D := D) (ci := 5) (v := .int (nI (st + 1))) (C := RX5) (T := TX5) (N := 6) hx hb hts inX5 tyX5 tyX5_ok nmX5 hown hK hP hD hS 0 rfl rfl 4 (by decide) (hts _ wd_1_62) (fun _ h9 => h9) rfl (tyX5_ok 4 (by decide)) rfl rfl (Nat.le_of_ble_eq_true rfl) dX5_readToken_143 (fun H locs hP hD hS => ?_)
          replace hP : va_P D vwCl ([(t 0, .inr (5, [.ref (t 1), .ref (t 2), .int 0, .int (nI st), .int (nI (st + 1)), .int fk])), (t 1, .inl (k 0, 9, .inl rd)), (t 2, .inl (k 1, 9, .inl mt)), (y 0, .inr (7, [.ref (y 1), .int (nI n)])), (y 1, .inl (k 0, 320, .inl f))]) H := hP
          replace hD : va_D A ([(t 0, .inr (5, [.ref (t 1), .ref (t 2), .int 0, .int (nI st), .int (nI (st + 1)), .int fk])), (t 1, .inl (k 0, 9, .inl rd)), (t 2, .inl (k 1, 9, .inl mt)), (y 0, .inr (7, [.ref (y 1), .int (nI n)])), (y 1, .inl (k 0, 320, .inl f))]) := hD
          exact fs_v hx hb hr hlocks hq (0, st, st + 1, fk, rd, mt) (by show _ = rTokU f n (fm, st, be, fk, rd, mt); rw [rTokU]; simp only [show rTok f (n - st) st 0 0 = (i, a, b) from he.symm]; rw [if_pos (show a ≤ 0 from c74), if_pos (show b ≤ 0 from c94), if_neg c125]) hP hD hS dX5_readToken_146 rfl
        · refine lv_iconst (v := 3) hx hb dX5_readToken_128 (by decide) ?_
          refine lv_goto (tgt := 133) hx hb dX5_readToken_129 (by decide) ?_
          refine va_put (D := D) (ci := 5) (v := .int 3) (C := RX5) (T := TX5) (N := 6) hx hb hts inX5 tyX5 tyX5_ok nmX5 hown hK hP hD hS 0 rfl rfl 2 (by decide) (hts _ wd_1_60) (fun _ h9 => h9) rfl (tyX5_ok 2 (by decide)) rfl rfl (Nat.le_of_ble_eq_true rfl) dX5_readToken_133 (fun H locs hP hD hS => ?_)
          replace hP : va_P D vwCl ([(t 0, .inr (5, [.ref (t 1), .ref (t 2), .int 3, .int (nI st), .int (nI i), .int fk])), (t 1, .inl (k 0, 9, .inl rd)), (t 2, .inl (k 1, 9, .inl mt)), (y 0, .inr (7, [.ref (y 1), .int (nI n)])), (y 1, .inl (k 0, 320, .inl f))]) H := hP
          replace hD : va_D A ([(t 0, .inr (5, [.ref (t 1), .ref (t 2), .int 3, .int (nI st), .int (nI i), .int fk])), (t 1, .inl (k 0, 9, .inl rd)), (t 2, .inl (k 1, 9, .inl mt)), (y 0, .inr (7, [.ref (y 1), .int (nI n)])), (y 1, .inl (k 0, 320, .inl f))]) := hD
          refine lv_aload_n hx hb dX5_readToken_136 rfl (lv_at hl 0 rfl) ?_
          refine lv_aload_n hx hb dX5_readToken_137 rfl (lv_at hl 0 rfl) ?_
          refine va_get (D := D) (ci := 5) (v := .int (nI st)) (C := RX5) (T := TX5) (N := 6) hx hb hts inX5 hown hK hP 0 rfl rfl 3 (by decide) (hts _ wd_1_61) (fun _ h9 => h9) rfl dX5_readToken_138 ?_
          refine lv_iconst (v := 1) hx hb dX5_readToken_141 (by decide) ?_
          refine lv_iadd hx hb dX5_readToken_142 ?_
          refine rw_topi (y := nI (st + 1)) (nI_add _ _) ?_
          refine va_put (D := D) (ci := 5) (v := .int (nI (st + 1))) (C := RX5) (T := TX5) (N := 6) hx hb hts inX5 tyX5 tyX5_ok nmX5 hown hK hP hD hS 0 rfl rfl 4 (by decide) (hts _ wd_1_62) (fun _ h9 => h9) rfl (tyX5_ok 4 (by decide)) rfl rfl (Nat.le_of_ble_eq_true rfl) dX5_readToken_143 (fun H locs hP hD hS => ?_)
          replace hP : va_P D vwCl ([(t 0, .inr (5, [.ref (t 1), .ref (t 2), .int 3, .int (nI st), .int (nI (st + 1)), .int fk])), (t 1, .inl (k 0, 9, .inl rd)), (t 2, .inl (k 1, 9, .inl mt)), (y 0, .inr (7, [.ref (y 1), .int (nI n)])), (y 1, .inl (k 0, 320, .inl f))]) H := hP
          replace hD : va_D A ([(t 0, .inr (5, [.ref (t 1), .ref (t 2), .int 3, .int (nI st), .int (nI (st + 1)), .int fk])), (t 1, .inl (k 0, 9, .inl rd)), (t 2, .inl (k 1, 9, .inl mt)), (y 0, .inr (7, [.ref (y 1), .int (nI n)])), (y 1, .inl (k 0, 320, .inl f))]) := hD
          exact fs_v hx hb hr hlocks hq (3, st, st + 1, fk, rd, mt) (by show _ = rTokU f n (fm, st, be, fk, rd, mt); rw [rTokU]; simp only [show rTok f (n - st) st 0 0 = (i, a, b) from he.symm]; rw [if_pos (show a ≤ 0 from c74), if_pos (show b ≤ 0 from c94), if_pos c125]) hP hD hS dX5_readToken_146 rfl
      · replace c94 : ¬ (b ≤ 0) := fun z => c94 ((nI_leI (a := b) (b := 0) (by omega) (by omega)).mpr z)
        refine lv_aload_n hx hb dX5_readToken_97 rfl (lv_at hl 0 rfl) ?_
        refine lv_iload_n hx hb dX5_readToken_98 rfl (lv_at hl 3 rfl) ?_
        refine lv_iconst (v := 5) hx hb dX5_readToken_99 (by decide) ?_
        refine lv_icmp_gt (tgt := 107) hx hb dX5_readToken_100 (by decide) (fun c100 => ?_) (fun c100 => ?_)
        · replace c100 : 5 < b := (nI_ltI (a := 5) (b := b) (by omega) (by omega)).mp c100
          refine lv_iconst (v := 0) hx hb dX5_readToken_107 (by decide) ?_
          refine va_put (D := D) (ci := 5) (v := .int 0) (C := RX5) (T := TX5) (N := 6) hx hb hts inX5 tyX5 tyX5_ok nmX5 hown hK hP hD hS 0 rfl rfl 2 (by decide) (hts _ wd_1_60) (fun _ h9 => h9) rfl (tyX5_ok 2 (by decide)) rfl rfl (Nat.le_of_ble_eq_true rfl) dX5_readToken_108 (fun H locs hP hD hS => ?_)
          replace hP : va_P D vwCl ([(t 0, .inr (5, [.ref (t 1), .ref (t 2), .int 0, .int (nI st), .int (nI i), .int fk])), (t 1, .inl (k 0, 9, .inl rd)), (t 2, .inl (k 1, 9, .inl mt)), (y 0, .inr (7, [.ref (y 1), .int (nI n)])), (y 1, .inl (k 0, 320, .inl f))]) H := hP
          replace hD : va_D A ([(t 0, .inr (5, [.ref (t 1), .ref (t 2), .int 0, .int (nI st), .int (nI i), .int fk])), (t 1, .inl (k 0, 9, .inl rd)), (t 2, .inl (k 1, 9, .inl mt)), (y 0, .inr (7, [.ref (y 1), .int (nI n)])), (y 1, .inl (k 0, 320, .inl f))]) := hD
          refine lv_goto (tgt := 146) hx hb dX5_readToken_111 (by decide) ?_
          exact fs_v hx hb hr hlocks hq (0, st, i, fk, rd, mt) (by show _ = rTokU f n (fm, st, be, fk, rd, mt); rw [rTokU]; simp only [show rTok f (n - st) st 0 0 = (i, a, b) from he.symm]; rw [if_pos (show a ≤ 0 from c74), if_neg (show ¬ (b ≤ 0) from c94), if_pos (show 5 < b from c100)]) hP hD hS dX5_readToken_146 rfl
        · replace c100 : ¬ (5 < b) := fun z => c100 ((nI_ltI (a := 5) (b := b) (by omega) (by omega)).mpr z)
          refine lv_iconst (v := 2) hx hb dX5_readToken_103 (by decide) ?_
          refine lv_goto (tgt := 108) hx hb dX5_readToken_104 (by decide) ?_
          refine va_put (D := D) (ci := 5) (v := .int 2) (C := RX5) (T := TX5) (N := 6) hx hb hts inX5 tyX5 tyX5_ok nmX5 hown hK hP hD hS 0 rfl rfl 2 (by decide) (hts _ wd_1_60) (fun _ h9 => h9) rfl (tyX5_ok 2 (by decide)) rfl rfl (Nat.le_of_ble_eq_true rfl) dX5_readToken_108 (fun H locs hP hD hS => ?_)
          replace hP : va_P D vwCl ([(t 0, .inr (5, [.ref (t 1), .ref (t 2), .int 2, .int (nI st), .int (nI i), .int fk])), (t 1, .inl (k 0, 9, .inl rd)), (t 2, .inl (k 1, 9, .inl mt)), (y 0, .inr (7, [.ref (y 1), .int (nI n)])), (y 1, .inl (k 0, 320, .inl f))]) H := hP
          replace hD : va_D A ([(t 0, .inr (5, [.ref (t 1), .ref (t 2), .int 2, .int (nI st), .int (nI i), .int fk])), (t 1, .inl (k 0, 9, .inl rd)), (t 2, .inl (k 1, 9, .inl mt)), (y 0, .inr (7, [.ref (y 1), .int (nI n)])), (y 1, .inl (k 0, 320, .inl f))]) := hD
          refine lv_goto (tgt := 146) hx hb dX5_readToken_111 (by decide) ?_
          exact fs_v hx hb hr hlocks hq (2, st, i, fk, rd, mt) (by show _ = rTokU f n (fm, st, be, fk, rd, mt); rw [rTokU]; simp only [show rTok f (n - st) st 0 0 = (i, a, b) from he.symm]; rw [if_pos (show a ≤ 0 from c74), if_neg (show ¬ (b ≤ 0) from c94), if_neg (show ¬ (5 < b) from c100)]) hP hD hS dX5_readToken_146 rfl
    · replace c74 : ¬ (a ≤ 0) := fun z => c74 ((nI_leI (a := a) (b := 0) (by omega) (by omega)).mpr z)
      refine lv_aload_n hx hb dX5_readToken_77 rfl (lv_at hl 0 rfl) ?_
      refine lv_iload_n hx hb dX5_readToken_78 rfl (lv_at hl 3 rfl) ?_
      refine lv_if_ne (tgt := 86) hx hb dX5_readToken_79 (by decide) (fun c79 => ?_) (fun c79 => ?_)
      · replace c79 : ¬ (b = 0) := fun z => c79 ((nI_eq (a := b) (b := 0) (by omega) (by omega)).mpr z)
        refine lv_iconst (v := 0) hx hb dX5_readToken_86 (by decide) ?_
        refine va_put (D := D) (ci := 5) (v := .int 0) (C := RX5) (T := TX5) (N := 6) hx hb hts inX5 tyX5 tyX5_ok nmX5 hown hK hP hD hS 0 rfl rfl 2 (by decide) (hts _ wd_1_60) (fun _ h9 => h9) rfl (tyX5_ok 2 (by decide)) rfl rfl (Nat.le_of_ble_eq_true rfl) dX5_readToken_87 (fun H locs hP hD hS => ?_)
        replace hP : va_P D vwCl ([(t 0, .inr (5, [.ref (t 1), .ref (t 2), .int 0, .int (nI st), .int (nI i), .int fk])), (t 1, .inl (k 0, 9, .inl rd)), (t 2, .inl (k 1, 9, .inl mt)), (y 0, .inr (7, [.ref (y 1), .int (nI n)])), (y 1, .inl (k 0, 320, .inl f))]) H := hP
        replace hD : va_D A ([(t 0, .inr (5, [.ref (t 1), .ref (t 2), .int 0, .int (nI st), .int (nI i), .int fk])), (t 1, .inl (k 0, 9, .inl rd)), (t 2, .inl (k 1, 9, .inl mt)), (y 0, .inr (7, [.ref (y 1), .int (nI n)])), (y 1, .inl (k 0, 320, .inl f))]) := hD
        refine lv_goto (tgt := 146) hx hb dX5_readToken_90 (by decide) ?_
        exact fs_v hx hb hr hlocks hq (0, st, i, fk, rd, mt) (by show _ = rTokU f n (fm, st, be, fk, rd, mt); rw [rTokU]; simp only [show rTok f (n - st) st 0 0 = (i, a, b) from he.symm]; rw [if_neg (show ¬ (a ≤ 0) from c74), if_neg (show ¬ (b = 0) from c79)]) hP hD hS dX5_readToken_146 rfl
      · replace c79 : b = 0 := (nI_eq (a := b) (b := 0) (by omega) (by omega)).mp c79
        refine lv_iconst (v := 1) hx hb dX5_readToken_82 (by decide) ?_
        refine lv_goto (tgt := 87) hx hb dX5_readToken_83 (by decide) ?_
        refine va_put (D := D) (ci := 5) (v := .int 1) (C := RX5) (T := TX5) (N := 6) hx hb hts inX5 tyX5 tyX5_ok nmX5 hown hK hP hD hS 0 rfl rfl 2 (by decide) (hts _ wd_1_60) (fun _ h9 => h9) rfl (tyX5_ok 2 (by decide)) rfl rfl (Nat.le_of_ble_eq_true rfl) dX5_readToken_87 (fun H locs hP hD hS => ?_)
        replace hP : va_P D vwCl ([(t 0, .inr (5, [.ref (t 1), .ref (t 2), .int 1, .int (nI st), .int (nI i), .int fk])), (t 1, .inl (k 0, 9, .inl rd)), (t 2, .inl (k 1, 9, .inl mt)), (y 0, .inr (7, [.ref (y 1), .int (nI n)])), (y 1, .inl (k 0, 320, .inl f))]) H := hP
        replace hD : va_D A ([(t 0, .inr (5, [.ref (t 1), .ref (t 2), .int 1, .int (nI st), .int (nI i), .int fk])), (t 1, .inl (k 0, 9, .inl rd)), (t 2, .inl (k 1, 9, .inl mt)), (y 0, .inr (7, [.ref (y 1), .int (nI n)])), (y 1, .inl (k 0, 320, .inl f))]) := hD
        refine lv_goto (tgt := 146) hx hb dX5_readToken_90 (by decide) ?_
        exact fs_v hx hb hr hlocks hq (1, st, i, fk, rd, mt) (by show _ = rTokU f n (fm, st, be, fk, rd, mt); rw [rTokU]; simp only [show rTok f (n - st) st 0 0 = (i, a, b) from he.symm]; rw [if_neg (show ¬ (a ≤ 0) from c74), if_pos (show b = 0 from c79)]) hP hD hS dX5_readToken_146 rfl
  have L : ∀ (r i : Nat) (a : Nat) (b : Nat) (H : Heap) (locs : List Loc), i + r = n → a + b ≤ i → rTok f r i a b = rTok f (n - st) st 0 0 → va_P D vwCl ([(t 0, .inr (5, [.ref (t 1), .ref (t 2), .int fm, .int (nI st), .int (nI i), .int fk])), (t 1, .inl (k 0, 9, .inl rd)), (t 2, .inl (k 1, 9, .inl mt)), (y 0, .inr (7, [.ref (y 1), .int (nI n)])), (y 1, .inl (k 0, 320, .inl f))]) H → va_D A ([(t 0, .inr (5, [.ref (t 1), .ref (t 2), .int fm, .int (nI st), .int (nI i), .int fk])), (t 1, .inl (k 0, 9, .inl rd)), (t 2, .inl (k 1, 9, .inl mt)), (y 0, .inr (7, [.ref (y 1), .int (nI n)])), (y 1, .inl (k 0, 320, .inl f))]) → va_S A s.heap H locs → ∀ (ls : Array Slot), lv_has ls 4 [(0, .ref (t 0)), (1, .ref (y 0)), (2, .int (nI a)), (3, .int (nI b))] → W p l e (rmd 2 0 0) s m args below meth c_ H locs 0 0 Q (F0 m 12 ls []) := by
    intro r
    induction r with
    | zero =>
      intro i a b H locs hi hab he hP hD hS ls hl
      refine lv_aload_n hx hb dX5_readToken_12 rfl (lv_at hl 0 rfl) ?_
      refine va_get (D := D) (ci := 5) (v := .int (nI i)) (C := RX5) (T := TX5) (N := 6) hx hb hts inX5 hown hK hP 0 rfl rfl 4 (by decide) (hts _ wd_1_62) (fun _ h9 => h9) rfl dX5_readToken_13 ?_
      refine lv_aload_n hx hb dX5_readToken_16 rfl (lv_at hl 1 rfl) ?_
      refine ro_V (rest := [.int (nI i)]) (st1 := [.int (nI n), .int (nI i)]) (As := []) ⟨hx, hb, hml, hown, hts⟩ Gd0 trivial hS hK (c_X7_length l D k y n f) mi_X7_length wd_1_194 wd_1_195 wd_1_221 ⟨Nat.le_of_ble_eq_true rfl, Nat.le_of_ble_eq_true rfl⟩ (hP.sub [3, 4] rfl) 0 rfl rfl rfl hl.1 rfl (Nat.le_of_ble_eq_true rfl) rfl ⟨Nat.le_of_ble_eq_true rfl, Nat.le_of_ble_eq_true rfl⟩ dX5_readToken_17 ?_
      refine lv_icmp_ge (tgt := 73) hx hb dX5_readToken_20 (by decide) (fun c20 => ?_) (fun c20 => absurd (nI_le (by omega) (by omega)) c20)
      exact J i a b H locs (he) hP hD hS ls (lv_sub hl [0, 1, 2, 3] rfl)
    | succ r ih =>
      intro i a b H locs hi hab he hP hD hS ls hl
      refine lv_aload_n hx hb dX5_readToken_12 rfl (lv_at hl 0 rfl) ?_
      refine va_get (D := D) (ci := 5) (v := .int (nI i)) (C := RX5) (T := TX5) (N := 6) hx hb hts inX5 hown hK hP 0 rfl rfl 4 (by decide) (hts _ wd_1_62) (fun _ h9 => h9) rfl dX5_readToken_13 ?_
      refine lv_aload_n hx hb dX5_readToken_16 rfl (lv_at hl 1 rfl) ?_
      refine ro_V (rest := [.int (nI i)]) (st1 := [.int (nI n), .int (nI i)]) (As := []) ⟨hx, hb, hml, hown, hts⟩ Gd0 trivial hS hK (c_X7_length l D k y n f) mi_X7_length wd_1_194 wd_1_195 wd_1_221 ⟨Nat.le_of_ble_eq_true rfl, Nat.le_of_ble_eq_true rfl⟩ (hP.sub [3, 4] rfl) 0 rfl rfl rfl hl.1 rfl (Nat.le_of_ble_eq_true rfl) rfl ⟨Nat.le_of_ble_eq_true rfl, Nat.le_of_ble_eq_true rfl⟩ dX5_readToken_17 ?_
      refine lv_icmp_ge (tgt := 73) hx hb dX5_readToken_20 (by decide) (fun c20 => absurd c20 (nI_ge (by omega) (by omega))) (fun c20 => ?_)
      refine lv_aload_n hx hb dX5_readToken_23 rfl (lv_at hl 1 rfl) ?_
      refine lv_aload_n hx hb dX5_readToken_24 rfl (lv_at hl 0 rfl) ?_
      refine va_get (D := D) (ci := 5) (v := .int (nI i)) (C := RX5) (T := TX5) (N := 6) hx hb hts inX5 hown hK hP 0 rfl rfl 4 (by decide) (hts _ wd_1_62) (fun _ h9 => h9) rfl dX5_readToken_25 ?_
      refine ro_V (rest := []) (st1 := [.int (byteF n f (nI i))]) (As := [.int (nI i)]) ⟨hx, hb, hml, hown, hts⟩ Gd0 trivial hS hK (c_X7_byteAt l D k y n f (nI i) hn) mi_X7_byteAt wd_1_226 wd_1_227 wd_1_225 ⟨Nat.le_of_ble_eq_true rfl, Nat.le_of_ble_eq_true rfl⟩ (hP.sub [3, 4] rfl) 0 rfl rfl rfl hl.1 rfl (Nat.le_of_ble_eq_true rfl) rfl ⟨Nat.le_of_ble_eq_true rfl, Nat.le_of_ble_eq_true rfl⟩ dX5_readToken_28 ?_
      refine rw_topi (y := f i) (byteF_in (by omega) hn) ?_
      refine ro_S (rest := []) (st1 := [.int (bI (isLD (f i)))]) (As := [.int (f i)]) ⟨hx, hb, hml, hown, hts⟩ Gd0 trivial hS hK (c_X5_isLetterOrDigit l D k (f i)) mi_X5_isLetterOrDigit wd_1_237 wd_1_236 ⟨Nat.le_of_ble_eq_true rfl, Nat.le_of_ble_eq_true rfl⟩ (fun k9 q9 h9 => by simp at h9) rfl hl.1 rfl (Nat.le_of_ble_eq_true rfl) rfl ⟨Nat.le_of_ble_eq_true rfl, Nat.le_of_ble_eq_true rfl⟩ dX5_readToken_31 ?_
      refine lv_if_eq (tgt := 73) hx hb dX5_readToken_34 (by decide) (fun c34 => ?_) (fun c34 => ?_)
      · replace c34 : (isLD (f i)) = false := bI_0.mp c34
        exact J i a b H locs (by rw [← he, rTok, if_neg (show ¬ (isLD (f i) = true) by rw [c34]; decide)]) hP hD hS ls (lv_sub hl [0, 1, 2, 3] rfl)
      · replace c34 : (isLD (f i)) = true := bI_n.mp c34
        refine lv_aload_n hx hb dX5_readToken_37 rfl (lv_at hl 1 rfl) ?_
        refine lv_aload_n hx hb dX5_readToken_38 rfl (lv_at hl 0 rfl) ?_
        refine va_get (D := D) (ci := 5) (v := .int (nI i)) (C := RX5) (T := TX5) (N := 6) hx hb hts inX5 hown hK hP 0 rfl rfl 4 (by decide) (hts _ wd_1_62) (fun _ h9 => h9) rfl dX5_readToken_39 ?_
        refine ro_V (rest := []) (st1 := [.int (byteF n f (nI i))]) (As := [.int (nI i)]) ⟨hx, hb, hml, hown, hts⟩ Gd0 trivial hS hK (c_X7_byteAt l D k y n f (nI i) hn) mi_X7_byteAt wd_1_226 wd_1_227 wd_1_225 ⟨Nat.le_of_ble_eq_true rfl, Nat.le_of_ble_eq_true rfl⟩ (hP.sub [3, 4] rfl) 0 rfl rfl rfl hl.1 rfl (Nat.le_of_ble_eq_true rfl) rfl ⟨Nat.le_of_ble_eq_true rfl, Nat.le_of_ble_eq_true rfl⟩ dX5_readToken_42 ?_
        refine rw_topi (y := f i) (byteF_in (by omega) hn) ?_
        refine ro_S (rest := []) (st1 := [.int (bI (dig (f i)))]) (As := [.int (f i)]) ⟨hx, hb, hml, hown, hts⟩ Gd0 trivial hS hK (c_X5_isDigit l D k (f i)) mi_X5_isDigit wd_2_0 wd_1_239 ⟨Nat.le_of_ble_eq_true rfl, Nat.le_of_ble_eq_true rfl⟩ (fun k9 q9 h9 => by simp at h9) rfl hl.1 rfl (Nat.le_of_ble_eq_true rfl) rfl ⟨Nat.le_of_ble_eq_true rfl, Nat.le_of_ble_eq_true rfl⟩ dX5_readToken_45 ?_
        refine lv_if_eq (tgt := 57) hx hb dX5_readToken_48 (by decide) (fun c48 => ?_) (fun c48 => ?_)
        · replace c48 : (dig (f i)) = false := bI_0.mp c48
          refine lv_iinc (v := nI (a + 1)) (lv' := [(2, .int (nI (a + 1))), (0, .ref (t 0)), (1, .ref (y 0)), (3, .int (nI b))]) hx hb dX5_readToken_57 hl (k := 2) rfl (nI_1 _) (by decide) rfl (fun ls hl => ?_)
          refine lv_aload_n hx hb dX5_readToken_60 rfl (lv_at hl 1 rfl) ?_
          refine lv_dup hx hb dX5_readToken_61 rfl ?_
          refine va_get (D := D) (ci := 5) (v := .int (nI i)) (C := RX5) (T := TX5) (N := 6) hx hb hts inX5 hown hK hP 0 rfl rfl 4 (by decide) (hts _ wd_1_62) (fun _ h9 => h9) rfl dX5_readToken_62 ?_
          refine lv_iconst (v := 1) hx hb dX5_readToken_65 (by decide) ?_
          refine lv_iadd hx hb dX5_readToken_66 ?_
          refine rw_topi (y := nI (i + 1)) (nI_add _ _) ?_
          refine va_put (D := D) (ci := 5) (v := .int (nI (i + 1))) (C := RX5) (T := TX5) (N := 6) hx hb hts inX5 tyX5 tyX5_ok nmX5 hown hK hP hD hS 0 rfl rfl 4 (by decide) (hts _ wd_1_62) (fun _ h9 => h9) rfl (tyX5_ok 4 (by decide)) rfl rfl (Nat.le_of_ble_eq_true rfl) dX5_readToken_67 (fun H locs hP hD hS => ?_)
          replace hP : va_P D vwCl ([(t 0, .inr (5, [.ref (t 1), .ref (t 2), .int fm, .int (nI st), .int (nI (i + 1)), .int fk])), (t 1, .inl (k 0, 9, .inl rd)), (t 2, .inl (k 1, 9, .inl mt)), (y 0, .inr (7, [.ref (y 1), .int (nI n)])), (y 1, .inl (k 0, 320, .inl f))]) H := hP
          replace hD : va_D A ([(t 0, .inr (5, [.ref (t 1), .ref (t 2), .int fm, .int (nI st), .int (nI (i + 1)), .int fk])), (t 1, .inl (k 0, 9, .inl rd)), (t 2, .inl (k 1, 9, .inl mt)), (y 0, .inr (7, [.ref (y 1), .int (nI n)])), (y 1, .inl (k 0, 320, .inl f))]) := hD
          refine lv_goto (tgt := 12) hx hb dX5_readToken_70 (by decide) ?_
          exact ih (i + 1) (a + 1) b H locs (by omega) (by omega) (by rw [← he, rTok, if_pos (show isLD (f i) = true from c34), if_neg (show ¬ (dig (f i) = true) by rw [c48]; decide)]) hP hD hS ls (lv_sub hl [1, 2, 0, 3] rfl)
        · replace c48 : (dig (f i)) = true := bI_n.mp c48
          refine lv_iinc (v := nI (b + 1)) (lv' := [(3, .int (nI (b + 1))), (0, .ref (t 0)), (1, .ref (y 0)), (2, .int (nI a))]) hx hb dX5_readToken_51 hl (k := 3) rfl (nI_1 _) (by decide) rfl (fun ls hl => ?_)
          refine lv_goto (tgt := 60) hx hb dX5_readToken_54 (by decide) ?_
          refine lv_aload_n hx hb dX5_readToken_60 rfl (lv_at hl 1 rfl) ?_
          refine lv_dup hx hb dX5_readToken_61 rfl ?_
          refine va_get (D := D) (ci := 5) (v := .int (nI i)) (C := RX5) (T := TX5) (N := 6) hx hb hts inX5 hown hK hP 0 rfl rfl 4 (by decide) (hts _ wd_1_62) (fun _ h9 => h9) rfl dX5_readToken_62 ?_
          refine lv_iconst (v := 1) hx hb dX5_readToken_65 (by decide) ?_
          refine lv_iadd hx hb dX5_readToken_66 ?_
          refine rw_topi (y := nI (i + 1)) (nI_add _ _) ?_
          refine va_put (D := D) (ci := 5) (v := .int (nI (i + 1))) (C := RX5) (T := TX5) (N := 6) hx hb hts inX5 tyX5 tyX5_ok nmX5 hown hK hP hD hS 0 rfl rfl 4 (by decide) (hts _ wd_1_62) (fun _ h9 => h9) rfl (tyX5_ok 4 (by decide)) rfl rfl (Nat.le_of_ble_eq_true rfl) dX5_readToken_67 (fun H locs hP hD hS => ?_)
          replace hP : va_P D vwCl ([(t 0, .inr (5, [.ref (t 1), .ref (t 2), .int fm, .int (nI st), .int (nI (i + 1)), .int fk])), (t 1, .inl (k 0, 9, .inl rd)), (t 2, .inl (k 1, 9, .inl mt)), (y 0, .inr (7, [.ref (y 1), .int (nI n)])), (y 1, .inl (k 0, 320, .inl f))]) H := hP
          replace hD : va_D A ([(t 0, .inr (5, [.ref (t 1), .ref (t 2), .int fm, .int (nI st), .int (nI (i + 1)), .int fk])), (t 1, .inl (k 0, 9, .inl rd)), (t 2, .inl (k 1, 9, .inl mt)), (y 0, .inr (7, [.ref (y 1), .int (nI n)])), (y 1, .inl (k 0, 320, .inl f))]) := hD
          refine lv_goto (tgt := 12) hx hb dX5_readToken_70 (by decide) ?_
          exact ih (i + 1) a (b + 1) H locs (by omega) (by omega) (by rw [← he, rTok, if_pos (show isLD (f i) = true from c34), if_pos (show dig (f i) = true from c48)]) hP hD hS ls (lv_sub hl [1, 2, 3, 0] rfl)
  refine lv_aload_n hx hb dX5_readToken_0 rfl (lv_at hl 0 rfl) ?_
  refine lv_aload_n hx hb dX5_readToken_1 rfl (lv_at hl 0 rfl) ?_
  refine va_get (D := D) (ci := 5) (v := .int (nI st)) (C := RX5) (T := TX5) (N := 6) hx hb hts inX5 hown hK hP 0 rfl rfl 3 (by decide) (hts _ wd_1_61) (fun _ h9 => h9) rfl dX5_readToken_2 ?_
  refine va_put (D := D) (ci := 5) (v := .int (nI st)) (C := RX5) (T := TX5) (N := 6) hx hb hts inX5 tyX5 tyX5_ok nmX5 hown hK hP hD hS 0 rfl rfl 4 (by decide) (hts _ wd_1_62) (fun _ h9 => h9) rfl (tyX5_ok 4 (by decide)) rfl rfl (Nat.le_of_ble_eq_true rfl) dX5_readToken_5 (fun H locs hP hD hS => ?_)
  replace hP : va_P D vwCl ([(t 0, .inr (5, [.ref (t 1), .ref (t 2), .int fm, .int (nI st), .int (nI st), .int fk])), (t 1, .inl (k 0, 9, .inl rd)), (t 2, .inl (k 1, 9, .inl mt)), (y 0, .inr (7, [.ref (y 1), .int (nI n)])), (y 1, .inl (k 0, 320, .inl f))]) H := hP
  replace hD : va_D A ([(t 0, .inr (5, [.ref (t 1), .ref (t 2), .int fm, .int (nI st), .int (nI st), .int fk])), (t 1, .inl (k 0, 9, .inl rd)), (t 2, .inl (k 1, 9, .inl mt)), (y 0, .inr (7, [.ref (y 1), .int (nI n)])), (y 1, .inl (k 0, 320, .inl f))]) := hD
  refine lv_iconst (v := 0) hx hb dX5_readToken_8 (by decide) ?_
  refine lv_istore_n (lv' := [(2, .int 0), (0, .ref (t 0)), (1, .ref (y 0))]) hx hb dX5_readToken_9 rfl hl (by decide) rfl (fun ls hl => ?_)
  refine lv_iconst (v := 0) hx hb dX5_readToken_10 (by decide) ?_
  refine lv_istore_n (lv' := [(3, .int 0), (2, .int 0), (0, .ref (t 0)), (1, .ref (y 0))]) hx hb dX5_readToken_11 rfl hl (by decide) rfl (fun ls hl => ?_)
  exact L (n - st) st 0 0 H locs (by omega) (by omega) (rfl) hP hD hS ls (lv_sub hl [2, 3, 1, 0] rfl)
