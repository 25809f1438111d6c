/-- Rules -/
def bV (t : Nat → Nat) (k : Nat → ClassId) (f : Nat → Int32) : va_W := [(t 0, .inr (6, [.ref (t 1)])), (t 1, .inl (k 0, 9, .inl f))]
/-- RuleReader: (form, start, behind, faultKind, read, met) -/
abbrev RSt : Type := Int32 × Nat × Nat × Int32 × (Nat → Int32) × (Nat → Int32)
def bR (t : Nat → Nat) (k : Nat → ClassId) (u : RSt) : va_W := [(t 0, .inr (5, [.ref (t 1), .ref (t 2), .int u.1, .int (nI u.2.1), .int (nI u.2.2.1), .int u.2.2.2.1])), (t 1, .inl (k 0, 9, .inl u.2.2.2.2.1)), (t 2, .inl (k 1, 9, .inl u.2.2.2.2.2))]
set_option maxHeartbeats 4000000 in
set_option maxRecDepth 100000 in
theorem c_X6_current (l : Launch) (D : va_G) (k : Nat → ClassId) (kz : Nat) (ke sK sV : Nat → Nat) (t : Nat → Nat) (f : Nat → Int32) (i : Nat) (hi : i < 9) : Ro l yX6_current cX6_current 2 (some .int) 0 D (TY k) (GK kz ke sK sV) [.ref (t 0), .ref (ke i)] (bV t k f) (some (.int (f i))) := by
  refine ro_body (by decide +kernel) (Nat.le_of_ble_eq_true rfl) ?_
  intro p e s m args below meth c_ Q hx hb hml hown hts hK hP hS hG hr hq hlocks ls hl
  replace hl : lv_has ls 2 [(0, .ref (t 0)), (1, .ref (ke i))] := hl
  change s.vm.findClass RX6 = some m.cls at hown
  refine lv_aload_n hx hb dX6_current_0 rfl (lv_at hl 0 rfl) ?_
  refine va_get (D := D) (ci := 6) (v := .ref (t 1)) (C := RX6) (T := TX6) (N := 1) hx hb hts inX6 hown hK hP 0 rfl rfl 0 (by decide) (hts _ wd_1_85) (fun _ h9 => h9) rfl dX6_current_1 ?_
  refine lv_aload_n hx hb dX6_current_4 rfl (lv_at hl 1 rfl) ?_
  refine va_getX (i := i) hx hb hG.2.2.1 (by omega) hS hown (hts _ wd_6_83) (fun _ h9 => h9) dX6_current_5 ?_
  refine ra_iald (n := 9) (f := f) hx hb hK hP 1 0 rfl rfl i rfl (by omega) (by decide) dX6_current_8 ?_
  exact ro_i hx hb hr hlocks hq dX6_current_9 (rfl)
set_option maxHeartbeats 4000000 in
set_option maxRecDepth 100000 in
theorem c_X5_faultKind (l : Launch) (D : va_G) (k : Nat → ClassId) (t : Nat → Nat) (fm : Int32) (st be : Nat) (fk : Int32) (rd mt : Nat → Int32) : Ro l yX5_faultKind cX5_faultKind 1 (some .int) 0 D (TY k) G0 [.ref (t 0)] (bR t k (fm, st, be, fk, rd, mt)) (some (.int fk)) := by
  refine ro_body (by decide +kernel) (Nat.le_of_ble_eq_true rfl) ?_
  intro p e s m args below meth c_ Q hx hb hml hown hts hK hP hS hG hr hq hlocks ls hl
  replace hl : lv_has ls 1 [(0, .ref (t 0))] := hl
  change s.vm.findClass RX5 = some m.cls at hown
  refine lv_aload_n hx hb dX5_faultKind_0 rfl (lv_at hl 0 rfl) ?_
  refine va_get (D := D) (ci := 5) (v := .int fk) (C := RX5) (T := TX5) (N := 6) hx hb hts inX5 hown hK hP 0 rfl rfl 5 (by decide) (hts _ wd_1_63) (fun _ h9 => h9) rfl dX5_faultKind_1 ?_
  exact ro_i hx hb hr hlocks hq dX5_faultKind_4 (rfl)
set_option maxHeartbeats 4000000 in
set_option maxRecDepth 100000 in
theorem c_X5_valueRead (l : Launch) (D : va_G) (k : Nat → ClassId) (kz : Nat) (ke sK sV : Nat → Nat) (t : Nat → Nat) (fm : Int32) (st be : Nat) (fk : Int32) (rd mt : Nat → Int32) (i : Nat) (hi : i < 9) : Ro l yX5_valueRead cX5_valueRead 2 (some .int) 0 D (TY k) (GK kz ke sK sV) [.ref (t 0), .ref (ke i)] (bR t k (fm, st, be, fk, rd, mt)) (some (.int (rd i))) := by
  refine ro_body (by decide +kernel) (Nat.le_of_ble_eq_true rfl) ?_
  intro p e s m args below meth c_ Q hx hb hml hown hts hK hP hS hG hr hq hlocks ls hl
  replace hl : lv_has ls 2 [(0, .ref (t 0)), (1, .ref (ke i))] := hl
  change s.vm.findClass RX5 = some m.cls at hown
  refine lv_aload_n hx hb dX5_valueRead_0 rfl (lv_at hl 0 rfl) ?_
  refine va_get (D := D) (ci := 5) (v := .ref (t 1)) (C := RX5) (T := TX5) (N := 6) hx hb hts inX5 hown hK hP 0 rfl rfl 0 (by decide) (hts _ wd_1_58) (fun _ h9 => h9) rfl dX5_valueRead_1 ?_
  refine lv_aload_n hx hb dX5_valueRead_4 rfl (lv_at hl 1 rfl) ?_
  refine va_getX (i := i) hx hb hG.2.2.1 (by omega) hS hown (hts _ wd_6_80) (fun _ h9 => h9) dX5_valueRead_5 ?_
  refine ra_iald (n := 9) (f := rd) hx hb hK hP 1 0 rfl rfl i rfl (by omega) (by decide) dX5_valueRead_8 ?_
  exact ro_i hx hb hr hlocks hq dX5_valueRead_9 (rfl)
def isBl (x : Int32) : Bool := decide (x = 32) || decide (x = 10)
set_option maxHeartbeats 4000000 in
set_option maxRecDepth 100000 in
theorem c_X5_isBlank (l : Launch) (D : va_G) (k : Nat → ClassId) (x : Int32) : Ro l yX5_isBlank cX5_isBlank 1 (some .boolean) 0 D (TY k) G0 [.int x] ([]) (some (.int (bI (isBl x)))) := by
  refine ro_body (by decide +kernel) (Nat.le_of_ble_eq_true rfl) ?_
  intro p e s m args below meth c_ Q hx hb hml hown hts hK hP hS hG hr hq hlocks ls hl
  replace hl : lv_has ls 1 [(0, .int x)] := hl
  change s.vm.findClass RX5 = some m.cls at hown
  refine lv_iload_n hx hb dX5_isBlank_0 rfl (lv_at hl 0 rfl) ?_
  refine lv_bipush (v := 32) hx hb dX5_isBlank_1 (by decide) ?_
  refine lv_icmp_eq (tgt := 12) hx hb dX5_isBlank_3 (by decide) (fun c3 => ?_) (fun c3 => ?_)
  · refine lv_iconst (v := 1) hx hb dX5_isBlank_12 (by decide) ?_
    refine lv_goto (tgt := 17) hx hb dX5_isBlank_13 (by decide) ?_
    exact ro_z hx hb hr hlocks hq (rfl) dX5_isBlank_17 (by simp [bI, isBl, c3])
  · refine lv_iload_n hx hb dX5_isBlank_6 rfl (lv_at hl 0 rfl) ?_
    refine lv_bipush (v := 10) hx hb dX5_isBlank_7 (by decide) ?_
    refine lv_icmp_ne (tgt := 16) hx hb dX5_isBlank_9 (by decide) (fun c9 => ?_) (fun c9 => ?_)
    · refine lv_iconst (v := 0) hx hb dX5_isBlank_16 (by decide) ?_
      exact ro_z hx hb hr hlocks hq (rfl) dX5_isBlank_17 (by simp [bI, isBl, c3, c9])
    · refine lv_iconst (v := 1) hx hb dX5_isBlank_12 (by decide) ?_
      refine lv_goto (tgt := 17) hx hb dX5_isBlank_13 (by decide) ?_
      exact ro_z hx hb hr hlocks hq (rfl) dX5_isBlank_17 (by simp [bI, isBl, c3, c9])
set_option maxHeartbeats 4000000 in
set_option maxRecDepth 100000 in
theorem c_X5_isDigit (l : Launch) (D : va_G) (k : Nat → ClassId) (x : Int32) : Ro l yX5_isDigit cX5_isDigit 1 (some .boolean) 0 D (TY k) G0 [.int x] ([]) (some (.int (bI (dig x)))) := by
  refine ro_body (by decide +kernel) (Nat.le_of_ble_eq_true rfl) ?_
  intro p e s m args below meth c_ Q hx hb hml hown hts hK hP hS hG hr hq hlocks ls hl
  replace hl : lv_has ls 1 [(0, .int x)] := hl
  change s.vm.findClass RX5 = some m.cls at hown
  refine lv_iload_n hx hb dX5_isDigit_0 rfl (lv_at hl 0 rfl) ?_
  refine lv_bipush (v := 48) hx hb dX5_isDigit_1 (by decide) ?_
  refine lv_icmp_lt (tgt := 16) hx hb dX5_isDigit_3 (by decide) (fun c3 => ?_) (fun c3 => ?_)
  · refine lv_iconst (v := 0) hx hb dX5_isDigit_16 (by decide) ?_
    exact ro_z hx hb hr hlocks hq (rfl) dX5_isDigit_17 (by simp [bI, dig, c3])
  · refine lv_iload_n hx hb dX5_isDigit_6 rfl (lv_at hl 0 rfl) ?_
    refine lv_bipush (v := 57) hx hb dX5_isDigit_7 (by decide) ?_
    refine lv_icmp_gt (tgt := 16) hx hb dX5_isDigit_9 (by decide) (fun c9 => ?_) (fun c9 => ?_)
    · refine lv_iconst (v := 0) hx hb dX5_isDigit_16 (by decide) ?_
      exact ro_z hx hb hr hlocks hq (rfl) dX5_isDigit_17 (by simp [bI, dig, c3, c9])
    · refine lv_iconst (v := 1) hx hb dX5_isDigit_12 (by decide) ?_
      refine lv_goto (tgt := 17) hx hb dX5_isDigit_13 (by decide) ?_
      exact ro_z hx hb hr hlocks hq (rfl) dX5_isDigit_17 (by simp [bI, dig, c3, c9])
set_option maxHeartbeats 4000000 in
set_option maxRecDepth 100000 in
theorem c_X5_isLetterOrDigit (l : Launch) (D : va_G) (k : Nat → ClassId) (x : Int32) : Ro l yX5_isLetterOrDigit cX5_isLetterOrDigit 1 (some .boolean) 1 D (TY k) G0 [.int x] ([]) (some (.int (bI (isLD x)))) := by
  refine ro_body (by decide +kernel) (Nat.le_of_ble_eq_true rfl) ?_
  intro p e s m args below meth c_ Q hx hb hml hown hts hK hP hS hG hr hq hlocks ls hl
  replace hl : lv_has ls 1 [(0, .int x)] := hl
  change s.vm.findClass RX5 = some m.cls at hown
  refine lv_iload_n hx hb dX5_isLetterOrDigit_0 rfl (lv_at hl 0 rfl) ?_
  refine lv_bipush (v := 97) hx hb dX5_isLetterOrDigit_1 (by decide) ?_
  refine lv_icmp_lt (tgt := 12) hx hb dX5_isLetterOrDigit_3 (by decide) (fun c3 => ?_) (fun c3 => ?_)
  · refine lv_iload_n hx hb dX5_isLetterOrDigit_12 rfl (lv_at hl 0 rfl) ?_
    refine ro_S (rest := []) (st1 := [.int (bI (dig x))]) (As := [.int x]) ⟨hx, hb, hml, hown, hts⟩ Gd0 trivial hS hK (c_X5_isDigit l D k x) mi_X5_isDigit wd_2_0 wd_1_239 ⟨Nat.le_of_ble_eq_true rfl, Nat.le_of_ble_eq_true rfl⟩ (fun k9 q9 h9 => by simp at h9) rfl hl.1 rfl (Nat.le_of_ble_eq_true rfl) rfl ⟨Nat.le_of_ble_eq_true rfl, Nat.le_of_ble_eq_true rfl⟩ dX5_isLetterOrDigit_13 ?_
    refine lv_if_eq (tgt := 23) hx hb dX5_isLetterOrDigit_16 (by decide) (fun c16 => ?_) (fun c16 => ?_)
    · replace c16 : (dig x) = false := bI_0.mp c16
      refine lv_iconst (v := 0) hx hb dX5_isLetterOrDigit_23 (by decide) ?_
      exact ro_z hx hb hr hlocks hq (rfl) dX5_isLetterOrDigit_24 (by
        have e1 : let_ x = false := by simp [let_, c3]
        rw [isLD, e1, c16]; rfl)
    · replace c16 : (dig x) = true := bI_n.mp c16
      refine lv_iconst (v := 1) hx hb dX5_isLetterOrDigit_19 (by decide) ?_
      refine lv_goto (tgt := 24) hx hb dX5_isLetterOrDigit_20 (by decide) ?_
      exact ro_z hx hb hr hlocks hq (rfl) dX5_isLetterOrDigit_24 (by
        have e1 : let_ x = false := by simp [let_, c3]
        rw [isLD, e1, c16]; rfl)
  · refine lv_iload_n hx hb dX5_isLetterOrDigit_6 rfl (lv_at hl 0 rfl) ?_
    refine lv_bipush (v := 122) hx hb dX5_isLetterOrDigit_7 (by decide) ?_
    refine lv_icmp_le (tgt := 19) hx hb dX5_isLetterOrDigit_9 (by decide) (fun c9 => ?_) (fun c9 => ?_)
    · refine lv_iconst (v := 1) hx hb dX5_isLetterOrDigit_19 (by decide) ?_
      refine lv_goto (tgt := 24) hx hb dX5_isLetterOrDigit_20 (by decide) ?_
      exact ro_z hx hb hr hlocks hq (rfl) dX5_isLetterOrDigit_24 (by
        have e1 : let_ x = true := by simp [let_, c3, Int32.not_lt.mpr c9]
        rw [isLD, e1]; rfl)
    · refine lv_iload_n hx hb dX5_isLetterOrDigit_12 rfl (lv_at hl 0 rfl) ?_
      refine ro_S (rest := []) (st1 := [.int (bI (dig x))]) (As := [.int x]) ⟨hx, hb, hml, hown, hts⟩ Gd0 trivial hS hK (c_X5_isDigit l D k x) mi_X5_isDigit wd_2_0 wd_1_239 ⟨Nat.le_of_ble_eq_true rfl, Nat.le_of_ble_eq_true rfl⟩ (fun k9 q9 h9 => by simp at h9) rfl hl.1 rfl (Nat.le_of_ble_eq_true rfl) rfl ⟨Nat.le_of_ble_eq_true rfl, Nat.le_of_ble_eq_true rfl⟩ dX5_isLetterOrDigit_13 ?_
      refine lv_if_eq (tgt := 23) hx hb dX5_isLetterOrDigit_16 (by decide) (fun c16 => ?_) (fun c16 => ?_)
      · replace c16 : (dig x) = false := bI_0.mp c16
        refine lv_iconst (v := 0) hx hb dX5_isLetterOrDigit_23 (by decide) ?_
        exact ro_z hx hb hr hlocks hq (rfl) dX5_isLetterOrDigit_24 (by
        have e1 : let_ x = false := by simp [let_, c3, Int32.not_le.mp c9]
        rw [isLD, e1, c16]; rfl)
      · replace c16 : (dig x) = true := bI_n.mp c16
        refine lv_iconst (v := 1) hx hb dX5_isLetterOrDigit_19 (by decide) ?_
        refine lv_goto (tgt := 24) hx hb dX5_isLetterOrDigit_20 (by decide) ?_
        exact ro_z hx hb hr hlocks hq (rfl) dX5_isLetterOrDigit_24 (by
        have e1 : let_ x = false := by simp [let_, c3, Int32.not_le.mp c9]
        rw [isLD, e1, c16]; rfl)
def rUsual (f : Nat → Int32) : Nat → Int32 := lp (fun i f => upd f i (kUsual i)) 9 0 f
def rNone (f : Nat → Int32) : Nat → Int32 := lp (fun i f => upd f i 0) 9 0 f
set_option maxHeartbeats 4000000 in
set_option maxRecDepth 100000 in
theorem c_X5_startAgain (l : Launch) (D : va_G) (k : Nat → ClassId) (kz : Nat) (ke sK sV : Nat → Nat) (t : Nat → Nat) (fm : Int32) (st be : Nat) (fk : Int32) (rd mt : Nat → Int32) : Fs (S := RSt) l yX5_startAgain cX5_startAgain 2 none 0 0 0 D (TY k) (GK kz ke sK sV) [.ref (t 0)] (bR t k (fm, st, be, fk, rd, mt)) (fun _ => none) (fun u => u = (fm, st, 0, 0, rUsual rd, rNone mt)) (fun u => bR t k u) := by
  refine fs_body (by decide +kernel) (Nat.le_of_ble_eq_true rfl) ?_
  intro p e s m args below meth c_ Q A hx hb hml hown hts hK hP hD hS hA hG hin hr hq hlocks ls hl
  replace hl : lv_has ls 2 [(0, .ref (t 0))] := hl
  change s.vm.findClass RX5 = some m.cls at hown
  have L : ∀ (r i : Nat) (f1 : Nat → Int32) (f2 : Nat → Int32) (H : Heap) (locs : List Loc), i + r = 9 → (lp (fun i f => upd f i (kUsual i)) r i f1, lp (fun i f => upd f i 0) r i f2) = (rUsual rd, rNone mt) → va_P D vwCl ([(t 0, .inr (5, [.ref (t 1), .ref (t 2), .int fm, .int (nI st), .int (nI be), .int fk])), (t 1, .inl (k 0, 9, .inl f1)), (t 2, .inl (k 1, 9, .inl f2))]) H → va_D A ([(t 0, .inr (5, [.ref (t 1), .ref (t 2), .int fm, .int (nI st), .int (nI be), .int fk])), (t 1, .inl (k 0, 9, .inl f1)), (t 2, .inl (k 1, 9, .inl f2))]) → va_S A s.heap H locs → ∀ (ls : Array Slot), lv_has ls 2 [(0, .ref (t 0)), (1, .int (nI i))] → W p l e (rmd 0 0 0) s m args below meth c_ H locs 0 0 Q (F0 m 2 ls []) := by
    intro r
    induction r with
    | zero =>
      intro i f1 f2 H locs hi he hP hD hS ls hl
      refine lv_iload_n hx hb dX5_startAgain_2 rfl (lv_at hl 1 rfl) ?_
      refine va_getsN hx hb hG.1 hS hown (va_Nw.use rfl hG.2.2.2.2.2.2.2.2.2.2.1) (fun _ h9 => h9) dX5_startAgain_3 ?_
      refine va_tlen (v := 9) hx hb hG.2.1 hS rfl dX5_startAgain_6 ?_
      refine lv_icmp_ge (tgt := 37) hx hb dX5_startAgain_7 (by decide) (fun c7 => ?_) (fun c7 => absurd (nI_le (a := 9) (by omega) (by omega)) c7)
      refine lv_aload_n hx hb dX5_startAgain_37 rfl (lv_at hl 0 rfl) ?_
      refine lv_iconst (v := 0) hx hb dX5_startAgain_38 (by decide) ?_
      refine va_put (D := D) (ci := 5) (v := .int 0) (C := RX5) (T := TX5) (N := 6) hx hb hts inX5 tyX5 tyX5_ok nmX5 hown hK hP hD hS 0 rfl rfl 4 (by decide) (hts _ wd_1_62) (fun _ h9 => h9) rfl (tyX5_ok 4 (by decide)) rfl rfl (Nat.le_of_ble_eq_true rfl) dX5_startAgain_39 (fun H locs hP hD hS => ?_)
      replace hP : va_P D vwCl ([(t 0, .inr (5, [.ref (t 1), .ref (t 2), .int fm, .int (nI st), .int 0, .int fk])), (t 1, .inl (k 0, 9, .inl f1)), (t 2, .inl (k 1, 9, .inl f2))]) H := hP
      replace hD : va_D A ([(t 0, .inr (5, [.ref (t 1), .ref (t 2), .int fm, .int (nI st), .int 0, .int fk])), (t 1, .inl (k 0, 9, .inl f1)), (t 2, .inl (k 1, 9, .inl f2))]) := hD
      refine lv_aload_n hx hb dX5_startAgain_42 rfl (lv_at hl 0 rfl) ?_
      refine lv_iconst (v := 0) hx hb dX5_startAgain_43 (by decide) ?_
      refine va_put (D := D) (ci := 5) (v := .int 0) (C := RX5) (T := TX5) (N := 6) hx hb hts inX5 tyX5 tyX5_ok nmX5 hown hK hP hD hS 0 rfl rfl 5 (by decide) (hts _ wd_1_63) (fun _ h9 => h9) rfl (tyX5_ok 5 (by decide)) rfl rfl (Nat.le_of_ble_eq_true rfl) dX5_startAgain_44 (fun H locs hP hD hS => ?_)
      replace hP : va_P D vwCl ([(t 0, .inr (5, [.ref (t 1), .ref (t 2), .int fm, .int (nI st), .int 0, .int 0])), (t 1, .inl (k 0, 9, .inl f1)), (t 2, .inl (k 1, 9, .inl f2))]) H := hP
      replace hD : va_D A ([(t 0, .inr (5, [.ref (t 1), .ref (t 2), .int fm, .int (nI st), .int 0, .int 0])), (t 1, .inl (k 0, 9, .inl f1)), (t 2, .inl (k 1, 9, .inl f2))]) := hD
      exact fs_v hx hb hr hlocks hq (fm, st, 0, 0, f1, f2) (by rw [show rUsual rd = f1 from (congrArg Prod.fst he).symm, show rNone mt = f2 from (congrArg Prod.snd he).symm]) hP hD hS dX5_startAgain_47 rfl
    | succ r ih =>
      intro i f1 f2 H locs hi he hP hD hS ls hl
      refine lv_iload_n hx hb dX5_startAgain_2 rfl (lv_at hl 1 rfl) ?_
      refine va_getsN hx hb hG.1 hS hown (va_Nw.use rfl hG.2.2.2.2.2.2.2.2.2.2.1) (fun _ h9 => h9) dX5_startAgain_3 ?_
      refine va_tlen (v := 9) hx hb hG.2.1 hS rfl dX5_startAgain_6 ?_
      refine lv_icmp_ge (tgt := 37) hx hb dX5_startAgain_7 (by decide) (fun c7 => absurd c7 (nI_ge (b := 9) (by omega) (by omega))) (fun c7 => ?_)
      refine lv_aload_n hx hb dX5_startAgain_10 rfl (lv_at hl 0 rfl) ?_
      refine va_get (D := D) (ci := 5) (v := .ref (t 1)) (C := RX5) (T := TX5) (N := 6) hx hb hts inX5 hown hK hP 0 rfl rfl 0 (by decide) (hts _ wd_1_58) (fun _ h9 => h9) rfl dX5_startAgain_11 ?_
      refine lv_iload_n hx hb dX5_startAgain_14 rfl (lv_at hl 1 rfl) ?_
      refine va_getsN hx hb hG.1 hS hown (va_Nw.use rfl hG.2.2.2.2.2.2.2.2.2.2.1) (fun _ h9 => h9) dX5_startAgain_15 ?_
      refine lv_iload_n hx hb dX5_startAgain_18 rfl (lv_at hl 1 rfl) ?_
      refine vb_tq (v := .ref (ke i)) hx hb hG.2.1 hS (vp_in_nI (by omega) (by omega)) (by show Value.ref (ke (nI i).toNatClampNeg) = _; rw [nI_clamp (by omega)]) dX5_startAgain_19 ?_
      refine va_getX (i := i) hx hb hG.2.2.2.2.2.2.1 (by omega) hS hown (hts _ wd_6_76) (fun _ h9 => h9) dX5_startAgain_20 ?_
      refine ra_iast (n := 9) (f := f1) hx hb hK hP hD hS 1 0 rfl rfl i rfl (by omega) (by decide) dX5_startAgain_23 (fun H locs hP hD hS => ?_)
      replace hP : va_P D vwCl ([(t 0, .inr (5, [.ref (t 1), .ref (t 2), .int fm, .int (nI st), .int (nI be), .int fk])), (t 1, .inl (k 0, 9, .inl (upd f1 i (kUsual i)))), (t 2, .inl (k 1, 9, .inl f2))]) H := hP
      replace hD : va_D A ([(t 0, .inr (5, [.ref (t 1), .ref (t 2), .int fm, .int (nI st), .int (nI be), .int fk])), (t 1, .inl (k 0, 9, .inl (upd f1 i (kUsual i)))), (t 2, .inl (k 1, 9, .inl f2))]) := hD
      refine lv_aload_n hx hb dX5_startAgain_24 rfl (lv_at hl 0 rfl) ?_
      refine va_get (D := D) (ci := 5) (v := .ref (t 2)) (C := RX5) (T := TX5) (N := 6) hx hb hts inX5 hown hK hP 0 rfl rfl 1 (by decide) (hts _ wd_1_59) (fun _ h9 => h9) rfl dX5_startAgain_25 ?_
      refine lv_iload_n hx hb dX5_startAgain_28 rfl (lv_at hl 1 rfl) ?_
      refine lv_iconst (v := 0) hx hb dX5_startAgain_29 (by decide) ?_
      refine ra_zast (n := 9) (f := f2) hx hb hK hP hD hS 2 1 rfl rfl i rfl (by omega) (by decide) (rfl) dX5_startAgain_30 (fun H locs hP hD hS => ?_)
      replace hP : va_P D vwCl ([(t 0, .inr (5, [.ref (t 1), .ref (t 2), .int fm, .int (nI st), .int (nI be), .int fk])), (t 1, .inl (k 0, 9, .inl (upd f1 i (kUsual i)))), (t 2, .inl (k 1, 9, .inl (upd f2 i 0)))]) H := hP
      replace hD : va_D A ([(t 0, .inr (5, [.ref (t 1), .ref (t 2), .int fm, .int (nI st), .int (nI be), .int fk])), (t 1, .inl (k 0, 9, .inl (upd f1 i (kUsual i)))), (t 2, .inl (k 1, 9, .inl (upd f2 i 0)))]) := hD
      refine lv_iinc (v := nI (i + 1)) (lv' := [(1, .int (nI (i + 1))), (0, .ref (t 0))]) hx hb dX5_startAgain_31 hl (k := 1) rfl (nI_1 _) (by decide) rfl (fun ls hl => ?_)
      refine lv_goto (tgt := 2) hx hb dX5_startAgain_34 (by decide) ?_
      exact ih (i + 1) (upd f1 i (kUsual i)) (upd f2 i 0) H locs (by omega) (by rw [← he]; rfl) hP hD hS ls (lv_sub hl [1, 0] rfl)
  refine lv_iconst (v := 0) hx hb dX5_startAgain_0 (by decide) ?_
  refine lv_istore_n (lv' := [(1, .int 0), (0, .ref (t 0))]) hx hb dX5_startAgain_1 rfl hl (by decide) rfl (fun ls hl => ?_)
  exact L 9 0 rd mt _ _ (by omega) (rfl) hP hD hS ls (lv_sub hl [1, 0] rfl)
