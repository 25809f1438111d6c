/-- the WORD read is word i -/
def wordIs (f : Nat → Int32) (st be i : Nat) : Bool := decide (kL i = be - st) && !(fnd (fun j => !decide (kB i j = f (st + j))) (kL i) 0).isSome
def kRef (ke : Nat → Nat) (o : Option Nat) : Value := match o with | none => .null | some i => .ref (ke i)
def kindIs (f : Nat → Int32) (st be : Nat) : Option Nat := fnd (wordIs f st be) 9 0
theorem mi_X5_kindOfWord : MI RX5 yX5_kindOfWord cX5_kindOfWord 3 (some (.object "LoanChest$Kind")) 1 := ⟨⟨wd_1_3, wd_2_9⟩, rfl, by decide +kernel, by decide +kernel, by decide +kernel⟩
set_option maxHeartbeats 4000000 in
set_option maxRecDepth 100000 in
theorem c_X5_isWordRead (l : Launch) (D : va_G) (k : Nat → ClassId) (kz : Nat) (ke sK sV : Nat → Nat) (t : Nat → Nat) (fm : Int32) (st be : Nat) (fk : Int32) (rd mt : Nat → Int32) (y : Nat → Nat) (n : Nat) (f : Nat → Int32) (i : Nat) (hi : i < 9) (hn : n ≤ 320) (h1 : st ≤ be) (h2 : be ≤ n) : Ro l yX5_isWordRead cX5_isWordRead 4 (some .boolean) 4 D (TY k) (GK kz ke sK sV) [.ref (t 0), .ref (sK i), .ref (y 0)] (bRT t y k n f (fm, st, be, fk, rd, mt)) (some (.int (bI (wordIs f st be i)))) := by
  refine ro_body (by decide +kernel) (Nat.le_of_ble_eq_true rfl) ?_
  intro p e s m args below meth c_ Q hx hb hml hown hts hK hP hS hG hr hq hlocks ls hl
  replace hl : lv_has ls 4 [(0, .ref (t 0)), (1, .ref (sK i)), (2, .ref (y 0))] := hl
  change s.vm.findClass RX5 = some m.cls at hown
  have hk8 := kL_le i hi
  refine lv_aload_n hx hb dX5_isWordRead_0 rfl (lv_at hl 1 rfl) ?_
  refine ro_Vr (vk_recv hG.2.2.2.2.2.2.2.1 (by omega) hS) (rest := []) (st1 := [.int (nI (kL i))]) (As := []) ⟨hx, hb, hml, hown, hts⟩ GdK hG hS hK (c_J0_length_8abf5 l D k kz ke sK sV i (by omega)) mi_J0_length_8abf5 wd_2_15 wd_2_16 wd_2_14 ⟨Nat.le_of_ble_eq_true rfl, Nat.le_of_ble_eq_true rfl⟩ (fun k9 q9 h9 => by simp at h9) rfl hl.1 rfl (Nat.le_of_ble_eq_true rfl) rfl ⟨Nat.le_of_ble_eq_true rfl, Nat.le_of_ble_eq_true rfl⟩ dX5_isWordRead_1 ?_
  refine lv_aload_n hx hb dX5_isWordRead_4 rfl (lv_at hl 0 rfl) ?_
  refine va_get (D := D) (ci := 5) (v := .int (nI be)) (C := RX5) (T := TX5) (N := 6) hx hb hts inX5 hown hK hP 0 rfl rfl 4 (by decide) (hts _ wd_1_62) (fun _ h9 => h9) rfl dX5_isWordRead_5 ?_
  refine lv_aload_n hx hb dX5_isWordRead_8 rfl (lv_at hl 0 rfl) ?_
  refine va_get (D := D) (ci := 5) (v := .int (nI st)) (C := RX5) (T := TX5) (N := 6) hx hb hts inX5 hown hK hP 0 rfl rfl 3 (by decide) (hts _ wd_1_61) (fun _ h9 => h9) rfl dX5_isWordRead_9 ?_
  refine lv_isub hx hb dX5_isWordRead_12 ?_
  refine rw_topi (y := nI (be - st)) (pk_sub (by omega)) ?_
  refine lv_icmp_eq (tgt := 18) hx hb dX5_isWordRead_13 (by decide) (fun c13 => ?_) (fun c13 => ?_)
  · replace c13 : (kL i) = (be - st) := (nI_eq (a := kL i) (b := be - st) (by omega) (by omega)).mp c13
    have L : ∀ (r j : Nat), j + r = kL i → bI (!(fnd (fun j => !decide (kB i j = f (st + j))) r j).isSome) = bI (wordIs f st be i) → ∀ (ls : Array Slot), lv_has ls 4 [(0, .ref (t 0)), (1, .ref (sK i)), (2, .ref (y 0)), (3, .int (nI j))] → W p l e (rmd 4 0 0) s m args below meth c_ s.heap [] 0 0 Q (F0 m 20 ls []) := by
      intro r
      induction r with
      | zero =>
        intro j hi he ls hl
        have hk8 := kL_le i (by omega)
        refine lv_iload_n hx hb dX5_isWordRead_20 rfl (lv_at hl 3 rfl) ?_
        refine lv_aload_n hx hb dX5_isWordRead_21 rfl (lv_at hl 1 rfl) ?_
        refine ro_Vr (vk_recv hG.2.2.2.2.2.2.2.1 (by omega) hS) (rest := [.int (nI j)]) (st1 := [.int (nI (kL i)), .int (nI j)]) (As := []) ⟨hx, hb, hml, hown, hts⟩ GdK hG hS hK (c_J0_length_8abf5 l D k kz ke sK sV i (by omega)) mi_J0_length_8abf5 wd_2_15 wd_2_16 wd_2_14 ⟨Nat.le_of_ble_eq_true rfl, Nat.le_of_ble_eq_true rfl⟩ (fun k9 q9 h9 => by simp at h9) rfl hl.1 rfl (Nat.le_of_ble_eq_true rfl) rfl ⟨Nat.le_of_ble_eq_true rfl, Nat.le_of_ble_eq_true rfl⟩ dX5_isWordRead_22 ?_
        refine lv_icmp_ge (tgt := 54) hx hb dX5_isWordRead_25 (by decide) (fun c25 => ?_) (fun c25 => absurd (nI_le (by omega) (by omega)) c25)
        refine lv_iconst (v := 1) hx hb dX5_isWordRead_54 (by decide) ?_
        exact ro_z hx hb hr hlocks hq (rfl) dX5_isWordRead_55 (by rw [← he]; simp [fnd, bI, ])
      | succ r ih =>
        intro j hi he ls hl
        have hk8 := kL_le i (by omega)
        refine lv_iload_n hx hb dX5_isWordRead_20 rfl (lv_at hl 3 rfl) ?_
        refine lv_aload_n hx hb dX5_isWordRead_21 rfl (lv_at hl 1 rfl) ?_
        refine ro_Vr (vk_recv hG.2.2.2.2.2.2.2.1 (by omega) hS) (rest := [.int (nI j)]) (st1 := [.int (nI (kL i)), .int (nI j)]) (As := []) ⟨hx, hb, hml, hown, hts⟩ GdK hG hS hK (c_J0_length_8abf5 l D k kz ke sK sV i (by omega)) mi_J0_length_8abf5 wd_2_15 wd_2_16 wd_2_14 ⟨Nat.le_of_ble_eq_true rfl, Nat.le_of_ble_eq_true rfl⟩ (fun k9 q9 h9 => by simp at h9) rfl hl.1 rfl (Nat.le_of_ble_eq_true rfl) rfl ⟨Nat.le_of_ble_eq_true rfl, Nat.le_of_ble_eq_true rfl⟩ dX5_isWordRead_22 ?_
        refine lv_icmp_ge (tgt := 54) hx hb dX5_isWordRead_25 (by decide) (fun c25 => absurd c25 (nI_ge (by omega) (by omega))) (fun c25 => ?_)
        refine lv_aload_n hx hb dX5_isWordRead_28 rfl (lv_at hl 1 rfl) ?_
        refine lv_iload_n hx hb dX5_isWordRead_29 rfl (lv_at hl 3 rfl) ?_
        refine ro_Vr (vk_recv hG.2.2.2.2.2.2.2.1 (by omega) hS) (rest := []) (st1 := [.int (kB i j)]) (As := [.int (nI j)]) ⟨hx, hb, hml, hown, hts⟩ GdK hG hS hK (c_J0_charAt_5068e l D k kz ke sK sV i j (by omega) (by omega)) mi_J0_charAt_5068e wd_2_25 wd_2_26 wd_2_24 ⟨Nat.le_of_ble_eq_true rfl, Nat.le_of_ble_eq_true rfl⟩ (fun k9 q9 h9 => by simp at h9) rfl hl.1 rfl (Nat.le_of_ble_eq_true rfl) rfl ⟨Nat.le_of_ble_eq_true rfl, Nat.le_of_ble_eq_true rfl⟩ dX5_isWordRead_30 ?_
        refine lv_aload_n hx hb dX5_isWordRead_33 rfl (lv_at hl 2 rfl) ?_
        refine lv_aload_n hx hb dX5_isWordRead_34 rfl (lv_at hl 0 rfl) ?_
        refine va_get (D := D) (ci := 5) (v := .int (nI st)) (C := RX5) (T := TX5) (N := 6) hx hb hts inX5 hown hK hP 0 rfl rfl 3 (by decide) (hts _ wd_1_61) (fun _ h9 => h9) rfl dX5_isWordRead_35 ?_
        refine lv_iload_n hx hb dX5_isWordRead_38 rfl (lv_at hl 3 rfl) ?_
        refine lv_iadd hx hb dX5_isWordRead_39 ?_
        refine rw_topi (y := nI (st + j)) (nI_add _ _) ?_
        refine ro_V (rest := [.int (kB i j)]) (st1 := [.int (byteF n f (nI (st + j))), .int (kB i j)]) (As := [.int (nI (st + j))]) ⟨hx, hb, hml, hown, hts⟩ Gd0 trivial hS hK (c_X7_byteAt l D k y n f (nI (st + j)) hn) mi_X7_byteAt wd_1_226 wd_1_227 wd_1_225 ⟨Nat.le_of_ble_eq_true rfl, Nat.le_of_ble_eq_true rfl⟩ (hP.sub [3, 4] rfl) 0 rfl rfl rfl hl.1 rfl (Nat.le_of_ble_eq_true rfl) rfl ⟨Nat.le_of_ble_eq_true rfl, Nat.le_of_ble_eq_true rfl⟩ dX5_isWordRead_40 ?_
        refine rw_topi (y := f (st + j)) (byteF_in (by omega) hn) ?_
        refine lv_icmp_eq (tgt := 48) hx hb dX5_isWordRead_43 (by decide) (fun c43 => ?_) (fun c43 => ?_)
        · refine lv_iinc (v := nI (j + 1)) (lv' := [(3, .int (nI (j + 1))), (0, .ref (t 0)), (1, .ref (sK i)), (2, .ref (y 0))]) hx hb dX5_isWordRead_48 hl (k := 3) rfl (nI_1 _) (by decide) rfl (fun ls hl => ?_)
          refine lv_goto (tgt := 20) hx hb dX5_isWordRead_51 (by decide) ?_
          exact ih (j + 1)  (by omega) (by rw [← he]; simp [fnd, c43]) ls (lv_sub hl [1, 2, 3, 0] rfl)
        · refine lv_iconst (v := 0) hx hb dX5_isWordRead_46 (by decide) ?_
          exact ro_z hx hb hr hlocks hq (rfl) dX5_isWordRead_47 (by rw [← he]; simp [fnd, bI, c43])
    refine lv_iconst (v := 0) hx hb dX5_isWordRead_18 (by decide) ?_
    refine lv_istore_n (lv' := [(3, .int 0), (0, .ref (t 0)), (1, .ref (sK i)), (2, .ref (y 0))]) hx hb dX5_isWordRead_19 rfl hl (by decide) rfl (fun ls hl => ?_)
    exact L (kL i) 0 (by omega) (by rw [wordIs, decide_eq_true c13]; rfl) ls (lv_sub hl [1, 2, 3, 0] rfl)
  · replace c13 : ¬ ((kL i) = (be - st)) := fun z => c13 ((nI_eq (a := kL i) (b := be - st) (by omega) (by omega)).mpr z)
    refine lv_iconst (v := 0) hx hb dX5_isWordRead_16 (by decide) ?_
    exact ro_z hx hb hr hlocks hq (rfl) dX5_isWordRead_17 (by rw [wordIs, decide_eq_false c13]; rfl)
set_option maxHeartbeats 4000000 in
set_option maxRecDepth 100000 in
theorem c_X5_kindOfWord (l : Launch) (D : va_G) (k : Nat → ClassId) (kz : Nat) (ke sK sV : Nat → Nat) (t : Nat → Nat) (fm : Int32) (st be : Nat) (fk : Int32) (rd mt : Nat → Int32) (y : Nat → Nat) (n : Nat) (f : Nat → Int32) (hn : n ≤ 320) (h1 : st ≤ be) (h2 : be ≤ n) : Ro l yX5_kindOfWord cX5_kindOfWord 3 (some (.object "LoanChest$Kind")) 5 D (TY k) (GK kz ke sK sV) [.ref (t 0), .ref (y 0)] (bRT t y k n f (fm, st, be, fk, rd, mt)) (some (kRef ke (kindIs f st be))) := by
  refine ro_body (by decide +kernel) (Nat.le_of_ble_eq_true rfl) ?_
  intro p e s m args below meth c_ Q hx hb hml hown hts hK hP hS hG hr hq hlocks ls hl
  replace hl : lv_has ls 3 [(0, .ref (t 0)), (1, .ref (y 0))] := hl
  change s.vm.findClass RX5 = some m.cls at hown
  have L : ∀ (r i : Nat), i + r = 9 → kRef ke (fnd (wordIs f st be) r i) = kRef ke (kindIs f st be) → ∀ (ls : Array Slot), lv_has ls 3 [(0, .ref (t 0)), (1, .ref (y 0)), (2, .int (nI i))] → W p l e (rmd 5 0 0) s m args below meth c_ s.heap [] 0 0 Q (F0 m 2 ls []) := by
    intro r
    induction r with
    | zero =>
      intro i hi he ls hl
      refine lv_iload_n hx hb dX5_kindOfWord_2 rfl (lv_at hl 2 rfl) ?_
      refine va_getsN hx hb hG.1 hS hown (va_Nw.use rfl hG.2.2.2.2.2.2.2.2.2.2.1) (fun _ h9 => h9) dX5_kindOfWord_3 ?_
      refine va_tlen (v := 9) hx hb hG.2.1 hS rfl dX5_kindOfWord_6 ?_
      refine lv_icmp_ge (tgt := 38) hx hb dX5_kindOfWord_7 (by decide) (fun c7 => ?_) (fun c7 => absurd (nI_le (a := 9) (by omega) (by omega)) c7)
      refine lv_null hx hb dX5_kindOfWord_38 ?_
      exact ro_a hx hb hr (Or.inl ⟨_, rfl⟩) hlocks hq (Or.inl rfl) dX5_kindOfWord_39 (by rw [← he]; rfl)
    | succ r ih =>
      intro i hi he ls hl
      refine lv_iload_n hx hb dX5_kindOfWord_2 rfl (lv_at hl 2 rfl) ?_
      refine va_getsN hx hb hG.1 hS hown (va_Nw.use rfl hG.2.2.2.2.2.2.2.2.2.2.1) (fun _ h9 => h9) dX5_kindOfWord_3 ?_
      refine va_tlen (v := 9) hx hb hG.2.1 hS rfl dX5_kindOfWord_6 ?_
      refine lv_icmp_ge (tgt := 38) hx hb dX5_kindOfWord_7 (by decide) (fun c7 => absurd c7 (nI_ge (b := 9) (by omega) (by omega))) (fun c7 => ?_)
      refine lv_aload_n hx hb dX5_kindOfWord_10 rfl (lv_at hl 0 rfl) ?_
      refine va_getsN hx hb hG.1 hS hown (va_Nw.use rfl hG.2.2.2.2.2.2.2.2.2.2.1) (fun _ h9 => h9) dX5_kindOfWord_11 ?_
      refine lv_iload_n hx hb dX5_kindOfWord_14 rfl (lv_at hl 2 rfl) ?_
      refine vb_tq (v := .ref (ke i)) hx hb hG.2.1 hS (vp_in_nI (by omega) (by omega)) (by show Value.ref (ke (nI i).toNatClampNeg) = _; rw [nI_clamp (by omega)]) dX5_kindOfWord_15 ?_
      refine va_getX (i := i) hx hb hG.2.2.2.1 (by omega) hS hown (hts _ wd_6_77) (fun _ h9 => h9) dX5_kindOfWord_16 ?_
      refine lv_aload_n hx hb dX5_kindOfWord_19 rfl (lv_at hl 1 rfl) ?_
      refine ro_V (rest := []) (st1 := [.int (bI (wordIs f st be i))]) (As := [.ref (sK i), .ref (y 0)]) ⟨hx, hb, hml, hown, hts⟩ GdK hG hS hK (c_X5_isWordRead l D k kz ke sK sV t fm st be fk rd mt y n f i (by omega) hn h1 h2) mi_X5_isWordRead wd_2_12 wp_1_5 wd_2_10 ⟨Nat.le_of_ble_eq_true rfl, Nat.le_of_ble_eq_true rfl⟩ (hP) 0 rfl rfl rfl hl.1 rfl (Nat.le_of_ble_eq_true rfl) rfl ⟨Nat.le_of_ble_eq_true rfl, Nat.le_of_ble_eq_true rfl⟩ dX5_kindOfWord_20 ?_
      refine lv_if_eq (tgt := 32) hx hb dX5_kindOfWord_23 (by decide) (fun c23 => ?_) (fun c23 => ?_)
      · replace c23 : (wordIs f st be i) = false := bI_0.mp c23
        refine lv_iinc (v := nI (i + 1)) (lv' := [(2, .int (nI (i + 1))), (0, .ref (t 0)), (1, .ref (y 0))]) hx hb dX5_kindOfWord_32 hl (k := 2) rfl (nI_1 _) (by decide) rfl (fun ls hl => ?_)
        refine lv_goto (tgt := 2) hx hb dX5_kindOfWord_35 (by decide) ?_
        exact ih (i + 1)  (by omega) (by rw [← he, fnd, if_neg (show ¬ (wordIs f st be i = true) by rw [c23]; decide)]) ls (lv_sub hl [1, 2, 0] rfl)
      · replace c23 : (wordIs f st be i) = true := bI_n.mp c23
        refine va_getsN hx hb hG.1 hS hown (va_Nw.use rfl hG.2.2.2.2.2.2.2.2.2.2.1) (fun _ h9 => h9) dX5_kindOfWord_26 ?_
        refine lv_iload_n hx hb dX5_kindOfWord_29 rfl (lv_at hl 2 rfl) ?_
        refine vb_tq (v := .ref (ke i)) hx hb hG.2.1 hS (vp_in_nI (by omega) (by omega)) (by show Value.ref (ke (nI i).toNatClampNeg) = _; rw [nI_clamp (by omega)]) dX5_kindOfWord_30 ?_
        exact ro_a hx hb hr (Or.inl ⟨_, rfl⟩) hlocks hq (Or.inr ⟨_, rfl⟩) dX5_kindOfWord_31 (by rw [← he, fnd, if_pos (show wordIs f st be i = true from c23)]; rfl)
  refine lv_iconst (v := 0) hx hb dX5_kindOfWord_0 (by decide) ?_
  refine lv_istore_n (lv' := [(2, .int 0), (0, .ref (t 0)), (1, .ref (y 0))]) hx hb dX5_kindOfWord_1 rfl hl (by decide) rfl (fun ls hl => ?_)
  exact L 9 0 (by omega) (rfl) ls (lv_sub hl [1, 2, 0] rfl)
