set_option maxHeartbeats 4000000 in
set_option maxRecDepth 100000 in
theorem c_X9_go (l : Launch) (D : va_G) (h : Nat) (q : Nat → Nat) (k : Nat → ClassId) (c : Nat → Nat) (v : Nat → Int32) (nm : Int64) (a : Nat → Nat → Int32) (hs : c 10 ≤ 320) (ht : c 11 ≤ c 10) : Fs (S := MSt) l yX9_go cX9_go 5 none 1 0 0 D (TY k) G0 [.ref h] (Mw h q k c v nm a) (fun _ => none) (fun u => u = mGo (c, v, nm, a)) (fun u => MwU h q k u) := by
  refine fs_body (by decide +kernel) (Nat.le_of_ble_eq_true rfl) ?_
  intro p e s m args below meth c_ Q A hx hb hml hown hts hK hP hD hS hA hG hin hr hq hlocks ls hl
  replace hl : lv_has ls 5 [(0, .ref h)] := hl
  change s.vm.findClass RX9 = some m.cls at hown
  have hI := skp_bd (a 1) (c 10 - c 11) (c 11)
  replace hI : c 11 ≤ (goI (c, v, nm, a)) ∧ (goI (c, v, nm, a)) ≤ c 11 + (c 10 - c 11) := hI
  have J2 : ∀ (i : Nat) (b : Bool) (n_ : Int64) (w : Int32) (H : Heap) (locs : List Loc), ((i, (b, n_, w)) = goT (c, v, nm, a) ∧ mGo (c, v, nm, a) = goW (c, v, nm, a)) → va_P D vwCl (Mw h q k (up (up (up c 11 (goI (c, v, nm, a))) 12 (goI (c, v, nm, a))) 11 i) (up v 14 w) n_ a) H → va_D A (Mw h q k (up (up (up c 11 (goI (c, v, nm, a))) 12 (goI (c, v, nm, a))) 11 i) (up v 14 w) n_ a) → va_S A s.heap H locs → ∀ (ls : Array Slot), lv_has ls 5 [(0, .ref h), (1, .int (a 1 (goI (c, v, nm, a)))), (2, .int (bI (let_ (a 1 (goI (c, v, nm, a)))))), (3, .int (bI b))] → W p l e (rmd 1 0 0) s m args below meth c_ H locs 0 0 Q (F0 m 312 ls []) := by
    intro i b n_ w H locs he hP hD hS ls hl
    obtain ⟨he, hgW⟩ := he
    have hgb := tok_bd (a 1) (goI (c, v, nm, a)) (let_ (a 1 (goI (c, v, nm, a)))) (c 10 - (goI (c, v, nm, a))) ((goI (c, v, nm, a))) (true, 0, 0)
    rw [show tok (a 1) (goI (c, v, nm, a)) (let_ (a 1 (goI (c, v, nm, a)))) (c 10 - (goI (c, v, nm, a))) ((goI (c, v, nm, a))) (true, 0, 0) = (i, (b, n_, w)) from he.symm] at hgb
    replace hgb : (goI (c, v, nm, a)) ≤ i ∧ i ≤ (goI (c, v, nm, a)) + (c 10 - (goI (c, v, nm, a))) := hgb
    refine lv_aload_n hx hb dX9_go_312 rfl (lv_at hl 0 rfl) ?_
    refine mg_11 (x := nI i) hx hb hts hown hK hP rfl dX9_go_313 ?_
    refine lv_aload_n hx hb dX9_go_316 rfl (lv_at hl 0 rfl) ?_
    refine mg_12 (x := nI (goI (c, v, nm, a))) hx hb hts hown hK hP rfl dX9_go_317 ?_
    refine lv_isub hx hb dX9_go_320 ?_
    refine rw_topi (y := nI (i - (goI (c, v, nm, a)))) (pk_sub (by omega)) ?_
    refine lv_bipush (v := 10) hx hb dX9_go_321 (by decide) ?_
    refine lv_icmp_le (tgt := 333) hx hb dX9_go_323 (by decide) (fun c323 => ?_) (fun c323 => ?_)
    · replace c323 : (i - (goI (c, v, nm, a))) ≤ 10 := (nI_leI (a := i - (goI (c, v, nm, a))) (b := 10) (by omega) (by omega)).mp c323
      refine lv_aload_n hx hb dX9_go_333 rfl (lv_at hl 0 rfl) ?_
      refine lv_iload_n hx hb dX9_go_334 rfl (lv_at hl 3 rfl) ?_
      refine lv_if_eq (tgt := 355) hx hb dX9_go_335 (by decide) (fun c335 => ?_) (fun c335 => ?_)
      · replace c335 : b = false := bI_0.mp c335
        refine lv_iconst (v := 1) hx hb dX9_go_355 (by decide) ?_
        refine lv_goto (tgt := 368) hx hb dX9_go_356 (by decide) ?_
        refine mp_13 hx hb hts hown hK hP hD hS 1 dX9_go_368 (fun H locs hP hD hS => ?_)
        exact fs_v hx hb hr hlocks hq (up (up (up c 11 (goI (c, v, nm, a))) 12 (goI (c, v, nm, a))) 11 i, up (up v 14 w) 13 1, n_, a) (by
            have eW : mGo (c, v, nm, a) = goW (c, v, nm, a) := hgW
            rw [eW, goW, show goT (c, v, nm, a) = (i, (b, n_, w)) from he.symm]
            simp only [goK]
            rw [if_pos c323, if_pos c335]) hP hD hS dX9_go_371 rfl
      · replace c335 : b = true := bI_n.mp c335
        refine lv_iload_n hx hb dX9_go_338 rfl (lv_at hl 2 rfl) ?_
        refine lv_if_ne (tgt := 359) hx hb dX9_go_339 (by decide) (fun c339 => ?_) (fun c339 => ?_)
        · replace c339 : (let_ (a 1 (goI (c, v, nm, a)))) = true := bI_n.mp c339
          refine lv_iload_n hx hb dX9_go_359 rfl (lv_at hl 2 rfl) ?_
          refine lv_if_eq (tgt := 367) hx hb dX9_go_360 (by decide) (fun c360 => absurd c360 (fun e9 => by rw [c339] at e9; exact absurd e9 (by decide))) (fun c360 => ?_)
          refine lv_iconst (v := 2) hx hb dX9_go_363 (by decide) ?_
          refine lv_goto (tgt := 368) hx hb dX9_go_364 (by decide) ?_
          refine mp_13 hx hb hts hown hK hP hD hS 2 dX9_go_368 (fun H locs hP hD hS => ?_)
          exact fs_v hx hb hr hlocks hq (up (up (up c 11 (goI (c, v, nm, a))) 12 (goI (c, v, nm, a))) 11 i, up (up v 14 w) 13 2, n_, a) (by
            have eW : mGo (c, v, nm, a) = goW (c, v, nm, a) := hgW
            rw [eW, goW, show goT (c, v, nm, a) = (i, (b, n_, w)) from he.symm]
            simp only [goK]
            rw [if_pos c323, if_neg (show ¬ (b = false) by rw [c335]; decide), if_pos (show let_ (a 1 (goI (c, v, nm, a))) = true from c339)]) hP hD hS dX9_go_371 rfl
        · replace c339 : (let_ (a 1 (goI (c, v, nm, a)))) = false := bI_0.mp c339
          refine lv_aload_n hx hb dX9_go_342 rfl (lv_at hl 0 rfl) ?_
          refine mg_11 (x := nI i) hx hb hts hown hK hP rfl dX9_go_343 ?_
          refine lv_aload_n hx hb dX9_go_346 rfl (lv_at hl 0 rfl) ?_
          refine mg_12 (x := nI (goI (c, v, nm, a))) hx hb hts hown hK hP rfl dX9_go_347 ?_
          refine lv_isub hx hb dX9_go_350 ?_
          refine rw_topi (y := nI (i - (goI (c, v, nm, a)))) (pk_sub (by omega)) ?_
          refine lv_iconst (v := 5) hx hb dX9_go_351 (by decide) ?_
          refine lv_icmp_le (tgt := 359) hx hb dX9_go_352 (by decide) (fun c352 => ?_) (fun c352 => ?_)
          · replace c352 : (i - (goI (c, v, nm, a))) ≤ 5 := (nI_leI (a := i - (goI (c, v, nm, a))) (b := 5) (by omega) (by omega)).mp c352
            refine lv_iload_n hx hb dX9_go_359 rfl (lv_at hl 2 rfl) ?_
            refine lv_if_eq (tgt := 367) hx hb dX9_go_360 (by decide) (fun c360 => ?_) (fun c360 => absurd (by rw [c339]; rfl) c360)
            refine lv_iconst (v := 3) hx hb dX9_go_367 (by decide) ?_
            refine mp_13 hx hb hts hown hK hP hD hS 3 dX9_go_368 (fun H locs hP hD hS => ?_)
            exact fs_v hx hb hr hlocks hq (up (up (up c 11 (goI (c, v, nm, a))) 12 (goI (c, v, nm, a))) 11 i, up (up v 14 w) 13 3, n_, a) (by
            have eW : mGo (c, v, nm, a) = goW (c, v, nm, a) := hgW
            rw [eW, goW, show goT (c, v, nm, a) = (i, (b, n_, w)) from he.symm]
            simp only [goK]
            rw [if_pos c323, if_neg (show ¬ (b = false) by rw [c335]; decide), if_neg (show ¬ (let_ (a 1 (goI (c, v, nm, a))) = true) by rw [c339]; decide), if_pos c352]) hP hD hS dX9_go_371 rfl
          · replace c352 : ¬ ((i - (goI (c, v, nm, a))) ≤ 5) := fun z => c352 ((nI_leI (a := i - (goI (c, v, nm, a))) (b := 5) (by omega) (by omega)).mpr z)
            refine lv_iconst (v := 1) hx hb dX9_go_355 (by decide) ?_
            refine lv_goto (tgt := 368) hx hb dX9_go_356 (by decide) ?_
            refine mp_13 hx hb hts hown hK hP hD hS 1 dX9_go_368 (fun H locs hP hD hS => ?_)
            exact fs_v hx hb hr hlocks hq (up (up (up c 11 (goI (c, v, nm, a))) 12 (goI (c, v, nm, a))) 11 i, up (up v 14 w) 13 1, n_, a) (by
            have eW : mGo (c, v, nm, a) = goW (c, v, nm, a) := hgW
            rw [eW, goW, show goT (c, v, nm, a) = (i, (b, n_, w)) from he.symm]
            simp only [goK]
            rw [if_pos c323, if_neg (show ¬ (b = false) by rw [c335]; decide), if_neg (show ¬ (let_ (a 1 (goI (c, v, nm, a))) = true) by rw [c339]; decide), if_neg c352]) hP hD hS dX9_go_371 rfl
    · replace c323 : ¬ ((i - (goI (c, v, nm, a))) ≤ 10) := fun z => c323 ((nI_leI (a := i - (goI (c, v, nm, a))) (b := 10) (by omega) (by omega)).mpr z)
      refine lv_aload_n hx hb dX9_go_326 rfl (lv_at hl 0 rfl) ?_
      refine lv_ldc2 (v := (-1)) hx hb hown (hts _ wd_5_138) dX9_go_327 ?_
      refine mp_15 hx hb hts hown hK hP hD hS (-1) dX9_go_330 (fun H locs hP hD hS => ?_)
      refine lv_aload_n hx hb dX9_go_333 rfl (lv_at hl 0 rfl) ?_
      refine lv_iload_n hx hb dX9_go_334 rfl (lv_at hl 3 rfl) ?_
      refine lv_if_eq (tgt := 355) hx hb dX9_go_335 (by decide) (fun c335 => ?_) (fun c335 => ?_)
      · replace c335 : b = false := bI_0.mp c335
        refine lv_iconst (v := 1) hx hb dX9_go_355 (by decide) ?_
        refine lv_goto (tgt := 368) hx hb dX9_go_356 (by decide) ?_
        refine mp_13 hx hb hts hown hK hP hD hS 1 dX9_go_368 (fun H locs hP hD hS => ?_)
        exact fs_v hx hb hr hlocks hq (up (up (up c 11 (goI (c, v, nm, a))) 12 (goI (c, v, nm, a))) 11 i, up (up v 14 w) 13 1, (-1), a) (by
            have eW : mGo (c, v, nm, a) = goW (c, v, nm, a) := hgW
            rw [eW, goW, show goT (c, v, nm, a) = (i, (b, n_, w)) from he.symm]
            simp only [goK]
            rw [if_neg c323, if_pos c335]) hP hD hS dX9_go_371 rfl
      · replace c335 : b = true := bI_n.mp c335
        refine lv_iload_n hx hb dX9_go_338 rfl (lv_at hl 2 rfl) ?_
        refine lv_if_ne (tgt := 359) hx hb dX9_go_339 (by decide) (fun c339 => ?_) (fun c339 => ?_)
        · replace c339 : (let_ (a 1 (goI (c, v, nm, a)))) = true := bI_n.mp c339
          refine lv_iload_n hx hb dX9_go_359 rfl (lv_at hl 2 rfl) ?_
          refine lv_if_eq (tgt := 367) hx hb dX9_go_360 (by decide) (fun c360 => absurd c360 (fun e9 => by rw [c339] at e9; exact absurd e9 (by decide))) (fun c360 => ?_)
          refine lv_iconst (v := 2) hx hb dX9_go_363 (by decide) ?_
          refine lv_goto (tgt := 368) hx hb dX9_go_364 (by decide) ?_
          refine mp_13 hx hb hts hown hK hP hD hS 2 dX9_go_368 (fun H locs hP hD hS => ?_)
          exact fs_v hx hb hr hlocks hq (up (up (up c 11 (goI (c, v, nm, a))) 12 (goI (c, v, nm, a))) 11 i, up (up v 14 w) 13 2, (-1), a) (by
            have eW : mGo (c, v, nm, a) = goW (c, v, nm, a) := hgW
            rw [eW, goW, show goT (c, v, nm, a) = (i, (b, n_, w)) from he.symm]
            simp only [goK]
            rw [if_neg c323, if_neg (show ¬ (b = false) by rw [c335]; decide), if_pos (show let_ (a 1 (goI (c, v, nm, a))) = true from c339)]) hP hD hS dX9_go_371 rfl
        · replace c339 : (let_ (a 1 (goI (c, v, nm, a)))) = false := bI_0.mp c339
          refine lv_aload_n hx hb dX9_go_342 rfl (lv_at hl 0 rfl) ?_
          refine mg_11 (x := nI i) hx hb hts hown hK hP rfl dX9_go_343 ?_
          refine lv_aload_n hx hb dX9_go_346 rfl (lv_at hl 0 rfl) ?_
          refine mg_12 (x := nI (goI (c, v, nm, a))) hx hb hts hown hK hP rfl dX9_go_347 ?_
          refine lv_isub hx hb dX9_go_350 ?_
          refine rw_topi (y := nI (i - (goI (c, v, nm, a)))) (pk_sub (by omega)) ?_
          refine lv_iconst (v := 5) hx hb dX9_go_351 (by decide) ?_
          refine lv_icmp_le (tgt := 359) hx hb dX9_go_352 (by decide) (fun c352 => ?_) (fun c352 => ?_)
          · replace c352 : (i - (goI (c, v, nm, a))) ≤ 5 := (nI_leI (a := i - (goI (c, v, nm, a))) (b := 5) (by omega) (by omega)).mp c352
            refine lv_iload_n hx hb dX9_go_359 rfl (lv_at hl 2 rfl) ?_
            refine lv_if_eq (tgt := 367) hx hb dX9_go_360 (by decide) (fun c360 => ?_) (fun c360 => absurd (by rw [c339]; rfl) c360)
            refine lv_iconst (v := 3) hx hb dX9_go_367 (by decide) ?_
            refine mp_13 hx hb hts hown hK hP hD hS 3 dX9_go_368 (fun H locs hP hD hS => ?_)
            exact fs_v hx hb hr hlocks hq (up (up (up c 11 (goI (c, v, nm, a))) 12 (goI (c, v, nm, a))) 11 i, up (up v 14 w) 13 3, (-1), a) (by
            have eW : mGo (c, v, nm, a) = goW (c, v, nm, a) := hgW
            rw [eW, goW, show goT (c, v, nm, a) = (i, (b, n_, w)) from he.symm]
            simp only [goK]
            rw [if_neg c323, if_neg (show ¬ (b = false) by rw [c335]; decide), if_neg (show ¬ (let_ (a 1 (goI (c, v, nm, a))) = true) by rw [c339]; decide), if_pos c352]) hP hD hS dX9_go_371 rfl
          · replace c352 : ¬ ((i - (goI (c, v, nm, a))) ≤ 5) := fun z => c352 ((nI_leI (a := i - (goI (c, v, nm, a))) (b := 5) (by omega) (by omega)).mpr z)
            refine lv_iconst (v := 1) hx hb dX9_go_355 (by decide) ?_
            refine lv_goto (tgt := 368) hx hb dX9_go_356 (by decide) ?_
            refine mp_13 hx hb hts hown hK hP hD hS 1 dX9_go_368 (fun H locs hP hD hS => ?_)
            exact fs_v hx hb hr hlocks hq (up (up (up c 11 (goI (c, v, nm, a))) 12 (goI (c, v, nm, a))) 11 i, up (up v 14 w) 13 1, (-1), a) (by
            have eW : mGo (c, v, nm, a) = goW (c, v, nm, a) := hgW
            rw [eW, goW, show goT (c, v, nm, a) = (i, (b, n_, w)) from he.symm]
            simp only [goK]
            rw [if_neg c323, if_neg (show ¬ (b = false) by rw [c335]; decide), if_neg (show ¬ (let_ (a 1 (goI (c, v, nm, a))) = true) by rw [c339]; decide), if_neg c352]) hP hD hS dX9_go_371 rfl
  have LT : ∀ (r i : Nat) (b : Bool) (n_ : Int64) (w : Int32) (H : Heap) (locs : List Loc), i + r = c 10 → mGo (c, v, nm, a) = goW (c, v, nm, a) → (goI (c, v, nm, a)) ≤ i → tok (a 1) (goI (c, v, nm, a)) (let_ (a 1 (goI (c, v, nm, a)))) r i (b, n_, w) = goT (c, v, nm, a) → va_P D vwCl (Mw h q k (up (up (up c 11 (goI (c, v, nm, a))) 12 (goI (c, v, nm, a))) 11 i) (up v 14 w) n_ a) H → va_D A (Mw h q k (up (up (up c 11 (goI (c, v, nm, a))) 12 (goI (c, v, nm, a))) 11 i) (up v 14 w) n_ a) → va_S A s.heap H locs → ∀ (ls : Array Slot), lv_has ls 5 [(0, .ref h), (1, .int (a 1 (goI (c, v, nm, a)))), (2, .int (bI (let_ (a 1 (goI (c, v, nm, a)))))), (3, .int (bI b))] → W p l e (rmd 1 0 0) s m args below meth c_ H locs 0 0 Q (F0 m 177 ls []) := by
    intro r
    induction r with
    | zero =>
      intro i b n_ w H locs hi hgW hfi he hP hD hS ls hl
      refine lv_aload_n hx hb dX9_go_177 rfl (lv_at hl 0 rfl) ?_
      refine lv_aload_n hx hb dX9_go_178 rfl (lv_at hl 0 rfl) ?_
      refine mg_11 (x := nI i) hx hb hts hown hK hP rfl dX9_go_179 ?_
      refine ro_V (rest := []) (st1 := [.int (if (c 10) ≤ i then 0 else (a 1) i)]) (As := [.int (nI i)]) ⟨hx, hb, hml, hown, hts⟩ Gd0 trivial hS hK (c_X9_at l D h q k (up (up (up c 11 (goI (c, v, nm, a))) 12 (goI (c, v, nm, a))) 11 i) (up v 14 w) n_ a i (by first | exact hs | (simp only [up]; omega)) (by omega)) mi_X9_at wd_5_134 wp_2_13 wd_5_132 ⟨Nat.le_of_ble_eq_true rfl, Nat.le_of_ble_eq_true rfl⟩ (hP) 0 rfl rfl rfl hl.1 rfl (Nat.le_of_ble_eq_true rfl) rfl ⟨Nat.le_of_ble_eq_true rfl, Nat.le_of_ble_eq_true rfl⟩ dX9_go_182 ?_
      refine rw_topi (y := 0) (if_pos (by omega)) ?_
      refine ro_S (rest := []) (st1 := [.int (bI (let_ 0))]) (As := [.int 0]) ⟨hx, hb, hml, hown, hts⟩ Gd0 trivial hS hK (c_X9_isLetter l D k 0) mi_X9_isLetter wd_5_127 wd_5_126 ⟨Nat.le_of_ble_eq_true rfl, Nat.le_of_ble_eq_true rfl⟩ (fun k9 q9 h9 => by simp at h9) rfl hl.1 rfl (Nat.le_of_ble_eq_true rfl) rfl ⟨Nat.le_of_ble_eq_true rfl, Nat.le_of_ble_eq_true rfl⟩ dX9_go_185 ?_
      refine lv_if_ne (tgt := 205) hx hb dX9_go_188 (by decide) (fun c188 => absurd (by decide) c188) (fun c188 => ?_)
      refine lv_aload_n hx hb dX9_go_191 rfl (lv_at hl 0 rfl) ?_
      refine lv_aload_n hx hb dX9_go_192 rfl (lv_at hl 0 rfl) ?_
      refine mg_11 (x := nI i) hx hb hts hown hK hP rfl dX9_go_193 ?_
      refine ro_V (rest := []) (st1 := [.int (if (c 10) ≤ i then 0 else (a 1) i)]) (As := [.int (nI i)]) ⟨hx, hb, hml, hown, hts⟩ Gd0 trivial hS hK (c_X9_at l D h q k (up (up (up c 11 (goI (c, v, nm, a))) 12 (goI (c, v, nm, a))) 11 i) (up v 14 w) n_ a i (by first | exact hs | (simp only [up]; omega)) (by omega)) mi_X9_at wd_5_134 wp_2_13 wd_5_132 ⟨Nat.le_of_ble_eq_true rfl, Nat.le_of_ble_eq_true rfl⟩ (hP) 0 rfl rfl rfl hl.1 rfl (Nat.le_of_ble_eq_true rfl) rfl ⟨Nat.le_of_ble_eq_true rfl, Nat.le_of_ble_eq_true rfl⟩ dX9_go_196 ?_
      refine rw_topi (y := 0) (if_pos (by omega)) ?_
      refine ro_S (rest := []) (st1 := [.int (bI (dig 0))]) (As := [.int 0]) ⟨hx, hb, hml, hown, hts⟩ Gd0 trivial hS hK (c_X9_isDigit l D k 0) mi_X9_isDigit wd_5_130 wd_5_129 ⟨Nat.le_of_ble_eq_true rfl, Nat.le_of_ble_eq_true rfl⟩ (fun k9 q9 h9 => by simp at h9) rfl hl.1 rfl (Nat.le_of_ble_eq_true rfl) rfl ⟨Nat.le_of_ble_eq_true rfl, Nat.le_of_ble_eq_true rfl⟩ dX9_go_199 ?_
      refine lv_if_eq (tgt := 312) hx hb dX9_go_202 (by decide) (fun c202 => ?_) (fun c202 => absurd (by decide) c202)
      exact J2 i b n_ w H locs ⟨he, hgW⟩ hP hD hS ls (lv_sub hl [0, 1, 2, 3] rfl)
    | succ r ih =>
      intro i b n_ w H locs hi hgW hfi he hP hD hS ls hl
      refine lv_aload_n hx hb dX9_go_177 rfl (lv_at hl 0 rfl) ?_
      refine lv_aload_n hx hb dX9_go_178 rfl (lv_at hl 0 rfl) ?_
      refine mg_11 (x := nI i) hx hb hts hown hK hP rfl dX9_go_179 ?_
      refine ro_V (rest := []) (st1 := [.int (if (c 10) ≤ i then 0 else (a 1) i)]) (As := [.int (nI i)]) ⟨hx, hb, hml, hown, hts⟩ Gd0 trivial hS hK (c_X9_at l D h q k (up (up (up c 11 (goI (c, v, nm, a))) 12 (goI (c, v, nm, a))) 11 i) (up v 14 w) n_ a i (by first | exact hs | (simp only [up]; omega)) (by omega)) mi_X9_at wd_5_134 wp_2_13 wd_5_132 ⟨Nat.le_of_ble_eq_true rfl, Nat.le_of_ble_eq_true rfl⟩ (hP) 0 rfl rfl rfl hl.1 rfl (Nat.le_of_ble_eq_true rfl) rfl ⟨Nat.le_of_ble_eq_true rfl, Nat.le_of_ble_eq_true rfl⟩ dX9_go_182 ?_
      refine rw_topi (y := a 1 i) (if_neg (by omega)) ?_
      refine ro_S (rest := []) (st1 := [.int (bI (let_ (a 1 i)))]) (As := [.int (a 1 i)]) ⟨hx, hb, hml, hown, hts⟩ Gd0 trivial hS hK (c_X9_isLetter l D k (a 1 i)) mi_X9_isLetter wd_5_127 wd_5_126 ⟨Nat.le_of_ble_eq_true rfl, Nat.le_of_ble_eq_true rfl⟩ (fun k9 q9 h9 => by simp at h9) rfl hl.1 rfl (Nat.le_of_ble_eq_true rfl) rfl ⟨Nat.le_of_ble_eq_true rfl, Nat.le_of_ble_eq_true rfl⟩ dX9_go_185 ?_
      refine lv_if_ne (tgt := 205) hx hb dX9_go_188 (by decide) (fun c188 => ?_) (fun c188 => ?_)
      · replace c188 : (let_ (a 1 i)) = true := bI_n.mp c188
        refine lv_aload_n hx hb dX9_go_205 rfl (lv_at hl 0 rfl) ?_
        refine mg_1 hx hb hts hown hK hP dX9_go_206 ?_
        refine lv_aload_n hx hb dX9_go_209 rfl (lv_at hl 0 rfl) ?_
        refine mg_11 (x := nI i) hx hb hts hown hK hP rfl dX9_go_210 ?_
        refine ml_1 (x := (a 1) i) hx hb hK hP i rfl (by omega) rfl dX9_go_213 ?_
        refine lv_istore (lv' := [(4, .int ((a 1) i)), (0, .ref h), (1, .int (a 1 (goI (c, v, nm, a)))), (2, .int (bI (let_ (a 1 (goI (c, v, nm, a)))))), (3, .int (bI b))]) hx hb dX9_go_214 hl (by decide) rfl (fun ls hl => ?_)
        refine lv_iload_n hx hb dX9_go_216 rfl (lv_at hl 4 rfl) ?_
        refine lv_if_eq (tgt := 233) hx hb dX9_go_217 (by decide) (fun c217 => ?_) (fun c217 => ?_)
        · replace c217 : b = false := bI_0.mp c217
          refine lv_iconst (v := 0) hx hb dX9_go_233 (by decide) ?_
          refine lv_istore_n (lv' := [(3, .int 0), (4, .int ((a 1) i)), (0, .ref h), (1, .int (a 1 (goI (c, v, nm, a)))), (2, .int (bI (let_ (a 1 (goI (c, v, nm, a))))))]) hx hb dX9_go_234 rfl hl (by decide) rfl (fun ls hl => ?_)
          refine lv_aload_n hx hb dX9_go_235 rfl (lv_at hl 2 rfl) ?_
          refine mg_11 (x := nI i) hx hb hts hown hK hP rfl dX9_go_236 ?_
          refine lv_aload_n hx hb dX9_go_239 rfl (lv_at hl 2 rfl) ?_
          refine mg_12 (x := nI (goI (c, v, nm, a))) hx hb hts hown hK hP rfl dX9_go_240 ?_
          refine lv_isub hx hb dX9_go_243 ?_
          refine rw_topi (y := nI (i - (goI (c, v, nm, a)))) (pk_sub (by omega)) ?_
          refine lv_bipush (v := 10) hx hb dX9_go_244 (by decide) ?_
          refine lv_icmp_ge (tgt := 269) hx hb dX9_go_246 (by decide) (fun c246 => ?_) (fun c246 => ?_)
          · replace c246 : 10 ≤ (i - (goI (c, v, nm, a))) := (nI_leI (a := 10) (b := i - (goI (c, v, nm, a))) (by omega) (by omega)).mp c246
            refine lv_aload_n hx hb dX9_go_269 rfl (lv_at hl 2 rfl) ?_
            refine mg_11 (x := nI i) hx hb hts hown hK hP rfl dX9_go_270 ?_
            refine lv_aload_n hx hb dX9_go_273 rfl (lv_at hl 2 rfl) ?_
            refine mg_12 (x := nI (goI (c, v, nm, a))) hx hb hts hown hK hP rfl dX9_go_274 ?_
            refine lv_isub hx hb dX9_go_277 ?_
            refine rw_topi (y := nI (i - (goI (c, v, nm, a)))) (pk_sub (by omega)) ?_
            refine lv_iconst (v := 5) hx hb dX9_go_278 (by decide) ?_
            refine lv_icmp_ge (tgt := 299) hx hb dX9_go_279 (by decide) (fun c279 => ?_) (fun c279 => ?_)
            · replace c279 : 5 ≤ (i - (goI (c, v, nm, a))) := (nI_leI (a := 5) (b := i - (goI (c, v, nm, a))) (by omega) (by omega)).mp c279
              refine lv_aload_n hx hb dX9_go_299 rfl (lv_at hl 2 rfl) ?_
              refine lv_dup hx hb dX9_go_300 rfl ?_
              refine mg_11 (x := nI i) hx hb hts hown hK hP rfl dX9_go_301 ?_
              refine lv_iconst (v := 1) hx hb dX9_go_304 (by decide) ?_
              refine lv_iadd hx hb dX9_go_305 ?_
              refine rw_topi (y := nI (i + 1)) (nI_add _ _) ?_
              refine mp_11 hx hb hts hown hK hP hD hS (i + 1) rfl dX9_go_306 (fun H locs hP hD hS => ?_)
              rw [up_up] at hP hD
              refine lv_goto (tgt := 177) hx hb dX9_go_309 (by decide) ?_
              exact ih (i + 1) false n_ w H locs (by omega) hgW (by omega) (by rw [← he, tok, if_pos (show isLD (a 1 i) = true by simp [isLD, c188])]; simp only [tokStep]; rw [if_pos c217, if_pos c246, if_pos c279]) hP hD hS ls (lv_sub hl [2, 3, 4, 0] rfl)
            · replace c279 : ¬ (5 ≤ (i - (goI (c, v, nm, a)))) := fun z => c279 ((nI_leI (a := 5) (b := i - (goI (c, v, nm, a))) (by omega) (by omega)).mpr z)
              refine lv_aload_n hx hb dX9_go_282 rfl (lv_at hl 2 rfl) ?_
              refine lv_bipush (v := 10) hx hb dX9_go_283 (by decide) ?_
              refine lv_aload_n hx hb dX9_go_285 rfl (lv_at hl 2 rfl) ?_
              refine mg_14 (x := w) hx hb hts hown hK hP rfl dX9_go_286 ?_
              refine lv_imul hx hb dX9_go_289 ?_
              refine lv_iload hx hb dX9_go_290 (lv_at hl 1 rfl) ?_
              refine lv_iadd hx hb dX9_go_292 ?_
              refine lv_bipush (v := 48) hx hb dX9_go_293 (by decide) ?_
              refine lv_isub hx hb dX9_go_295 ?_
              refine mp_14 hx hb hts hown hK hP hD hS (((10 * w) + ((a 1) i)) - 48) dX9_go_296 (fun H locs hP hD hS => ?_)
              rw [up_up] at hP hD
              refine lv_aload_n hx hb dX9_go_299 rfl (lv_at hl 2 rfl) ?_
              refine lv_dup hx hb dX9_go_300 rfl ?_
              refine mg_11 (x := nI i) hx hb hts hown hK hP rfl dX9_go_301 ?_
              refine lv_iconst (v := 1) hx hb dX9_go_304 (by decide) ?_
              refine lv_iadd hx hb dX9_go_305 ?_
              refine rw_topi (y := nI (i + 1)) (nI_add _ _) ?_
              refine mp_11 hx hb hts hown hK hP hD hS (i + 1) rfl dX9_go_306 (fun H locs hP hD hS => ?_)
              rw [up_up] at hP hD
              refine lv_goto (tgt := 177) hx hb dX9_go_309 (by decide) ?_
              exact ih (i + 1) false n_ (((10 * w) + ((a 1) i)) - 48) H locs (by omega) hgW (by omega) (by rw [← he, tok, if_pos (show isLD (a 1 i) = true by simp [isLD, c188])]; simp only [tokStep]; rw [if_pos c217, if_pos c246, if_neg c279]) hP hD hS ls (lv_sub hl [2, 3, 4, 0] rfl)
          · replace c246 : ¬ (10 ≤ (i - (goI (c, v, nm, a)))) := fun z => c246 ((nI_leI (a := 10) (b := i - (goI (c, v, nm, a))) (by omega) (by omega)).mpr z)
            refine lv_aload_n hx hb dX9_go_249 rfl (lv_at hl 2 rfl) ?_
            refine lv_ldc2 (v := 27) hx hb hown (hts _ wd_5_136) dX9_go_250 ?_
            refine lv_aload_n hx hb dX9_go_253 rfl (lv_at hl 2 rfl) ?_
            refine mg_15 (x := n_) hx hb hts hown hK hP rfl dX9_go_254 ?_
            refine lv_lmul hx hb dX9_go_257 ?_
            refine lv_iload hx hb dX9_go_258 (lv_at hl 1 rfl) ?_
            refine lv_i2l (v := ((a 1) i).toInt64) hx hb dX9_go_260 rfl ?_
            refine lv_ladd hx hb dX9_go_261 ?_
            refine lv_ldc2 (v := 96) hx hb hown (hts _ wd_5_137) dX9_go_262 ?_
            refine lv_lsub hx hb dX9_go_265 ?_
            refine mp_15 hx hb hts hown hK hP hD hS (((27 * n_) + (((a 1) i).toInt64)) - 96) dX9_go_266 (fun H locs hP hD hS => ?_)
            refine lv_aload_n hx hb dX9_go_269 rfl (lv_at hl 2 rfl) ?_
            refine mg_11 (x := nI i) hx hb hts hown hK hP rfl dX9_go_270 ?_
            refine lv_aload_n hx hb dX9_go_273 rfl (lv_at hl 2 rfl) ?_
            refine mg_12 (x := nI (goI (c, v, nm, a))) hx hb hts hown hK hP rfl dX9_go_274 ?_
            refine lv_isub hx hb dX9_go_277 ?_
            refine rw_topi (y := nI (i - (goI (c, v, nm, a)))) (pk_sub (by omega)) ?_
            refine lv_iconst (v := 5) hx hb dX9_go_278 (by decide) ?_
            refine lv_icmp_ge (tgt := 299) hx hb dX9_go_279 (by decide) (fun c279 => ?_) (fun c279 => ?_)
            · replace c279 : 5 ≤ (i - (goI (c, v, nm, a))) := (nI_leI (a := 5) (b := i - (goI (c, v, nm, a))) (by omega) (by omega)).mp c279
              refine lv_aload_n hx hb dX9_go_299 rfl (lv_at hl 2 rfl) ?_
              refine lv_dup hx hb dX9_go_300 rfl ?_
              refine mg_11 (x := nI i) hx hb hts hown hK hP rfl dX9_go_301 ?_
              refine lv_iconst (v := 1) hx hb dX9_go_304 (by decide) ?_
              refine lv_iadd hx hb dX9_go_305 ?_
              refine rw_topi (y := nI (i + 1)) (nI_add _ _) ?_
              refine mp_11 hx hb hts hown hK hP hD hS (i + 1) rfl dX9_go_306 (fun H locs hP hD hS => ?_)
              rw [up_up] at hP hD
              refine lv_goto (tgt := 177) hx hb dX9_go_309 (by decide) ?_
              exact ih (i + 1) false (((27 * n_) + (((a 1) i).toInt64)) - 96) w H locs (by omega) hgW (by omega) (by rw [← he, tok, if_pos (show isLD (a 1 i) = true by simp [isLD, c188])]; simp only [tokStep]; rw [if_pos c217, if_neg c246, if_pos c279]) hP hD hS ls (lv_sub hl [2, 3, 4, 0] rfl)
            · replace c279 : ¬ (5 ≤ (i - (goI (c, v, nm, a)))) := fun z => c279 ((nI_leI (a := 5) (b := i - (goI (c, v, nm, a))) (by omega) (by omega)).mpr z)
              refine lv_aload_n hx hb dX9_go_282 rfl (lv_at hl 2 rfl) ?_
              refine lv_bipush (v := 10) hx hb dX9_go_283 (by decide) ?_
              refine lv_aload_n hx hb dX9_go_285 rfl (lv_at hl 2 rfl) ?_
              refine mg_14 (x := w) hx hb hts hown hK hP rfl dX9_go_286 ?_
              refine lv_imul hx hb dX9_go_289 ?_
              refine lv_iload hx hb dX9_go_290 (lv_at hl 1 rfl) ?_
              refine lv_iadd hx hb dX9_go_292 ?_
              refine lv_bipush (v := 48) hx hb dX9_go_293 (by decide) ?_
              refine lv_isub hx hb dX9_go_295 ?_
              refine mp_14 hx hb hts hown hK hP hD hS (((10 * w) + ((a 1) i)) - 48) dX9_go_296 (fun H locs hP hD hS => ?_)
              rw [up_up] at hP hD
              refine lv_aload_n hx hb dX9_go_299 rfl (lv_at hl 2 rfl) ?_
              refine lv_dup hx hb dX9_go_300 rfl ?_
              refine mg_11 (x := nI i) hx hb hts hown hK hP rfl dX9_go_301 ?_
              refine lv_iconst (v := 1) hx hb dX9_go_304 (by decide) ?_
              refine lv_iadd hx hb dX9_go_305 ?_
              refine rw_topi (y := nI (i + 1)) (nI_add _ _) ?_
              refine mp_11 hx hb hts hown hK hP hD hS (i + 1) rfl dX9_go_306 (fun H locs hP hD hS => ?_)
              rw [up_up] at hP hD
              refine lv_goto (tgt := 177) hx hb dX9_go_309 (by decide) ?_
              exact ih (i + 1) false (((27 * n_) + (((a 1) i).toInt64)) - 96) (((10 * w) + ((a 1) i)) - 48) H locs (by omega) hgW (by omega) (by rw [← he, tok, if_pos (show isLD (a 1 i) = true by simp [isLD, c188])]; simp only [tokStep]; rw [if_pos c217, if_neg c246, if_neg c279]) hP hD hS ls (lv_sub hl [2, 3, 4, 0] rfl)
        · replace c217 : b = true := bI_n.mp c217
          refine lv_iload hx hb dX9_go_220 (lv_at hl 0 rfl) ?_
          refine ro_S (rest := []) (st1 := [.int (bI (let_ ((a 1) i)))]) (As := [.int ((a 1) i)]) ⟨hx, hb, hml, hown, hts⟩ Gd0 trivial hS hK (c_X9_isLetter l D k ((a 1) i)) mi_X9_isLetter wd_5_127 wd_5_126 ⟨Nat.le_of_ble_eq_true rfl, Nat.le_of_ble_eq_true rfl⟩ (fun k9 q9 h9 => by simp at h9) rfl hl.1 rfl (Nat.le_of_ble_eq_true rfl) rfl ⟨Nat.le_of_ble_eq_true rfl, Nat.le_of_ble_eq_true rfl⟩ dX9_go_222 ?_
          refine lv_iload_n hx hb dX9_go_225 rfl (lv_at hl 3 rfl) ?_
          refine lv_icmp_ne (tgt := 233) hx hb dX9_go_226 (by decide) (fun c226 => ?_) (fun c226 => ?_)
          · refine lv_iconst (v := 0) hx hb dX9_go_233 (by decide) ?_
            refine lv_istore_n (lv' := [(3, .int 0), (4, .int ((a 1) i)), (0, .ref h), (1, .int (a 1 (goI (c, v, nm, a)))), (2, .int (bI (let_ (a 1 (goI (c, v, nm, a))))))]) hx hb dX9_go_234 rfl hl (by decide) rfl (fun ls hl => ?_)
            refine lv_aload_n hx hb dX9_go_235 rfl (lv_at hl 2 rfl) ?_
            refine mg_11 (x := nI i) hx hb hts hown hK hP rfl dX9_go_236 ?_
            refine lv_aload_n hx hb dX9_go_239 rfl (lv_at hl 2 rfl) ?_
            refine mg_12 (x := nI (goI (c, v, nm, a))) hx hb hts hown hK hP rfl dX9_go_240 ?_
            refine lv_isub hx hb dX9_go_243 ?_
            refine rw_topi (y := nI (i - (goI (c, v, nm, a)))) (pk_sub (by omega)) ?_
            refine lv_bipush (v := 10) hx hb dX9_go_244 (by decide) ?_
            refine lv_icmp_ge (tgt := 269) hx hb dX9_go_246 (by decide) (fun c246 => ?_) (fun c246 => ?_)
            · replace c246 : 10 ≤ (i - (goI (c, v, nm, a))) := (nI_leI (a := 10) (b := i - (goI (c, v, nm, a))) (by omega) (by omega)).mp c246
              refine lv_aload_n hx hb dX9_go_269 rfl (lv_at hl 2 rfl) ?_
              refine mg_11 (x := nI i) hx hb hts hown hK hP rfl dX9_go_270 ?_
              refine lv_aload_n hx hb dX9_go_273 rfl (lv_at hl 2 rfl) ?_
              refine mg_12 (x := nI (goI (c, v, nm, a))) hx hb hts hown hK hP rfl dX9_go_274 ?_
              refine lv_isub hx hb dX9_go_277 ?_
              refine rw_topi (y := nI (i - (goI (c, v, nm, a)))) (pk_sub (by omega)) ?_
              refine lv_iconst (v := 5) hx hb dX9_go_278 (by decide) ?_
              refine lv_icmp_ge (tgt := 299) hx hb dX9_go_279 (by decide) (fun c279 => ?_) (fun c279 => ?_)
              · replace c279 : 5 ≤ (i - (goI (c, v, nm, a))) := (nI_leI (a := 5) (b := i - (goI (c, v, nm, a))) (by omega) (by omega)).mp c279
                refine lv_aload_n hx hb dX9_go_299 rfl (lv_at hl 2 rfl) ?_
                refine lv_dup hx hb dX9_go_300 rfl ?_
                refine mg_11 (x := nI i) hx hb hts hown hK hP rfl dX9_go_301 ?_
                refine lv_iconst (v := 1) hx hb dX9_go_304 (by decide) ?_
                refine lv_iadd hx hb dX9_go_305 ?_
                refine rw_topi (y := nI (i + 1)) (nI_add _ _) ?_
                refine mp_11 hx hb hts hown hK hP hD hS (i + 1) rfl dX9_go_306 (fun H locs hP hD hS => ?_)
                rw [up_up] at hP hD
                refine lv_goto (tgt := 177) hx hb dX9_go_309 (by decide) ?_
                exact ih (i + 1) false n_ w H locs (by omega) hgW (by omega) (by rw [← he, tok, if_pos (show isLD (a 1 i) = true by simp [isLD, c188])]; simp only [tokStep]; rw [if_neg (show ¬ (b = false) by rw [c217]; decide), decide_eq_false c226, if_pos c246, if_pos c279]) hP hD hS ls (lv_sub hl [2, 3, 4, 0] rfl)
              · replace c279 : ¬ (5 ≤ (i - (goI (c, v, nm, a)))) := fun z => c279 ((nI_leI (a := 5) (b := i - (goI (c, v, nm, a))) (by omega) (by omega)).mpr z)
                refine lv_aload_n hx hb dX9_go_282 rfl (lv_at hl 2 rfl) ?_
                refine lv_bipush (v := 10) hx hb dX9_go_283 (by decide) ?_
                refine lv_aload_n hx hb dX9_go_285 rfl (lv_at hl 2 rfl) ?_
                refine mg_14 (x := w) hx hb hts hown hK hP rfl dX9_go_286 ?_
                refine lv_imul hx hb dX9_go_289 ?_
                refine lv_iload hx hb dX9_go_290 (lv_at hl 1 rfl) ?_
                refine lv_iadd hx hb dX9_go_292 ?_
                refine lv_bipush (v := 48) hx hb dX9_go_293 (by decide) ?_
                refine lv_isub hx hb dX9_go_295 ?_
                refine mp_14 hx hb hts hown hK hP hD hS (((10 * w) + ((a 1) i)) - 48) dX9_go_296 (fun H locs hP hD hS => ?_)
                rw [up_up] at hP hD
                refine lv_aload_n hx hb dX9_go_299 rfl (lv_at hl 2 rfl) ?_
                refine lv_dup hx hb dX9_go_300 rfl ?_
                refine mg_11 (x := nI i) hx hb hts hown hK hP rfl dX9_go_301 ?_
                refine lv_iconst (v := 1) hx hb dX9_go_304 (by decide) ?_
                refine lv_iadd hx hb dX9_go_305 ?_
                refine rw_topi (y := nI (i + 1)) (nI_add _ _) ?_
                refine mp_11 hx hb hts hown hK hP hD hS (i + 1) rfl dX9_go_306 (fun H locs hP hD hS => ?_)
                rw [up_up] at hP hD
                refine lv_goto (tgt := 177) hx hb dX9_go_309 (by decide) ?_
                exact ih (i + 1) false n_ (((10 * w) + ((a 1) i)) - 48) H locs (by omega) hgW (by omega) (by rw [← he, tok, if_pos (show isLD (a 1 i) = true by simp [isLD, c188])]; simp only [tokStep]; rw [if_neg (show ¬ (b = false) by rw [c217]; decide), decide_eq_false c226, if_pos c246, if_neg c279]) hP hD hS ls (lv_sub hl [2, 3, 4, 0] rfl)
            · replace c246 : ¬ (10 ≤ (i - (goI (c, v, nm, a)))) := fun z => c246 ((nI_leI (a := 10) (b := i - (goI (c, v, nm, a))) (by omega) (by omega)).mpr z)
              refine lv_aload_n hx hb dX9_go_249 rfl (lv_at hl 2 rfl) ?_
              refine lv_ldc2 (v := 27) hx hb hown (hts _ wd_5_136) dX9_go_250 ?_
              refine lv_aload_n hx hb dX9_go_253 rfl (lv_at hl 2 rfl) ?_
              refine mg_15 (x := n_) hx hb hts hown hK hP rfl dX9_go_254 ?_
              refine lv_lmul hx hb dX9_go_257 ?_
              refine lv_iload hx hb dX9_go_258 (lv_at hl 1 rfl) ?_
              refine lv_i2l (v := ((a 1) i).toInt64) hx hb dX9_go_260 rfl ?_
              refine lv_ladd hx hb dX9_go_261 ?_
              refine lv_ldc2 (v := 96) hx hb hown (hts _ wd_5_137) dX9_go_262 ?_
              refine lv_lsub hx hb dX9_go_265 ?_
              refine mp_15 hx hb hts hown hK hP hD hS (((27 * n_) + (((a 1) i).toInt64)) - 96) dX9_go_266 (fun H locs hP hD hS => ?_)
              refine lv_aload_n hx hb dX9_go_269 rfl (lv_at hl 2 rfl) ?_
              refine mg_11 (x := nI i) hx hb hts hown hK hP rfl dX9_go_270 ?_
              refine lv_aload_n hx hb dX9_go_273 rfl (lv_at hl 2 rfl) ?_
              refine mg_12 (x := nI (goI (c, v, nm, a))) hx hb hts hown hK hP rfl dX9_go_274 ?_
              refine lv_isub hx hb dX9_go_277 ?_
              refine rw_topi (y := nI (i - (goI (c, v, nm, a)))) (pk_sub (by omega)) ?_
              refine lv_iconst (v := 5) hx hb dX9_go_278 (by decide) ?_
              refine lv_icmp_ge (tgt := 299) hx hb dX9_go_279 (by decide) (fun c279 => ?_) (fun c279 => ?_)
              · replace c279 : 5 ≤ (i - (goI (c, v, nm, a))) := (nI_leI (a := 5) (b := i - (goI (c, v, nm, a))) (by omega) (by omega)).mp c279
                refine lv_aload_n hx hb dX9_go_299 rfl (lv_at hl 2 rfl) ?_
                refine lv_dup hx hb dX9_go_300 rfl ?_
                refine mg_11 (x := nI i) hx hb hts hown hK hP rfl dX9_go_301 ?_
                refine lv_iconst (v := 1) hx hb dX9_go_304 (by decide) ?_
                refine lv_iadd hx hb dX9_go_305 ?_
                refine rw_topi (y := nI (i + 1)) (nI_add _ _) ?_
                refine mp_11 hx hb hts hown hK hP hD hS (i + 1) rfl dX9_go_306 (fun H locs hP hD hS => ?_)
                rw [up_up] at hP hD
                refine lv_goto (tgt := 177) hx hb dX9_go_309 (by decide) ?_
                exact ih (i + 1) false (((27 * n_) + (((a 1) i).toInt64)) - 96) w H locs (by omega) hgW (by omega) (by rw [← he, tok, if_pos (show isLD (a 1 i) = true by simp [isLD, c188])]; simp only [tokStep]; rw [if_neg (show ¬ (b = false) by rw [c217]; decide), decide_eq_false c226, if_neg c246, if_pos c279]) hP hD hS ls (lv_sub hl [2, 3, 4, 0] rfl)
              · replace c279 : ¬ (5 ≤ (i - (goI (c, v, nm, a)))) := fun z => c279 ((nI_leI (a := 5) (b := i - (goI (c, v, nm, a))) (by omega) (by omega)).mpr z)
                refine lv_aload_n hx hb dX9_go_282 rfl (lv_at hl 2 rfl) ?_
                refine lv_bipush (v := 10) hx hb dX9_go_283 (by decide) ?_
                refine lv_aload_n hx hb dX9_go_285 rfl (lv_at hl 2 rfl) ?_
                refine mg_14 (x := w) hx hb hts hown hK hP rfl dX9_go_286 ?_
                refine lv_imul hx hb dX9_go_289 ?_
                refine lv_iload hx hb dX9_go_290 (lv_at hl 1 rfl) ?_
                refine lv_iadd hx hb dX9_go_292 ?_
                refine lv_bipush (v := 48) hx hb dX9_go_293 (by decide) ?_
                refine lv_isub hx hb dX9_go_295 ?_
                refine mp_14 hx hb hts hown hK hP hD hS (((10 * w) + ((a 1) i)) - 48) dX9_go_296 (fun H locs hP hD hS => ?_)
                rw [up_up] at hP hD
                refine lv_aload_n hx hb dX9_go_299 rfl (lv_at hl 2 rfl) ?_
                refine lv_dup hx hb dX9_go_300 rfl ?_
                refine mg_11 (x := nI i) hx hb hts hown hK hP rfl dX9_go_301 ?_
                refine lv_iconst (v := 1) hx hb dX9_go_304 (by decide) ?_
                refine lv_iadd hx hb dX9_go_305 ?_
                refine rw_topi (y := nI (i + 1)) (nI_add _ _) ?_
                refine mp_11 hx hb hts hown hK hP hD hS (i + 1) rfl dX9_go_306 (fun H locs hP hD hS => ?_)
                rw [up_up] at hP hD
                refine lv_goto (tgt := 177) hx hb dX9_go_309 (by decide) ?_
                exact ih (i + 1) false (((27 * n_) + (((a 1) i).toInt64)) - 96) (((10 * w) + ((a 1) i)) - 48) H locs (by omega) hgW (by omega) (by rw [← he, tok, if_pos (show isLD (a 1 i) = true by simp [isLD, c188])]; simp only [tokStep]; rw [if_neg (show ¬ (b = false) by rw [c217]; decide), decide_eq_false c226, if_neg c246, if_neg c279]) hP hD hS ls (lv_sub hl [2, 3, 4, 0] rfl)
          · refine lv_iconst (v := 1) hx hb dX9_go_229 (by decide) ?_
            refine lv_goto (tgt := 234) hx hb dX9_go_230 (by decide) ?_
            refine lv_istore_n (lv' := [(3, .int 1), (4, .int ((a 1) i)), (0, .ref h), (1, .int (a 1 (goI (c, v, nm, a)))), (2, .int (bI (let_ (a 1 (goI (c, v, nm, a))))))]) hx hb dX9_go_234 rfl hl (by decide) rfl (fun ls hl => ?_)
            refine lv_aload_n hx hb dX9_go_235 rfl (lv_at hl 2 rfl) ?_
            refine mg_11 (x := nI i) hx hb hts hown hK hP rfl dX9_go_236 ?_
            refine lv_aload_n hx hb dX9_go_239 rfl (lv_at hl 2 rfl) ?_
            refine mg_12 (x := nI (goI (c, v, nm, a))) hx hb hts hown hK hP rfl dX9_go_240 ?_
            refine lv_isub hx hb dX9_go_243 ?_
            refine rw_topi (y := nI (i - (goI (c, v, nm, a)))) (pk_sub (by omega)) ?_
            refine lv_bipush (v := 10) hx hb dX9_go_244 (by decide) ?_
            refine lv_icmp_ge (tgt := 269) hx hb dX9_go_246 (by decide) (fun c246 => ?_) (fun c246 => ?_)
            · replace c246 : 10 ≤ (i - (goI (c, v, nm, a))) := (nI_leI (a := 10) (b := i - (goI (c, v, nm, a))) (by omega) (by omega)).mp c246
              refine lv_aload_n hx hb dX9_go_269 rfl (lv_at hl 2 rfl) ?_
              refine mg_11 (x := nI i) hx hb hts hown hK hP rfl dX9_go_270 ?_
              refine lv_aload_n hx hb dX9_go_273 rfl (lv_at hl 2 rfl) ?_
              refine mg_12 (x := nI (goI (c, v, nm, a))) hx hb hts hown hK hP rfl dX9_go_274 ?_
              refine lv_isub hx hb dX9_go_277 ?_
              refine rw_topi (y := nI (i - (goI (c, v, nm, a)))) (pk_sub (by omega)) ?_
              refine lv_iconst (v := 5) hx hb dX9_go_278 (by decide) ?_
              refine lv_icmp_ge (tgt := 299) hx hb dX9_go_279 (by decide) (fun c279 => ?_) (fun c279 => ?_)
              · replace c279 : 5 ≤ (i - (goI (c, v, nm, a))) := (nI_leI (a := 5) (b := i - (goI (c, v, nm, a))) (by omega) (by omega)).mp c279
                refine lv_aload_n hx hb dX9_go_299 rfl (lv_at hl 2 rfl) ?_
                refine lv_dup hx hb dX9_go_300 rfl ?_
                refine mg_11 (x := nI i) hx hb hts hown hK hP rfl dX9_go_301 ?_
                refine lv_iconst (v := 1) hx hb dX9_go_304 (by decide) ?_
                refine lv_iadd hx hb dX9_go_305 ?_
                refine rw_topi (y := nI (i + 1)) (nI_add _ _) ?_
                refine mp_11 hx hb hts hown hK hP hD hS (i + 1) rfl dX9_go_306 (fun H locs hP hD hS => ?_)
                rw [up_up] at hP hD
                refine lv_goto (tgt := 177) hx hb dX9_go_309 (by decide) ?_
                exact ih (i + 1) true n_ w H locs (by omega) hgW (by omega) (by rw [← he, tok, if_pos (show isLD (a 1 i) = true by simp [isLD, c188])]; simp only [tokStep]; rw [if_neg (show ¬ (b = false) by rw [c217]; decide), decide_eq_true c226, if_pos c246, if_pos c279]) hP hD hS ls (lv_sub hl [2, 3, 4, 0] rfl)
              · replace c279 : ¬ (5 ≤ (i - (goI (c, v, nm, a)))) := fun z => c279 ((nI_leI (a := 5) (b := i - (goI (c, v, nm, a))) (by omega) (by omega)).mpr z)
                refine lv_aload_n hx hb dX9_go_282 rfl (lv_at hl 2 rfl) ?_
                refine lv_bipush (v := 10) hx hb dX9_go_283 (by decide) ?_
                refine lv_aload_n hx hb dX9_go_285 rfl (lv_at hl 2 rfl) ?_
                refine mg_14 (x := w) hx hb hts hown hK hP rfl dX9_go_286 ?_
                refine lv_imul hx hb dX9_go_289 ?_
                refine lv_iload hx hb dX9_go_290 (lv_at hl 1 rfl) ?_
                refine lv_iadd hx hb dX9_go_292 ?_
                refine lv_bipush (v := 48) hx hb dX9_go_293 (by decide) ?_
                refine lv_isub hx hb dX9_go_295 ?_
                refine mp_14 hx hb hts hown hK hP hD hS (((10 * w) + ((a 1) i)) - 48) dX9_go_296 (fun H locs hP hD hS => ?_)
                rw [up_up] at hP hD
                refine lv_aload_n hx hb dX9_go_299 rfl (lv_at hl 2 rfl) ?_
                refine lv_dup hx hb dX9_go_300 rfl ?_
                refine mg_11 (x := nI i) hx hb hts hown hK hP rfl dX9_go_301 ?_
                refine lv_iconst (v := 1) hx hb dX9_go_304 (by decide) ?_
                refine lv_iadd hx hb dX9_go_305 ?_
                refine rw_topi (y := nI (i + 1)) (nI_add _ _) ?_
                refine mp_11 hx hb hts hown hK hP hD hS (i + 1) rfl dX9_go_306 (fun H locs hP hD hS => ?_)
                rw [up_up] at hP hD
                refine lv_goto (tgt := 177) hx hb dX9_go_309 (by decide) ?_
                exact ih (i + 1) true n_ (((10 * w) + ((a 1) i)) - 48) H locs (by omega) hgW (by omega) (by rw [← he, tok, if_pos (show isLD (a 1 i) = true by simp [isLD, c188])]; simp only [tokStep]; rw [if_neg (show ¬ (b = false) by rw [c217]; decide), decide_eq_true c226, if_pos c246, if_neg c279]) hP hD hS ls (lv_sub hl [2, 3, 4, 0] rfl)
            · replace c246 : ¬ (10 ≤ (i - (goI (c, v, nm, a)))) := fun z => c246 ((nI_leI (a := 10) (b := i - (goI (c, v, nm, a))) (by omega) (by omega)).mpr z)
              refine lv_aload_n hx hb dX9_go_249 rfl (lv_at hl 2 rfl) ?_
              refine lv_ldc2 (v := 27) hx hb hown (hts _ wd_5_136) dX9_go_250 ?_
              refine lv_aload_n hx hb dX9_go_253 rfl (lv_at hl 2 rfl) ?_
              refine mg_15 (x := n_) hx hb hts hown hK hP rfl dX9_go_254 ?_
              refine lv_lmul hx hb dX9_go_257 ?_
              refine lv_iload hx hb dX9_go_258 (lv_at hl 1 rfl) ?_
              refine lv_i2l (v := ((a 1) i).toInt64) hx hb dX9_go_260 rfl ?_
              refine lv_ladd hx hb dX9_go_261 ?_
              refine lv_ldc2 (v := 96) hx hb hown (hts _ wd_5_137) dX9_go_262 ?_
              refine lv_lsub hx hb dX9_go_265 ?_
              refine mp_15 hx hb hts hown hK hP hD hS (((27 * n_) + (((a 1) i).toInt64)) - 96) dX9_go_266 (fun H locs hP hD hS => ?_)
              refine lv_aload_n hx hb dX9_go_269 rfl (lv_at hl 2 rfl) ?_
              refine mg_11 (x := nI i) hx hb hts hown hK hP rfl dX9_go_270 ?_
              refine lv_aload_n hx hb dX9_go_273 rfl (lv_at hl 2 rfl) ?_
              refine mg_12 (x := nI (goI (c, v, nm, a))) hx hb hts hown hK hP rfl dX9_go_274 ?_
              refine lv_isub hx hb dX9_go_277 ?_
              refine rw_topi (y := nI (i - (goI (c, v, nm, a)))) (pk_sub (by omega)) ?_
              refine lv_iconst (v := 5) hx hb dX9_go_278 (by decide) ?_
              refine lv_icmp_ge (tgt := 299) hx hb dX9_go_279 (by decide) (fun c279 => ?_) (fun c279 => ?_)
              · replace c279 : 5 ≤ (i - (goI (c, v, nm, a))) := (nI_leI (a := 5) (b := i - (goI (c, v, nm, a))) (by omega) (by omega)).mp c279
                refine lv_aload_n hx hb dX9_go_299 rfl (lv_at hl 2 rfl) ?_
                refine lv_dup hx hb dX9_go_300 rfl ?_
                refine mg_11 (x := nI i) hx hb hts hown hK hP rfl dX9_go_301 ?_
                refine lv_iconst (v := 1) hx hb dX9_go_304 (by decide) ?_
                refine lv_iadd hx hb dX9_go_305 ?_
                refine rw_topi (y := nI (i + 1)) (nI_add _ _) ?_
                refine mp_11 hx hb hts hown hK hP hD hS (i + 1) rfl dX9_go_306 (fun H locs hP hD hS => ?_)
                rw [up_up] at hP hD
                refine lv_goto (tgt := 177) hx hb dX9_go_309 (by decide) ?_
                exact ih (i + 1) true (((27 * n_) + (((a 1) i).toInt64)) - 96) w H locs (by omega) hgW (by omega) (by rw [← he, tok, if_pos (show isLD (a 1 i) = true by simp [isLD, c188])]; simp only [tokStep]; rw [if_neg (show ¬ (b = false) by rw [c217]; decide), decide_eq_true c226, if_neg c246, if_pos c279]) hP hD hS ls (lv_sub hl [2, 3, 4, 0] rfl)
              · replace c279 : ¬ (5 ≤ (i - (goI (c, v, nm, a)))) := fun z => c279 ((nI_leI (a := 5) (b := i - (goI (c, v, nm, a))) (by omega) (by omega)).mpr z)
                refine lv_aload_n hx hb dX9_go_282 rfl (lv_at hl 2 rfl) ?_
                refine lv_bipush (v := 10) hx hb dX9_go_283 (by decide) ?_
                refine lv_aload_n hx hb dX9_go_285 rfl (lv_at hl 2 rfl) ?_
                refine mg_14 (x := w) hx hb hts hown hK hP rfl dX9_go_286 ?_
                refine lv_imul hx hb dX9_go_289 ?_
                refine lv_iload hx hb dX9_go_290 (lv_at hl 1 rfl) ?_
                refine lv_iadd hx hb dX9_go_292 ?_
                refine lv_bipush (v := 48) hx hb dX9_go_293 (by decide) ?_
                refine lv_isub hx hb dX9_go_295 ?_
                refine mp_14 hx hb hts hown hK hP hD hS (((10 * w) + ((a 1) i)) - 48) dX9_go_296 (fun H locs hP hD hS => ?_)
                rw [up_up] at hP hD
                refine lv_aload_n hx hb dX9_go_299 rfl (lv_at hl 2 rfl) ?_
                refine lv_dup hx hb dX9_go_300 rfl ?_
                refine mg_11 (x := nI i) hx hb hts hown hK hP rfl dX9_go_301 ?_
                refine lv_iconst (v := 1) hx hb dX9_go_304 (by decide) ?_
                refine lv_iadd hx hb dX9_go_305 ?_
                refine rw_topi (y := nI (i + 1)) (nI_add _ _) ?_
                refine mp_11 hx hb hts hown hK hP hD hS (i + 1) rfl dX9_go_306 (fun H locs hP hD hS => ?_)
                rw [up_up] at hP hD
                refine lv_goto (tgt := 177) hx hb dX9_go_309 (by decide) ?_
                exact ih (i + 1) true (((27 * n_) + (((a 1) i).toInt64)) - 96) (((10 * w) + ((a 1) i)) - 48) H locs (by omega) hgW (by omega) (by rw [← he, tok, if_pos (show isLD (a 1 i) = true by simp [isLD, c188])]; simp only [tokStep]; rw [if_neg (show ¬ (b = false) by rw [c217]; decide), decide_eq_true c226, if_neg c246, if_neg c279]) hP hD hS ls (lv_sub hl [2, 3, 4, 0] rfl)
      · replace c188 : (let_ (a 1 i)) = false := bI_0.mp c188
        refine lv_aload_n hx hb dX9_go_191 rfl (lv_at hl 0 rfl) ?_
        refine lv_aload_n hx hb dX9_go_192 rfl (lv_at hl 0 rfl) ?_
        refine mg_11 (x := nI i) hx hb hts hown hK hP rfl dX9_go_193 ?_
        refine ro_V (rest := []) (st1 := [.int (if (c 10) ≤ i then 0 else (a 1) i)]) (As := [.int (nI i)]) ⟨hx, hb, hml, hown, hts⟩ Gd0 trivial hS hK (c_X9_at l D h q k (up (up (up c 11 (goI (c, v, nm, a))) 12 (goI (c, v, nm, a))) 11 i) (up v 14 w) n_ a i (by first | exact hs | (simp only [up]; omega)) (by omega)) mi_X9_at wd_5_134 wp_2_13 wd_5_132 ⟨Nat.le_of_ble_eq_true rfl, Nat.le_of_ble_eq_true rfl⟩ (hP) 0 rfl rfl rfl hl.1 rfl (Nat.le_of_ble_eq_true rfl) rfl ⟨Nat.le_of_ble_eq_true rfl, Nat.le_of_ble_eq_true rfl⟩ dX9_go_196 ?_
        refine rw_topi (y := a 1 i) (if_neg (by omega)) ?_
        refine ro_S (rest := []) (st1 := [.int (bI (dig (a 1 i)))]) (As := [.int (a 1 i)]) ⟨hx, hb, hml, hown, hts⟩ Gd0 trivial hS hK (c_X9_isDigit l D k (a 1 i)) mi_X9_isDigit wd_5_130 wd_5_129 ⟨Nat.le_of_ble_eq_true rfl, Nat.le_of_ble_eq_true rfl⟩ (fun k9 q9 h9 => by simp at h9) rfl hl.1 rfl (Nat.le_of_ble_eq_true rfl) rfl ⟨Nat.le_of_ble_eq_true rfl, Nat.le_of_ble_eq_true rfl⟩ dX9_go_199 ?_
        refine lv_if_eq (tgt := 312) hx hb dX9_go_202 (by decide) (fun c202 => ?_) (fun c202 => ?_)
        · replace c202 : (dig (a 1 i)) = false := bI_0.mp c202
          exact J2 i b n_ w H locs ⟨by rw [← he, tok, if_neg (show ¬ (isLD (a 1 i) = true) by simp [isLD, c188, c202])], hgW⟩ hP hD hS ls (lv_sub hl [0, 1, 2, 3] rfl)
        · replace c202 : (dig (a 1 i)) = true := bI_n.mp c202
          refine lv_aload_n hx hb dX9_go_205 rfl (lv_at hl 0 rfl) ?_
          refine mg_1 hx hb hts hown hK hP dX9_go_206 ?_
          refine lv_aload_n hx hb dX9_go_209 rfl (lv_at hl 0 rfl) ?_
          refine mg_11 (x := nI i) hx hb hts hown hK hP rfl dX9_go_210 ?_
          refine ml_1 (x := (a 1) i) hx hb hK hP i rfl (by omega) rfl dX9_go_213 ?_
          refine lv_istore (lv' := [(4, .int ((a 1) i)), (0, .ref h), (1, .int (a 1 (goI (c, v, nm, a)))), (2, .int (bI (let_ (a 1 (goI (c, v, nm, a)))))), (3, .int (bI b))]) hx hb dX9_go_214 hl (by decide) rfl (fun ls hl => ?_)
          refine lv_iload_n hx hb dX9_go_216 rfl (lv_at hl 4 rfl) ?_
          refine lv_if_eq (tgt := 233) hx hb dX9_go_217 (by decide) (fun c217 => ?_) (fun c217 => ?_)
          · replace c217 : b = false := bI_0.mp c217
            refine lv_iconst (v := 0) hx hb dX9_go_233 (by decide) ?_
            refine lv_istore_n (lv' := [(3, .int 0), (4, .int ((a 1) i)), (0, .ref h), (1, .int (a 1 (goI (c, v, nm, a)))), (2, .int (bI (let_ (a 1 (goI (c, v, nm, a))))))]) hx hb dX9_go_234 rfl hl (by decide) rfl (fun ls hl => ?_)
            refine lv_aload_n hx hb dX9_go_235 rfl (lv_at hl 2 rfl) ?_
            refine mg_11 (x := nI i) hx hb hts hown hK hP rfl dX9_go_236 ?_
            refine lv_aload_n hx hb dX9_go_239 rfl (lv_at hl 2 rfl) ?_
            refine mg_12 (x := nI (goI (c, v, nm, a))) hx hb hts hown hK hP rfl dX9_go_240 ?_
            refine lv_isub hx hb dX9_go_243 ?_
            refine rw_topi (y := nI (i - (goI (c, v, nm, a)))) (pk_sub (by omega)) ?_
            refine lv_bipush (v := 10) hx hb dX9_go_244 (by decide) ?_
            refine lv_icmp_ge (tgt := 269) hx hb dX9_go_246 (by decide) (fun c246 => ?_) (fun c246 => ?_)
            · replace c246 : 10 ≤ (i - (goI (c, v, nm, a))) := (nI_leI (a := 10) (b := i - (goI (c, v, nm, a))) (by omega) (by omega)).mp c246
              refine lv_aload_n hx hb dX9_go_269 rfl (lv_at hl 2 rfl) ?_
              refine mg_11 (x := nI i) hx hb hts hown hK hP rfl dX9_go_270 ?_
              refine lv_aload_n hx hb dX9_go_273 rfl (lv_at hl 2 rfl) ?_
              refine mg_12 (x := nI (goI (c, v, nm, a))) hx hb hts hown hK hP rfl dX9_go_274 ?_
              refine lv_isub hx hb dX9_go_277 ?_
              refine rw_topi (y := nI (i - (goI (c, v, nm, a)))) (pk_sub (by omega)) ?_
              refine lv_iconst (v := 5) hx hb dX9_go_278 (by decide) ?_
              refine lv_icmp_ge (tgt := 299) hx hb dX9_go_279 (by decide) (fun c279 => ?_) (fun c279 => ?_)
              · replace c279 : 5 ≤ (i - (goI (c, v, nm, a))) := (nI_leI (a := 5) (b := i - (goI (c, v, nm, a))) (by omega) (by omega)).mp c279
                refine lv_aload_n hx hb dX9_go_299 rfl (lv_at hl 2 rfl) ?_
                refine lv_dup hx hb dX9_go_300 rfl ?_
                refine mg_11 (x := nI i) hx hb hts hown hK hP rfl dX9_go_301 ?_
                refine lv_iconst (v := 1) hx hb dX9_go_304 (by decide) ?_
                refine lv_iadd hx hb dX9_go_305 ?_
                refine rw_topi (y := nI (i + 1)) (nI_add _ _) ?_
                refine mp_11 hx hb hts hown hK hP hD hS (i + 1) rfl dX9_go_306 (fun H locs hP hD hS => ?_)
                rw [up_up] at hP hD
                refine lv_goto (tgt := 177) hx hb dX9_go_309 (by decide) ?_
                exact ih (i + 1) false n_ w H locs (by omega) hgW (by omega) (by rw [← he, tok, if_pos (show isLD (a 1 i) = true by simp [isLD, c188, c202])]; simp only [tokStep]; rw [if_pos c217, if_pos c246, if_pos c279]) hP hD hS ls (lv_sub hl [2, 3, 4, 0] rfl)
              · replace c279 : ¬ (5 ≤ (i - (goI (c, v, nm, a)))) := fun z => c279 ((nI_leI (a := 5) (b := i - (goI (c, v, nm, a))) (by omega) (by omega)).mpr z)
                refine lv_aload_n hx hb dX9_go_282 rfl (lv_at hl 2 rfl) ?_
                refine lv_bipush (v := 10) hx hb dX9_go_283 (by decide) ?_
                refine lv_aload_n hx hb dX9_go_285 rfl (lv_at hl 2 rfl) ?_
                refine mg_14 (x := w) hx hb hts hown hK hP rfl dX9_go_286 ?_
                refine lv_imul hx hb dX9_go_289 ?_
                refine lv_iload hx hb dX9_go_290 (lv_at hl 1 rfl) ?_
                refine lv_iadd hx hb dX9_go_292 ?_
                refine lv_bipush (v := 48) hx hb dX9_go_293 (by decide) ?_
                refine lv_isub hx hb dX9_go_295 ?_
                refine mp_14 hx hb hts hown hK hP hD hS (((10 * w) + ((a 1) i)) - 48) dX9_go_296 (fun H locs hP hD hS => ?_)
                rw [up_up] at hP hD
                refine lv_aload_n hx hb dX9_go_299 rfl (lv_at hl 2 rfl) ?_
                refine lv_dup hx hb dX9_go_300 rfl ?_
                refine mg_11 (x := nI i) hx hb hts hown hK hP rfl dX9_go_301 ?_
                refine lv_iconst (v := 1) hx hb dX9_go_304 (by decide) ?_
                refine lv_iadd hx hb dX9_go_305 ?_
                refine rw_topi (y := nI (i + 1)) (nI_add _ _) ?_
                refine mp_11 hx hb hts hown hK hP hD hS (i + 1) rfl dX9_go_306 (fun H locs hP hD hS => ?_)
                rw [up_up] at hP hD
                refine lv_goto (tgt := 177) hx hb dX9_go_309 (by decide) ?_
                exact ih (i + 1) false n_ (((10 * w) + ((a 1) i)) - 48) H locs (by omega) hgW (by omega) (by rw [← he, tok, if_pos (show isLD (a 1 i) = true by simp [isLD, c188, c202])]; simp only [tokStep]; rw [if_pos c217, if_pos c246, if_neg c279]) hP hD hS ls (lv_sub hl [2, 3, 4, 0] rfl)
            · replace c246 : ¬ (10 ≤ (i - (goI (c, v, nm, a)))) := fun z => c246 ((nI_leI (a := 10) (b := i - (goI (c, v, nm, a))) (by omega) (by omega)).mpr z)
              refine lv_aload_n hx hb dX9_go_249 rfl (lv_at hl 2 rfl) ?_
              refine lv_ldc2 (v := 27) hx hb hown (hts _ wd_5_136) dX9_go_250 ?_
              refine lv_aload_n hx hb dX9_go_253 rfl (lv_at hl 2 rfl) ?_
              refine mg_15 (x := n_) hx hb hts hown hK hP rfl dX9_go_254 ?_
              refine lv_lmul hx hb dX9_go_257 ?_
              refine lv_iload hx hb dX9_go_258 (lv_at hl 1 rfl) ?_
              refine lv_i2l (v := ((a 1) i).toInt64) hx hb dX9_go_260 rfl ?_
              refine lv_ladd hx hb dX9_go_261 ?_
              refine lv_ldc2 (v := 96) hx hb hown (hts _ wd_5_137) dX9_go_262 ?_
              refine lv_lsub hx hb dX9_go_265 ?_
              refine mp_15 hx hb hts hown hK hP hD hS (((27 * n_) + (((a 1) i).toInt64)) - 96) dX9_go_266 (fun H locs hP hD hS => ?_)
              refine lv_aload_n hx hb dX9_go_269 rfl (lv_at hl 2 rfl) ?_
              refine mg_11 (x := nI i) hx hb hts hown hK hP rfl dX9_go_270 ?_
              refine lv_aload_n hx hb dX9_go_273 rfl (lv_at hl 2 rfl) ?_
              refine mg_12 (x := nI (goI (c, v, nm, a))) hx hb hts hown hK hP rfl dX9_go_274 ?_
              refine lv_isub hx hb dX9_go_277 ?_
              refine rw_topi (y := nI (i - (goI (c, v, nm, a)))) (pk_sub (by omega)) ?_
              refine lv_iconst (v := 5) hx hb dX9_go_278 (by decide) ?_
              refine lv_icmp_ge (tgt := 299) hx hb dX9_go_279 (by decide) (fun c279 => ?_) (fun c279 => ?_)
              · replace c279 : 5 ≤ (i - (goI (c, v, nm, a))) := (nI_leI (a := 5) (b := i - (goI (c, v, nm, a))) (by omega) (by omega)).mp c279
                refine lv_aload_n hx hb dX9_go_299 rfl (lv_at hl 2 rfl) ?_
                refine lv_dup hx hb dX9_go_300 rfl ?_
                refine mg_11 (x := nI i) hx hb hts hown hK hP rfl dX9_go_301 ?_
                refine lv_iconst (v := 1) hx hb dX9_go_304 (by decide) ?_
                refine lv_iadd hx hb dX9_go_305 ?_
                refine rw_topi (y := nI (i + 1)) (nI_add _ _) ?_
                refine mp_11 hx hb hts hown hK hP hD hS (i + 1) rfl dX9_go_306 (fun H locs hP hD hS => ?_)
                rw [up_up] at hP hD
                refine lv_goto (tgt := 177) hx hb dX9_go_309 (by decide) ?_
                exact ih (i + 1) false (((27 * n_) + (((a 1) i).toInt64)) - 96) w H locs (by omega) hgW (by omega) (by rw [← he, tok, if_pos (show isLD (a 1 i) = true by simp [isLD, c188, c202])]; simp only [tokStep]; rw [if_pos c217, if_neg c246, if_pos c279]) hP hD hS ls (lv_sub hl [2, 3, 4, 0] rfl)
              · replace c279 : ¬ (5 ≤ (i - (goI (c, v, nm, a)))) := fun z => c279 ((nI_leI (a := 5) (b := i - (goI (c, v, nm, a))) (by omega) (by omega)).mpr z)
                refine lv_aload_n hx hb dX9_go_282 rfl (lv_at hl 2 rfl) ?_
                refine lv_bipush (v := 10) hx hb dX9_go_283 (by decide) ?_
                refine lv_aload_n hx hb dX9_go_285 rfl (lv_at hl 2 rfl) ?_
                refine mg_14 (x := w) hx hb hts hown hK hP rfl dX9_go_286 ?_
                refine lv_imul hx hb dX9_go_289 ?_
                refine lv_iload hx hb dX9_go_290 (lv_at hl 1 rfl) ?_
                refine lv_iadd hx hb dX9_go_292 ?_
                refine lv_bipush (v := 48) hx hb dX9_go_293 (by decide) ?_
                refine lv_isub hx hb dX9_go_295 ?_
                refine mp_14 hx hb hts hown hK hP hD hS (((10 * w) + ((a 1) i)) - 48) dX9_go_296 (fun H locs hP hD hS => ?_)
                rw [up_up] at hP hD
                refine lv_aload_n hx hb dX9_go_299 rfl (lv_at hl 2 rfl) ?_
                refine lv_dup hx hb dX9_go_300 rfl ?_
                refine mg_11 (x := nI i) hx hb hts hown hK hP rfl dX9_go_301 ?_
                refine lv_iconst (v := 1) hx hb dX9_go_304 (by decide) ?_
                refine lv_iadd hx hb dX9_go_305 ?_
                refine rw_topi (y := nI (i + 1)) (nI_add _ _) ?_
                refine mp_11 hx hb hts hown hK hP hD hS (i + 1) rfl dX9_go_306 (fun H locs hP hD hS => ?_)
                rw [up_up] at hP hD
                refine lv_goto (tgt := 177) hx hb dX9_go_309 (by decide) ?_
                exact ih (i + 1) false (((27 * n_) + (((a 1) i).toInt64)) - 96) (((10 * w) + ((a 1) i)) - 48) H locs (by omega) hgW (by omega) (by rw [← he, tok, if_pos (show isLD (a 1 i) = true by simp [isLD, c188, c202])]; simp only [tokStep]; rw [if_pos c217, if_neg c246, if_neg c279]) hP hD hS ls (lv_sub hl [2, 3, 4, 0] rfl)
          · replace c217 : b = true := bI_n.mp c217
            refine lv_iload hx hb dX9_go_220 (lv_at hl 0 rfl) ?_
            refine ro_S (rest := []) (st1 := [.int (bI (let_ ((a 1) i)))]) (As := [.int ((a 1) i)]) ⟨hx, hb, hml, hown, hts⟩ Gd0 trivial hS hK (c_X9_isLetter l D k ((a 1) i)) mi_X9_isLetter wd_5_127 wd_5_126 ⟨Nat.le_of_ble_eq_true rfl, Nat.le_of_ble_eq_true rfl⟩ (fun k9 q9 h9 => by simp at h9) rfl hl.1 rfl (Nat.le_of_ble_eq_true rfl) rfl ⟨Nat.le_of_ble_eq_true rfl, Nat.le_of_ble_eq_true rfl⟩ dX9_go_222 ?_
            refine lv_iload_n hx hb dX9_go_225 rfl (lv_at hl 3 rfl) ?_
            refine lv_icmp_ne (tgt := 233) hx hb dX9_go_226 (by decide) (fun c226 => ?_) (fun c226 => ?_)
            · refine lv_iconst (v := 0) hx hb dX9_go_233 (by decide) ?_
              refine lv_istore_n (lv' := [(3, .int 0), (4, .int ((a 1) i)), (0, .ref h), (1, .int (a 1 (goI (c, v, nm, a)))), (2, .int (bI (let_ (a 1 (goI (c, v, nm, a))))))]) hx hb dX9_go_234 rfl hl (by decide) rfl (fun ls hl => ?_)
              refine lv_aload_n hx hb dX9_go_235 rfl (lv_at hl 2 rfl) ?_
              refine mg_11 (x := nI i) hx hb hts hown hK hP rfl dX9_go_236 ?_
              refine lv_aload_n hx hb dX9_go_239 rfl (lv_at hl 2 rfl) ?_
              refine mg_12 (x := nI (goI (c, v, nm, a))) hx hb hts hown hK hP rfl dX9_go_240 ?_
              refine lv_isub hx hb dX9_go_243 ?_
              refine rw_topi (y := nI (i - (goI (c, v, nm, a)))) (pk_sub (by omega)) ?_
              refine lv_bipush (v := 10) hx hb dX9_go_244 (by decide) ?_
              refine lv_icmp_ge (tgt := 269) hx hb dX9_go_246 (by decide) (fun c246 => ?_) (fun c246 => ?_)
              · replace c246 : 10 ≤ (i - (goI (c, v, nm, a))) := (nI_leI (a := 10) (b := i - (goI (c, v, nm, a))) (by omega) (by omega)).mp c246
                refine lv_aload_n hx hb dX9_go_269 rfl (lv_at hl 2 rfl) ?_
                refine mg_11 (x := nI i) hx hb hts hown hK hP rfl dX9_go_270 ?_
                refine lv_aload_n hx hb dX9_go_273 rfl (lv_at hl 2 rfl) ?_
                refine mg_12 (x := nI (goI (c, v, nm, a))) hx hb hts hown hK hP rfl dX9_go_274 ?_
                refine lv_isub hx hb dX9_go_277 ?_
                refine rw_topi (y := nI (i - (goI (c, v, nm, a)))) (pk_sub (by omega)) ?_
                refine lv_iconst (v := 5) hx hb dX9_go_278 (by decide) ?_
                refine lv_icmp_ge (tgt := 299) hx hb dX9_go_279 (by decide) (fun c279 => ?_) (fun c279 => ?_)
                · replace c279 : 5 ≤ (i - (goI (c, v, nm, a))) := (nI_leI (a := 5) (b := i - (goI (c, v, nm, a))) (by omega) (by omega)).mp c279
                  refine lv_aload_n hx hb dX9_go_299 rfl (lv_at hl 2 rfl) ?_
                  refine lv_dup hx hb dX9_go_300 rfl ?_
                  refine mg_11 (x := nI i) hx hb hts hown hK hP rfl dX9_go_301 ?_
                  refine lv_iconst (v := 1) hx hb dX9_go_304 (by decide) ?_
                  refine lv_iadd hx hb dX9_go_305 ?_
                  refine rw_topi (y := nI (i + 1)) (nI_add _ _) ?_
                  refine mp_11 hx hb hts hown hK hP hD hS (i + 1) rfl dX9_go_306 (fun H locs hP hD hS => ?_)
                  rw [up_up] at hP hD
                  refine lv_goto (tgt := 177) hx hb dX9_go_309 (by decide) ?_
                  exact ih (i + 1) false n_ w H locs (by omega) hgW (by omega) (by rw [← he, tok, if_pos (show isLD (a 1 i) = true by simp [isLD, c188, c202])]; simp only [tokStep]; rw [if_neg (show ¬ (b = false) by rw [c217]; decide), decide_eq_false c226, if_pos c246, if_pos c279]) hP hD hS ls (lv_sub hl [2, 3, 4, 0] rfl)
                · replace c279 : ¬ (5 ≤ (i - (goI (c, v, nm, a)))) := fun z => c279 ((nI_leI (a := 5) (b := i - (goI (c, v, nm, a))) (by omega) (by omega)).mpr z)
                  refine lv_aload_n hx hb dX9_go_282 rfl (lv_at hl 2 rfl) ?_
                  refine lv_bipush (v := 10) hx hb dX9_go_283 (by decide) ?_
                  refine lv_aload_n hx hb dX9_go_285 rfl (lv_at hl 2 rfl) ?_
                  refine mg_14 (x := w) hx hb hts hown hK hP rfl dX9_go_286 ?_
                  refine lv_imul hx hb dX9_go_289 ?_
                  refine lv_iload hx hb dX9_go_290 (lv_at hl 1 rfl) ?_
                  refine lv_iadd hx hb dX9_go_292 ?_
                  refine lv_bipush (v := 48) hx hb dX9_go_293 (by decide) ?_
                  refine lv_isub hx hb dX9_go_295 ?_
                  refine mp_14 hx hb hts hown hK hP hD hS (((10 * w) + ((a 1) i)) - 48) dX9_go_296 (fun H locs hP hD hS => ?_)
                  rw [up_up] at hP hD
                  refine lv_aload_n hx hb dX9_go_299 rfl (lv_at hl 2 rfl) ?_
                  refine lv_dup hx hb dX9_go_300 rfl ?_
                  refine mg_11 (x := nI i) hx hb hts hown hK hP rfl dX9_go_301 ?_
                  refine lv_iconst (v := 1) hx hb dX9_go_304 (by decide) ?_
                  refine lv_iadd hx hb dX9_go_305 ?_
                  refine rw_topi (y := nI (i + 1)) (nI_add _ _) ?_
                  refine mp_11 hx hb hts hown hK hP hD hS (i + 1) rfl dX9_go_306 (fun H locs hP hD hS => ?_)
                  rw [up_up] at hP hD
                  refine lv_goto (tgt := 177) hx hb dX9_go_309 (by decide) ?_
                  exact ih (i + 1) false n_ (((10 * w) + ((a 1) i)) - 48) H locs (by omega) hgW (by omega) (by rw [← he, tok, if_pos (show isLD (a 1 i) = true by simp [isLD, c188, c202])]; simp only [tokStep]; rw [if_neg (show ¬ (b = false) by rw [c217]; decide), decide_eq_false c226, if_pos c246, if_neg c279]) hP hD hS ls (lv_sub hl [2, 3, 4, 0] rfl)
              · replace c246 : ¬ (10 ≤ (i - (goI (c, v, nm, a)))) := fun z => c246 ((nI_leI (a := 10) (b := i - (goI (c, v, nm, a))) (by omega) (by omega)).mpr z)
                refine lv_aload_n hx hb dX9_go_249 rfl (lv_at hl 2 rfl) ?_
                refine lv_ldc2 (v := 27) hx hb hown (hts _ wd_5_136) dX9_go_250 ?_
                refine lv_aload_n hx hb dX9_go_253 rfl (lv_at hl 2 rfl) ?_
                refine mg_15 (x := n_) hx hb hts hown hK hP rfl dX9_go_254 ?_
                refine lv_lmul hx hb dX9_go_257 ?_
                refine lv_iload hx hb dX9_go_258 (lv_at hl 1 rfl) ?_
                refine lv_i2l (v := ((a 1) i).toInt64) hx hb dX9_go_260 rfl ?_
                refine lv_ladd hx hb dX9_go_261 ?_
                refine lv_ldc2 (v := 96) hx hb hown (hts _ wd_5_137) dX9_go_262 ?_
                refine lv_lsub hx hb dX9_go_265 ?_
                refine mp_15 hx hb hts hown hK hP hD hS (((27 * n_) + (((a 1) i).toInt64)) - 96) dX9_go_266 (fun H locs hP hD hS => ?_)
                refine lv_aload_n hx hb dX9_go_269 rfl (lv_at hl 2 rfl) ?_
                refine mg_11 (x := nI i) hx hb hts hown hK hP rfl dX9_go_270 ?_
                refine lv_aload_n hx hb dX9_go_273 rfl (lv_at hl 2 rfl) ?_
                refine mg_12 (x := nI (goI (c, v, nm, a))) hx hb hts hown hK hP rfl dX9_go_274 ?_
                refine lv_isub hx hb dX9_go_277 ?_
                refine rw_topi (y := nI (i - (goI (c, v, nm, a)))) (pk_sub (by omega)) ?_
                refine lv_iconst (v := 5) hx hb dX9_go_278 (by decide) ?_
                refine lv_icmp_ge (tgt := 299) hx hb dX9_go_279 (by decide) (fun c279 => ?_) (fun c279 => ?_)
                · replace c279 : 5 ≤ (i - (goI (c, v, nm, a))) := (nI_leI (a := 5) (b := i - (goI (c, v, nm, a))) (by omega) (by omega)).mp c279
                  refine lv_aload_n hx hb dX9_go_299 rfl (lv_at hl 2 rfl) ?_
                  refine lv_dup hx hb dX9_go_300 rfl ?_
                  refine mg_11 (x := nI i) hx hb hts hown hK hP rfl dX9_go_301 ?_
                  refine lv_iconst (v := 1) hx hb dX9_go_304 (by decide) ?_
                  refine lv_iadd hx hb dX9_go_305 ?_
                  refine rw_topi (y := nI (i + 1)) (nI_add _ _) ?_
                  refine mp_11 hx hb hts hown hK hP hD hS (i + 1) rfl dX9_go_306 (fun H locs hP hD hS => ?_)
                  rw [up_up] at hP hD
                  refine lv_goto (tgt := 177) hx hb dX9_go_309 (by decide) ?_
                  exact ih (i + 1) false (((27 * n_) + (((a 1) i).toInt64)) - 96) w H locs (by omega) hgW (by omega) (by rw [← he, tok, if_pos (show isLD (a 1 i) = true by simp [isLD, c188, c202])]; simp only [tokStep]; rw [if_neg (show ¬ (b = false) by rw [c217]; decide), decide_eq_false c226, if_neg c246, if_pos c279]) hP hD hS ls (lv_sub hl [2, 3, 4, 0] rfl)
                · replace c279 : ¬ (5 ≤ (i - (goI (c, v, nm, a)))) := fun z => c279 ((nI_leI (a := 5) (b := i - (goI (c, v, nm, a))) (by omega) (by omega)).mpr z)
                  refine lv_aload_n hx hb dX9_go_282 rfl (lv_at hl 2 rfl) ?_
                  refine lv_bipush (v := 10) hx hb dX9_go_283 (by decide) ?_
                  refine lv_aload_n hx hb dX9_go_285 rfl (lv_at hl 2 rfl) ?_
                  refine mg_14 (x := w) hx hb hts hown hK hP rfl dX9_go_286 ?_
                  refine lv_imul hx hb dX9_go_289 ?_
                  refine lv_iload hx hb dX9_go_290 (lv_at hl 1 rfl) ?_
                  refine lv_iadd hx hb dX9_go_292 ?_
                  refine lv_bipush (v := 48) hx hb dX9_go_293 (by decide) ?_
                  refine lv_isub hx hb dX9_go_295 ?_
                  refine mp_14 hx hb hts hown hK hP hD hS (((10 * w) + ((a 1) i)) - 48) dX9_go_296 (fun H locs hP hD hS => ?_)
                  rw [up_up] at hP hD
                  refine lv_aload_n hx hb dX9_go_299 rfl (lv_at hl 2 rfl) ?_
                  refine lv_dup hx hb dX9_go_300 rfl ?_
                  refine mg_11 (x := nI i) hx hb hts hown hK hP rfl dX9_go_301 ?_
                  refine lv_iconst (v := 1) hx hb dX9_go_304 (by decide) ?_
                  refine lv_iadd hx hb dX9_go_305 ?_
                  refine rw_topi (y := nI (i + 1)) (nI_add _ _) ?_
                  refine mp_11 hx hb hts hown hK hP hD hS (i + 1) rfl dX9_go_306 (fun H locs hP hD hS => ?_)
                  rw [up_up] at hP hD
                  refine lv_goto (tgt := 177) hx hb dX9_go_309 (by decide) ?_
                  exact ih (i + 1) false (((27 * n_) + (((a 1) i).toInt64)) - 96) (((10 * w) + ((a 1) i)) - 48) H locs (by omega) hgW (by omega) (by rw [← he, tok, if_pos (show isLD (a 1 i) = true by simp [isLD, c188, c202])]; simp only [tokStep]; rw [if_neg (show ¬ (b = false) by rw [c217]; decide), decide_eq_false c226, if_neg c246, if_neg c279]) hP hD hS ls (lv_sub hl [2, 3, 4, 0] rfl)
            · refine lv_iconst (v := 1) hx hb dX9_go_229 (by decide) ?_
              refine lv_goto (tgt := 234) hx hb dX9_go_230 (by decide) ?_
              refine lv_istore_n (lv' := [(3, .int 1), (4, .int ((a 1) i)), (0, .ref h), (1, .int (a 1 (goI (c, v, nm, a)))), (2, .int (bI (let_ (a 1 (goI (c, v, nm, a))))))]) hx hb dX9_go_234 rfl hl (by decide) rfl (fun ls hl => ?_)
              refine lv_aload_n hx hb dX9_go_235 rfl (lv_at hl 2 rfl) ?_
              refine mg_11 (x := nI i) hx hb hts hown hK hP rfl dX9_go_236 ?_
              refine lv_aload_n hx hb dX9_go_239 rfl (lv_at hl 2 rfl) ?_
              refine mg_12 (x := nI (goI (c, v, nm, a))) hx hb hts hown hK hP rfl dX9_go_240 ?_
              refine lv_isub hx hb dX9_go_243 ?_
              refine rw_topi (y := nI (i - (goI (c, v, nm, a)))) (pk_sub (by omega)) ?_
              refine lv_bipush (v := 10) hx hb dX9_go_244 (by decide) ?_
              refine lv_icmp_ge (tgt := 269) hx hb dX9_go_246 (by decide) (fun c246 => ?_) (fun c246 => ?_)
              · replace c246 : 10 ≤ (i - (goI (c, v, nm, a))) := (nI_leI (a := 10) (b := i - (goI (c, v, nm, a))) (by omega) (by omega)).mp c246
                refine lv_aload_n hx hb dX9_go_269 rfl (lv_at hl 2 rfl) ?_
                refine mg_11 (x := nI i) hx hb hts hown hK hP rfl dX9_go_270 ?_
                refine lv_aload_n hx hb dX9_go_273 rfl (lv_at hl 2 rfl) ?_
                refine mg_12 (x := nI (goI (c, v, nm, a))) hx hb hts hown hK hP rfl dX9_go_274 ?_
                refine lv_isub hx hb dX9_go_277 ?_
                refine rw_topi (y := nI (i - (goI (c, v, nm, a)))) (pk_sub (by omega)) ?_
                refine lv_iconst (v := 5) hx hb dX9_go_278 (by decide) ?_
                refine lv_icmp_ge (tgt := 299) hx hb dX9_go_279 (by decide) (fun c279 => ?_) (fun c279 => ?_)
                · replace c279 : 5 ≤ (i - (goI (c, v, nm, a))) := (nI_leI (a := 5) (b := i - (goI (c, v, nm, a))) (by omega) (by omega)).mp c279
                  refine lv_aload_n hx hb dX9_go_299 rfl (lv_at hl 2 rfl) ?_
                  refine lv_dup hx hb dX9_go_300 rfl ?_
                  refine mg_11 (x := nI i) hx hb hts hown hK hP rfl dX9_go_301 ?_
                  refine lv_iconst (v := 1) hx hb dX9_go_304 (by decide) ?_
                  refine lv_iadd hx hb dX9_go_305 ?_
                  refine rw_topi (y := nI (i + 1)) (nI_add _ _) ?_
                  refine mp_11 hx hb hts hown hK hP hD hS (i + 1) rfl dX9_go_306 (fun H locs hP hD hS => ?_)
                  rw [up_up] at hP hD
                  refine lv_goto (tgt := 177) hx hb dX9_go_309 (by decide) ?_
                  exact ih (i + 1) true n_ w H locs (by omega) hgW (by omega) (by rw [← he, tok, if_pos (show isLD (a 1 i) = true by simp [isLD, c188, c202])]; simp only [tokStep]; rw [if_neg (show ¬ (b = false) by rw [c217]; decide), decide_eq_true c226, if_pos c246, if_pos c279]) hP hD hS ls (lv_sub hl [2, 3, 4, 0] rfl)
                · replace c279 : ¬ (5 ≤ (i - (goI (c, v, nm, a)))) := fun z => c279 ((nI_leI (a := 5) (b := i - (goI (c, v, nm, a))) (by omega) (by omega)).mpr z)
                  refine lv_aload_n hx hb dX9_go_282 rfl (lv_at hl 2 rfl) ?_
                  refine lv_bipush (v := 10) hx hb dX9_go_283 (by decide) ?_
                  refine lv_aload_n hx hb dX9_go_285 rfl (lv_at hl 2 rfl) ?_
                  refine mg_14 (x := w) hx hb hts hown hK hP rfl dX9_go_286 ?_
                  refine lv_imul hx hb dX9_go_289 ?_
                  refine lv_iload hx hb dX9_go_290 (lv_at hl 1 rfl) ?_
                  refine lv_iadd hx hb dX9_go_292 ?_
                  refine lv_bipush (v := 48) hx hb dX9_go_293 (by decide) ?_
                  refine lv_isub hx hb dX9_go_295 ?_
                  refine mp_14 hx hb hts hown hK hP hD hS (((10 * w) + ((a 1) i)) - 48) dX9_go_296 (fun H locs hP hD hS => ?_)
                  rw [up_up] at hP hD
                  refine lv_aload_n hx hb dX9_go_299 rfl (lv_at hl 2 rfl) ?_
                  refine lv_dup hx hb dX9_go_300 rfl ?_
                  refine mg_11 (x := nI i) hx hb hts hown hK hP rfl dX9_go_301 ?_
                  refine lv_iconst (v := 1) hx hb dX9_go_304 (by decide) ?_
                  refine lv_iadd hx hb dX9_go_305 ?_
                  refine rw_topi (y := nI (i + 1)) (nI_add _ _) ?_
                  refine mp_11 hx hb hts hown hK hP hD hS (i + 1) rfl dX9_go_306 (fun H locs hP hD hS => ?_)
                  rw [up_up] at hP hD
                  refine lv_goto (tgt := 177) hx hb dX9_go_309 (by decide) ?_
                  exact ih (i + 1) true n_ (((10 * w) + ((a 1) i)) - 48) H locs (by omega) hgW (by omega) (by rw [← he, tok, if_pos (show isLD (a 1 i) = true by simp [isLD, c188, c202])]; simp only [tokStep]; rw [if_neg (show ¬ (b = false) by rw [c217]; decide), decide_eq_true c226, if_pos c246, if_neg c279]) hP hD hS ls (lv_sub hl [2, 3, 4, 0] rfl)
              · replace c246 : ¬ (10 ≤ (i - (goI (c, v, nm, a)))) := fun z => c246 ((nI_leI (a := 10) (b := i - (goI (c, v, nm, a))) (by omega) (by omega)).mpr z)
                refine lv_aload_n hx hb dX9_go_249 rfl (lv_at hl 2 rfl) ?_
                refine lv_ldc2 (v := 27) hx hb hown (hts _ wd_5_136) dX9_go_250 ?_
                refine lv_aload_n hx hb dX9_go_253 rfl (lv_at hl 2 rfl) ?_
                refine mg_15 (x := n_) hx hb hts hown hK hP rfl dX9_go_254 ?_
                refine lv_lmul hx hb dX9_go_257 ?_
                refine lv_iload hx hb dX9_go_258 (lv_at hl 1 rfl) ?_
                refine lv_i2l (v := ((a 1) i).toInt64) hx hb dX9_go_260 rfl ?_
                refine lv_ladd hx hb dX9_go_261 ?_
                refine lv_ldc2 (v := 96) hx hb hown (hts _ wd_5_137) dX9_go_262 ?_
                refine lv_lsub hx hb dX9_go_265 ?_
                refine mp_15 hx hb hts hown hK hP hD hS (((27 * n_) + (((a 1) i).toInt64)) - 96) dX9_go_266 (fun H locs hP hD hS => ?_)
                refine lv_aload_n hx hb dX9_go_269 rfl (lv_at hl 2 rfl) ?_
                refine mg_11 (x := nI i) hx hb hts hown hK hP rfl dX9_go_270 ?_
                refine lv_aload_n hx hb dX9_go_273 rfl (lv_at hl 2 rfl) ?_
                refine mg_12 (x := nI (goI (c, v, nm, a))) hx hb hts hown hK hP rfl dX9_go_274 ?_
                refine lv_isub hx hb dX9_go_277 ?_
                refine rw_topi (y := nI (i - (goI (c, v, nm, a)))) (pk_sub (by omega)) ?_
                refine lv_iconst (v := 5) hx hb dX9_go_278 (by decide) ?_
                refine lv_icmp_ge (tgt := 299) hx hb dX9_go_279 (by decide) (fun c279 => ?_) (fun c279 => ?_)
                · replace c279 : 5 ≤ (i - (goI (c, v, nm, a))) := (nI_leI (a := 5) (b := i - (goI (c, v, nm, a))) (by omega) (by omega)).mp c279
                  refine lv_aload_n hx hb dX9_go_299 rfl (lv_at hl 2 rfl) ?_
                  refine lv_dup hx hb dX9_go_300 rfl ?_
                  refine mg_11 (x := nI i) hx hb hts hown hK hP rfl dX9_go_301 ?_
                  refine lv_iconst (v := 1) hx hb dX9_go_304 (by decide) ?_
                  refine lv_iadd hx hb dX9_go_305 ?_
                  refine rw_topi (y := nI (i + 1)) (nI_add _ _) ?_
                  refine mp_11 hx hb hts hown hK hP hD hS (i + 1) rfl dX9_go_306 (fun H locs hP hD hS => ?_)
                  rw [up_up] at hP hD
                  refine lv_goto (tgt := 177) hx hb dX9_go_309 (by decide) ?_
                  exact ih (i + 1) true (((27 * n_) + (((a 1) i).toInt64)) - 96) w H locs (by omega) hgW (by omega) (by rw [← he, tok, if_pos (show isLD (a 1 i) = true by simp [isLD, c188, c202])]; simp only [tokStep]; rw [if_neg (show ¬ (b = false) by rw [c217]; decide), decide_eq_true c226, if_neg c246, if_pos c279]) hP hD hS ls (lv_sub hl [2, 3, 4, 0] rfl)
                · replace c279 : ¬ (5 ≤ (i - (goI (c, v, nm, a)))) := fun z => c279 ((nI_leI (a := 5) (b := i - (goI (c, v, nm, a))) (by omega) (by omega)).mpr z)
                  refine lv_aload_n hx hb dX9_go_282 rfl (lv_at hl 2 rfl) ?_
                  refine lv_bipush (v := 10) hx hb dX9_go_283 (by decide) ?_
                  refine lv_aload_n hx hb dX9_go_285 rfl (lv_at hl 2 rfl) ?_
                  refine mg_14 (x := w) hx hb hts hown hK hP rfl dX9_go_286 ?_
                  refine lv_imul hx hb dX9_go_289 ?_
                  refine lv_iload hx hb dX9_go_290 (lv_at hl 1 rfl) ?_
                  refine lv_iadd hx hb dX9_go_292 ?_
                  refine lv_bipush (v := 48) hx hb dX9_go_293 (by decide) ?_
                  refine lv_isub hx hb dX9_go_295 ?_
                  refine mp_14 hx hb hts hown hK hP hD hS (((10 * w) + ((a 1) i)) - 48) dX9_go_296 (fun H locs hP hD hS => ?_)
                  rw [up_up] at hP hD
                  refine lv_aload_n hx hb dX9_go_299 rfl (lv_at hl 2 rfl) ?_
                  refine lv_dup hx hb dX9_go_300 rfl ?_
                  refine mg_11 (x := nI i) hx hb hts hown hK hP rfl dX9_go_301 ?_
                  refine lv_iconst (v := 1) hx hb dX9_go_304 (by decide) ?_
                  refine lv_iadd hx hb dX9_go_305 ?_
                  refine rw_topi (y := nI (i + 1)) (nI_add _ _) ?_
                  refine mp_11 hx hb hts hown hK hP hD hS (i + 1) rfl dX9_go_306 (fun H locs hP hD hS => ?_)
                  rw [up_up] at hP hD
                  refine lv_goto (tgt := 177) hx hb dX9_go_309 (by decide) ?_
                  exact ih (i + 1) true (((27 * n_) + (((a 1) i).toInt64)) - 96) (((10 * w) + ((a 1) i)) - 48) H locs (by omega) hgW (by omega) (by rw [← he, tok, if_pos (show isLD (a 1 i) = true by simp [isLD, c188, c202])]; simp only [tokStep]; rw [if_neg (show ¬ (b = false) by rw [c217]; decide), decide_eq_true c226, if_neg c246, if_neg c279]) hP hD hS ls (lv_sub hl [2, 3, 4, 0] rfl)
  have J1 : ∀ (H : Heap) (locs : List Loc), True → va_P D vwCl (Mw h q k (up c 11 (goI (c, v, nm, a))) v nm a) H → va_D A (Mw h q k (up c 11 (goI (c, v, nm, a))) v nm a) → va_S A s.heap H locs → ∀ (ls : Array Slot), lv_has ls 5 [(0, .ref h)] → W p l e (rmd 1 0 0) s m args below meth c_ H locs 0 0 Q (F0 m 52 ls []) := by
    intro  H locs he hP hD hS ls hl
    refine lv_aload_n hx hb dX9_go_52 rfl (lv_at hl 0 rfl) ?_
    refine lv_aload_n hx hb dX9_go_53 rfl (lv_at hl 0 rfl) ?_
    refine mg_11 (x := nI (goI (c, v, nm, a))) hx hb hts hown hK hP rfl dX9_go_54 ?_
    refine mp_12 hx hb hts hown hK hP hD hS (goI (c, v, nm, a)) rfl dX9_go_57 (fun H locs hP hD hS => ?_)
    refine lv_aload_n hx hb dX9_go_60 rfl (lv_at hl 0 rfl) ?_
    refine mg_10 (x := nI (c 10)) hx hb hts hown hK hP rfl dX9_go_61 ?_
    refine lv_sipush (v := 300) hx hb dX9_go_64 (by decide) ?_
    refine lv_icmp_le (tgt := 93) hx hb dX9_go_67 (by decide) (fun c67 => ?_) (fun c67 => ?_)
    · replace c67 : (c 10) ≤ 300 := (nI_leI (a := c 10) (b := 300) (by omega) (by omega)).mp c67
      refine lv_aload_n hx hb dX9_go_93 rfl (lv_at hl 0 rfl) ?_
      refine mg_11 (x := nI (goI (c, v, nm, a))) hx hb hts hown hK hP rfl dX9_go_94 ?_
      refine lv_aload_n hx hb dX9_go_97 rfl (lv_at hl 0 rfl) ?_
      refine mg_10 (x := nI (c 10)) hx hb hts hown hK hP rfl dX9_go_98 ?_
      refine lv_icmp_lt (tgt := 110) hx hb dX9_go_101 (by decide) (fun c101 => ?_) (fun c101 => ?_)
      · replace c101 : (goI (c, v, nm, a)) < (c 10) := (nI_ltI (a := goI (c, v, nm, a)) (b := c 10) (by omega) (by omega)).mp c101
        refine lv_aload_n hx hb dX9_go_110 rfl (lv_at hl 0 rfl) ?_
        refine mg_1 hx hb hts hown hK hP dX9_go_111 ?_
        refine lv_aload_n hx hb dX9_go_114 rfl (lv_at hl 0 rfl) ?_
        refine mg_11 (x := nI (goI (c, v, nm, a))) hx hb hts hown hK hP rfl dX9_go_115 ?_
        refine ml_1 (x := (a 1) (goI (c, v, nm, a))) hx hb hK hP (goI (c, v, nm, a)) rfl (by omega) rfl dX9_go_118 ?_
        refine lv_istore_n (lv' := [(1, .int ((a 1) (goI (c, v, nm, a)))), (0, .ref h)]) hx hb dX9_go_119 rfl hl (by decide) rfl (fun ls hl => ?_)
        refine lv_iload_n hx hb dX9_go_120 rfl (lv_at hl 0 rfl) ?_
        refine ro_S (rest := []) (st1 := [.int (bI (let_ ((a 1) (goI (c, v, nm, a)))))]) (As := [.int ((a 1) (goI (c, v, nm, a)))]) ⟨hx, hb, hml, hown, hts⟩ Gd0 trivial hS hK (c_X9_isLetter l D k ((a 1) (goI (c, v, nm, a)))) mi_X9_isLetter wd_5_127 wd_5_126 ⟨Nat.le_of_ble_eq_true rfl, Nat.le_of_ble_eq_true rfl⟩ (fun k9 q9 h9 => by simp at h9) rfl hl.1 rfl (Nat.le_of_ble_eq_true rfl) rfl ⟨Nat.le_of_ble_eq_true rfl, Nat.le_of_ble_eq_true rfl⟩ dX9_go_121 ?_
        refine lv_if_ne (tgt := 160) hx hb dX9_go_124 (by decide) (fun c124 => ?_) (fun c124 => ?_)
        · replace c124 : (let_ ((a 1) (goI (c, v, nm, a)))) = true := bI_n.mp c124
          refine lv_iload_n hx hb dX9_go_160 rfl (lv_at hl 0 rfl) ?_
          refine ro_S (rest := []) (st1 := [.int (bI (let_ ((a 1) (goI (c, v, nm, a)))))]) (As := [.int ((a 1) (goI (c, v, nm, a)))]) ⟨hx, hb, hml, hown, hts⟩ Gd0 trivial hS hK (c_X9_isLetter l D k ((a 1) (goI (c, v, nm, a)))) mi_X9_isLetter wd_5_127 wd_5_126 ⟨Nat.le_of_ble_eq_true rfl, Nat.le_of_ble_eq_true rfl⟩ (fun k9 q9 h9 => by simp at h9) rfl hl.1 rfl (Nat.le_of_ble_eq_true rfl) rfl ⟨Nat.le_of_ble_eq_true rfl, Nat.le_of_ble_eq_true rfl⟩ dX9_go_161 ?_
          refine lv_istore_n (lv' := [(2, .int (bI (let_ ((a 1) (goI (c, v, nm, a)))))), (1, .int ((a 1) (goI (c, v, nm, a)))), (0, .ref h)]) hx hb dX9_go_164 rfl hl (by decide) rfl (fun ls hl => ?_)
          refine lv_iconst (v := 1) hx hb dX9_go_165 (by decide) ?_
          refine lv_istore_n (lv' := [(3, .int 1), (2, .int (bI (let_ ((a 1) (goI (c, v, nm, a)))))), (1, .int ((a 1) (goI (c, v, nm, a)))), (0, .ref h)]) hx hb dX9_go_166 rfl hl (by decide) rfl (fun ls hl => ?_)
          refine lv_aload_n hx hb dX9_go_167 rfl (lv_at hl 3 rfl) ?_
          refine lv_lconst (v := 0) hx hb dX9_go_168 (by decide) ?_
          refine mp_15 hx hb hts hown hK hP hD hS 0 dX9_go_169 (fun H locs hP hD hS => ?_)
          refine lv_aload_n hx hb dX9_go_172 rfl (lv_at hl 3 rfl) ?_
          refine lv_iconst (v := 0) hx hb dX9_go_173 (by decide) ?_
          refine mp_14 hx hb hts hown hK hP hD hS 0 dX9_go_174 (fun H locs hP hD hS => ?_)
          exact LT (c 10 - (goI (c, v, nm, a))) (goI (c, v, nm, a)) true 0 0 H locs (by omega) (by rw [mGo, if_pos c67, goB, if_pos c101, if_pos c124]) (Nat.le_refl _) rfl hP hD hS ls (lv_sub hl [3, 2, 1, 0] rfl)
        · replace c124 : (let_ ((a 1) (goI (c, v, nm, a)))) = false := bI_0.mp c124
          refine lv_iload_n hx hb dX9_go_127 rfl (lv_at hl 0 rfl) ?_
          refine ro_S (rest := []) (st1 := [.int (bI (dig ((a 1) (goI (c, v, nm, a)))))]) (As := [.int ((a 1) (goI (c, v, nm, a)))]) ⟨hx, hb, hml, hown, hts⟩ Gd0 trivial hS hK (c_X9_isDigit l D k ((a 1) (goI (c, v, nm, a)))) mi_X9_isDigit wd_5_130 wd_5_129 ⟨Nat.le_of_ble_eq_true rfl, Nat.le_of_ble_eq_true rfl⟩ (fun k9 q9 h9 => by simp at h9) rfl hl.1 rfl (Nat.le_of_ble_eq_true rfl) rfl ⟨Nat.le_of_ble_eq_true rfl, Nat.le_of_ble_eq_true rfl⟩ dX9_go_128 ?_
          refine lv_if_ne (tgt := 160) hx hb dX9_go_131 (by decide) (fun c131 => ?_) (fun c131 => ?_)
          · replace c131 : (dig ((a 1) (goI (c, v, nm, a)))) = true := bI_n.mp c131
            refine lv_iload_n hx hb dX9_go_160 rfl (lv_at hl 0 rfl) ?_
            refine ro_S (rest := []) (st1 := [.int (bI (let_ ((a 1) (goI (c, v, nm, a)))))]) (As := [.int ((a 1) (goI (c, v, nm, a)))]) ⟨hx, hb, hml, hown, hts⟩ Gd0 trivial hS hK (c_X9_isLetter l D k ((a 1) (goI (c, v, nm, a)))) mi_X9_isLetter wd_5_127 wd_5_126 ⟨Nat.le_of_ble_eq_true rfl, Nat.le_of_ble_eq_true rfl⟩ (fun k9 q9 h9 => by simp at h9) rfl hl.1 rfl (Nat.le_of_ble_eq_true rfl) rfl ⟨Nat.le_of_ble_eq_true rfl, Nat.le_of_ble_eq_true rfl⟩ dX9_go_161 ?_
            refine lv_istore_n (lv' := [(2, .int (bI (let_ ((a 1) (goI (c, v, nm, a)))))), (1, .int ((a 1) (goI (c, v, nm, a)))), (0, .ref h)]) hx hb dX9_go_164 rfl hl (by decide) rfl (fun ls hl => ?_)
            refine lv_iconst (v := 1) hx hb dX9_go_165 (by decide) ?_
            refine lv_istore_n (lv' := [(3, .int 1), (2, .int (bI (let_ ((a 1) (goI (c, v, nm, a)))))), (1, .int ((a 1) (goI (c, v, nm, a)))), (0, .ref h)]) hx hb dX9_go_166 rfl hl (by decide) rfl (fun ls hl => ?_)
            refine lv_aload_n hx hb dX9_go_167 rfl (lv_at hl 3 rfl) ?_
            refine lv_lconst (v := 0) hx hb dX9_go_168 (by decide) ?_
            refine mp_15 hx hb hts hown hK hP hD hS 0 dX9_go_169 (fun H locs hP hD hS => ?_)
            refine lv_aload_n hx hb dX9_go_172 rfl (lv_at hl 3 rfl) ?_
            refine lv_iconst (v := 0) hx hb dX9_go_173 (by decide) ?_
            refine mp_14 hx hb hts hown hK hP hD hS 0 dX9_go_174 (fun H locs hP hD hS => ?_)
            exact LT (c 10 - (goI (c, v, nm, a))) (goI (c, v, nm, a)) true 0 0 H locs (by omega) (by rw [mGo, if_pos c67, goB, if_pos c101, if_neg (show ¬ (let_ (a 1 (goI (c, v, nm, a))) = true) by rw [c124]; decide), if_pos c131]) (Nat.le_refl _) rfl hP hD hS ls (lv_sub hl [3, 2, 1, 0] rfl)
          · replace c131 : (dig ((a 1) (goI (c, v, nm, a)))) = false := bI_0.mp c131
            refine lv_aload_n hx hb dX9_go_134 rfl (lv_at hl 1 rfl) ?_
            refine lv_iload_n hx hb dX9_go_135 rfl (lv_at hl 0 rfl) ?_
            refine lv_bipush (v := 59) hx hb dX9_go_136 (by decide) ?_
            refine lv_icmp_ne (tgt := 145) hx hb dX9_go_138 (by decide) (fun c138 => ?_) (fun c138 => ?_)
            · refine lv_iconst (v := 1) hx hb dX9_go_145 (by decide) ?_
              refine mp_13 hx hb hts hown hK hP hD hS 1 dX9_go_146 (fun H locs hP hD hS => ?_)
              refine lv_aload_n hx hb dX9_go_149 rfl (lv_at hl 1 rfl) ?_
              refine lv_dup hx hb dX9_go_150 rfl ?_
              refine mg_11 (x := nI (goI (c, v, nm, a))) hx hb hts hown hK hP rfl dX9_go_151 ?_
              refine lv_iconst (v := 1) hx hb dX9_go_154 (by decide) ?_
              refine lv_iadd hx hb dX9_go_155 ?_
              refine rw_topi (y := nI ((goI (c, v, nm, a)) + 1)) (nI_add _ _) ?_
              refine mp_11 hx hb hts hown hK hP hD hS ((goI (c, v, nm, a)) + 1) rfl dX9_go_156 (fun H locs hP hD hS => ?_)
              exact fs_v hx hb hr hlocks hq (up (up (up c 11 (goI (c, v, nm, a))) 12 (goI (c, v, nm, a))) 11 ((goI (c, v, nm, a)) + 1), up v 13 1, nm, a) (by rw [mGo, if_pos c67, goB, if_pos c101, if_neg (show ¬ (let_ (a 1 (goI (c, v, nm, a))) = true) by rw [c124]; decide), if_neg (show ¬ (dig (a 1 (goI (c, v, nm, a))) = true) by rw [c131]; decide), if_neg c138]) hP hD hS dX9_go_159 rfl
            · refine lv_iconst (v := 4) hx hb dX9_go_141 (by decide) ?_
              refine lv_goto (tgt := 146) hx hb dX9_go_142 (by decide) ?_
              refine mp_13 hx hb hts hown hK hP hD hS 4 dX9_go_146 (fun H locs hP hD hS => ?_)
              refine lv_aload_n hx hb dX9_go_149 rfl (lv_at hl 1 rfl) ?_
              refine lv_dup hx hb dX9_go_150 rfl ?_
              refine mg_11 (x := nI (goI (c, v, nm, a))) hx hb hts hown hK hP rfl dX9_go_151 ?_
              refine lv_iconst (v := 1) hx hb dX9_go_154 (by decide) ?_
              refine lv_iadd hx hb dX9_go_155 ?_
              refine rw_topi (y := nI ((goI (c, v, nm, a)) + 1)) (nI_add _ _) ?_
              refine mp_11 hx hb hts hown hK hP hD hS ((goI (c, v, nm, a)) + 1) rfl dX9_go_156 (fun H locs hP hD hS => ?_)
              exact fs_v hx hb hr hlocks hq (up (up (up c 11 (goI (c, v, nm, a))) 12 (goI (c, v, nm, a))) 11 ((goI (c, v, nm, a)) + 1), up v 13 4, nm, a) (by rw [mGo, if_pos c67, goB, if_pos c101, if_neg (show ¬ (let_ (a 1 (goI (c, v, nm, a))) = true) by rw [c124]; decide), if_neg (show ¬ (dig (a 1 (goI (c, v, nm, a))) = true) by rw [c131]; decide), if_pos c138]) hP hD hS dX9_go_159 rfl
      · replace c101 : ¬ ((goI (c, v, nm, a)) < (c 10)) := fun z => c101 ((nI_ltI (a := goI (c, v, nm, a)) (b := c 10) (by omega) (by omega)).mpr z)
        refine lv_aload_n hx hb dX9_go_104 rfl (lv_at hl 0 rfl) ?_
        refine lv_iconst (v := 0) hx hb dX9_go_105 (by decide) ?_
        refine mp_13 hx hb hts hown hK hP hD hS 0 dX9_go_106 (fun H locs hP hD hS => ?_)
        exact fs_v hx hb hr hlocks hq (up (up c 11 (goI (c, v, nm, a))) 12 (goI (c, v, nm, a)), up v 13 0, nm, a) (by rw [mGo, if_pos c67, goB, if_neg c101]) hP hD hS dX9_go_109 rfl
    · replace c67 : ¬ ((c 10) ≤ 300) := fun z => c67 ((nI_leI (a := c 10) (b := 300) (by omega) (by omega)).mpr z)
      refine lv_aload_n hx hb dX9_go_70 rfl (lv_at hl 0 rfl) ?_
      refine mg_12 (x := nI (goI (c, v, nm, a))) hx hb hts hown hK hP rfl dX9_go_71 ?_
      refine lv_sipush (v := 300) hx hb dX9_go_74 (by decide) ?_
      refine lv_icmp_lt (tgt := 93) hx hb dX9_go_77 (by decide) (fun c77 => ?_) (fun c77 => ?_)
      · replace c77 : (goI (c, v, nm, a)) < 300 := (nI_ltI (a := goI (c, v, nm, a)) (b := 300) (by omega) (by omega)).mp c77
        refine lv_aload_n hx hb dX9_go_93 rfl (lv_at hl 0 rfl) ?_
        refine mg_11 (x := nI (goI (c, v, nm, a))) hx hb hts hown hK hP rfl dX9_go_94 ?_
        refine lv_aload_n hx hb dX9_go_97 rfl (lv_at hl 0 rfl) ?_
        refine mg_10 (x := nI (c 10)) hx hb hts hown hK hP rfl dX9_go_98 ?_
        refine lv_icmp_lt (tgt := 110) hx hb dX9_go_101 (by decide) (fun c101 => ?_) (fun c101 => ?_)
        · replace c101 : (goI (c, v, nm, a)) < (c 10) := (nI_ltI (a := goI (c, v, nm, a)) (b := c 10) (by omega) (by omega)).mp c101
          refine lv_aload_n hx hb dX9_go_110 rfl (lv_at hl 0 rfl) ?_
          refine mg_1 hx hb hts hown hK hP dX9_go_111 ?_
          refine lv_aload_n hx hb dX9_go_114 rfl (lv_at hl 0 rfl) ?_
          refine mg_11 (x := nI (goI (c, v, nm, a))) hx hb hts hown hK hP rfl dX9_go_115 ?_
          refine ml_1 (x := (a 1) (goI (c, v, nm, a))) hx hb hK hP (goI (c, v, nm, a)) rfl (by omega) rfl dX9_go_118 ?_
          refine lv_istore_n (lv' := [(1, .int ((a 1) (goI (c, v, nm, a)))), (0, .ref h)]) hx hb dX9_go_119 rfl hl (by decide) rfl (fun ls hl => ?_)
          refine lv_iload_n hx hb dX9_go_120 rfl (lv_at hl 0 rfl) ?_
          refine ro_S (rest := []) (st1 := [.int (bI (let_ ((a 1) (goI (c, v, nm, a)))))]) (As := [.int ((a 1) (goI (c, v, nm, a)))]) ⟨hx, hb, hml, hown, hts⟩ Gd0 trivial hS hK (c_X9_isLetter l D k ((a 1) (goI (c, v, nm, a)))) mi_X9_isLetter wd_5_127 wd_5_126 ⟨Nat.le_of_ble_eq_true rfl, Nat.le_of_ble_eq_true rfl⟩ (fun k9 q9 h9 => by simp at h9) rfl hl.1 rfl (Nat.le_of_ble_eq_true rfl) rfl ⟨Nat.le_of_ble_eq_true rfl, Nat.le_of_ble_eq_true rfl⟩ dX9_go_121 ?_
          refine lv_if_ne (tgt := 160) hx hb dX9_go_124 (by decide) (fun c124 => ?_) (fun c124 => ?_)
          · replace c124 : (let_ ((a 1) (goI (c, v, nm, a)))) = true := bI_n.mp c124
            refine lv_iload_n hx hb dX9_go_160 rfl (lv_at hl 0 rfl) ?_
            refine ro_S (rest := []) (st1 := [.int (bI (let_ ((a 1) (goI (c, v, nm, a)))))]) (As := [.int ((a 1) (goI (c, v, nm, a)))]) ⟨hx, hb, hml, hown, hts⟩ Gd0 trivial hS hK (c_X9_isLetter l D k ((a 1) (goI (c, v, nm, a)))) mi_X9_isLetter wd_5_127 wd_5_126 ⟨Nat.le_of_ble_eq_true rfl, Nat.le_of_ble_eq_true rfl⟩ (fun k9 q9 h9 => by simp at h9) rfl hl.1 rfl (Nat.le_of_ble_eq_true rfl) rfl ⟨Nat.le_of_ble_eq_true rfl, Nat.le_of_ble_eq_true rfl⟩ dX9_go_161 ?_
            refine lv_istore_n (lv' := [(2, .int (bI (let_ ((a 1) (goI (c, v, nm, a)))))), (1, .int ((a 1) (goI (c, v, nm, a)))), (0, .ref h)]) hx hb dX9_go_164 rfl hl (by decide) rfl (fun ls hl => ?_)
            refine lv_iconst (v := 1) hx hb dX9_go_165 (by decide) ?_
            refine lv_istore_n (lv' := [(3, .int 1), (2, .int (bI (let_ ((a 1) (goI (c, v, nm, a)))))), (1, .int ((a 1) (goI (c, v, nm, a)))), (0, .ref h)]) hx hb dX9_go_166 rfl hl (by decide) rfl (fun ls hl => ?_)
            refine lv_aload_n hx hb dX9_go_167 rfl (lv_at hl 3 rfl) ?_
            refine lv_lconst (v := 0) hx hb dX9_go_168 (by decide) ?_
            refine mp_15 hx hb hts hown hK hP hD hS 0 dX9_go_169 (fun H locs hP hD hS => ?_)
            refine lv_aload_n hx hb dX9_go_172 rfl (lv_at hl 3 rfl) ?_
            refine lv_iconst (v := 0) hx hb dX9_go_173 (by decide) ?_
            refine mp_14 hx hb hts hown hK hP hD hS 0 dX9_go_174 (fun H locs hP hD hS => ?_)
            exact LT (c 10 - (goI (c, v, nm, a))) (goI (c, v, nm, a)) true 0 0 H locs (by omega) (by rw [mGo, if_neg c67, if_pos c77, goB, if_pos c101, if_pos c124]) (Nat.le_refl _) rfl hP hD hS ls (lv_sub hl [3, 2, 1, 0] rfl)
          · replace c124 : (let_ ((a 1) (goI (c, v, nm, a)))) = false := bI_0.mp c124
            refine lv_iload_n hx hb dX9_go_127 rfl (lv_at hl 0 rfl) ?_
            refine ro_S (rest := []) (st1 := [.int (bI (dig ((a 1) (goI (c, v, nm, a)))))]) (As := [.int ((a 1) (goI (c, v, nm, a)))]) ⟨hx, hb, hml, hown, hts⟩ Gd0 trivial hS hK (c_X9_isDigit l D k ((a 1) (goI (c, v, nm, a)))) mi_X9_isDigit wd_5_130 wd_5_129 ⟨Nat.le_of_ble_eq_true rfl, Nat.le_of_ble_eq_true rfl⟩ (fun k9 q9 h9 => by simp at h9) rfl hl.1 rfl (Nat.le_of_ble_eq_true rfl) rfl ⟨Nat.le_of_ble_eq_true rfl, Nat.le_of_ble_eq_true rfl⟩ dX9_go_128 ?_
            refine lv_if_ne (tgt := 160) hx hb dX9_go_131 (by decide) (fun c131 => ?_) (fun c131 => ?_)
            · replace c131 : (dig ((a 1) (goI (c, v, nm, a)))) = true := bI_n.mp c131
              refine lv_iload_n hx hb dX9_go_160 rfl (lv_at hl 0 rfl) ?_
              refine ro_S (rest := []) (st1 := [.int (bI (let_ ((a 1) (goI (c, v, nm, a)))))]) (As := [.int ((a 1) (goI (c, v, nm, a)))]) ⟨hx, hb, hml, hown, hts⟩ Gd0 trivial hS hK (c_X9_isLetter l D k ((a 1) (goI (c, v, nm, a)))) mi_X9_isLetter wd_5_127 wd_5_126 ⟨Nat.le_of_ble_eq_true rfl, Nat.le_of_ble_eq_true rfl⟩ (fun k9 q9 h9 => by simp at h9) rfl hl.1 rfl (Nat.le_of_ble_eq_true rfl) rfl ⟨Nat.le_of_ble_eq_true rfl, Nat.le_of_ble_eq_true rfl⟩ dX9_go_161 ?_
              refine lv_istore_n (lv' := [(2, .int (bI (let_ ((a 1) (goI (c, v, nm, a)))))), (1, .int ((a 1) (goI (c, v, nm, a)))), (0, .ref h)]) hx hb dX9_go_164 rfl hl (by decide) rfl (fun ls hl => ?_)
              refine lv_iconst (v := 1) hx hb dX9_go_165 (by decide) ?_
              refine lv_istore_n (lv' := [(3, .int 1), (2, .int (bI (let_ ((a 1) (goI (c, v, nm, a)))))), (1, .int ((a 1) (goI (c, v, nm, a)))), (0, .ref h)]) hx hb dX9_go_166 rfl hl (by decide) rfl (fun ls hl => ?_)
              refine lv_aload_n hx hb dX9_go_167 rfl (lv_at hl 3 rfl) ?_
              refine lv_lconst (v := 0) hx hb dX9_go_168 (by decide) ?_
              refine mp_15 hx hb hts hown hK hP hD hS 0 dX9_go_169 (fun H locs hP hD hS => ?_)
              refine lv_aload_n hx hb dX9_go_172 rfl (lv_at hl 3 rfl) ?_
              refine lv_iconst (v := 0) hx hb dX9_go_173 (by decide) ?_
              refine mp_14 hx hb hts hown hK hP hD hS 0 dX9_go_174 (fun H locs hP hD hS => ?_)
              exact LT (c 10 - (goI (c, v, nm, a))) (goI (c, v, nm, a)) true 0 0 H locs (by omega) (by rw [mGo, if_neg c67, if_pos c77, goB, if_pos c101, if_neg (show ¬ (let_ (a 1 (goI (c, v, nm, a))) = true) by rw [c124]; decide), if_pos c131]) (Nat.le_refl _) rfl hP hD hS ls (lv_sub hl [3, 2, 1, 0] rfl)
            · replace c131 : (dig ((a 1) (goI (c, v, nm, a)))) = false := bI_0.mp c131
              refine lv_aload_n hx hb dX9_go_134 rfl (lv_at hl 1 rfl) ?_
              refine lv_iload_n hx hb dX9_go_135 rfl (lv_at hl 0 rfl) ?_
              refine lv_bipush (v := 59) hx hb dX9_go_136 (by decide) ?_
              refine lv_icmp_ne (tgt := 145) hx hb dX9_go_138 (by decide) (fun c138 => ?_) (fun c138 => ?_)
              · refine lv_iconst (v := 1) hx hb dX9_go_145 (by decide) ?_
                refine mp_13 hx hb hts hown hK hP hD hS 1 dX9_go_146 (fun H locs hP hD hS => ?_)
                refine lv_aload_n hx hb dX9_go_149 rfl (lv_at hl 1 rfl) ?_
                refine lv_dup hx hb dX9_go_150 rfl ?_
                refine mg_11 (x := nI (goI (c, v, nm, a))) hx hb hts hown hK hP rfl dX9_go_151 ?_
                refine lv_iconst (v := 1) hx hb dX9_go_154 (by decide) ?_
                refine lv_iadd hx hb dX9_go_155 ?_
                refine rw_topi (y := nI ((goI (c, v, nm, a)) + 1)) (nI_add _ _) ?_
                refine mp_11 hx hb hts hown hK hP hD hS ((goI (c, v, nm, a)) + 1) rfl dX9_go_156 (fun H locs hP hD hS => ?_)
                exact fs_v hx hb hr hlocks hq (up (up (up c 11 (goI (c, v, nm, a))) 12 (goI (c, v, nm, a))) 11 ((goI (c, v, nm, a)) + 1), up v 13 1, nm, a) (by rw [mGo, if_neg c67, if_pos c77, goB, if_pos c101, if_neg (show ¬ (let_ (a 1 (goI (c, v, nm, a))) = true) by rw [c124]; decide), if_neg (show ¬ (dig (a 1 (goI (c, v, nm, a))) = true) by rw [c131]; decide), if_neg c138]) hP hD hS dX9_go_159 rfl
              · refine lv_iconst (v := 4) hx hb dX9_go_141 (by decide) ?_
                refine lv_goto (tgt := 146) hx hb dX9_go_142 (by decide) ?_
                refine mp_13 hx hb hts hown hK hP hD hS 4 dX9_go_146 (fun H locs hP hD hS => ?_)
                refine lv_aload_n hx hb dX9_go_149 rfl (lv_at hl 1 rfl) ?_
                refine lv_dup hx hb dX9_go_150 rfl ?_
                refine mg_11 (x := nI (goI (c, v, nm, a))) hx hb hts hown hK hP rfl dX9_go_151 ?_
                refine lv_iconst (v := 1) hx hb dX9_go_154 (by decide) ?_
                refine lv_iadd hx hb dX9_go_155 ?_
                refine rw_topi (y := nI ((goI (c, v, nm, a)) + 1)) (nI_add _ _) ?_
                refine mp_11 hx hb hts hown hK hP hD hS ((goI (c, v, nm, a)) + 1) rfl dX9_go_156 (fun H locs hP hD hS => ?_)
                exact fs_v hx hb hr hlocks hq (up (up (up c 11 (goI (c, v, nm, a))) 12 (goI (c, v, nm, a))) 11 ((goI (c, v, nm, a)) + 1), up v 13 4, nm, a) (by rw [mGo, if_neg c67, if_pos c77, goB, if_pos c101, if_neg (show ¬ (let_ (a 1 (goI (c, v, nm, a))) = true) by rw [c124]; decide), if_neg (show ¬ (dig (a 1 (goI (c, v, nm, a))) = true) by rw [c131]; decide), if_pos c138]) hP hD hS dX9_go_159 rfl
        · replace c101 : ¬ ((goI (c, v, nm, a)) < (c 10)) := fun z => c101 ((nI_ltI (a := goI (c, v, nm, a)) (b := c 10) (by omega) (by omega)).mpr z)
          refine lv_aload_n hx hb dX9_go_104 rfl (lv_at hl 0 rfl) ?_
          refine lv_iconst (v := 0) hx hb dX9_go_105 (by decide) ?_
          refine mp_13 hx hb hts hown hK hP hD hS 0 dX9_go_106 (fun H locs hP hD hS => ?_)
          exact fs_v hx hb hr hlocks hq (up (up c 11 (goI (c, v, nm, a))) 12 (goI (c, v, nm, a)), up v 13 0, nm, a) (by rw [mGo, if_neg c67, if_pos c77, goB, if_neg c101]) hP hD hS dX9_go_109 rfl
      · replace c77 : ¬ ((goI (c, v, nm, a)) < 300) := fun z => c77 ((nI_ltI (a := goI (c, v, nm, a)) (b := 300) (by omega) (by omega)).mpr z)
        refine lv_aload_n hx hb dX9_go_80 rfl (lv_at hl 0 rfl) ?_
        refine lv_sipush (v := 300) hx hb dX9_go_81 (by decide) ?_
        refine mp_12 hx hb hts hown hK hP hD hS 300 rfl dX9_go_84 (fun H locs hP hD hS => ?_)
        rw [up_up] at hP hD
        refine lv_aload_n hx hb dX9_go_87 rfl (lv_at hl 0 rfl) ?_
        refine lv_iconst (v := 1) hx hb dX9_go_88 (by decide) ?_
        refine mp_13 hx hb hts hown hK hP hD hS 1 dX9_go_89 (fun H locs hP hD hS => ?_)
        exact fs_v hx hb hr hlocks hq (up (up c 11 (goI (c, v, nm, a))) 12 300, up v 13 1, nm, a) (by rw [mGo, if_neg c67, if_neg c77]) hP hD hS dX9_go_92 rfl
  have L0 : ∀ (r i : Nat) (H : Heap) (locs : List Loc), i + r = c 10 → skp (a 1) r i = goI (c, v, nm, a) → va_P D vwCl (Mw h q k (up c 11 i) v nm a) H → va_D A (Mw h q k (up c 11 i) v nm a) → va_S A s.heap H locs → ∀ (ls : Array Slot), lv_has ls 5 [(0, .ref h)] → W p l e (rmd 1 0 0) s m args below meth c_ H locs 0 0 Q (F0 m 0 ls []) := by
    intro r
    induction r with
    | zero =>
      intro i H locs hi he hP hD hS ls hl
      refine lv_aload_n hx hb dX9_go_0 rfl (lv_at hl 0 rfl) ?_
      refine mg_11 (x := nI i) hx hb hts hown hK hP rfl dX9_go_1 ?_
      refine lv_aload_n hx hb dX9_go_4 rfl (lv_at hl 0 rfl) ?_
      refine mg_10 (x := nI (c 10)) hx hb hts hown hK hP rfl dX9_go_5 ?_
      refine lv_icmp_ge (tgt := 52) hx hb dX9_go_8 (by decide) (fun c8 => ?_) (fun c8 => absurd (nI_le (by omega) (by omega)) c8)
      rw [show i = goI (c, v, nm, a) from he] at hP hD
      exact J1 H locs trivial hP hD hS ls (lv_sub hl [0] rfl)
    | succ r ih =>
      intro i H locs hi he hP hD hS ls hl
      refine lv_aload_n hx hb dX9_go_0 rfl (lv_at hl 0 rfl) ?_
      refine mg_11 (x := nI i) hx hb hts hown hK hP rfl dX9_go_1 ?_
      refine lv_aload_n hx hb dX9_go_4 rfl (lv_at hl 0 rfl) ?_
      refine mg_10 (x := nI (c 10)) hx hb hts hown hK hP rfl dX9_go_5 ?_
      refine lv_icmp_ge (tgt := 52) hx hb dX9_go_8 (by decide) (fun c8 => absurd c8 (nI_ge (by omega) (by omega))) (fun c8 => ?_)
      refine lv_aload_n hx hb dX9_go_11 rfl (lv_at hl 0 rfl) ?_
      refine mg_1 hx hb hts hown hK hP dX9_go_12 ?_
      refine lv_aload_n hx hb dX9_go_15 rfl (lv_at hl 0 rfl) ?_
      refine mg_11 (x := nI i) hx hb hts hown hK hP rfl dX9_go_16 ?_
      refine ml_1 (x := (a 1) i) hx hb hK hP i rfl (by omega) rfl dX9_go_19 ?_
      refine lv_bipush (v := 32) hx hb dX9_go_20 (by decide) ?_
      refine lv_icmp_eq (tgt := 39) hx hb dX9_go_22 (by decide) (fun c22 => ?_) (fun c22 => ?_)
      · refine lv_aload_n hx hb dX9_go_39 rfl (lv_at hl 0 rfl) ?_
        refine lv_dup hx hb dX9_go_40 rfl ?_
        refine mg_11 (x := nI i) hx hb hts hown hK hP rfl dX9_go_41 ?_
        refine lv_iconst (v := 1) hx hb dX9_go_44 (by decide) ?_
        refine lv_iadd hx hb dX9_go_45 ?_
        refine rw_topi (y := nI (i + 1)) (nI_add _ _) ?_
        refine mp_11 hx hb hts hown hK hP hD hS (i + 1) rfl dX9_go_46 (fun H locs hP hD hS => ?_)
        rw [up_up] at hP hD
        refine lv_goto (tgt := 0) hx hb dX9_go_49 (by decide) ?_
        exact ih (i + 1)  H locs (by omega) (by rw [← he, skp, if_pos c22]) hP hD hS ls (lv_sub hl [0] rfl)
      · refine lv_aload_n hx hb dX9_go_25 rfl (lv_at hl 0 rfl) ?_
        refine mg_1 hx hb hts hown hK hP dX9_go_26 ?_
        refine lv_aload_n hx hb dX9_go_29 rfl (lv_at hl 0 rfl) ?_
        refine mg_11 (x := nI i) hx hb hts hown hK hP rfl dX9_go_30 ?_
        refine ml_1 (x := (a 1) i) hx hb hK hP i rfl (by omega) rfl dX9_go_33 ?_
        refine lv_bipush (v := 10) hx hb dX9_go_34 (by decide) ?_
        refine lv_icmp_ne (tgt := 52) hx hb dX9_go_36 (by decide) (fun c36 => ?_) (fun c36 => ?_)
        · rw [show i = goI (c, v, nm, a) from by rw [← he, skp, if_neg c22, if_neg c36]] at hP hD
          exact J1 H locs trivial hP hD hS ls (lv_sub hl [0] rfl)
        · refine lv_aload_n hx hb dX9_go_39 rfl (lv_at hl 0 rfl) ?_
          refine lv_dup hx hb dX9_go_40 rfl ?_
          refine mg_11 (x := nI i) hx hb hts hown hK hP rfl dX9_go_41 ?_
          refine lv_iconst (v := 1) hx hb dX9_go_44 (by decide) ?_
          refine lv_iadd hx hb dX9_go_45 ?_
          refine rw_topi (y := nI (i + 1)) (nI_add _ _) ?_
          refine mp_11 hx hb hts hown hK hP hD hS (i + 1) rfl dX9_go_46 (fun H locs hP hD hS => ?_)
          rw [up_up] at hP hD
          refine lv_goto (tgt := 0) hx hb dX9_go_49 (by decide) ?_
          exact ih (i + 1)  H locs (by omega) (by rw [← he, skp, if_neg c22, if_pos c36]) hP hD hS ls (lv_sub hl [0] rfl)
  exact L0 (c 10 - c 11) (c 11) _ _ (by omega) rfl hP hD hS ls hl
