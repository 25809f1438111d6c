set_option maxHeartbeats 4000000 in
set_option maxRecDepth 100000 in
theorem c_X9_why (l : Launch) (D : va_G) (h : Nat) (q : Nat → Nat) (k : Nat → ClassId) (c : Nat → Nat) (v : Nat → Int32) (nm : Int64) (a : Nat → Nat → Int32) (x : Int32) (y : Int32) (t : Nat) (ht : t ≤ 320) (hp : c 21 ≤ 40) (hf1 : 1 ≤ c 22) (hf : c 22 ≤ 6) (hn : c 42 ≤ 100) (hc : c 46 ≤ 300) (sn : Nat → Nat) (hs : ∀ k, k < c 42 → a 39 k = nI (sn k) ∧ sn k ≤ 3) (hw : ∀ k, k < c 42 → isIn (a 26 k) 40 = true) (hu : ∀ k i, k < c 42 → i < sn k → isIn (a 40 (3 * k + i)) 40 = true) : Fs (S := Int32 × MSt) l yX9_why cX9_why 6 (some .int) 2 0 0 D (TY k) G0 [.ref h, .int x, .int y, .int (nI t)] (Mw h q k c v nm a) (fun u => some (.int u.1)) (fun u => u = mWhy x y t sn (c, v, nm, a)) (fun u => MwU h q k u.2) := by
  refine fs_body (by decide +kernel) (Nat.le_of_ble_eq_true rfl) ?_
  intro p e s m args below meth c_ Q A hx hb hml hown hts hK hP hD hS hA hG hin hr hq hlocks ls hl
  replace hl : lv_has ls 6 [(0, .ref h), (1, .int x), (2, .int y), (3, .int (nI t))] := hl
  change s.vm.findClass RX9 = some m.cls at hown
  refine lv_aload_n hx hb dX9_why_0 rfl (lv_at hl 0 rfl) ?_
  refine lv_iload_n hx hb dX9_why_1 rfl (lv_at hl 1 rfl) ?_
  refine ro_V (rest := []) (st1 := [.int (bI (isIn x (c 21)))]) (As := [.int x]) ⟨hx, hb, hml, hown, hts⟩ Gd0 trivial hS hK (c_X9_isPerson l D h q k c v nm a x ) mi_X9_isPerson wd_5_171 wp_3_0 wd_5_169 ⟨Nat.le_of_ble_eq_true rfl, Nat.le_of_ble_eq_true rfl⟩ (hP) 0 rfl rfl rfl hl.1 rfl (Nat.le_of_ble_eq_true rfl) rfl ⟨Nat.le_of_ble_eq_true rfl, Nat.le_of_ble_eq_true rfl⟩ dX9_why_2 ?_
  refine lv_if_ne (tgt := 10) hx hb dX9_why_5 (by decide) (fun c5 => ?_) (fun c5 => ?_)
  · replace c5 : (isIn x (c 21)) = true := bI_n.mp c5
    obtain ⟨ex, hjx⟩ := isIn_spec c5 (by omega)
    refine lv_iload_n hx hb dX9_why_10 rfl (lv_at hl 2 rfl) ?_
    refine lv_iconst (v := 1) hx hb dX9_why_11 (by decide) ?_
    refine lv_icmp_lt (tgt := 34) hx hb dX9_why_12 (by decide) (fun c12 => ?_) (fun c12 => ?_)
    · refine lv_iconst (v := 2) hx hb dX9_why_34 (by decide) ?_
      exact fs_i hx hb hr hlocks hq (2, (c, v, nm, a)) (by rw [mWhy, if_pos c5, if_pos c12]) hP hD hS dX9_why_35 rfl
    · refine lv_iload_n hx hb dX9_why_15 rfl (lv_at hl 2 rfl) ?_
      refine lv_aload_n hx hb dX9_why_16 rfl (lv_at hl 0 rfl) ?_
      refine mg_3 hx hb hts hown hK hP dX9_why_17 ?_
      refine lv_iconst (v := 0) hx hb dX9_why_20 (by decide) ?_
      refine ml_3 (x := (a 3) 0) hx hb hK hP 0 rfl (by omega) rfl dX9_why_21 ?_
      refine lv_icmp_gt (tgt := 34) hx hb dX9_why_22 (by decide) (fun c22 => ?_) (fun c22 => ?_)
      · refine lv_iconst (v := 2) hx hb dX9_why_34 (by decide) ?_
        exact fs_i hx hb hr hlocks hq (2, (c, v, nm, a)) (by rw [mWhy, if_pos c5, if_neg c12, if_pos c22]) hP hD hS dX9_why_35 rfl
      · refine lv_aload_n hx hb dX9_why_25 rfl (lv_at hl 0 rfl) ?_
        refine mg_42 (x := nI (c 42)) hx hb hts hown hK hP rfl dX9_why_26 ?_
        refine lv_bipush (v := 100) hx hb dX9_why_29 (by decide) ?_
        refine lv_icmp_ne (tgt := 36) hx hb dX9_why_31 (by decide) (fun c31 => ?_) (fun c31 => ?_)
        · replace c31 : ¬ ((c 42) = 100) := fun z => c31 ((nI_eq (a := c 42) (b := 100) (by omega) (by omega)).mpr z)
          refine lv_aload_n hx hb dX9_why_36 rfl (lv_at hl 0 rfl) ?_
          refine lv_iload_n hx hb dX9_why_37 rfl (lv_at hl 1 rfl) ?_
          refine ro_V (rest := []) (st1 := [.int (oI (fOpen (a 26) (a 37) x (c 42)))]) (As := [.int x]) ⟨hx, hb, hml, hown, hts⟩ Gd0 trivial hS hK (c_X9_openOf l D h q k c v nm a x hn) mi_X9_openOf wd_5_197 wp_3_3 wd_5_195 ⟨Nat.le_of_ble_eq_true rfl, Nat.le_of_ble_eq_true rfl⟩ (hP) 0 rfl rfl rfl hl.1 rfl (Nat.le_of_ble_eq_true rfl) rfl ⟨Nat.le_of_ble_eq_true rfl, Nat.le_of_ble_eq_true rfl⟩ dX9_why_38 ?_
          refine lv_iconst (v := (-1)) hx hb dX9_why_41 (by decide) ?_
          refine lv_icmp_eq (tgt := 47) hx hb dX9_why_42 (by decide) (fun c42 => ?_) (fun c42 => ?_)
          · refine lv_aload_n hx hb dX9_why_47 rfl (lv_at hl 0 rfl) ?_
            refine lv_iload_n hx hb dX9_why_48 rfl (lv_at hl 1 rfl) ?_
            refine ro_V (rest := []) (st1 := [.int (bI (fBarred (a 43) (a 45) (a 26) (a 37) ((a 3) 8) x (c 46) (c 42)))]) (As := [.int x]) ⟨hx, hb, hml, hown, hts⟩ Gd0 trivial hS hK (c_X9_isBarred l D h q k c v nm a x hc hn) mi_X9_isBarred wd_5_201 wp_3_4 wd_5_199 ⟨Nat.le_of_ble_eq_true rfl, Nat.le_of_ble_eq_true rfl⟩ (hP) 0 rfl rfl rfl hl.1 rfl (Nat.le_of_ble_eq_true rfl) rfl ⟨Nat.le_of_ble_eq_true rfl, Nat.le_of_ble_eq_true rfl⟩ dX9_why_49 ?_
            refine lv_if_eq (tgt := 57) hx hb dX9_why_52 (by decide) (fun c52 => ?_) (fun c52 => ?_)
            · replace c52 : (fBarred (a 43) (a 45) (a 26) (a 37) ((a 3) 8) x (c 46) (c 42)) = false := bI_0.mp c52
              refine lv_iload_n hx hb dX9_why_57 rfl (lv_at hl 3 rfl) ?_
              refine lv_aload_n hx hb dX9_why_58 rfl (lv_at hl 0 rfl) ?_
              refine mg_3 hx hb hts hown hK hP dX9_why_59 ?_
              refine lv_iconst (v := 2) hx hb dX9_why_62 (by decide) ?_
              refine ml_3 (x := (a 3) 2) hx hb hK hP 2 rfl (by omega) rfl dX9_why_63 ?_
              refine lv_icmp_eq (tgt := 69) hx hb dX9_why_64 (by decide) (fun c64 => ?_) (fun c64 => ?_)
              · have L10 : ∀ (r i : Nat) (w : Int32) (H : Heap) (locs : List Loc), i + r = c 22 → (if y ≤ lp (hasStep (a 17 x.toNatClampNeg) (a 18) (a 19)) r i w then 0 else 10, whyS t sn (c, v, nm, a)) = mWhy x y t sn (c, v, nm, a) → va_P D vwCl (Mw h q k c v nm (up a 47 (whyG t sn (c, v, nm, a)))) H → va_D A (Mw h q k c v nm (up a 47 (whyG t sn (c, v, nm, a)))) → va_S A s.heap H locs → ∀ (ls : Array Slot), lv_has ls 6 [(0, .ref h), (1, .int x), (2, .int y), (3, .int (nI t)), (4, .int w), (5, .int (nI i))] → W p l e (rmd 2 0 0) s m args below meth c_ H locs 0 0 Q (F0 m 296 ls []) := by
                  intro r
                  induction r with
                  | zero =>
                    intro i w H locs hi he hP hD hS ls hl
                    refine lv_iload hx hb dX9_why_296 (lv_at hl 5 rfl) ?_
                    refine lv_aload_n hx hb dX9_why_298 rfl (lv_at hl 0 rfl) ?_
                    refine mg_22 (x := nI (c 22)) hx hb hts hown hK hP rfl dX9_why_299 ?_
                    refine lv_icmp_ge (tgt := 343) hx hb dX9_why_302 (by decide) (fun c302 => ?_) (fun c302 => absurd (nI_le (by omega) (by omega)) c302)
                    refine lv_iload hx hb dX9_why_343 (lv_at hl 4 rfl) ?_
                    refine lv_iload_n hx hb dX9_why_345 rfl (lv_at hl 2 rfl) ?_
                    refine lv_icmp_ge (tgt := 354) hx hb dX9_why_346 (by decide) (fun c346 => ?_) (fun c346 => ?_)
                    · refine lv_iconst (v := 0) hx hb dX9_why_354 (by decide) ?_
                      exact fs_i hx hb hr hlocks hq (0, (c, v, nm, up a 47 (whyG t sn (c, v, nm, a)))) (by rw [← he, if_pos (show y ≤ lp (hasStep (a 17 x.toNatClampNeg) (a 18) (a 19)) 0 i w from c346)]; rfl) hP hD hS dX9_why_355 rfl
                    · refine lv_bipush (v := 10) hx hb dX9_why_349 (by decide) ?_
                      refine lv_goto (tgt := 355) hx hb dX9_why_351 (by decide) ?_
                      exact fs_i hx hb hr hlocks hq (10, (c, v, nm, up a 47 (whyG t sn (c, v, nm, a)))) (by rw [← he, if_neg (show ¬ (y ≤ lp (hasStep (a 17 x.toNatClampNeg) (a 18) (a 19)) 0 i w) from c346)]; rfl) hP hD hS dX9_why_355 rfl
                  | succ r ih =>
                    intro i w H locs hi he hP hD hS ls hl
                    refine lv_iload hx hb dX9_why_296 (lv_at hl 5 rfl) ?_
                    refine lv_aload_n hx hb dX9_why_298 rfl (lv_at hl 0 rfl) ?_
                    refine mg_22 (x := nI (c 22)) hx hb hts hown hK hP rfl dX9_why_299 ?_
                    refine lv_icmp_ge (tgt := 343) hx hb dX9_why_302 (by decide) (fun c302 => absurd c302 (nI_ge (by omega) (by omega))) (fun c302 => ?_)
                    refine lv_aload_n hx hb dX9_why_305 rfl (lv_at hl 0 rfl) ?_
                    refine mg_17 hx hb hts hown hK hP dX9_why_306 ?_
                    refine lv_iload_n hx hb dX9_why_309 rfl (lv_at hl 1 rfl) ?_
                    refine ml_17 (x := (a 17) x.toNatClampNeg) hx hb hK hP x.toNatClampNeg ex (by omega) rfl dX9_why_310 ?_
                    refine lv_aload_n hx hb dX9_why_311 rfl (lv_at hl 0 rfl) ?_
                    refine mg_18 hx hb hts hown hK hP dX9_why_312 ?_
                    refine lv_iload hx hb dX9_why_315 (lv_at hl 5 rfl) ?_
                    refine ml_18 (x := (a 18) i) hx hb hK hP i rfl (by omega) rfl dX9_why_317 ?_
                    refine lv_ishr hx hb dX9_why_318 ?_
                    refine lv_iconst (v := 1) hx hb dX9_why_319 (by decide) ?_
                    refine lv_iand hx hb dX9_why_320 ?_
                    refine lv_iconst (v := 1) hx hb dX9_why_321 (by decide) ?_
                    refine lv_icmp_ne (tgt := 337) hx hb dX9_why_322 (by decide) (fun c322 => ?_) (fun c322 => ?_)
                    · refine lv_iinc (v := nI (i + 1)) (lv' := [(5, .int (nI (i + 1))), (0, .ref h), (1, .int x), (2, .int y), (3, .int (nI t)), (4, .int w)]) hx hb dX9_why_337 hl (k := 5) rfl (nI_1 _) (by decide) rfl (fun ls hl => ?_)
                      refine lv_goto (tgt := 296) hx hb dX9_why_340 (by decide) ?_
                      exact ih (i + 1) w H locs (by omega) (by rw [← he]; show _ = (if y ≤ lp (hasStep (a 17 x.toNatClampNeg) (a 18) (a 19)) r (i + 1) (hasStep (a 17 x.toNatClampNeg) (a 18) (a 19) i w) then (0 : Int32) else 10, _); rw [hasStep, if_neg c322]) hP hD hS ls (lv_sub hl [1, 2, 3, 4, 5, 0] rfl)
                    · refine lv_iload hx hb dX9_why_325 (lv_at hl 4 rfl) ?_
                      refine lv_aload_n hx hb dX9_why_327 rfl (lv_at hl 0 rfl) ?_
                      refine mg_19 hx hb hts hown hK hP dX9_why_328 ?_
                      refine lv_iload hx hb dX9_why_331 (lv_at hl 5 rfl) ?_
                      refine ml_19 (x := (a 19) i) hx hb hK hP i rfl (by omega) rfl dX9_why_333 ?_
                      refine lv_iadd hx hb dX9_why_334 ?_
                      refine lv_istore (lv' := [(4, .int (w + ((a 19) i))), (0, .ref h), (1, .int x), (2, .int y), (3, .int (nI t)), (5, .int (nI i))]) hx hb dX9_why_335 hl (by decide) rfl (fun ls hl => ?_)
                      refine lv_iinc (v := nI (i + 1)) (lv' := [(5, .int (nI (i + 1))), (4, .int (w + ((a 19) i))), (0, .ref h), (1, .int x), (2, .int y), (3, .int (nI t))]) hx hb dX9_why_337 hl (k := 5) rfl (nI_1 _) (by decide) rfl (fun ls hl => ?_)
                      refine lv_goto (tgt := 296) hx hb dX9_why_340 (by decide) ?_
                      exact ih (i + 1) (w + ((a 19) i)) H locs (by omega) (by rw [← he]; show _ = (if y ≤ lp (hasStep (a 17 x.toNatClampNeg) (a 18) (a 19)) r (i + 1) (hasStep (a 17 x.toNatClampNeg) (a 18) (a 19) i w) then (0 : Int32) else 10, _); rw [hasStep, if_pos c322]) hP hD hS ls (lv_sub hl [2, 3, 4, 5, 1, 0] rfl)
                have J : ∀ (H : Heap) (locs : List Loc), why10 x y t sn (c, v, nm, a) = mWhy x y t sn (c, v, nm, a) → va_P D vwCl (Mw h q k c v nm (up a 47 (whyG t sn (c, v, nm, a)))) H → va_D A (Mw h q k c v nm (up a 47 (whyG t sn (c, v, nm, a)))) → va_S A s.heap H locs → ∀ (ls : Array Slot), lv_has ls 6 [(0, .ref h), (1, .int x), (2, .int y), (3, .int (nI t))] → W p l e (rmd 2 0 0) s m args below meth c_ H locs 0 0 Q (F0 m 257 ls []) := by
                  intro  H locs he hP hD hS ls hl
                  refine lv_aload_n hx hb dX9_why_257 rfl (lv_at hl 0 rfl) ?_
                  refine mg_19 hx hb hts hown hK hP dX9_why_258 ?_
                  refine lv_iconst (v := 0) hx hb dX9_why_261 (by decide) ?_
                  refine ml_19 (x := (a 19) 0) hx hb hK hP 0 rfl (by omega) rfl dX9_why_262 ?_
                  refine lv_aload_n hx hb dX9_why_263 rfl (lv_at hl 0 rfl) ?_
                  refine mg_3 hx hb hts hown hK hP dX9_why_264 ?_
                  refine lv_bipush (v := 6) hx hb dX9_why_267 (by decide) ?_
                  refine ml_3 (x := (a 3) 6) hx hb hK hP 6 rfl (by omega) rfl dX9_why_269 ?_
                  refine lv_icmp_le (tgt := 290) hx hb dX9_why_270 (by decide) (fun c270 => ?_) (fun c270 => ?_)
                  · refine lv_iconst (v := 0) hx hb dX9_why_290 (by decide) ?_
                    refine lv_istore (lv' := [(4, .int 0), (0, .ref h), (1, .int x), (2, .int y), (3, .int (nI t))]) hx hb dX9_why_291 hl (by decide) rfl (fun ls hl => ?_)
                    refine lv_iconst (v := 1) hx hb dX9_why_293 (by decide) ?_
                    refine lv_istore (lv' := [(5, .int 1), (4, .int 0), (0, .ref h), (1, .int x), (2, .int y), (3, .int (nI t))]) hx hb dX9_why_294 hl (by decide) rfl (fun ls hl => ?_)
                    exact L10 (c 22 - 1) 1 0 H locs (by omega) (by rw [← he, why10, fHas, fHas0, if_pos c270]) hP hD hS ls (lv_sub hl [2, 3, 4, 5, 1, 0] rfl)
                  · refine lv_aload_n hx hb dX9_why_273 rfl (lv_at hl 0 rfl) ?_
                    refine mg_19 hx hb hts hown hK hP dX9_why_274 ?_
                    refine lv_iconst (v := 0) hx hb dX9_why_277 (by decide) ?_
                    refine ml_19 (x := (a 19) 0) hx hb hK hP 0 rfl (by omega) rfl dX9_why_278 ?_
                    refine lv_aload_n hx hb dX9_why_279 rfl (lv_at hl 0 rfl) ?_
                    refine mg_3 hx hb hts hown hK hP dX9_why_280 ?_
                    refine lv_bipush (v := 6) hx hb dX9_why_283 (by decide) ?_
                    refine ml_3 (x := (a 3) 6) hx hb hK hP 6 rfl (by omega) rfl dX9_why_285 ?_
                    refine lv_isub hx hb dX9_why_286 ?_
                    refine lv_goto (tgt := 291) hx hb dX9_why_287 (by decide) ?_
                    refine lv_istore (lv' := [(4, .int (((a 19) 0) - ((a 3) 6))), (0, .ref h), (1, .int x), (2, .int y), (3, .int (nI t))]) hx hb dX9_why_291 hl (by decide) rfl (fun ls hl => ?_)
                    refine lv_iconst (v := 1) hx hb dX9_why_293 (by decide) ?_
                    refine lv_istore (lv' := [(5, .int 1), (4, .int (((a 19) 0) - ((a 3) 6))), (0, .ref h), (1, .int x), (2, .int y), (3, .int (nI t))]) hx hb dX9_why_294 hl (by decide) rfl (fun ls hl => ?_)
                    exact L10 (c 22 - 1) 1 (((a 19) 0) - ((a 3) 6)) H locs (by omega) (by rw [← he, why10, fHas, fHas0, if_neg c270]) hP hD hS ls (lv_sub hl [2, 3, 4, 5, 1, 0] rfl)
                have L9 : ∀ (r i : Nat) (f : Nat → Int32) (H : Heap) (locs : List Loc), i + r = t → (∀ k, k < t → isIn (a 1 k) (c 21) = true) → why9 x y t sn (c, v, nm, a) = mWhy x y t sn (c, v, nm, a) → lp (fun i f => upd f (a 1 i).toNatClampNeg 1) r i f = fSeedT (a 1) t (fClear (a 47)) → va_P D vwCl (Mw h q k c v nm (up a 47 f)) H → va_D A (Mw h q k c v nm (up a 47 f)) → va_S A s.heap H locs → ∀ (ls : Array Slot), lv_has ls 6 [(0, .ref h), (1, .int x), (2, .int y), (3, .int (nI t)), (4, .int (nI i))] → W p l e (rmd 2 0 0) s m args below meth c_ H locs 0 0 Q (F0 m 199 ls []) := by
                  intro r
                  induction r with
                  | zero =>
                    intro i f H locs hi h6 he9 he hP hD hS ls hl
                    refine lv_iload hx hb dX9_why_199 (lv_at hl 4 rfl) ?_
                    refine lv_iload_n hx hb dX9_why_201 rfl (lv_at hl 3 rfl) ?_
                    refine lv_icmp_ge (tgt := 224) hx hb dX9_why_202 (by decide) (fun c202 => ?_) (fun c202 => absurd (nI_le (by omega) (by omega)) c202)
                    refine lv_aload_n hx hb dX9_why_224 rfl (lv_at hl 0 rfl) ?_
                    refine fs_Vw (rest := []) (As := []) ⟨hx, hb, hml, hown, hts⟩ Gd0 trivial hS hA hK (hP) (hD) (c_X9_spread l D h q k c v nm (up a 47 f)  hn sn hs hw hu) mi_X9_spread wd_5_217 wp_3_8 wd_5_215 ⟨Nat.le_of_ble_eq_true rfl, Nat.le_of_ble_eq_true rfl⟩ 0 rfl rfl rfl hl.1 rfl (Nat.le_of_ble_eq_true rfl) ⟨Nat.le_of_ble_eq_true rfl, Nat.le_of_ble_eq_true rfl⟩ dX9_why_225 (fun u_1 H locs hu_2 hP hD hS => ?_)
                    subst hu_2
                    replace hP : va_P D vwCl (Mw h q k c v nm (up a 47 (fSpread (a 26) (a 37) (a 40) sn (c 42) 41 1 f))) H := hP
                    replace hD : va_D A (Mw h q k c v nm (up a 47 (fSpread (a 26) (a 37) (a 40) sn (c 42) 41 1 f))) := hD
                    refine W.eq (g2 := F0 m 228 ls []) rfl ?_
                    rw [show f = fSeedT (a 1) t (fClear (a 47)) from he] at hP hD
                    replace hP : va_P D vwCl (Mw h q k c v nm (up a 47 (whyG t sn (c, v, nm, a)))) H := hP
                    replace hD : va_D A (Mw h q k c v nm (up a 47 (whyG t sn (c, v, nm, a)))) := hD
                    refine lv_aload_n hx hb dX9_why_228 rfl (lv_at hl 0 rfl) ?_
                    refine mg_47 hx hb hts hown hK hP dX9_why_229 ?_
                    refine lv_iload_n hx hb dX9_why_232 rfl (lv_at hl 1 rfl) ?_
                    refine ml_47 (x := (whyG t sn (c, v, nm, a)) x.toNatClampNeg) hx hb hK hP x.toNatClampNeg ex (by omega) rfl dX9_why_233 ?_
                    refine lv_iconst (v := (-1)) hx hb dX9_why_234 (by decide) ?_
                    refine lv_icmp_eq (tgt := 257) hx hb dX9_why_235 (by decide) (fun c235 => ?_) (fun c235 => ?_)
                    · exact J H locs (by rw [← he9]; simp only [why9, if_pos c235]) hP hD hS ls (lv_sub hl [0, 1, 2, 3] rfl)
                    · refine lv_aload_n hx hb dX9_why_238 rfl (lv_at hl 0 rfl) ?_
                      refine mg_47 hx hb hts hown hK hP dX9_why_239 ?_
                      refine lv_iload_n hx hb dX9_why_242 rfl (lv_at hl 1 rfl) ?_
                      refine ml_47 (x := (whyG t sn (c, v, nm, a)) x.toNatClampNeg) hx hb hK hP x.toNatClampNeg ex (by omega) rfl dX9_why_243 ?_
                      refine lv_aload_n hx hb dX9_why_244 rfl (lv_at hl 0 rfl) ?_
                      refine mg_3 hx hb hts hown hK hP dX9_why_245 ?_
                      refine lv_bipush (v := 7) hx hb dX9_why_248 (by decide) ?_
                      refine ml_3 (x := (a 3) 7) hx hb hK hP 7 rfl (by omega) rfl dX9_why_250 ?_
                      refine lv_icmp_gt (tgt := 257) hx hb dX9_why_251 (by decide) (fun c251 => ?_) (fun c251 => ?_)
                      · exact J H locs (by rw [← he9]; simp only [why9, if_neg c235, if_pos c251]) hP hD hS ls (lv_sub hl [0, 1, 2, 3] rfl)
                      · refine lv_bipush (v := 9) hx hb dX9_why_254 (by decide) ?_
                        exact fs_i hx hb hr hlocks hq (9, (c, v, nm, up a 47 (whyG t sn (c, v, nm, a)))) (by rw [← he9]; simp only [why9, if_neg c235, if_neg c251]; rfl) hP hD hS dX9_why_256 rfl
                  | succ r ih =>
                    intro i f H locs hi h6 he9 he hP hD hS ls hl
                    refine lv_iload hx hb dX9_why_199 (lv_at hl 4 rfl) ?_
                    refine lv_iload_n hx hb dX9_why_201 rfl (lv_at hl 3 rfl) ?_
                    refine lv_icmp_ge (tgt := 224) hx hb dX9_why_202 (by decide) (fun c202 => absurd c202 (nI_ge (by omega) (by omega))) (fun c202 => ?_)
                    refine lv_aload_n hx hb dX9_why_205 rfl (lv_at hl 0 rfl) ?_
                    refine mg_47 hx hb hts hown hK hP dX9_why_206 ?_
                    refine lv_aload_n hx hb dX9_why_209 rfl (lv_at hl 0 rfl) ?_
                    refine mg_1 hx hb hts hown hK hP dX9_why_210 ?_
                    refine lv_iload hx hb dX9_why_213 (lv_at hl 4 rfl) ?_
                    refine ml_1 (x := (a 1) i) hx hb hK hP i rfl (by omega) rfl dX9_why_215 ?_
                    refine lv_iconst (v := 1) hx hb dX9_why_216 (by decide) ?_
                    refine mt_47 (f := f) hx hb hK hP hD hS ((a 1 i).toNatClampNeg) ((isIn_spec (h6 i (by omega)) (by omega)).1) (by have := (isIn_spec (h6 i (by omega)) (by omega)).2; omega) rfl dX9_why_217 (fun H locs hP hD hS => ?_)
                    rw [up_up] at hP hD
                    refine lv_iinc (v := nI (i + 1)) (lv' := [(4, .int (nI (i + 1))), (0, .ref h), (1, .int x), (2, .int y), (3, .int (nI t))]) hx hb dX9_why_218 hl (k := 4) rfl (nI_1 _) (by decide) rfl (fun ls hl => ?_)
                    refine lv_goto (tgt := 199) hx hb dX9_why_221 (by decide) ?_
                    exact ih (i + 1) (upd f ((a 1 i).toNatClampNeg) 1) H locs (by omega) h6 he9 (by rw [← he]; rfl) hP hD hS ls (lv_sub hl [1, 2, 3, 4, 0] rfl)
                have L8 : ∀ (r i : Nat), i + r = t → (∀ k, k < t → isIn (a 1 k) (c 21) = true) → (if (fnd (fun i => !decide (fStands (a 37) (a 40) sn (a 1 i) (c 42) < a 3 3)) r i).isSome = true then (8, (c, v, nm, a)) else why9 x y t sn (c, v, nm, a)) = mWhy x y t sn (c, v, nm, a) → ∀ (ls : Array Slot), lv_has ls 6 [(0, .ref h), (1, .int x), (2, .int y), (3, .int (nI t)), (4, .int (nI i))] → W p l e (rmd 2 0 0) s m args below meth c_ s.heap [] 0 0 Q (F0 m 157 ls []) := by
                  intro r
                  induction r with
                  | zero =>
                    intro i hi h6 he ls hl
                    refine lv_iload hx hb dX9_why_157 (lv_at hl 4 rfl) ?_
                    refine lv_iload_n hx hb dX9_why_159 rfl (lv_at hl 3 rfl) ?_
                    refine lv_icmp_ge (tgt := 192) hx hb dX9_why_160 (by decide) (fun c160 => ?_) (fun c160 => absurd (nI_le (by omega) (by omega)) c160)
                    refine lv_aload_n hx hb dX9_why_192 rfl (lv_at hl 0 rfl) ?_
                    refine fs_Vw (rest := []) (As := []) ⟨hx, hb, hml, hown, hts⟩ Gd0 trivial hS hA hK (hP) (hD) (c_X9_clear l D h q k c v nm a  ) mi_X9_clear wd_5_213 wp_3_7 wd_5_211 ⟨Nat.le_of_ble_eq_true rfl, Nat.le_of_ble_eq_true rfl⟩ 0 rfl rfl rfl hl.1 rfl (Nat.le_of_ble_eq_true rfl) ⟨Nat.le_of_ble_eq_true rfl, Nat.le_of_ble_eq_true rfl⟩ dX9_why_193 (fun u_1 H locs hu_2 hP hD hS => ?_)
                    subst hu_2
                    replace hP : va_P D vwCl (Mw h q k c v nm (up a 47 (fClear (a 47)))) H := hP
                    replace hD : va_D A (Mw h q k c v nm (up a 47 (fClear (a 47)))) := hD
                    refine W.eq (g2 := F0 m 196 ls []) rfl ?_
                    refine lv_iconst (v := 0) hx hb dX9_why_196 (by decide) ?_
                    refine lv_istore (lv' := [(4, .int 0), (0, .ref h), (1, .int x), (2, .int y), (3, .int (nI t))]) hx hb dX9_why_197 hl (by decide) rfl (fun ls hl => ?_)
                    exact L9 t 0 (fClear (a 47)) H locs (by omega) h6 (by rw [← he]; rfl) rfl hP hD hS ls (lv_sub hl [1, 2, 3, 4, 0] rfl)
                  | succ r ih =>
                    intro i hi h6 he ls hl
                    refine lv_iload hx hb dX9_why_157 (lv_at hl 4 rfl) ?_
                    refine lv_iload_n hx hb dX9_why_159 rfl (lv_at hl 3 rfl) ?_
                    refine lv_icmp_ge (tgt := 192) hx hb dX9_why_160 (by decide) (fun c160 => absurd c160 (nI_ge (by omega) (by omega))) (fun c160 => ?_)
                    refine lv_aload_n hx hb dX9_why_163 rfl (lv_at hl 0 rfl) ?_
                    refine lv_aload_n hx hb dX9_why_164 rfl (lv_at hl 0 rfl) ?_
                    refine mg_1 hx hb hts hown hK hP dX9_why_165 ?_
                    refine lv_iload hx hb dX9_why_168 (lv_at hl 4 rfl) ?_
                    refine ml_1 (x := (a 1) i) hx hb hK hP i rfl (by omega) rfl dX9_why_170 ?_
                    refine ro_V (rest := []) (st1 := [.int (fStands (a 37) (a 40) sn ((a 1) i) (c 42))]) (As := [.int ((a 1) i)]) ⟨hx, hb, hml, hown, hts⟩ Gd0 trivial hS hK (c_X9_standsFor l D h q k c v nm a ((a 1) i) hn sn hs) mi_X9_standsFor wd_5_209 wp_3_6 wd_5_207 ⟨Nat.le_of_ble_eq_true rfl, Nat.le_of_ble_eq_true rfl⟩ (hP) 0 rfl rfl rfl hl.1 rfl (Nat.le_of_ble_eq_true rfl) rfl ⟨Nat.le_of_ble_eq_true rfl, Nat.le_of_ble_eq_true rfl⟩ dX9_why_171 ?_
                    refine lv_aload_n hx hb dX9_why_174 rfl (lv_at hl 0 rfl) ?_
                    refine mg_3 hx hb hts hown hK hP dX9_why_175 ?_
                    refine lv_iconst (v := 3) hx hb dX9_why_178 (by decide) ?_
                    refine ml_3 (x := (a 3) 3) hx hb hK hP 3 rfl (by omega) rfl dX9_why_179 ?_
                    refine lv_icmp_lt (tgt := 186) hx hb dX9_why_180 (by decide) (fun c180 => ?_) (fun c180 => ?_)
                    · refine lv_iinc (v := nI (i + 1)) (lv' := [(4, .int (nI (i + 1))), (0, .ref h), (1, .int x), (2, .int y), (3, .int (nI t))]) hx hb dX9_why_186 hl (k := 4) rfl (nI_1 _) (by decide) rfl (fun ls hl => ?_)
                      refine lv_goto (tgt := 157) hx hb dX9_why_189 (by decide) ?_
                      exact ih (i + 1)  (by omega) h6 (by rw [← he]; simp only [fnd]; simp [c180]) ls (lv_sub hl [1, 2, 3, 4, 0] rfl)
                    · refine lv_bipush (v := 8) hx hb dX9_why_183 (by decide) ?_
                      exact fs_i hx hb hr hlocks hq (8, (c, v, nm, a)) (by rw [← he]; simp only [fnd]; simp [c180]) hP hD hS dX9_why_185 rfl
                have L7 : ∀ (r i : Nat), i + r = t → (∀ k, k < t → isIn (a 1 k) (c 21) = true) → (if (fnd (fun i => fBarred (a 43) (a 45) (a 26) (a 37) (a 3 8) (a 1 i) (c 46) (c 42)) r i).isSome = true then (7, (c, v, nm, a)) else why8 x y t sn (c, v, nm, a)) = mWhy x y t sn (c, v, nm, a) → ∀ (ls : Array Slot), lv_has ls 6 [(0, .ref h), (1, .int x), (2, .int y), (3, .int (nI t)), (4, .int (nI i))] → W p l e (rmd 2 0 0) s m args below meth c_ s.heap [] 0 0 Q (F0 m 125 ls []) := by
                  intro r
                  induction r with
                  | zero =>
                    intro i hi h6 he ls hl
                    refine lv_iload hx hb dX9_why_125 (lv_at hl 4 rfl) ?_
                    refine lv_iload_n hx hb dX9_why_127 rfl (lv_at hl 3 rfl) ?_
                    refine lv_icmp_ge (tgt := 154) hx hb dX9_why_128 (by decide) (fun c128 => ?_) (fun c128 => absurd (nI_le (by omega) (by omega)) c128)
                    refine lv_iconst (v := 0) hx hb dX9_why_154 (by decide) ?_
                    refine lv_istore (lv' := [(4, .int 0), (0, .ref h), (1, .int x), (2, .int y), (3, .int (nI t))]) hx hb dX9_why_155 hl (by decide) rfl (fun ls hl => ?_)
                    exact L8 t 0 (by omega) h6 (by rw [← he]; rfl) ls (lv_sub hl [1, 2, 3, 4, 0] rfl)
                  | succ r ih =>
                    intro i hi h6 he ls hl
                    refine lv_iload hx hb dX9_why_125 (lv_at hl 4 rfl) ?_
                    refine lv_iload_n hx hb dX9_why_127 rfl (lv_at hl 3 rfl) ?_
                    refine lv_icmp_ge (tgt := 154) hx hb dX9_why_128 (by decide) (fun c128 => absurd c128 (nI_ge (by omega) (by omega))) (fun c128 => ?_)
                    refine lv_aload_n hx hb dX9_why_131 rfl (lv_at hl 0 rfl) ?_
                    refine lv_aload_n hx hb dX9_why_132 rfl (lv_at hl 0 rfl) ?_
                    refine mg_1 hx hb hts hown hK hP dX9_why_133 ?_
                    refine lv_iload hx hb dX9_why_136 (lv_at hl 4 rfl) ?_
                    refine ml_1 (x := (a 1) i) hx hb hK hP i rfl (by omega) rfl dX9_why_138 ?_
                    refine ro_V (rest := []) (st1 := [.int (bI (fBarred (a 43) (a 45) (a 26) (a 37) ((a 3) 8) ((a 1) i) (c 46) (c 42)))]) (As := [.int ((a 1) i)]) ⟨hx, hb, hml, hown, hts⟩ Gd0 trivial hS hK (c_X9_isBarred l D h q k c v nm a ((a 1) i) hc hn) mi_X9_isBarred wd_5_201 wp_3_4 wd_5_199 ⟨Nat.le_of_ble_eq_true rfl, Nat.le_of_ble_eq_true rfl⟩ (hP) 0 rfl rfl rfl hl.1 rfl (Nat.le_of_ble_eq_true rfl) rfl ⟨Nat.le_of_ble_eq_true rfl, Nat.le_of_ble_eq_true rfl⟩ dX9_why_139 ?_
                    refine lv_if_eq (tgt := 148) hx hb dX9_why_142 (by decide) (fun c142 => ?_) (fun c142 => ?_)
                    · replace c142 : (fBarred (a 43) (a 45) (a 26) (a 37) ((a 3) 8) ((a 1) i) (c 46) (c 42)) = false := bI_0.mp c142
                      refine lv_iinc (v := nI (i + 1)) (lv' := [(4, .int (nI (i + 1))), (0, .ref h), (1, .int x), (2, .int y), (3, .int (nI t))]) hx hb dX9_why_148 hl (k := 4) rfl (nI_1 _) (by decide) rfl (fun ls hl => ?_)
                      refine lv_goto (tgt := 125) hx hb dX9_why_151 (by decide) ?_
                      exact ih (i + 1)  (by omega) h6 (by rw [← he]; simp only [fnd]; simp [c142]) ls (lv_sub hl [1, 2, 3, 4, 0] rfl)
                    · replace c142 : (fBarred (a 43) (a 45) (a 26) (a 37) ((a 3) 8) ((a 1) i) (c 46) (c 42)) = true := bI_n.mp c142
                      refine lv_bipush (v := 7) hx hb dX9_why_145 (by decide) ?_
                      exact fs_i hx hb hr hlocks hq (7, (c, v, nm, a)) (by rw [← he]; simp only [fnd]; simp [c142]) hP hD hS dX9_why_147 rfl
                have L6 : ∀ (r i : Nat), i + r = t → (∀ k, k < i → isIn (a 1 k) (c 21) = true) → (if (fnd (fun i => !isIn (a 1 i) (c 21) || decide (a 1 i = x) || fTwice (a 1) i) r i).isSome = true then (6, (c, v, nm, a)) else why7 x y t sn (c, v, nm, a)) = mWhy x y t sn (c, v, nm, a) → ∀ (ls : Array Slot), lv_has ls 6 [(0, .ref h), (1, .int x), (2, .int y), (3, .int (nI t)), (4, .int (nI i))] → W p l e (rmd 2 0 0) s m args below meth c_ s.heap [] 0 0 Q (F0 m 72 ls []) := by
                  intro r
                  induction r with
                  | zero =>
                    intro i hi h6 he ls hl
                    refine lv_iload hx hb dX9_why_72 (lv_at hl 4 rfl) ?_
                    refine lv_iload_n hx hb dX9_why_74 rfl (lv_at hl 3 rfl) ?_
                    refine lv_icmp_ge (tgt := 122) hx hb dX9_why_75 (by decide) (fun c75 => ?_) (fun c75 => absurd (nI_le (by omega) (by omega)) c75)
                    refine lv_iconst (v := 0) hx hb dX9_why_122 (by decide) ?_
                    refine lv_istore (lv' := [(4, .int 0), (0, .ref h), (1, .int x), (2, .int y), (3, .int (nI t))]) hx hb dX9_why_123 hl (by decide) rfl (fun ls hl => ?_)
                    exact L7 t 0 (by omega) (fun k hk => h6 k (by omega)) (by rw [← he]; rfl) ls (lv_sub hl [1, 2, 3, 4, 0] rfl)
                  | succ r ih =>
                    intro i hi h6 he ls hl
                    refine lv_iload hx hb dX9_why_72 (lv_at hl 4 rfl) ?_
                    refine lv_iload_n hx hb dX9_why_74 rfl (lv_at hl 3 rfl) ?_
                    refine lv_icmp_ge (tgt := 122) hx hb dX9_why_75 (by decide) (fun c75 => absurd c75 (nI_ge (by omega) (by omega))) (fun c75 => ?_)
                    refine lv_aload_n hx hb dX9_why_78 rfl (lv_at hl 0 rfl) ?_
                    refine lv_aload_n hx hb dX9_why_79 rfl (lv_at hl 0 rfl) ?_
                    refine mg_1 hx hb hts hown hK hP dX9_why_80 ?_
                    refine lv_iload hx hb dX9_why_83 (lv_at hl 4 rfl) ?_
                    refine ml_1 (x := (a 1) i) hx hb hK hP i rfl (by omega) rfl dX9_why_85 ?_
                    refine ro_V (rest := []) (st1 := [.int (bI (isIn ((a 1) i) (c 21)))]) (As := [.int ((a 1) i)]) ⟨hx, hb, hml, hown, hts⟩ Gd0 trivial hS hK (c_X9_isPerson l D h q k c v nm a ((a 1) i) ) mi_X9_isPerson wd_5_171 wp_3_0 wd_5_169 ⟨Nat.le_of_ble_eq_true rfl, Nat.le_of_ble_eq_true rfl⟩ (hP) 0 rfl rfl rfl hl.1 rfl (Nat.le_of_ble_eq_true rfl) rfl ⟨Nat.le_of_ble_eq_true rfl, Nat.le_of_ble_eq_true rfl⟩ dX9_why_86 ?_
                    refine lv_if_eq (tgt := 113) hx hb dX9_why_89 (by decide) (fun c89 => ?_) (fun c89 => ?_)
                    · replace c89 : (isIn ((a 1) i) (c 21)) = false := bI_0.mp c89
                      refine lv_bipush (v := 6) hx hb dX9_why_113 (by decide) ?_
                      exact fs_i hx hb hr hlocks hq (6, (c, v, nm, a)) (by rw [← he]; simp only [fnd]; simp [c89]) hP hD hS dX9_why_115 rfl
                    · replace c89 : (isIn ((a 1) i) (c 21)) = true := bI_n.mp c89
                      refine lv_aload_n hx hb dX9_why_92 rfl (lv_at hl 0 rfl) ?_
                      refine mg_1 hx hb hts hown hK hP dX9_why_93 ?_
                      refine lv_iload hx hb dX9_why_96 (lv_at hl 4 rfl) ?_
                      refine ml_1 (x := (a 1) i) hx hb hK hP i rfl (by omega) rfl dX9_why_98 ?_
                      refine lv_iload_n hx hb dX9_why_99 rfl (lv_at hl 1 rfl) ?_
                      refine lv_icmp_eq (tgt := 113) hx hb dX9_why_100 (by decide) (fun c100 => ?_) (fun c100 => ?_)
                      · refine lv_bipush (v := 6) hx hb dX9_why_113 (by decide) ?_
                        exact fs_i hx hb hr hlocks hq (6, (c, v, nm, a)) (by rw [← he]; simp only [fnd]; simp [c89, c100]) hP hD hS dX9_why_115 rfl
                      · refine lv_aload_n hx hb dX9_why_103 rfl (lv_at hl 0 rfl) ?_
                        refine lv_iload_n hx hb dX9_why_104 rfl (lv_at hl 3 rfl) ?_
                        refine lv_iload hx hb dX9_why_105 (lv_at hl 4 rfl) ?_
                        refine ro_V (rest := []) (st1 := [.int (bI (fTwice (a 1) i))]) (As := [.int (nI t), .int (nI i)]) ⟨hx, hb, hml, hown, hts⟩ Gd0 trivial hS hK (c_X9_isTwice l D h q k c v nm a (nI t) i (by omega)) mi_X9_isTwice wd_5_205 wp_3_5 wd_5_203 ⟨Nat.le_of_ble_eq_true rfl, Nat.le_of_ble_eq_true rfl⟩ (hP) 0 rfl rfl rfl hl.1 rfl (Nat.le_of_ble_eq_true rfl) rfl ⟨Nat.le_of_ble_eq_true rfl, Nat.le_of_ble_eq_true rfl⟩ dX9_why_107 ?_
                        refine lv_if_eq (tgt := 116) hx hb dX9_why_110 (by decide) (fun c110 => ?_) (fun c110 => ?_)
                        · replace c110 : (fTwice (a 1) i) = false := bI_0.mp c110
                          refine lv_iinc (v := nI (i + 1)) (lv' := [(4, .int (nI (i + 1))), (0, .ref h), (1, .int x), (2, .int y), (3, .int (nI t))]) hx hb dX9_why_116 hl (k := 4) rfl (nI_1 _) (by decide) rfl (fun ls hl => ?_)
                          refine lv_goto (tgt := 72) hx hb dX9_why_119 (by decide) ?_
                          exact ih (i + 1)  (by omega) (fun k hk => by rcases Nat.lt_succ_iff_lt_or_eq.mp hk with q9 | q9; exact h6 k q9; rw [q9]; exact c89) (by rw [← he]; simp only [fnd]; simp [c89, c100, c110]) ls (lv_sub hl [1, 2, 3, 4, 0] rfl)
                        · replace c110 : (fTwice (a 1) i) = true := bI_n.mp c110
                          refine lv_bipush (v := 6) hx hb dX9_why_113 (by decide) ?_
                          exact fs_i hx hb hr hlocks hq (6, (c, v, nm, a)) (by rw [← he]; simp only [fnd]; simp [c89, c100, c110]) hP hD hS dX9_why_115 rfl
                refine lv_iconst (v := 0) hx hb dX9_why_69 (by decide) ?_
                refine lv_istore (lv' := [(4, .int 0), (0, .ref h), (1, .int x), (2, .int y), (3, .int (nI t))]) hx hb dX9_why_70 hl (by decide) rfl (fun ls hl => ?_)
                exact L6 t 0 (by omega) (fun k hk => absurd hk (Nat.not_lt_zero _)) (by symm; rw [mWhy, if_pos c5, if_neg c12, if_neg c22, if_neg c31, if_pos c42, if_pos c52, if_pos c64]; rfl) ls (lv_sub hl [1, 2, 3, 4, 0] rfl)
              · refine lv_iconst (v := 5) hx hb dX9_why_67 (by decide) ?_
                exact fs_i hx hb hr hlocks hq (5, (c, v, nm, a)) (by rw [mWhy, if_pos c5, if_neg c12, if_neg c22, if_neg c31, if_pos c42, if_pos c52, if_neg c64]) hP hD hS dX9_why_68 rfl
            · replace c52 : (fBarred (a 43) (a 45) (a 26) (a 37) ((a 3) 8) x (c 46) (c 42)) = true := bI_n.mp c52
              refine lv_iconst (v := 4) hx hb dX9_why_55 (by decide) ?_
              exact fs_i hx hb hr hlocks hq (4, (c, v, nm, a)) (by rw [mWhy, if_pos c5, if_neg c12, if_neg c22, if_neg c31, if_pos c42, if_neg (show ¬ (fBarred (a 43) (a 45) (a 26) (a 37) (a 3 8) x (c 46) (c 42) = false) by rw [c52]; decide)]) hP hD hS dX9_why_56 rfl
          · refine lv_iconst (v := 3) hx hb dX9_why_45 (by decide) ?_
            exact fs_i hx hb hr hlocks hq (3, (c, v, nm, a)) (by rw [mWhy, if_pos c5, if_neg c12, if_neg c22, if_neg c31, if_neg c42]) hP hD hS dX9_why_46 rfl
        · replace c31 : (c 42) = 100 := (nI_eq (a := c 42) (b := 100) (by omega) (by omega)).mp c31
          refine lv_iconst (v := 2) hx hb dX9_why_34 (by decide) ?_
          exact fs_i hx hb hr hlocks hq (2, (c, v, nm, a)) (by rw [mWhy, if_pos c5, if_neg c12, if_neg c22, if_pos c31]) hP hD hS dX9_why_35 rfl
  · replace c5 : (isIn x (c 21)) = false := bI_0.mp c5
    refine lv_iconst (v := 1) hx hb dX9_why_8 (by decide) ?_
    exact fs_i hx hb hr hlocks hq (1, (c, v, nm, a)) (by rw [mWhy, if_neg (show ¬ (isIn x (c 21) = true) by rw [c5]; decide)]) hP hD hS dX9_why_9 rfl
