set_option maxHeartbeats 4000000 in
set_option maxRecDepth 100000 in
theorem c_X9_pay (l : Launch) (D : va_G) (h : Nat) (q : Nat → Nat) (k : Nat → ClassId) (c : Nat → Nat) (v : Nat → Int32) (nm : Int64) (a : Nat → Nat → Int32) (x : Int32) (y : Int32) (hp : c 21 ≤ 40) (hn : c 42 ≤ 100) (hc : c 46 ≤ 300) (hln : ∀ i, i < c 46 → isIn (a 44 i) 100 = true) : Fs (S := Int32 × MSt) l yX9_pay cX9_pay 8 (some .boolean) 2 0 0 D (TY k) G0 [.ref h, .int x, .int y] (Mw h q k c v nm a) (fun u => some (.int u.1)) (fun u => u = mPay x y (c, v, nm, a)) (fun u => MwU h q k u.2) := by
  refine fs_body (by decide +kernel) (Nat.le_of_ble_eq_true rfl) ?_
  intro p e s m args below meth c_ Q A hx hb hml hown hts hK hP hD hS hA hG hin hr hq hlocks ls hl
  replace hl : lv_has ls 8 [(0, .ref h), (1, .int x), (2, .int y)] := hl
  change s.vm.findClass RX9 = some m.cls at hown
  refine lv_aload_n hx hb dX9_pay_0 rfl (lv_at hl 0 rfl) ?_
  refine lv_iconst (v := 0) hx hb dX9_pay_1 (by decide) ?_
  refine mp_0 hx hb hts hown hK hP hD hS 0 dX9_pay_2 (fun H locs hP hD hS => ?_)
  refine lv_aload_n hx hb dX9_pay_5 rfl (lv_at hl 0 rfl) ?_
  refine lv_iload_n hx hb dX9_pay_6 rfl (lv_at hl 1 rfl) ?_
  refine ro_V (rest := []) (st1 := [.int (bI (isIn x (c 21)))]) (As := [.int x]) ⟨hx, hb, hml, hown, hts⟩ Gd0 trivial hS hK (c_X9_isPerson l D h q k c (up v 0 0) nm a x ) mi_X9_isPerson wd_5_171 wp_3_0 wd_5_169 ⟨Nat.le_of_ble_eq_true rfl, Nat.le_of_ble_eq_true rfl⟩ (hP) 0 rfl rfl rfl hl.1 rfl (Nat.le_of_ble_eq_true rfl) rfl ⟨Nat.le_of_ble_eq_true rfl, Nat.le_of_ble_eq_true rfl⟩ dX9_pay_7 ?_
  refine lv_if_eq (tgt := 27) hx hb dX9_pay_10 (by decide) (fun c10 => ?_) (fun c10 => ?_)
  · replace c10 : (isIn x (c 21)) = false := bI_0.mp c10
    refine lv_iconst (v := 0) hx hb dX9_pay_27 (by decide) ?_
    exact fs_z hx hb hr hlocks hq (0, (c, up v 0 0, nm, a)) (by rw [mPay, if_pos c10]; rfl) hP hD hS (rfl) dX9_pay_28 rfl
  · replace c10 : (isIn x (c 21)) = true := bI_n.mp c10
    refine lv_iload_n hx hb dX9_pay_13 rfl (lv_at hl 2 rfl) ?_
    refine lv_iconst (v := 1) hx hb dX9_pay_14 (by decide) ?_
    refine lv_icmp_lt (tgt := 27) hx hb dX9_pay_15 (by decide) (fun c15 => ?_) (fun c15 => ?_)
    · refine lv_iconst (v := 0) hx hb dX9_pay_27 (by decide) ?_
      exact fs_z hx hb hr hlocks hq (0, (c, up v 0 0, nm, a)) (by rw [mPay, if_neg (show ¬ (isIn x (c 21) = false) by rw [c10]; decide), if_pos c15]; rfl) hP hD hS (rfl) dX9_pay_28 rfl
    · refine lv_iload_n hx hb dX9_pay_18 rfl (lv_at hl 2 rfl) ?_
      refine lv_aload_n hx hb dX9_pay_19 rfl (lv_at hl 0 rfl) ?_
      refine lv_iload_n hx hb dX9_pay_20 rfl (lv_at hl 1 rfl) ?_
      refine ro_V (rest := [.int y]) (st1 := [.int (fOwed x (c, up v 0 0, nm, a)), .int y]) (As := [.int x]) ⟨hx, hb, hml, hown, hts⟩ Gd0 trivial hS hK (c_X9_owed l D h q k c (up v 0 0) nm a x hn hc) mi_X9_owed wd_5_229 wp_3_10 wd_5_227 ⟨Nat.le_of_ble_eq_true rfl, Nat.le_of_ble_eq_true rfl⟩ (hP) 0 rfl rfl rfl hl.1 rfl (Nat.le_of_ble_eq_true rfl) rfl ⟨Nat.le_of_ble_eq_true rfl, Nat.le_of_ble_eq_true rfl⟩ dX9_pay_21 ?_
      refine lv_icmp_le (tgt := 29) hx hb dX9_pay_24 (by decide) (fun c24 => ?_) (fun c24 => ?_)
      · have J : ∀ (w : Int32) (f5 : Nat → Int32) (f8 : Nat → Int32) (f9 : Nat → Int32) (H : Heap) (locs : List Loc), (w, f5, f8, f9) = lp (payStep (a 43) (a 44) (a 27) (a 41) x) (c 46) 0 (y, a 45, a 38, a 19) → va_P D vwCl (Mw h q k c (up v 0 0) nm (up (up (up a 45 f5) 38 f8) 19 f9)) H → va_D A (Mw h q k c (up v 0 0) nm (up (up (up a 45 f5) 38 f8) 19 f9)) → va_S A s.heap H locs → ∀ (ls : Array Slot), lv_has ls 8 [(0, .ref h), (1, .int x), (2, .int y), (3, .int w)] → W p l e (rmd 2 0 0) s m args below meth c_ H locs 0 0 Q (F0 m 181 ls []) := by
          intro w f5 f8 f9 H locs he hP hD hS ls hl
          refine lv_aload_n hx hb dX9_pay_181 rfl (lv_at hl 0 rfl) ?_
          refine lv_iload_n hx hb dX9_pay_182 rfl (lv_at hl 1 rfl) ?_
          refine ro_V (rest := []) (st1 := [.int (oI (fOpen (a 26) (a 37) x (c 42)))]) (As := [.int x]) ⟨hx, hb, hml, hown, hts⟩ Gd0 trivial hS hK (c_X9_openOf l D h q k c (up v 0 0) nm (up (up (up a 45 f5) 38 f8) 19 f9) x hn) mi_X9_openOf wd_5_197 wp_3_3 wd_5_195 ⟨Nat.le_of_ble_eq_true rfl, Nat.le_of_ble_eq_true rfl⟩ (hP) 0 rfl rfl rfl hl.1 rfl (Nat.le_of_ble_eq_true rfl) rfl ⟨Nat.le_of_ble_eq_true rfl, Nat.le_of_ble_eq_true rfl⟩ dX9_pay_183 ?_
          refine lv_istore (lv' := [(4, .int (oI (fOpen (a 26) (a 37) x (c 42)))), (0, .ref h), (1, .int x), (2, .int y), (3, .int w)]) hx hb dX9_pay_186 hl (by decide) rfl (fun ls hl => ?_)
          refine lv_iload hx hb dX9_pay_188 (lv_at hl 0 rfl) ?_
          refine lv_iconst (v := (-1)) hx hb dX9_pay_190 (by decide) ?_
          refine lv_icmp_ne (tgt := 196) hx hb dX9_pay_191 (by decide) (fun c191 => ?_) (fun c191 => ?_)
          · obtain ⟨j, ej, eo⟩ := oI_some c191
            have hjn := fOpen_lt ej
            refine lv_iload_n hx hb dX9_pay_196 rfl (lv_at hl 4 rfl) ?_
            refine lv_aload_n hx hb dX9_pay_197 rfl (lv_at hl 1 rfl) ?_
            refine mg_33 hx hb hts hown hK hP dX9_pay_198 ?_
            refine lv_iload hx hb dX9_pay_201 (lv_at hl 0 rfl) ?_
            refine rw_topi (y := nI j) (eo) ?_
            refine ml_33 (x := (a 33) j) hx hb hK hP j rfl (by omega) rfl dX9_pay_203 ?_
            refine lv_aload_n hx hb dX9_pay_204 rfl (lv_at hl 1 rfl) ?_
            refine mg_34 hx hb hts hown hK hP dX9_pay_205 ?_
            refine lv_iload hx hb dX9_pay_208 (lv_at hl 0 rfl) ?_
            refine rw_topi (y := nI j) (eo) ?_
            refine ml_34 (x := (a 34) j) hx hb hK hP j rfl (by omega) rfl dX9_pay_210 ?_
            refine lv_isub hx hb dX9_pay_211 ?_
            refine lv_icmp_ge (tgt := 219) hx hb dX9_pay_212 (by decide) (fun c212 => ?_) (fun c212 => ?_)
            · refine lv_aload_n hx hb dX9_pay_219 rfl (lv_at hl 1 rfl) ?_
              refine mg_33 hx hb hts hown hK hP dX9_pay_220 ?_
              refine lv_iload hx hb dX9_pay_223 (lv_at hl 0 rfl) ?_
              refine rw_topi (y := nI j) (eo) ?_
              refine ml_33 (x := (a 33) j) hx hb hK hP j rfl (by omega) rfl dX9_pay_225 ?_
              refine lv_aload_n hx hb dX9_pay_226 rfl (lv_at hl 1 rfl) ?_
              refine mg_34 hx hb hts hown hK hP dX9_pay_227 ?_
              refine lv_iload hx hb dX9_pay_230 (lv_at hl 0 rfl) ?_
              refine rw_topi (y := nI j) (eo) ?_
              refine ml_34 (x := (a 34) j) hx hb hK hP j rfl (by omega) rfl dX9_pay_232 ?_
              refine lv_isub hx hb dX9_pay_233 ?_
              refine lv_istore (lv' := [(5, .int (((a 33) j) - ((a 34) j))), (4, .int (oI (fOpen (a 26) (a 37) x (c 42)))), (0, .ref h), (1, .int x), (2, .int y), (3, .int w)]) hx hb dX9_pay_234 hl (by decide) rfl (fun ls hl => ?_)
              refine lv_aload_n hx hb dX9_pay_236 rfl (lv_at hl 2 rfl) ?_
              refine mg_34 hx hb hts hown hK hP dX9_pay_237 ?_
              refine lv_iload hx hb dX9_pay_240 (lv_at hl 1 rfl) ?_
              refine rw_topi (y := nI j) (eo) ?_
              refine lv_dup2_11 hx hb dX9_pay_242 rfl rfl ?_
              refine ml_34 (x := (a 34) j) hx hb hK hP j rfl (by omega) rfl dX9_pay_243 ?_
              refine lv_iload hx hb dX9_pay_244 (lv_at hl 0 rfl) ?_
              refine lv_iadd hx hb dX9_pay_246 ?_
              refine mt_34 (f := a 34) hx hb hK hP hD hS j rfl (by omega) rfl dX9_pay_247 (fun H locs hP hD hS => ?_)
              refine lv_aload_n hx hb dX9_pay_248 rfl (lv_at hl 2 rfl) ?_
              refine mg_19 hx hb hts hown hK hP dX9_pay_249 ?_
              refine lv_iconst (v := 0) hx hb dX9_pay_252 (by decide) ?_
              refine lv_dup2_11 hx hb dX9_pay_253 rfl rfl ?_
              refine ml_19 (x := f9 0) hx hb hK hP 0 rfl (by omega) rfl dX9_pay_254 ?_
              refine lv_iload hx hb dX9_pay_255 (lv_at hl 0 rfl) ?_
              refine lv_iadd hx hb dX9_pay_257 ?_
              refine mt_19 (f := f9) hx hb hK hP hD hS 0 rfl (by omega) rfl dX9_pay_258 (fun H locs hP hD hS => ?_)
              refine lv_iload_n hx hb dX9_pay_259 rfl (lv_at hl 5 rfl) ?_
              refine lv_iload hx hb dX9_pay_260 (lv_at hl 0 rfl) ?_
              refine lv_isub hx hb dX9_pay_262 ?_
              refine lv_istore_n (lv' := [(3, .int (w - (((a 33) j) - ((a 34) j)))), (5, .int (((a 33) j) - ((a 34) j))), (4, .int (oI (fOpen (a 26) (a 37) x (c 42)))), (0, .ref h), (1, .int x), (2, .int y)]) hx hb dX9_pay_263 rfl hl (by decide) rfl (fun ls hl => ?_)
              refine lv_aload_n hx hb dX9_pay_264 rfl (lv_at hl 3 rfl) ?_
              refine mg_32 hx hb hts hown hK hP dX9_pay_265 ?_
              refine lv_iload hx hb dX9_pay_268 (lv_at hl 2 rfl) ?_
              refine rw_topi (y := nI j) (eo) ?_
              refine lv_dup2_11 hx hb dX9_pay_270 rfl rfl ?_
              refine ml_32 (x := (a 32) j) hx hb hK hP j rfl (by omega) rfl dX9_pay_271 ?_
              refine lv_iload_n hx hb dX9_pay_272 rfl (lv_at hl 0 rfl) ?_
              refine lv_iadd hx hb dX9_pay_273 ?_
              refine mt_32 (f := a 32) hx hb hK hP hD hS j rfl (by omega) rfl dX9_pay_274 (fun H locs hP hD hS => ?_)
              refine lv_aload_n hx hb dX9_pay_275 rfl (lv_at hl 3 rfl) ?_
              refine lv_iload hx hb dX9_pay_276 (lv_at hl 2 rfl) ?_
              refine rw_topi (y := nI j) (eo) ?_
              refine lv_iload_n hx hb dX9_pay_278 rfl (lv_at hl 0 rfl) ?_
              refine fs_Vw (rest := []) (As := [.int (nI j), .int (w - (((a 33) j) - ((a 34) j)))]) ⟨hx, hb, hml, hown, hts⟩ Gd0 trivial hS hA hK (hP) (hD) (c_X9_comesBack l D h q k c (up v 0 0) nm (up (up (up (up (up (up a 45 f5) 38 f8) 19 f9) 34 (upd (a 34) j (((a 34) j) + (((a 33) j) - ((a 34) j))))) 19 (upd f9 0 ((f9 0) + (((a 33) j) - ((a 34) j))))) 32 (upd (a 32) j (((a 32) j) + (w - (((a 33) j) - ((a 34) j)))))) j (w - (((a 33) j) - ((a 34) j))) (by omega)) mi_X9_comesBack wd_6_1 wp_3_12 wd_5_239 ⟨Nat.le_of_ble_eq_true rfl, Nat.le_of_ble_eq_true rfl⟩ 0 rfl rfl rfl hl.1 rfl (Nat.le_of_ble_eq_true rfl) ⟨Nat.le_of_ble_eq_true rfl, Nat.le_of_ble_eq_true rfl⟩ dX9_pay_279 (fun u_1 H locs hu_2 hP hD hS => ?_)
              subst hu_2
              replace hP : va_P D vwCl (Mw h q k c (up v 0 0) nm (up (up (up (up (up (up (up (up a 45 f5) 38 f8) 19 f9) 34 (upd (a 34) j (((a 34) j) + (((a 33) j) - ((a 34) j))))) 19 (upd f9 0 ((f9 0) + (((a 33) j) - ((a 34) j))))) 32 (upd (a 32) j (((a 32) j) + (w - (((a 33) j) - ((a 34) j)))))) 38 (upd f8 j (f8 j + (w - (((a 33) j) - ((a 34) j)))))) 19 (fBack (a 41) j (f8 j) (f8 j + (w - (((a 33) j) - ((a 34) j)))) (upd f9 0 ((f9 0) + (((a 33) j) - ((a 34) j))))))) H := hP
              replace hD : va_D A (Mw h q k c (up v 0 0) nm (up (up (up (up (up (up (up (up a 45 f5) 38 f8) 19 f9) 34 (upd (a 34) j (((a 34) j) + (((a 33) j) - ((a 34) j))))) 19 (upd f9 0 ((f9 0) + (((a 33) j) - ((a 34) j))))) 32 (upd (a 32) j (((a 32) j) + (w - (((a 33) j) - ((a 34) j)))))) 38 (upd f8 j (f8 j + (w - (((a 33) j) - ((a 34) j)))))) 19 (fBack (a 41) j (f8 j) (f8 j + (w - (((a 33) j) - ((a 34) j)))) (upd f9 0 ((f9 0) + (((a 33) j) - ((a 34) j))))))) := hD
              refine W.eq (g2 := F0 m 282 ls []) rfl ?_
              refine lv_aload_n hx hb dX9_pay_282 rfl (lv_at hl 3 rfl) ?_
              refine mg_32 hx hb hts hown hK hP dX9_pay_283 ?_
              refine lv_iload hx hb dX9_pay_286 (lv_at hl 2 rfl) ?_
              refine rw_topi (y := nI j) (eo) ?_
              refine ml_32 (x := (upd (a 32) j (((a 32) j) + (w - (((a 33) j) - ((a 34) j))))) j) hx hb hK hP j rfl (by omega) rfl dX9_pay_288 ?_
              refine rw_topi (y := ((a 32) j) + (w - (((a 33) j) - ((a 34) j)))) (upd_eq _ _ _) ?_
              refine lv_aload_n hx hb dX9_pay_289 rfl (lv_at hl 3 rfl) ?_
              refine mg_27 hx hb hts hown hK hP dX9_pay_290 ?_
              refine lv_iload hx hb dX9_pay_293 (lv_at hl 2 rfl) ?_
              refine rw_topi (y := nI j) (eo) ?_
              refine ml_27 (x := (a 27) j) hx hb hK hP j rfl (by omega) rfl dX9_pay_295 ?_
              refine lv_icmp_ne (tgt := 324) hx hb dX9_pay_296 (by decide) (fun c296 => ?_) (fun c296 => ?_)
              · refine lv_iconst (v := 1) hx hb dX9_pay_324 (by decide) ?_
                exact fs_z hx hb hr hlocks hq (1, (c, up v 0 0, nm, up (up (up (up (up (up (up (up a 45 f5) 38 f8) 19 f9) 34 (upd (a 34) j (((a 34) j) + (((a 33) j) - ((a 34) j))))) 19 (upd f9 0 ((f9 0) + (((a 33) j) - ((a 34) j))))) 32 (upd (a 32) j (((a 32) j) + (w - (((a 33) j) - ((a 34) j)))))) 38 (upd f8 j (f8 j + (w - (((a 33) j) - ((a 34) j)))))) 19 (fBack (a 41) j (f8 j) (f8 j + (w - (((a 33) j) - ((a 34) j)))) (upd f9 0 ((f9 0) + (((a 33) j) - ((a 34) j))))))) (by
                  have e1 : mPay x y (c, v, nm, a) = mPayTail x (c, up v 0 0, nm, a) (w, f5, f8, f9) := by
                    rw [mPay, if_neg (show ¬ (isIn x (c 21) = false) by rw [c10]; decide), if_neg c15, if_pos (show y ≤ fOwed x (mT0 (c, v, nm, a)) from c24), he]
                    rfl
                  rw [e1]
                  simp only [mPayTail, ej, payA]
                  rw [show payQ j w (c, up v 0 0, nm, a) = a 33 j - a 34 j from if_pos c212, if_neg c296]) hP hD hS (rfl) dX9_pay_325 rfl
              · refine lv_aload_n hx hb dX9_pay_299 rfl (lv_at hl 3 rfl) ?_
                refine mg_34 hx hb hts hown hK hP dX9_pay_300 ?_
                refine lv_iload hx hb dX9_pay_303 (lv_at hl 2 rfl) ?_
                refine rw_topi (y := nI j) (eo) ?_
                refine ml_34 (x := (upd (a 34) j (((a 34) j) + (((a 33) j) - ((a 34) j)))) j) hx hb hK hP j rfl (by omega) rfl dX9_pay_305 ?_
                refine rw_topi (y := ((a 34) j) + (((a 33) j) - ((a 34) j))) (upd_eq _ _ _) ?_
                refine lv_aload_n hx hb dX9_pay_306 rfl (lv_at hl 3 rfl) ?_
                refine mg_33 hx hb hts hown hK hP dX9_pay_307 ?_
                refine lv_iload hx hb dX9_pay_310 (lv_at hl 2 rfl) ?_
                refine rw_topi (y := nI j) (eo) ?_
                refine ml_33 (x := (a 33) j) hx hb hK hP j rfl (by omega) rfl dX9_pay_312 ?_
                refine lv_icmp_ne (tgt := 324) hx hb dX9_pay_313 (by decide) (fun c313 => ?_) (fun c313 => ?_)
                · refine lv_iconst (v := 1) hx hb dX9_pay_324 (by decide) ?_
                  exact fs_z hx hb hr hlocks hq (1, (c, up v 0 0, nm, up (up (up (up (up (up (up (up a 45 f5) 38 f8) 19 f9) 34 (upd (a 34) j (((a 34) j) + (((a 33) j) - ((a 34) j))))) 19 (upd f9 0 ((f9 0) + (((a 33) j) - ((a 34) j))))) 32 (upd (a 32) j (((a 32) j) + (w - (((a 33) j) - ((a 34) j)))))) 38 (upd f8 j (f8 j + (w - (((a 33) j) - ((a 34) j)))))) 19 (fBack (a 41) j (f8 j) (f8 j + (w - (((a 33) j) - ((a 34) j)))) (upd f9 0 ((f9 0) + (((a 33) j) - ((a 34) j))))))) (by
                  have e1 : mPay x y (c, v, nm, a) = mPayTail x (c, up v 0 0, nm, a) (w, f5, f8, f9) := by
                    rw [mPay, if_neg (show ¬ (isIn x (c 21) = false) by rw [c10]; decide), if_neg c15, if_pos (show y ≤ fOwed x (mT0 (c, v, nm, a)) from c24), he]
                    rfl
                  rw [e1]
                  simp only [mPayTail, ej, payA]
                  rw [show payQ j w (c, up v 0 0, nm, a) = a 33 j - a 34 j from if_pos c212, if_pos c296, if_neg c313]) hP hD hS (rfl) dX9_pay_325 rfl
                · refine lv_aload_n hx hb dX9_pay_316 rfl (lv_at hl 3 rfl) ?_
                  refine mg_37 hx hb hts hown hK hP dX9_pay_317 ?_
                  refine lv_iload hx hb dX9_pay_320 (lv_at hl 2 rfl) ?_
                  refine rw_topi (y := nI j) (eo) ?_
                  refine lv_iconst (v := 1) hx hb dX9_pay_322 (by decide) ?_
                  refine mt_37 (f := a 37) hx hb hK hP hD hS j rfl (by omega) rfl dX9_pay_323 (fun H locs hP hD hS => ?_)
                  refine lv_iconst (v := 1) hx hb dX9_pay_324 (by decide) ?_
                  exact fs_z hx hb hr hlocks hq (1, (c, up v 0 0, nm, up (up (up (up (up (up (up (up (up a 45 f5) 38 f8) 19 f9) 34 (upd (a 34) j (((a 34) j) + (((a 33) j) - ((a 34) j))))) 19 (upd f9 0 ((f9 0) + (((a 33) j) - ((a 34) j))))) 32 (upd (a 32) j (((a 32) j) + (w - (((a 33) j) - ((a 34) j)))))) 38 (upd f8 j (f8 j + (w - (((a 33) j) - ((a 34) j)))))) 19 (fBack (a 41) j (f8 j) (f8 j + (w - (((a 33) j) - ((a 34) j)))) (upd f9 0 ((f9 0) + (((a 33) j) - ((a 34) j)))))) 37 (upd (a 37) j 1))) (by
                  have e1 : mPay x y (c, v, nm, a) = mPayTail x (c, up v 0 0, nm, a) (w, f5, f8, f9) := by
                    rw [mPay, if_neg (show ¬ (isIn x (c 21) = false) by rw [c10]; decide), if_neg c15, if_pos (show y ≤ fOwed x (mT0 (c, v, nm, a)) from c24), he]
                    rfl
                  rw [e1]
                  simp only [mPayTail, ej, payA]
                  rw [show payQ j w (c, up v 0 0, nm, a) = a 33 j - a 34 j from if_pos c212, if_pos c296, if_pos c313]) hP hD hS (rfl) dX9_pay_325 rfl
            · refine lv_iload_n hx hb dX9_pay_215 rfl (lv_at hl 4 rfl) ?_
              refine lv_goto (tgt := 234) hx hb dX9_pay_216 (by decide) ?_
              refine lv_istore (lv' := [(5, .int w), (4, .int (oI (fOpen (a 26) (a 37) x (c 42)))), (0, .ref h), (1, .int x), (2, .int y), (3, .int w)]) hx hb dX9_pay_234 hl (by decide) rfl (fun ls hl => ?_)
              refine lv_aload_n hx hb dX9_pay_236 rfl (lv_at hl 2 rfl) ?_
              refine mg_34 hx hb hts hown hK hP dX9_pay_237 ?_
              refine lv_iload hx hb dX9_pay_240 (lv_at hl 1 rfl) ?_
              refine rw_topi (y := nI j) (eo) ?_
              refine lv_dup2_11 hx hb dX9_pay_242 rfl rfl ?_
              refine ml_34 (x := (a 34) j) hx hb hK hP j rfl (by omega) rfl dX9_pay_243 ?_
              refine lv_iload hx hb dX9_pay_244 (lv_at hl 0 rfl) ?_
              refine lv_iadd hx hb dX9_pay_246 ?_
              refine mt_34 (f := a 34) hx hb hK hP hD hS j rfl (by omega) rfl dX9_pay_247 (fun H locs hP hD hS => ?_)
              refine lv_aload_n hx hb dX9_pay_248 rfl (lv_at hl 2 rfl) ?_
              refine mg_19 hx hb hts hown hK hP dX9_pay_249 ?_
              refine lv_iconst (v := 0) hx hb dX9_pay_252 (by decide) ?_
              refine lv_dup2_11 hx hb dX9_pay_253 rfl rfl ?_
              refine ml_19 (x := f9 0) hx hb hK hP 0 rfl (by omega) rfl dX9_pay_254 ?_
              refine lv_iload hx hb dX9_pay_255 (lv_at hl 0 rfl) ?_
              refine lv_iadd hx hb dX9_pay_257 ?_
              refine mt_19 (f := f9) hx hb hK hP hD hS 0 rfl (by omega) rfl dX9_pay_258 (fun H locs hP hD hS => ?_)
              refine lv_iload_n hx hb dX9_pay_259 rfl (lv_at hl 5 rfl) ?_
              refine lv_iload hx hb dX9_pay_260 (lv_at hl 0 rfl) ?_
              refine lv_isub hx hb dX9_pay_262 ?_
              refine lv_istore_n (lv' := [(3, .int (w - w)), (5, .int w), (4, .int (oI (fOpen (a 26) (a 37) x (c 42)))), (0, .ref h), (1, .int x), (2, .int y)]) hx hb dX9_pay_263 rfl hl (by decide) rfl (fun ls hl => ?_)
              refine lv_aload_n hx hb dX9_pay_264 rfl (lv_at hl 3 rfl) ?_
              refine mg_32 hx hb hts hown hK hP dX9_pay_265 ?_
              refine lv_iload hx hb dX9_pay_268 (lv_at hl 2 rfl) ?_
              refine rw_topi (y := nI j) (eo) ?_
              refine lv_dup2_11 hx hb dX9_pay_270 rfl rfl ?_
              refine ml_32 (x := (a 32) j) hx hb hK hP j rfl (by omega) rfl dX9_pay_271 ?_
              refine lv_iload_n hx hb dX9_pay_272 rfl (lv_at hl 0 rfl) ?_
              refine lv_iadd hx hb dX9_pay_273 ?_
              refine mt_32 (f := a 32) hx hb hK hP hD hS j rfl (by omega) rfl dX9_pay_274 (fun H locs hP hD hS => ?_)
              refine lv_aload_n hx hb dX9_pay_275 rfl (lv_at hl 3 rfl) ?_
              refine lv_iload hx hb dX9_pay_276 (lv_at hl 2 rfl) ?_
              refine rw_topi (y := nI j) (eo) ?_
              refine lv_iload_n hx hb dX9_pay_278 rfl (lv_at hl 0 rfl) ?_
              refine fs_Vw (rest := []) (As := [.int (nI j), .int (w - w)]) ⟨hx, hb, hml, hown, hts⟩ Gd0 trivial hS hA hK (hP) (hD) (c_X9_comesBack l D h q k c (up v 0 0) nm (up (up (up (up (up (up a 45 f5) 38 f8) 19 f9) 34 (upd (a 34) j (((a 34) j) + w))) 19 (upd f9 0 ((f9 0) + w))) 32 (upd (a 32) j (((a 32) j) + (w - w)))) j (w - w) (by omega)) mi_X9_comesBack wd_6_1 wp_3_12 wd_5_239 ⟨Nat.le_of_ble_eq_true rfl, Nat.le_of_ble_eq_true rfl⟩ 0 rfl rfl rfl hl.1 rfl (Nat.le_of_ble_eq_true rfl) ⟨Nat.le_of_ble_eq_true rfl, Nat.le_of_ble_eq_true rfl⟩ dX9_pay_279 (fun u_3 H locs hu_4 hP hD hS => ?_)
              subst hu_4
              replace hP : va_P D vwCl (Mw h q k c (up v 0 0) nm (up (up (up (up (up (up (up (up a 45 f5) 38 f8) 19 f9) 34 (upd (a 34) j (((a 34) j) + w))) 19 (upd f9 0 ((f9 0) + w))) 32 (upd (a 32) j (((a 32) j) + (w - w)))) 38 (upd f8 j (f8 j + (w - w)))) 19 (fBack (a 41) j (f8 j) (f8 j + (w - w)) (upd f9 0 ((f9 0) + w))))) H := hP
              replace hD : va_D A (Mw h q k c (up v 0 0) nm (up (up (up (up (up (up (up (up a 45 f5) 38 f8) 19 f9) 34 (upd (a 34) j (((a 34) j) + w))) 19 (upd f9 0 ((f9 0) + w))) 32 (upd (a 32) j (((a 32) j) + (w - w)))) 38 (upd f8 j (f8 j + (w - w)))) 19 (fBack (a 41) j (f8 j) (f8 j + (w - w)) (upd f9 0 ((f9 0) + w))))) := hD
              refine W.eq (g2 := F0 m 282 ls []) rfl ?_
              refine lv_aload_n hx hb dX9_pay_282 rfl (lv_at hl 3 rfl) ?_
              refine mg_32 hx hb hts hown hK hP dX9_pay_283 ?_
              refine lv_iload hx hb dX9_pay_286 (lv_at hl 2 rfl) ?_
              refine rw_topi (y := nI j) (eo) ?_
              refine ml_32 (x := (upd (a 32) j (((a 32) j) + (w - w))) j) hx hb hK hP j rfl (by omega) rfl dX9_pay_288 ?_
              refine rw_topi (y := ((a 32) j) + (w - w)) (upd_eq _ _ _) ?_
              refine lv_aload_n hx hb dX9_pay_289 rfl (lv_at hl 3 rfl) ?_
              refine mg_27 hx hb hts hown hK hP dX9_pay_290 ?_
              refine lv_iload hx hb dX9_pay_293 (lv_at hl 2 rfl) ?_
              refine rw_topi (y := nI j) (eo) ?_
              refine ml_27 (x := (a 27) j) hx hb hK hP j rfl (by omega) rfl dX9_pay_295 ?_
              refine lv_icmp_ne (tgt := 324) hx hb dX9_pay_296 (by decide) (fun c296 => ?_) (fun c296 => ?_)
              · refine lv_iconst (v := 1) hx hb dX9_pay_324 (by decide) ?_
                exact fs_z hx hb hr hlocks hq (1, (c, up v 0 0, nm, up (up (up (up (up (up (up (up a 45 f5) 38 f8) 19 f9) 34 (upd (a 34) j (((a 34) j) + w))) 19 (upd f9 0 ((f9 0) + w))) 32 (upd (a 32) j (((a 32) j) + (w - w)))) 38 (upd f8 j (f8 j + (w - w)))) 19 (fBack (a 41) j (f8 j) (f8 j + (w - w)) (upd f9 0 ((f9 0) + w))))) (by
                  have e1 : mPay x y (c, v, nm, a) = mPayTail x (c, up v 0 0, nm, a) (w, f5, f8, f9) := by
                    rw [mPay, if_neg (show ¬ (isIn x (c 21) = false) by rw [c10]; decide), if_neg c15, if_pos (show y ≤ fOwed x (mT0 (c, v, nm, a)) from c24), he]
                    rfl
                  rw [e1]
                  simp only [mPayTail, ej, payA]
                  rw [show payQ j w (c, up v 0 0, nm, a) = w from if_neg c212, if_neg c296]) hP hD hS (rfl) dX9_pay_325 rfl
              · refine lv_aload_n hx hb dX9_pay_299 rfl (lv_at hl 3 rfl) ?_
                refine mg_34 hx hb hts hown hK hP dX9_pay_300 ?_
                refine lv_iload hx hb dX9_pay_303 (lv_at hl 2 rfl) ?_
                refine rw_topi (y := nI j) (eo) ?_
                refine ml_34 (x := (upd (a 34) j (((a 34) j) + w)) j) hx hb hK hP j rfl (by omega) rfl dX9_pay_305 ?_
                refine rw_topi (y := ((a 34) j) + w) (upd_eq _ _ _) ?_
                refine lv_aload_n hx hb dX9_pay_306 rfl (lv_at hl 3 rfl) ?_
                refine mg_33 hx hb hts hown hK hP dX9_pay_307 ?_
                refine lv_iload hx hb dX9_pay_310 (lv_at hl 2 rfl) ?_
                refine rw_topi (y := nI j) (eo) ?_
                refine ml_33 (x := (a 33) j) hx hb hK hP j rfl (by omega) rfl dX9_pay_312 ?_
                refine lv_icmp_ne (tgt := 324) hx hb dX9_pay_313 (by decide) (fun c313 => ?_) (fun c313 => ?_)
                · refine lv_iconst (v := 1) hx hb dX9_pay_324 (by decide) ?_
                  exact fs_z hx hb hr hlocks hq (1, (c, up v 0 0, nm, up (up (up (up (up (up (up (up a 45 f5) 38 f8) 19 f9) 34 (upd (a 34) j (((a 34) j) + w))) 19 (upd f9 0 ((f9 0) + w))) 32 (upd (a 32) j (((a 32) j) + (w - w)))) 38 (upd f8 j (f8 j + (w - w)))) 19 (fBack (a 41) j (f8 j) (f8 j + (w - w)) (upd f9 0 ((f9 0) + w))))) (by
                  have e1 : mPay x y (c, v, nm, a) = mPayTail x (c, up v 0 0, nm, a) (w, f5, f8, f9) := by
                    rw [mPay, if_neg (show ¬ (isIn x (c 21) = false) by rw [c10]; decide), if_neg c15, if_pos (show y ≤ fOwed x (mT0 (c, v, nm, a)) from c24), he]
                    rfl
                  rw [e1]
                  simp only [mPayTail, ej, payA]
                  rw [show payQ j w (c, up v 0 0, nm, a) = w from if_neg c212, if_pos c296, if_neg c313]) hP hD hS (rfl) dX9_pay_325 rfl
                · refine lv_aload_n hx hb dX9_pay_316 rfl (lv_at hl 3 rfl) ?_
                  refine mg_37 hx hb hts hown hK hP dX9_pay_317 ?_
                  refine lv_iload hx hb dX9_pay_320 (lv_at hl 2 rfl) ?_
                  refine rw_topi (y := nI j) (eo) ?_
                  refine lv_iconst (v := 1) hx hb dX9_pay_322 (by decide) ?_
                  refine mt_37 (f := a 37) hx hb hK hP hD hS j rfl (by omega) rfl dX9_pay_323 (fun H locs hP hD hS => ?_)
                  refine lv_iconst (v := 1) hx hb dX9_pay_324 (by decide) ?_
                  exact fs_z hx hb hr hlocks hq (1, (c, up v 0 0, nm, up (up (up (up (up (up (up (up (up a 45 f5) 38 f8) 19 f9) 34 (upd (a 34) j (((a 34) j) + w))) 19 (upd f9 0 ((f9 0) + w))) 32 (upd (a 32) j (((a 32) j) + (w - w)))) 38 (upd f8 j (f8 j + (w - w)))) 19 (fBack (a 41) j (f8 j) (f8 j + (w - w)) (upd f9 0 ((f9 0) + w)))) 37 (upd (a 37) j 1))) (by
                  have e1 : mPay x y (c, v, nm, a) = mPayTail x (c, up v 0 0, nm, a) (w, f5, f8, f9) := by
                    rw [mPay, if_neg (show ¬ (isIn x (c 21) = false) by rw [c10]; decide), if_neg c15, if_pos (show y ≤ fOwed x (mT0 (c, v, nm, a)) from c24), he]
                    rfl
                  rw [e1]
                  simp only [mPayTail, ej, payA]
                  rw [show payQ j w (c, up v 0 0, nm, a) = w from if_neg c212, if_pos c296, if_pos c313]) hP hD hS (rfl) dX9_pay_325 rfl
          · have en := oI_none c191 (fun j hj => by have := fOpen_lt hj; omega)
            refine lv_iconst (v := 1) hx hb dX9_pay_194 (by decide) ?_
            exact fs_z hx hb hr hlocks hq (1, (c, up v 0 0, nm, up (up (up a 45 f5) 38 f8) 19 f9)) (by
                  have e1 : mPay x y (c, v, nm, a) = mPayTail x (c, up v 0 0, nm, a) (w, f5, f8, f9) := by
                    rw [mPay, if_neg (show ¬ (isIn x (c 21) = false) by rw [c10]; decide), if_neg c15, if_pos (show y ≤ fOwed x (mT0 (c, v, nm, a)) from c24), he]
                    rfl
                  rw [e1]
                  simp only [mPayTail, en]) hP hD hS (rfl) dX9_pay_195 rfl
        have L : ∀ (r i : Nat) (w : Int32) (f5 : Nat → Int32) (f8 : Nat → Int32) (f9 : Nat → Int32) (H : Heap) (locs : List Loc), i + r = c 46 → lp (payStep (a 43) (a 44) (a 27) (a 41) x) r i (w, f5, f8, f9) = lp (payStep (a 43) (a 44) (a 27) (a 41) x) (c 46) 0 (y, a 45, a 38, a 19) → va_P D vwCl (Mw h q k c (up v 0 0) nm (up (up (up a 45 f5) 38 f8) 19 f9)) H → va_D A (Mw h q k c (up v 0 0) nm (up (up (up a 45 f5) 38 f8) 19 f9)) → va_S A s.heap H locs → ∀ (ls : Array Slot), lv_has ls 8 [(0, .ref h), (1, .int x), (2, .int y), (3, .int w), (4, .int (nI i))] → W p l e (rmd 2 0 0) s m args below meth c_ H locs 0 0 Q (F0 m 34 ls []) := by
          intro r
          induction r with
          | zero =>
            intro i w f5 f8 f9 H locs hi he hP hD hS ls hl
            refine lv_iload hx hb dX9_pay_34 (lv_at hl 4 rfl) ?_
            refine lv_aload_n hx hb dX9_pay_36 rfl (lv_at hl 0 rfl) ?_
            refine mg_46 (x := nI (c 46)) hx hb hts hown hK hP rfl dX9_pay_37 ?_
            refine lv_icmp_ge (tgt := 181) hx hb dX9_pay_40 (by decide) (fun c40 => ?_) (fun c40 => absurd (nI_le (by omega) (by omega)) c40)
            exact J w f5 f8 f9 H locs (he) hP hD hS ls (lv_sub hl [0, 1, 2, 3] rfl)
          | succ r ih =>
            intro i w f5 f8 f9 H locs hi he hP hD hS ls hl
            refine lv_iload hx hb dX9_pay_34 (lv_at hl 4 rfl) ?_
            refine lv_aload_n hx hb dX9_pay_36 rfl (lv_at hl 0 rfl) ?_
            refine mg_46 (x := nI (c 46)) hx hb hts hown hK hP rfl dX9_pay_37 ?_
            refine lv_icmp_ge (tgt := 181) hx hb dX9_pay_40 (by decide) (fun c40 => absurd c40 (nI_ge (by omega) (by omega))) (fun c40 => ?_)
            refine lv_iload_n hx hb dX9_pay_43 rfl (lv_at hl 3 rfl) ?_
            refine lv_if_le (tgt := 181) hx hb dX9_pay_44 (by decide) (fun c44 => ?_) (fun c44 => ?_)
            · exact J w f5 f8 f9 H locs (by rw [← he]; exact (lp_fix (fun j => by simp only [payStep, if_pos c44]) _ _).symm) hP hD hS ls (lv_sub hl [0, 1, 2, 3] rfl)
            · refine lv_aload_n hx hb dX9_pay_47 rfl (lv_at hl 0 rfl) ?_
              refine mg_43 hx hb hts hown hK hP dX9_pay_48 ?_
              refine lv_iload hx hb dX9_pay_51 (lv_at hl 4 rfl) ?_
              refine ml_43 (x := (a 43) i) hx hb hK hP i rfl (by omega) rfl dX9_pay_53 ?_
              refine lv_iload_n hx hb dX9_pay_54 rfl (lv_at hl 1 rfl) ?_
              refine lv_icmp_eq (tgt := 61) hx hb dX9_pay_55 (by decide) (fun c55 => ?_) (fun c55 => ?_)
              · refine lv_iload_n hx hb dX9_pay_61 rfl (lv_at hl 3 rfl) ?_
                refine lv_aload_n hx hb dX9_pay_62 rfl (lv_at hl 0 rfl) ?_
                refine mg_45 hx hb hts hown hK hP dX9_pay_63 ?_
                refine lv_iload hx hb dX9_pay_66 (lv_at hl 4 rfl) ?_
                refine ml_45 (x := f5 i) hx hb hK hP i rfl (by omega) rfl dX9_pay_68 ?_
                refine lv_icmp_ge (tgt := 76) hx hb dX9_pay_69 (by decide) (fun c69 => ?_) (fun c69 => ?_)
                · refine lv_aload_n hx hb dX9_pay_76 rfl (lv_at hl 0 rfl) ?_
                  refine mg_45 hx hb hts hown hK hP dX9_pay_77 ?_
                  refine lv_iload hx hb dX9_pay_80 (lv_at hl 4 rfl) ?_
                  refine ml_45 (x := f5 i) hx hb hK hP i rfl (by omega) rfl dX9_pay_82 ?_
                  refine lv_istore (lv' := [(5, .int (f5 i)), (0, .ref h), (1, .int x), (2, .int y), (3, .int w), (4, .int (nI i))]) hx hb dX9_pay_83 hl (by decide) rfl (fun ls hl => ?_)
                  refine lv_aload_n hx hb dX9_pay_85 rfl (lv_at hl 1 rfl) ?_
                  refine mg_45 hx hb hts hown hK hP dX9_pay_86 ?_
                  refine lv_iload hx hb dX9_pay_89 (lv_at hl 5 rfl) ?_
                  refine lv_dup2_11 hx hb dX9_pay_91 rfl rfl ?_
                  refine ml_45 (x := f5 i) hx hb hK hP i rfl (by omega) rfl dX9_pay_92 ?_
                  refine lv_iload hx hb dX9_pay_93 (lv_at hl 0 rfl) ?_
                  refine lv_isub hx hb dX9_pay_95 ?_
                  refine mt_45 (f := f5) hx hb hK hP hD hS i rfl (by omega) rfl dX9_pay_96 (fun H locs hP hD hS => ?_)
                  refine lv_iload_n hx hb dX9_pay_97 rfl (lv_at hl 4 rfl) ?_
                  refine lv_iload hx hb dX9_pay_98 (lv_at hl 0 rfl) ?_
                  refine lv_isub hx hb dX9_pay_100 ?_
                  refine lv_istore_n (lv' := [(3, .int (w - (f5 i))), (5, .int (f5 i)), (0, .ref h), (1, .int x), (2, .int y), (4, .int (nI i))]) hx hb dX9_pay_101 rfl hl (by decide) rfl (fun ls hl => ?_)
                  have hz9 := (isIn_spec (hln i (by omega)) (by decide)).2
                  refine lv_aload_n hx hb dX9_pay_102 rfl (lv_at hl 2 rfl) ?_
                  refine mg_44 hx hb hts hown hK hP dX9_pay_103 ?_
                  refine lv_iload hx hb dX9_pay_106 (lv_at hl 5 rfl) ?_
                  refine ml_44 (x := (a 44) i) hx hb hK hP i rfl (by omega) rfl dX9_pay_108 ?_
                  refine rw_topi (y := nI ((a 44 i).toNatClampNeg)) ((isIn_spec (hln i (by omega)) (by decide)).1) ?_
                  refine lv_istore (lv' := [(6, .int (nI ((a 44 i).toNatClampNeg))), (3, .int (w - (f5 i))), (5, .int (f5 i)), (0, .ref h), (1, .int x), (2, .int y), (4, .int (nI i))]) hx hb dX9_pay_109 hl (by decide) rfl (fun ls hl => ?_)
                  refine lv_aload_n hx hb dX9_pay_111 rfl (lv_at hl 3 rfl) ?_
                  refine mg_27 hx hb hts hown hK hP dX9_pay_112 ?_
                  refine lv_iload hx hb dX9_pay_115 (lv_at hl 0 rfl) ?_
                  refine ml_27 (x := (a 27) ((a 44 i).toNatClampNeg)) hx hb hK hP ((a 44 i).toNatClampNeg) rfl (by omega) rfl dX9_pay_117 ?_
                  refine lv_aload_n hx hb dX9_pay_118 rfl (lv_at hl 3 rfl) ?_
                  refine mg_38 hx hb hts hown hK hP dX9_pay_119 ?_
                  refine lv_iload hx hb dX9_pay_122 (lv_at hl 0 rfl) ?_
                  refine ml_38 (x := f8 ((a 44 i).toNatClampNeg)) hx hb hK hP ((a 44 i).toNatClampNeg) rfl (by omega) rfl dX9_pay_124 ?_
                  refine lv_isub hx hb dX9_pay_125 ?_
                  refine lv_iload hx hb dX9_pay_126 (lv_at hl 2 rfl) ?_
                  refine lv_icmp_ge (tgt := 149) hx hb dX9_pay_128 (by decide) (fun c128 => ?_) (fun c128 => ?_)
                  · refine lv_iload hx hb dX9_pay_149 (lv_at hl 2 rfl) ?_
                    refine lv_istore (lv' := [(7, .int (f5 i)), (6, .int (nI ((a 44 i).toNatClampNeg))), (3, .int (w - (f5 i))), (5, .int (f5 i)), (0, .ref h), (1, .int x), (2, .int y), (4, .int (nI i))]) hx hb dX9_pay_151 hl (by decide) rfl (fun ls hl => ?_)
                    refine lv_aload_n hx hb dX9_pay_153 rfl (lv_at hl 4 rfl) ?_
                    refine lv_iload hx hb dX9_pay_154 (lv_at hl 1 rfl) ?_
                    refine lv_iload hx hb dX9_pay_156 (lv_at hl 0 rfl) ?_
                    refine fs_Vw (rest := []) (As := [.int (nI ((a 44 i).toNatClampNeg)), .int (f5 i)]) ⟨hx, hb, hml, hown, hts⟩ Gd0 trivial hS hA hK (hP) (hD) (c_X9_comesBack l D h q k c (up v 0 0) nm (up (up (up (up a 45 f5) 38 f8) 19 f9) 45 (upd f5 i ((f5 i) - (f5 i)))) ((a 44 i).toNatClampNeg) (f5 i) (by omega)) mi_X9_comesBack wd_6_1 wp_3_12 wd_5_239 ⟨Nat.le_of_ble_eq_true rfl, Nat.le_of_ble_eq_true rfl⟩ 0 rfl rfl rfl hl.1 rfl (Nat.le_of_ble_eq_true rfl) ⟨Nat.le_of_ble_eq_true rfl, Nat.le_of_ble_eq_true rfl⟩ dX9_pay_158 (fun u_1 H locs hu_2 hP hD hS => ?_)
                    subst hu_2
                    replace hP : va_P D vwCl (Mw h q k c (up v 0 0) nm (up (up (up (up (up (up a 45 f5) 38 f8) 19 f9) 45 (upd f5 i ((f5 i) - (f5 i)))) 38 (upd f8 ((a 44 i).toNatClampNeg) (f8 ((a 44 i).toNatClampNeg) + (f5 i)))) 19 (fBack (a 41) ((a 44 i).toNatClampNeg) (f8 ((a 44 i).toNatClampNeg)) (f8 ((a 44 i).toNatClampNeg) + (f5 i)) f9))) H := hP
                    replace hD : va_D A (Mw h q k c (up v 0 0) nm (up (up (up (up (up (up a 45 f5) 38 f8) 19 f9) 45 (upd f5 i ((f5 i) - (f5 i)))) 38 (upd f8 ((a 44 i).toNatClampNeg) (f8 ((a 44 i).toNatClampNeg) + (f5 i)))) 19 (fBack (a 41) ((a 44 i).toNatClampNeg) (f8 ((a 44 i).toNatClampNeg)) (f8 ((a 44 i).toNatClampNeg) + (f5 i)) f9))) := hD
                    refine W.eq (g2 := F0 m 161 ls []) rfl ?_
                    refine lv_aload_n hx hb dX9_pay_161 rfl (lv_at hl 4 rfl) ?_
                    refine mg_19 hx hb hts hown hK hP dX9_pay_162 ?_
                    refine lv_iconst (v := 0) hx hb dX9_pay_165 (by decide) ?_
                    refine lv_dup2_11 hx hb dX9_pay_166 rfl rfl ?_
                    refine ml_19 (x := (fBack (a 41) ((a 44 i).toNatClampNeg) (f8 ((a 44 i).toNatClampNeg)) (f8 ((a 44 i).toNatClampNeg) + (f5 i)) f9) 0) hx hb hK hP 0 rfl (by omega) rfl dX9_pay_167 ?_
                    refine lv_iload hx hb dX9_pay_168 (lv_at hl 3 rfl) ?_
                    refine lv_iload hx hb dX9_pay_170 (lv_at hl 0 rfl) ?_
                    refine lv_isub hx hb dX9_pay_172 ?_
                    refine lv_iadd hx hb dX9_pay_173 ?_
                    refine mt_19 (f := fBack (a 41) ((a 44 i).toNatClampNeg) (f8 ((a 44 i).toNatClampNeg)) (f8 ((a 44 i).toNatClampNeg) + (f5 i)) f9) hx hb hK hP hD hS 0 rfl (by omega) rfl dX9_pay_174 (fun H locs hP hD hS => ?_)
                    rw [up_up] at hP hD
                    refine lv_iinc (v := nI (i + 1)) (lv' := [(4, .int (nI (i + 1))), (7, .int (f5 i)), (6, .int (nI ((a 44 i).toNatClampNeg))), (3, .int (w - (f5 i))), (5, .int (f5 i)), (0, .ref h), (1, .int x), (2, .int y)]) hx hb dX9_pay_175 hl (k := 7) rfl (nI_1 _) (by decide) rfl (fun ls hl => ?_)
                    refine lv_goto (tgt := 34) hx hb dX9_pay_178 (by decide) ?_
                    exact ih (i + 1) (w - (f5 i)) (upd f5 i ((f5 i) - (f5 i))) (upd f8 ((a 44 i).toNatClampNeg) (f8 ((a 44 i).toNatClampNeg) + (f5 i))) (upd (fBack (a 41) ((a 44 i).toNatClampNeg) (f8 ((a 44 i).toNatClampNeg)) (f8 ((a 44 i).toNatClampNeg) + (f5 i)) f9) 0 (((fBack (a 41) ((a 44 i).toNatClampNeg) (f8 ((a 44 i).toNatClampNeg)) (f8 ((a 44 i).toNatClampNeg) + (f5 i)) f9) 0) + ((f5 i) - (f5 i)))) H locs (by omega) (by rw [← he]; simp only [lp, payStep, payDo, payO, payX, if_neg c44, if_pos c55, if_pos c69, if_pos c128]) hP hD hS ls (lv_sub hl [5, 6, 7, 3, 0] rfl)
                  · refine lv_aload_n hx hb dX9_pay_131 rfl (lv_at hl 3 rfl) ?_
                    refine mg_27 hx hb hts hown hK hP dX9_pay_132 ?_
                    refine lv_iload hx hb dX9_pay_135 (lv_at hl 0 rfl) ?_
                    refine ml_27 (x := (a 27) ((a 44 i).toNatClampNeg)) hx hb hK hP ((a 44 i).toNatClampNeg) rfl (by omega) rfl dX9_pay_137 ?_
                    refine lv_aload_n hx hb dX9_pay_138 rfl (lv_at hl 3 rfl) ?_
                    refine mg_38 hx hb hts hown hK hP dX9_pay_139 ?_
                    refine lv_iload hx hb dX9_pay_142 (lv_at hl 0 rfl) ?_
                    refine ml_38 (x := f8 ((a 44 i).toNatClampNeg)) hx hb hK hP ((a 44 i).toNatClampNeg) rfl (by omega) rfl dX9_pay_144 ?_
                    refine lv_isub hx hb dX9_pay_145 ?_
                    refine lv_goto (tgt := 151) hx hb dX9_pay_146 (by decide) ?_
                    refine lv_istore (lv' := [(7, .int (((a 27) ((a 44 i).toNatClampNeg)) - (f8 ((a 44 i).toNatClampNeg)))), (6, .int (nI ((a 44 i).toNatClampNeg))), (3, .int (w - (f5 i))), (5, .int (f5 i)), (0, .ref h), (1, .int x), (2, .int y), (4, .int (nI i))]) hx hb dX9_pay_151 hl (by decide) rfl (fun ls hl => ?_)
                    refine lv_aload_n hx hb dX9_pay_153 rfl (lv_at hl 4 rfl) ?_
                    refine lv_iload hx hb dX9_pay_154 (lv_at hl 1 rfl) ?_
                    refine lv_iload hx hb dX9_pay_156 (lv_at hl 0 rfl) ?_
                    refine fs_Vw (rest := []) (As := [.int (nI ((a 44 i).toNatClampNeg)), .int (((a 27) ((a 44 i).toNatClampNeg)) - (f8 ((a 44 i).toNatClampNeg)))]) ⟨hx, hb, hml, hown, hts⟩ Gd0 trivial hS hA hK (hP) (hD) (c_X9_comesBack l D h q k c (up v 0 0) nm (up (up (up (up a 45 f5) 38 f8) 19 f9) 45 (upd f5 i ((f5 i) - (f5 i)))) ((a 44 i).toNatClampNeg) (((a 27) ((a 44 i).toNatClampNeg)) - (f8 ((a 44 i).toNatClampNeg))) (by omega)) mi_X9_comesBack wd_6_1 wp_3_12 wd_5_239 ⟨Nat.le_of_ble_eq_true rfl, Nat.le_of_ble_eq_true rfl⟩ 0 rfl rfl rfl hl.1 rfl (Nat.le_of_ble_eq_true rfl) ⟨Nat.le_of_ble_eq_true rfl, Nat.le_of_ble_eq_true rfl⟩ dX9_pay_158 (fun u_3 H locs hu_4 hP hD hS => ?_)
                    subst hu_4
                    replace hP : va_P D vwCl (Mw h q k c (up v 0 0) nm (up (up (up (up (up (up a 45 f5) 38 f8) 19 f9) 45 (upd f5 i ((f5 i) - (f5 i)))) 38 (upd f8 ((a 44 i).toNatClampNeg) (f8 ((a 44 i).toNatClampNeg) + (((a 27) ((a 44 i).toNatClampNeg)) - (f8 ((a 44 i).toNatClampNeg)))))) 19 (fBack (a 41) ((a 44 i).toNatClampNeg) (f8 ((a 44 i).toNatClampNeg)) (f8 ((a 44 i).toNatClampNeg) + (((a 27) ((a 44 i).toNatClampNeg)) - (f8 ((a 44 i).toNatClampNeg)))) f9))) H := hP
                    replace hD : va_D A (Mw h q k c (up v 0 0) nm (up (up (up (up (up (up a 45 f5) 38 f8) 19 f9) 45 (upd f5 i ((f5 i) - (f5 i)))) 38 (upd f8 ((a 44 i).toNatClampNeg) (f8 ((a 44 i).toNatClampNeg) + (((a 27) ((a 44 i).toNatClampNeg)) - (f8 ((a 44 i).toNatClampNeg)))))) 19 (fBack (a 41) ((a 44 i).toNatClampNeg) (f8 ((a 44 i).toNatClampNeg)) (f8 ((a 44 i).toNatClampNeg) + (((a 27) ((a 44 i).toNatClampNeg)) - (f8 ((a 44 i).toNatClampNeg)))) f9))) := hD
                    refine W.eq (g2 := F0 m 161 ls []) rfl ?_
                    refine lv_aload_n hx hb dX9_pay_161 rfl (lv_at hl 4 rfl) ?_
                    refine mg_19 hx hb hts hown hK hP dX9_pay_162 ?_
                    refine lv_iconst (v := 0) hx hb dX9_pay_165 (by decide) ?_
                    refine lv_dup2_11 hx hb dX9_pay_166 rfl rfl ?_
                    refine ml_19 (x := (fBack (a 41) ((a 44 i).toNatClampNeg) (f8 ((a 44 i).toNatClampNeg)) (f8 ((a 44 i).toNatClampNeg) + (((a 27) ((a 44 i).toNatClampNeg)) - (f8 ((a 44 i).toNatClampNeg)))) f9) 0) hx hb hK hP 0 rfl (by omega) rfl dX9_pay_167 ?_
                    refine lv_iload hx hb dX9_pay_168 (lv_at hl 3 rfl) ?_
                    refine lv_iload hx hb dX9_pay_170 (lv_at hl 0 rfl) ?_
                    refine lv_isub hx hb dX9_pay_172 ?_
                    refine lv_iadd hx hb dX9_pay_173 ?_
                    refine mt_19 (f := fBack (a 41) ((a 44 i).toNatClampNeg) (f8 ((a 44 i).toNatClampNeg)) (f8 ((a 44 i).toNatClampNeg) + (((a 27) ((a 44 i).toNatClampNeg)) - (f8 ((a 44 i).toNatClampNeg)))) f9) hx hb hK hP hD hS 0 rfl (by omega) rfl dX9_pay_174 (fun H locs hP hD hS => ?_)
                    rw [up_up] at hP hD
                    refine lv_iinc (v := nI (i + 1)) (lv' := [(4, .int (nI (i + 1))), (7, .int (((a 27) ((a 44 i).toNatClampNeg)) - (f8 ((a 44 i).toNatClampNeg)))), (6, .int (nI ((a 44 i).toNatClampNeg))), (3, .int (w - (f5 i))), (5, .int (f5 i)), (0, .ref h), (1, .int x), (2, .int y)]) hx hb dX9_pay_175 hl (k := 7) rfl (nI_1 _) (by decide) rfl (fun ls hl => ?_)
                    refine lv_goto (tgt := 34) hx hb dX9_pay_178 (by decide) ?_
                    exact ih (i + 1) (w - (f5 i)) (upd f5 i ((f5 i) - (f5 i))) (upd f8 ((a 44 i).toNatClampNeg) (f8 ((a 44 i).toNatClampNeg) + (((a 27) ((a 44 i).toNatClampNeg)) - (f8 ((a 44 i).toNatClampNeg))))) (upd (fBack (a 41) ((a 44 i).toNatClampNeg) (f8 ((a 44 i).toNatClampNeg)) (f8 ((a 44 i).toNatClampNeg) + (((a 27) ((a 44 i).toNatClampNeg)) - (f8 ((a 44 i).toNatClampNeg)))) f9) 0 (((fBack (a 41) ((a 44 i).toNatClampNeg) (f8 ((a 44 i).toNatClampNeg)) (f8 ((a 44 i).toNatClampNeg) + (((a 27) ((a 44 i).toNatClampNeg)) - (f8 ((a 44 i).toNatClampNeg)))) f9) 0) + ((f5 i) - (((a 27) ((a 44 i).toNatClampNeg)) - (f8 ((a 44 i).toNatClampNeg)))))) H locs (by omega) (by rw [← he]; simp only [lp, payStep, payDo, payO, payX, if_neg c44, if_pos c55, if_pos c69, if_neg c128]) hP hD hS ls (lv_sub hl [5, 6, 7, 3, 0] rfl)
                · refine lv_iload_n hx hb dX9_pay_72 rfl (lv_at hl 3 rfl) ?_
                  refine lv_goto (tgt := 83) hx hb dX9_pay_73 (by decide) ?_
                  refine lv_istore (lv' := [(5, .int w), (0, .ref h), (1, .int x), (2, .int y), (3, .int w), (4, .int (nI i))]) hx hb dX9_pay_83 hl (by decide) rfl (fun ls hl => ?_)
                  refine lv_aload_n hx hb dX9_pay_85 rfl (lv_at hl 1 rfl) ?_
                  refine mg_45 hx hb hts hown hK hP dX9_pay_86 ?_
                  refine lv_iload hx hb dX9_pay_89 (lv_at hl 5 rfl) ?_
                  refine lv_dup2_11 hx hb dX9_pay_91 rfl rfl ?_
                  refine ml_45 (x := f5 i) hx hb hK hP i rfl (by omega) rfl dX9_pay_92 ?_
                  refine lv_iload hx hb dX9_pay_93 (lv_at hl 0 rfl) ?_
                  refine lv_isub hx hb dX9_pay_95 ?_
                  refine mt_45 (f := f5) hx hb hK hP hD hS i rfl (by omega) rfl dX9_pay_96 (fun H locs hP hD hS => ?_)
                  refine lv_iload_n hx hb dX9_pay_97 rfl (lv_at hl 4 rfl) ?_
                  refine lv_iload hx hb dX9_pay_98 (lv_at hl 0 rfl) ?_
                  refine lv_isub hx hb dX9_pay_100 ?_
                  refine lv_istore_n (lv' := [(3, .int (w - w)), (5, .int w), (0, .ref h), (1, .int x), (2, .int y), (4, .int (nI i))]) hx hb dX9_pay_101 rfl hl (by decide) rfl (fun ls hl => ?_)
                  have hz9 := (isIn_spec (hln i (by omega)) (by decide)).2
                  refine lv_aload_n hx hb dX9_pay_102 rfl (lv_at hl 2 rfl) ?_
                  refine mg_44 hx hb hts hown hK hP dX9_pay_103 ?_
                  refine lv_iload hx hb dX9_pay_106 (lv_at hl 5 rfl) ?_
                  refine ml_44 (x := (a 44) i) hx hb hK hP i rfl (by omega) rfl dX9_pay_108 ?_
                  refine rw_topi (y := nI ((a 44 i).toNatClampNeg)) ((isIn_spec (hln i (by omega)) (by decide)).1) ?_
                  refine lv_istore (lv' := [(6, .int (nI ((a 44 i).toNatClampNeg))), (3, .int (w - w)), (5, .int w), (0, .ref h), (1, .int x), (2, .int y), (4, .int (nI i))]) hx hb dX9_pay_109 hl (by decide) rfl (fun ls hl => ?_)
                  refine lv_aload_n hx hb dX9_pay_111 rfl (lv_at hl 3 rfl) ?_
                  refine mg_27 hx hb hts hown hK hP dX9_pay_112 ?_
                  refine lv_iload hx hb dX9_pay_115 (lv_at hl 0 rfl) ?_
                  refine ml_27 (x := (a 27) ((a 44 i).toNatClampNeg)) hx hb hK hP ((a 44 i).toNatClampNeg) rfl (by omega) rfl dX9_pay_117 ?_
                  refine lv_aload_n hx hb dX9_pay_118 rfl (lv_at hl 3 rfl) ?_
                  refine mg_38 hx hb hts hown hK hP dX9_pay_119 ?_
                  refine lv_iload hx hb dX9_pay_122 (lv_at hl 0 rfl) ?_
                  refine ml_38 (x := f8 ((a 44 i).toNatClampNeg)) hx hb hK hP ((a 44 i).toNatClampNeg) rfl (by omega) rfl dX9_pay_124 ?_
                  refine lv_isub hx hb dX9_pay_125 ?_
                  refine lv_iload hx hb dX9_pay_126 (lv_at hl 2 rfl) ?_
                  refine lv_icmp_ge (tgt := 149) hx hb dX9_pay_128 (by decide) (fun c128 => ?_) (fun c128 => ?_)
                  · refine lv_iload hx hb dX9_pay_149 (lv_at hl 2 rfl) ?_
                    refine lv_istore (lv' := [(7, .int w), (6, .int (nI ((a 44 i).toNatClampNeg))), (3, .int (w - w)), (5, .int w), (0, .ref h), (1, .int x), (2, .int y), (4, .int (nI i))]) hx hb dX9_pay_151 hl (by decide) rfl (fun ls hl => ?_)
                    refine lv_aload_n hx hb dX9_pay_153 rfl (lv_at hl 4 rfl) ?_
                    refine lv_iload hx hb dX9_pay_154 (lv_at hl 1 rfl) ?_
                    refine lv_iload hx hb dX9_pay_156 (lv_at hl 0 rfl) ?_
                    refine fs_Vw (rest := []) (As := [.int (nI ((a 44 i).toNatClampNeg)), .int w]) ⟨hx, hb, hml, hown, hts⟩ Gd0 trivial hS hA hK (hP) (hD) (c_X9_comesBack l D h q k c (up v 0 0) nm (up (up (up (up a 45 f5) 38 f8) 19 f9) 45 (upd f5 i ((f5 i) - w))) ((a 44 i).toNatClampNeg) w (by omega)) mi_X9_comesBack wd_6_1 wp_3_12 wd_5_239 ⟨Nat.le_of_ble_eq_true rfl, Nat.le_of_ble_eq_true rfl⟩ 0 rfl rfl rfl hl.1 rfl (Nat.le_of_ble_eq_true rfl) ⟨Nat.le_of_ble_eq_true rfl, Nat.le_of_ble_eq_true rfl⟩ dX9_pay_158 (fun u_5 H locs hu_6 hP hD hS => ?_)
                    subst hu_6
                    replace hP : va_P D vwCl (Mw h q k c (up v 0 0) nm (up (up (up (up (up (up a 45 f5) 38 f8) 19 f9) 45 (upd f5 i ((f5 i) - w))) 38 (upd f8 ((a 44 i).toNatClampNeg) (f8 ((a 44 i).toNatClampNeg) + w))) 19 (fBack (a 41) ((a 44 i).toNatClampNeg) (f8 ((a 44 i).toNatClampNeg)) (f8 ((a 44 i).toNatClampNeg) + w) f9))) H := hP
                    replace hD : va_D A (Mw h q k c (up v 0 0) nm (up (up (up (up (up (up a 45 f5) 38 f8) 19 f9) 45 (upd f5 i ((f5 i) - w))) 38 (upd f8 ((a 44 i).toNatClampNeg) (f8 ((a 44 i).toNatClampNeg) + w))) 19 (fBack (a 41) ((a 44 i).toNatClampNeg) (f8 ((a 44 i).toNatClampNeg)) (f8 ((a 44 i).toNatClampNeg) + w) f9))) := hD
                    refine W.eq (g2 := F0 m 161 ls []) rfl ?_
                    refine lv_aload_n hx hb dX9_pay_161 rfl (lv_at hl 4 rfl) ?_
                    refine mg_19 hx hb hts hown hK hP dX9_pay_162 ?_
                    refine lv_iconst (v := 0) hx hb dX9_pay_165 (by decide) ?_
                    refine lv_dup2_11 hx hb dX9_pay_166 rfl rfl ?_
                    refine ml_19 (x := (fBack (a 41) ((a 44 i).toNatClampNeg) (f8 ((a 44 i).toNatClampNeg)) (f8 ((a 44 i).toNatClampNeg) + w) f9) 0) hx hb hK hP 0 rfl (by omega) rfl dX9_pay_167 ?_
                    refine lv_iload hx hb dX9_pay_168 (lv_at hl 3 rfl) ?_
                    refine lv_iload hx hb dX9_pay_170 (lv_at hl 0 rfl) ?_
                    refine lv_isub hx hb dX9_pay_172 ?_
                    refine lv_iadd hx hb dX9_pay_173 ?_
                    refine mt_19 (f := fBack (a 41) ((a 44 i).toNatClampNeg) (f8 ((a 44 i).toNatClampNeg)) (f8 ((a 44 i).toNatClampNeg) + w) f9) hx hb hK hP hD hS 0 rfl (by omega) rfl dX9_pay_174 (fun H locs hP hD hS => ?_)
                    rw [up_up] at hP hD
                    refine lv_iinc (v := nI (i + 1)) (lv' := [(4, .int (nI (i + 1))), (7, .int w), (6, .int (nI ((a 44 i).toNatClampNeg))), (3, .int (w - w)), (5, .int w), (0, .ref h), (1, .int x), (2, .int y)]) hx hb dX9_pay_175 hl (k := 7) rfl (nI_1 _) (by decide) rfl (fun ls hl => ?_)
                    refine lv_goto (tgt := 34) hx hb dX9_pay_178 (by decide) ?_
                    exact ih (i + 1) (w - w) (upd f5 i ((f5 i) - w)) (upd f8 ((a 44 i).toNatClampNeg) (f8 ((a 44 i).toNatClampNeg) + w)) (upd (fBack (a 41) ((a 44 i).toNatClampNeg) (f8 ((a 44 i).toNatClampNeg)) (f8 ((a 44 i).toNatClampNeg) + w) f9) 0 (((fBack (a 41) ((a 44 i).toNatClampNeg) (f8 ((a 44 i).toNatClampNeg)) (f8 ((a 44 i).toNatClampNeg) + w) f9) 0) + (w - w))) H locs (by omega) (by rw [← he]; simp only [lp, payStep, payDo, payO, payX, if_neg c44, if_pos c55, if_neg c69, if_pos c128]) hP hD hS ls (lv_sub hl [5, 6, 7, 3, 0] rfl)
                  · refine lv_aload_n hx hb dX9_pay_131 rfl (lv_at hl 3 rfl) ?_
                    refine mg_27 hx hb hts hown hK hP dX9_pay_132 ?_
                    refine lv_iload hx hb dX9_pay_135 (lv_at hl 0 rfl) ?_
                    refine ml_27 (x := (a 27) ((a 44 i).toNatClampNeg)) hx hb hK hP ((a 44 i).toNatClampNeg) rfl (by omega) rfl dX9_pay_137 ?_
                    refine lv_aload_n hx hb dX9_pay_138 rfl (lv_at hl 3 rfl) ?_
                    refine mg_38 hx hb hts hown hK hP dX9_pay_139 ?_
                    refine lv_iload hx hb dX9_pay_142 (lv_at hl 0 rfl) ?_
                    refine ml_38 (x := f8 ((a 44 i).toNatClampNeg)) hx hb hK hP ((a 44 i).toNatClampNeg) rfl (by omega) rfl dX9_pay_144 ?_
                    refine lv_isub hx hb dX9_pay_145 ?_
                    refine lv_goto (tgt := 151) hx hb dX9_pay_146 (by decide) ?_
                    refine lv_istore (lv' := [(7, .int (((a 27) ((a 44 i).toNatClampNeg)) - (f8 ((a 44 i).toNatClampNeg)))), (6, .int (nI ((a 44 i).toNatClampNeg))), (3, .int (w - w)), (5, .int w), (0, .ref h), (1, .int x), (2, .int y), (4, .int (nI i))]) hx hb dX9_pay_151 hl (by decide) rfl (fun ls hl => ?_)
                    refine lv_aload_n hx hb dX9_pay_153 rfl (lv_at hl 4 rfl) ?_
                    refine lv_iload hx hb dX9_pay_154 (lv_at hl 1 rfl) ?_
                    refine lv_iload hx hb dX9_pay_156 (lv_at hl 0 rfl) ?_
                    refine fs_Vw (rest := []) (As := [.int (nI ((a 44 i).toNatClampNeg)), .int (((a 27) ((a 44 i).toNatClampNeg)) - (f8 ((a 44 i).toNatClampNeg)))]) ⟨hx, hb, hml, hown, hts⟩ Gd0 trivial hS hA hK (hP) (hD) (c_X9_comesBack l D h q k c (up v 0 0) nm (up (up (up (up a 45 f5) 38 f8) 19 f9) 45 (upd f5 i ((f5 i) - w))) ((a 44 i).toNatClampNeg) (((a 27) ((a 44 i).toNatClampNeg)) - (f8 ((a 44 i).toNatClampNeg))) (by omega)) mi_X9_comesBack wd_6_1 wp_3_12 wd_5_239 ⟨Nat.le_of_ble_eq_true rfl, Nat.le_of_ble_eq_true rfl⟩ 0 rfl rfl rfl hl.1 rfl (Nat.le_of_ble_eq_true rfl) ⟨Nat.le_of_ble_eq_true rfl, Nat.le_of_ble_eq_true rfl⟩ dX9_pay_158 (fun u_7 H locs hu_8 hP hD hS => ?_)
                    subst hu_8
                    replace hP : va_P D vwCl (Mw h q k c (up v 0 0) nm (up (up (up (up (up (up a 45 f5) 38 f8) 19 f9) 45 (upd f5 i ((f5 i) - w))) 38 (upd f8 ((a 44 i).toNatClampNeg) (f8 ((a 44 i).toNatClampNeg) + (((a 27) ((a 44 i).toNatClampNeg)) - (f8 ((a 44 i).toNatClampNeg)))))) 19 (fBack (a 41) ((a 44 i).toNatClampNeg) (f8 ((a 44 i).toNatClampNeg)) (f8 ((a 44 i).toNatClampNeg) + (((a 27) ((a 44 i).toNatClampNeg)) - (f8 ((a 44 i).toNatClampNeg)))) f9))) H := hP
                    replace hD : va_D A (Mw h q k c (up v 0 0) nm (up (up (up (up (up (up a 45 f5) 38 f8) 19 f9) 45 (upd f5 i ((f5 i) - w))) 38 (upd f8 ((a 44 i).toNatClampNeg) (f8 ((a 44 i).toNatClampNeg) + (((a 27) ((a 44 i).toNatClampNeg)) - (f8 ((a 44 i).toNatClampNeg)))))) 19 (fBack (a 41) ((a 44 i).toNatClampNeg) (f8 ((a 44 i).toNatClampNeg)) (f8 ((a 44 i).toNatClampNeg) + (((a 27) ((a 44 i).toNatClampNeg)) - (f8 ((a 44 i).toNatClampNeg)))) f9))) := hD
                    refine W.eq (g2 := F0 m 161 ls []) rfl ?_
                    refine lv_aload_n hx hb dX9_pay_161 rfl (lv_at hl 4 rfl) ?_
                    refine mg_19 hx hb hts hown hK hP dX9_pay_162 ?_
                    refine lv_iconst (v := 0) hx hb dX9_pay_165 (by decide) ?_
                    refine lv_dup2_11 hx hb dX9_pay_166 rfl rfl ?_
                    refine ml_19 (x := (fBack (a 41) ((a 44 i).toNatClampNeg) (f8 ((a 44 i).toNatClampNeg)) (f8 ((a 44 i).toNatClampNeg) + (((a 27) ((a 44 i).toNatClampNeg)) - (f8 ((a 44 i).toNatClampNeg)))) f9) 0) hx hb hK hP 0 rfl (by omega) rfl dX9_pay_167 ?_
                    refine lv_iload hx hb dX9_pay_168 (lv_at hl 3 rfl) ?_
                    refine lv_iload hx hb dX9_pay_170 (lv_at hl 0 rfl) ?_
                    refine lv_isub hx hb dX9_pay_172 ?_
                    refine lv_iadd hx hb dX9_pay_173 ?_
                    refine mt_19 (f := fBack (a 41) ((a 44 i).toNatClampNeg) (f8 ((a 44 i).toNatClampNeg)) (f8 ((a 44 i).toNatClampNeg) + (((a 27) ((a 44 i).toNatClampNeg)) - (f8 ((a 44 i).toNatClampNeg)))) f9) hx hb hK hP hD hS 0 rfl (by omega) rfl dX9_pay_174 (fun H locs hP hD hS => ?_)
                    rw [up_up] at hP hD
                    refine lv_iinc (v := nI (i + 1)) (lv' := [(4, .int (nI (i + 1))), (7, .int (((a 27) ((a 44 i).toNatClampNeg)) - (f8 ((a 44 i).toNatClampNeg)))), (6, .int (nI ((a 44 i).toNatClampNeg))), (3, .int (w - w)), (5, .int w), (0, .ref h), (1, .int x), (2, .int y)]) hx hb dX9_pay_175 hl (k := 7) rfl (nI_1 _) (by decide) rfl (fun ls hl => ?_)
                    refine lv_goto (tgt := 34) hx hb dX9_pay_178 (by decide) ?_
                    exact ih (i + 1) (w - w) (upd f5 i ((f5 i) - w)) (upd f8 ((a 44 i).toNatClampNeg) (f8 ((a 44 i).toNatClampNeg) + (((a 27) ((a 44 i).toNatClampNeg)) - (f8 ((a 44 i).toNatClampNeg))))) (upd (fBack (a 41) ((a 44 i).toNatClampNeg) (f8 ((a 44 i).toNatClampNeg)) (f8 ((a 44 i).toNatClampNeg) + (((a 27) ((a 44 i).toNatClampNeg)) - (f8 ((a 44 i).toNatClampNeg)))) f9) 0 (((fBack (a 41) ((a 44 i).toNatClampNeg) (f8 ((a 44 i).toNatClampNeg)) (f8 ((a 44 i).toNatClampNeg) + (((a 27) ((a 44 i).toNatClampNeg)) - (f8 ((a 44 i).toNatClampNeg)))) f9) 0) + (w - (((a 27) ((a 44 i).toNatClampNeg)) - (f8 ((a 44 i).toNatClampNeg)))))) H locs (by omega) (by rw [← he]; simp only [lp, payStep, payDo, payO, payX, if_neg c44, if_pos c55, if_neg c69, if_neg c128]) hP hD hS ls (lv_sub hl [5, 6, 7, 3, 0] rfl)
              · refine lv_goto (tgt := 175) hx hb dX9_pay_58 (by decide) ?_
                refine lv_iinc (v := nI (i + 1)) (lv' := [(4, .int (nI (i + 1))), (0, .ref h), (1, .int x), (2, .int y), (3, .int w)]) hx hb dX9_pay_175 hl (k := 4) rfl (nI_1 _) (by decide) rfl (fun ls hl => ?_)
                refine lv_goto (tgt := 34) hx hb dX9_pay_178 (by decide) ?_
                exact ih (i + 1) w f5 f8 f9 H locs (by omega) (by rw [← he]; simp only [lp, payStep, payDo, payO, payX, if_neg c44, if_neg c55]) hP hD hS ls (lv_sub hl [1, 2, 3, 4, 0] rfl)
        refine lv_iload_n hx hb dX9_pay_29 rfl (lv_at hl 2 rfl) ?_
        refine lv_istore_n (lv' := [(3, .int y), (0, .ref h), (1, .int x), (2, .int y)]) hx hb dX9_pay_30 rfl hl (by decide) rfl (fun ls hl => ?_)
        refine lv_iconst (v := 0) hx hb dX9_pay_31 (by decide) ?_
        refine lv_istore (lv' := [(4, .int 0), (3, .int y), (0, .ref h), (1, .int x), (2, .int y)]) hx hb dX9_pay_32 hl (by decide) rfl (fun ls hl => ?_)
        exact L (c 46) 0 y (a 45) (a 38) (a 19) H locs (by omega) (rfl) hP hD hS ls (lv_sub hl [2, 3, 4, 1, 0] rfl)
      · refine lv_iconst (v := 0) hx hb dX9_pay_27 (by decide) ?_
        exact fs_z hx hb hr hlocks hq (0, (c, up v 0 0, nm, a)) (by rw [mPay, if_neg (show ¬ (isIn x (c 21) = false) by rw [c10]; decide), if_neg c15, if_neg (show ¬ (y ≤ fOwed x (mT0 (c, v, nm, a))) from c24)]; rfl) hP hD hS (rfl) dX9_pay_28 rfl
