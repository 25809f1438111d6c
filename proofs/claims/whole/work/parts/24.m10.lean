set_option maxHeartbeats 4000000 in
set_option maxRecDepth 100000 in
theorem c_X9_ask (l : Launch) (D : va_G) (h : Nat) (q : Nat → Nat) (k : Nat → ClassId) (c : Nat → Nat) (v : Nat → Int32) (nm : Int64) (a : Nat → Nat → Int32) (x : Int32) (y : Int32) (ht : c 2 ≤ 320) (hp : c 21 ≤ 40) (hf1 : 1 ≤ c 22) (hf : c 22 ≤ 6) (hn : c 42 ≤ 100) (hc : c 46 ≤ 300) (h32 : ∀ t, t ≤ 320 → nI t = a 3 2 → t ≤ 3) (sn : Nat → Nat) (hs : ∀ k, k < c 42 → a 39 k = nI (sn k) ∧ sn k ≤ 3) (hw : ∀ k, k < c 42 → isIn (a 26 k) 40 = true) (hu : ∀ k i, k < c 42 → i < sn k → isIn (a 40 (3 * k + i)) 40 = true) : Fs (S := Int32 × MSt) l yX9_ask cX9_ask 9 (some .int) 3 0 0 D (TY k) G0 [.ref h, .int x, .int y] (Mw h q k c v nm a) (fun u => some (.int u.1)) (fun u => u = mAsk x y sn (c, v, nm, a)) (fun u => MwU h q k u.2) := by
  refine fs_body (by decide +kernel) (Nat.le_of_ble_eq_true rfl) ?_
  intro p e s m args below meth c_ Q A hx hb hml hown hts hK hP hD hS hA hG hin hr hq hlocks ls hl
  replace hl : lv_has ls 9 [(0, .ref h), (1, .int x), (2, .int y)] := hl
  change s.vm.findClass RX9 = some m.cls at hown
  refine lv_aload_n hx hb dX9_ask_0 rfl (lv_at hl 0 rfl) ?_
  refine lv_iconst (v := 0) hx hb dX9_ask_1 (by decide) ?_
  refine mp_0 hx hb hts hown hK hP hD hS 0 dX9_ask_2 (fun H locs hP hD hS => ?_)
  refine lv_aload_n hx hb dX9_ask_5 rfl (lv_at hl 0 rfl) ?_
  refine mg_2 (x := nI (c 2)) hx hb hts hown hK hP rfl dX9_ask_6 ?_
  refine lv_istore_n (lv' := [(3, .int (nI (c 2))), (0, .ref h), (1, .int x), (2, .int y)]) hx hb dX9_ask_9 rfl hl (by decide) rfl (fun ls hl => ?_)
  refine lv_aload_n hx hb dX9_ask_10 rfl (lv_at hl 1 rfl) ?_
  refine lv_iconst (v := 0) hx hb dX9_ask_11 (by decide) ?_
  refine mp_2 hx hb hts hown hK hP hD hS 0 rfl dX9_ask_12 (fun H locs hP hD hS => ?_)
  refine lv_aload_n hx hb dX9_ask_15 rfl (lv_at hl 1 rfl) ?_
  refine lv_iload_n hx hb dX9_ask_16 rfl (lv_at hl 2 rfl) ?_
  refine lv_iload_n hx hb dX9_ask_17 rfl (lv_at hl 3 rfl) ?_
  refine lv_iload_n hx hb dX9_ask_18 rfl (lv_at hl 0 rfl) ?_
  refine fs_Vw (rest := []) (As := [.int x, .int y, .int (nI (c 2))]) ⟨hx, hb, hml, hown, hts⟩ Gd0 trivial hS hA hK (hP) (hD) (c_X9_why l D h q k (up c 2 0) (up v 0 0) nm a x y (c 2) ht hp hf1 hf hn hc sn hs hw hu) mi_X9_why wd_5_193 wp_3_2 wd_5_191 ⟨Nat.le_of_ble_eq_true rfl, Nat.le_of_ble_eq_true rfl⟩ 0 rfl rfl rfl hl.1 rfl (Nat.le_of_ble_eq_true rfl) ⟨Nat.le_of_ble_eq_true rfl, Nat.le_of_ble_eq_true rfl⟩ dX9_ask_19 (fun u_1 H locs hu_2 hP hD hS => ?_)
  subst hu_2
  obtain ⟨hst9, hok9⟩ := mWhy_all x y (c 2) sn (up c 2 0, up v 0 0, nm, a)
  replace hP : va_P D vwCl (MwU h q k (mWhy x y (c 2) sn (up c 2 0, up v 0 0, nm, a)).2) H := hP
  replace hD : va_D A (MwU h q k (mWhy x y (c 2) sn (up c 2 0, up v 0 0, nm, a)).2) := hD
  rw [hst9] at hP hD
  replace hP : va_P D vwCl (Mw h q k (up c 2 0) (up v 0 0) nm (up a 47 (whyFar x y (c 2) sn (up c 2 0, up v 0 0, nm, a)))) H := hP
  replace hD : va_D A (Mw h q k (up c 2 0) (up v 0 0) nm (up a 47 (whyFar x y (c 2) sn (up c 2 0, up v 0 0, nm, a)))) := hD
  refine W.eq (g2 := F0 m 22 ls [.int ((mWhy x y (c 2) sn (up c 2 0, up v 0 0, nm, a)).1)]) rfl ?_
  refine lv_istore (lv' := [(4, .int ((mWhy x y (c 2) sn (up c 2 0, up v 0 0, nm, a)).1)), (3, .int (nI (c 2))), (0, .ref h), (1, .int x), (2, .int y)]) hx hb dX9_ask_22 hl (by decide) rfl (fun ls hl => ?_)
  refine lv_iload hx hb dX9_ask_24 (lv_at hl 0 rfl) ?_
  refine lv_if_le (tgt := 34) hx hb dX9_ask_26 (by decide) (fun c26 => ?_) (fun c26 => ?_)
  · obtain ⟨hok0, hokx, hok2, hok3, hok4, hok5, hok6, hok7, hok8⟩ := hok9 c26
    obtain ⟨ex, hjx⟩ := isIn_spec (show isIn x (c 21) = true from hokx) (by omega)
    replace hok4 : ¬ c 42 = 100 := hok4
    have ht3 : c 2 ≤ 3 := h32 (c 2) (by omega) hok6
    refine lv_aload_n hx hb dX9_ask_34 rfl (lv_at hl 2 rfl) ?_
    refine mg_42 (x := nI (c 42)) hx hb hts hown hK hP rfl dX9_ask_35 ?_
    refine lv_istore (lv' := [(5, .int (nI (c 42))), (4, .int ((mWhy x y (c 2) sn (up c 2 0, up v 0 0, nm, a)).1)), (3, .int (nI (c 2))), (0, .ref h), (1, .int x), (2, .int y)]) hx hb dX9_ask_38 hl (by decide) rfl (fun ls hl => ?_)
    refine lv_aload_n hx hb dX9_ask_40 rfl (lv_at hl 3 rfl) ?_
    refine mg_26 hx hb hts hown hK hP dX9_ask_41 ?_
    refine lv_iload hx hb dX9_ask_44 (lv_at hl 0 rfl) ?_
    refine lv_iload_n hx hb dX9_ask_46 rfl (lv_at hl 4 rfl) ?_
    refine mt_26 (f := a 26) hx hb hK hP hD hS (c 42) rfl (by omega) rfl dX9_ask_47 (fun H locs hP hD hS => ?_)
    refine lv_aload_n hx hb dX9_ask_48 rfl (lv_at hl 3 rfl) ?_
    refine mg_27 hx hb hts hown hK hP dX9_ask_49 ?_
    refine lv_iload hx hb dX9_ask_52 (lv_at hl 0 rfl) ?_
    refine lv_iload_n hx hb dX9_ask_54 rfl (lv_at hl 5 rfl) ?_
    refine mt_27 (f := a 27) hx hb hK hP hD hS (c 42) rfl (by omega) rfl dX9_ask_55 (fun H locs hP hD hS => ?_)
    refine lv_aload_n hx hb dX9_ask_56 rfl (lv_at hl 3 rfl) ?_
    refine mg_28 hx hb hts hown hK hP dX9_ask_57 ?_
    refine lv_iload hx hb dX9_ask_60 (lv_at hl 0 rfl) ?_
    refine lv_aload_n hx hb dX9_ask_62 rfl (lv_at hl 3 rfl) ?_
    refine mg_23 (x := nI (c 23)) hx hb hts hown hK hP rfl dX9_ask_63 ?_
    refine mt_28 (f := a 28) hx hb hK hP hD hS (c 42) rfl (by omega) rfl dX9_ask_66 (fun H locs hP hD hS => ?_)
    refine lv_aload_n hx hb dX9_ask_67 rfl (lv_at hl 3 rfl) ?_
    refine mg_29 hx hb hts hown hK hP dX9_ask_68 ?_
    refine lv_iload hx hb dX9_ask_71 (lv_at hl 0 rfl) ?_
    refine lv_aload_n hx hb dX9_ask_73 rfl (lv_at hl 3 rfl) ?_
    refine mg_3 hx hb hts hown hK hP dX9_ask_74 ?_
    refine lv_iconst (v := 1) hx hb dX9_ask_77 (by decide) ?_
    refine ml_3 (x := (a 3) 1) hx hb hK hP 1 rfl (by omega) rfl dX9_ask_78 ?_
    refine mt_29 (f := a 29) hx hb hK hP hD hS (c 42) rfl (by omega) rfl dX9_ask_79 (fun H locs hP hD hS => ?_)
    refine lv_aload_n hx hb dX9_ask_80 rfl (lv_at hl 3 rfl) ?_
    refine mg_30 hx hb hts hown hK hP dX9_ask_81 ?_
    refine lv_iload hx hb dX9_ask_84 (lv_at hl 0 rfl) ?_
    refine lv_aload_n hx hb dX9_ask_86 rfl (lv_at hl 3 rfl) ?_
    refine mg_3 hx hb hts hown hK hP dX9_ask_87 ?_
    refine lv_iconst (v := 4) hx hb dX9_ask_90 (by decide) ?_
    refine ml_3 (x := (a 3) 4) hx hb hK hP 4 rfl (by omega) rfl dX9_ask_91 ?_
    refine mt_30 (f := a 30) hx hb hK hP hD hS (c 42) rfl (by omega) rfl dX9_ask_92 (fun H locs hP hD hS => ?_)
    refine lv_aload_n hx hb dX9_ask_93 rfl (lv_at hl 3 rfl) ?_
    refine mg_31 hx hb hts hown hK hP dX9_ask_94 ?_
    refine lv_iload hx hb dX9_ask_97 (lv_at hl 0 rfl) ?_
    refine lv_aload_n hx hb dX9_ask_99 rfl (lv_at hl 3 rfl) ?_
    refine mg_3 hx hb hts hown hK hP dX9_ask_100 ?_
    refine lv_iconst (v := 5) hx hb dX9_ask_103 (by decide) ?_
    refine ml_3 (x := (a 3) 5) hx hb hK hP 5 rfl (by omega) rfl dX9_ask_104 ?_
    refine mt_31 (f := a 31) hx hb hK hP hD hS (c 42) rfl (by omega) rfl dX9_ask_105 (fun H locs hP hD hS => ?_)
    refine lv_aload_n hx hb dX9_ask_106 rfl (lv_at hl 3 rfl) ?_
    refine mg_39 hx hb hts hown hK hP dX9_ask_107 ?_
    refine lv_iload hx hb dX9_ask_110 (lv_at hl 0 rfl) ?_
    refine lv_iload_n hx hb dX9_ask_112 rfl (lv_at hl 2 rfl) ?_
    refine mt_39 (f := a 39) hx hb hK hP hD hS (c 42) rfl (by omega) rfl dX9_ask_113 (fun H locs hP hD hS => ?_)
    have L7 : ∀ (r i : Nat) (w : Int32) (f1 : Nat → Int32) (f9 : Nat → Int32) (H : Heap) (locs : List Loc), i + r = c 22 → lp (askStep (a 17 x.toNatClampNeg) (a 18) (c 42)) r i (w, f1, f9) = lp (askStep (a 17 x.toNatClampNeg) (a 18) (c 42)) (c 22 - 1) 1 (y, a 41, a 19) → va_P D vwCl (Mw h q k (up c 2 0) (up v 0 0) nm (up (up (up (up (up (up (up (up (up (up (up a 47 (whyFar x y (c 2) sn (up c 2 0, up v 0 0, nm, a))) 26 (upd (a 26) (c 42) x)) 27 (upd (a 27) (c 42) y)) 28 (upd (a 28) (c 42) (nI (c 23)))) 29 (upd (a 29) (c 42) (a 3 1))) 30 (upd (a 30) (c 42) (a 3 4))) 31 (upd (a 31) (c 42) (a 3 5))) 39 (upd (a 39) (c 42) (nI (c 2)))) 40 (askSur (c 42) (c 2) (a 1) (a 40))) 41 f1) 19 f9)) H → va_D A (Mw h q k (up c 2 0) (up v 0 0) nm (up (up (up (up (up (up (up (up (up (up (up a 47 (whyFar x y (c 2) sn (up c 2 0, up v 0 0, nm, a))) 26 (upd (a 26) (c 42) x)) 27 (upd (a 27) (c 42) y)) 28 (upd (a 28) (c 42) (nI (c 23)))) 29 (upd (a 29) (c 42) (a 3 1))) 30 (upd (a 30) (c 42) (a 3 4))) 31 (upd (a 31) (c 42) (a 3 5))) 39 (upd (a 39) (c 42) (nI (c 2)))) 40 (askSur (c 42) (c 2) (a 1) (a 40))) 41 f1) 19 f9)) → va_S A s.heap H locs → ∀ (ls : Array Slot), lv_has ls 9 [(0, .ref h), (1, .int x), (2, .int y), (3, .int (nI (c 2))), (5, .int (nI (c 42))), (6, .int w), (7, .int (nI i))] → W p l e (rmd 3 0 0) s m args below meth c_ H locs 0 0 Q (F0 m 154 ls []) := by
      intro r
      induction r with
      | zero =>
        intro i w f1 f9 H locs hi he hP hD hS ls hl
        refine lv_iload hx hb dX9_ask_154 (lv_at hl 6 rfl) ?_
        refine lv_aload_n hx hb dX9_ask_156 rfl (lv_at hl 0 rfl) ?_
        refine mg_22 (x := nI (c 22)) hx hb hts hown hK hP rfl dX9_ask_157 ?_
        refine lv_icmp_ge (tgt := 251) hx hb dX9_ask_160 (by decide) (fun c160 => ?_) (fun c160 => absurd (nI_le (by omega) (by omega)) c160)
        refine lv_aload_n hx hb dX9_ask_251 rfl (lv_at hl 0 rfl) ?_
        refine mg_41 hx hb hts hown hK hP dX9_ask_252 ?_
        refine lv_bipush (v := 6) hx hb dX9_ask_255 (by decide) ?_
        refine lv_iload hx hb dX9_ask_257 (lv_at hl 4 rfl) ?_
        refine lv_imul hx hb dX9_ask_259 ?_
        refine rw_topi (y := nI (6 * (c 42))) (pk_mul _ _) ?_
        refine lv_iload hx hb dX9_ask_260 (lv_at hl 5 rfl) ?_
        refine mt_41 (f := f1) hx hb hK hP hD hS (6 * c 42) rfl (by omega) rfl dX9_ask_262 (fun H locs hP hD hS => ?_)
        refine lv_aload_n hx hb dX9_ask_263 rfl (lv_at hl 0 rfl) ?_
        refine mg_19 hx hb hts hown hK hP dX9_ask_264 ?_
        refine lv_iconst (v := 0) hx hb dX9_ask_267 (by decide) ?_
        refine lv_dup2_11 hx hb dX9_ask_268 rfl rfl ?_
        refine ml_19 (x := f9 0) hx hb hK hP 0 rfl (by omega) rfl dX9_ask_269 ?_
        refine lv_iload hx hb dX9_ask_270 (lv_at hl 5 rfl) ?_
        refine lv_isub hx hb dX9_ask_272 ?_
        refine mt_19 (f := f9) hx hb hK hP hD hS 0 rfl (by omega) rfl dX9_ask_273 (fun H locs hP hD hS => ?_)
        refine lv_aload_n hx hb dX9_ask_274 rfl (lv_at hl 0 rfl) ?_
        refine lv_dup hx hb dX9_ask_275 rfl ?_
        refine mg_42 (x := nI (c 42)) hx hb hts hown hK hP rfl dX9_ask_276 ?_
        refine lv_iconst (v := 1) hx hb dX9_ask_279 (by decide) ?_
        refine lv_iadd hx hb dX9_ask_280 ?_
        refine rw_topi (y := nI ((c 42) + 1)) (nI_add _ _) ?_
        refine mp_42 hx hb hts hown hK hP hD hS ((c 42) + 1) rfl dX9_ask_281 (fun H locs hP hD hS => ?_)
        refine lv_iload hx hb dX9_ask_284 (lv_at hl 4 rfl) ?_
        exact fs_i hx hb hr hlocks hq (nI (c 42), (up (up c 2 0) 42 ((c 42) + 1), up v 0 0, nm, up (up (up (up (up (up (up (up (up (up (up (up (up a 47 (whyFar x y (c 2) sn (up c 2 0, up v 0 0, nm, a))) 26 (upd (a 26) (c 42) x)) 27 (upd (a 27) (c 42) y)) 28 (upd (a 28) (c 42) (nI (c 23)))) 29 (upd (a 29) (c 42) (a 3 1))) 30 (upd (a 30) (c 42) (a 3 4))) 31 (upd (a 31) (c 42) (a 3 5))) 39 (upd (a 39) (c 42) (nI (c 2)))) 40 (askSur (c 42) (c 2) (a 1) (a 40))) 41 f1) 19 f9) 41 (upd f1 (6 * c 42) w)) 19 (upd f9 0 ((f9 0) - w)))) (by
              have e0 : askP x y (c, v, nm, a) = (w, f1, f9) := he.symm
              rw [mAsk, if_pos (show (mWhy x y (c 2) sn (mAsk0 (c, v, nm, a))).1 ≤ 0 from c26), askA, e0]
              rfl) hP hD hS dX9_ask_286 rfl
      | succ r ih =>
        intro i w f1 f9 H locs hi he hP hD hS ls hl
        refine lv_iload hx hb dX9_ask_154 (lv_at hl 6 rfl) ?_
        refine lv_aload_n hx hb dX9_ask_156 rfl (lv_at hl 0 rfl) ?_
        refine mg_22 (x := nI (c 22)) hx hb hts hown hK hP rfl dX9_ask_157 ?_
        refine lv_icmp_ge (tgt := 251) hx hb dX9_ask_160 (by decide) (fun c160 => absurd c160 (nI_ge (by omega) (by omega))) (fun c160 => ?_)
        refine lv_aload_n hx hb dX9_ask_163 rfl (lv_at hl 0 rfl) ?_
        refine mg_17 hx hb hts hown hK hP dX9_ask_164 ?_
        refine lv_iload_n hx hb dX9_ask_167 rfl (lv_at hl 1 rfl) ?_
        refine ml_17 (x := (a 17) x.toNatClampNeg) hx hb hK hP x.toNatClampNeg ex (by omega) rfl dX9_ask_168 ?_
        refine lv_aload_n hx hb dX9_ask_169 rfl (lv_at hl 0 rfl) ?_
        refine mg_18 hx hb hts hown hK hP dX9_ask_170 ?_
        refine lv_iload hx hb dX9_ask_173 (lv_at hl 6 rfl) ?_
        refine ml_18 (x := (a 18) i) hx hb hK hP i rfl (by omega) rfl dX9_ask_175 ?_
        refine lv_ishr hx hb dX9_ask_176 ?_
        refine lv_iconst (v := 1) hx hb dX9_ask_177 (by decide) ?_
        refine lv_iand hx hb dX9_ask_178 ?_
        refine lv_if_ne (tgt := 185) hx hb dX9_ask_179 (by decide) (fun c179 => ?_) (fun c179 => ?_)
        · refine lv_iload hx hb dX9_ask_185 (lv_at hl 5 rfl) ?_
          refine lv_aload_n hx hb dX9_ask_187 rfl (lv_at hl 0 rfl) ?_
          refine mg_19 hx hb hts hown hK hP dX9_ask_188 ?_
          refine lv_iload hx hb dX9_ask_191 (lv_at hl 6 rfl) ?_
          refine ml_19 (x := f9 i) hx hb hK hP i rfl (by omega) rfl dX9_ask_193 ?_
          refine lv_icmp_ge (tgt := 202) hx hb dX9_ask_194 (by decide) (fun c194 => ?_) (fun c194 => ?_)
          · refine lv_aload_n hx hb dX9_ask_202 rfl (lv_at hl 0 rfl) ?_
            refine mg_19 hx hb hts hown hK hP dX9_ask_203 ?_
            refine lv_iload hx hb dX9_ask_206 (lv_at hl 6 rfl) ?_
            refine ml_19 (x := f9 i) hx hb hK hP i rfl (by omega) rfl dX9_ask_208 ?_
            refine lv_istore (lv' := [(8, .int (f9 i)), (0, .ref h), (1, .int x), (2, .int y), (3, .int (nI (c 2))), (5, .int (nI (c 42))), (6, .int w), (7, .int (nI i))]) hx hb dX9_ask_209 hl (by decide) rfl (fun ls hl => ?_)
            refine lv_aload_n hx hb dX9_ask_211 rfl (lv_at hl 1 rfl) ?_
            refine mg_41 hx hb hts hown hK hP dX9_ask_212 ?_
            refine lv_bipush (v := 6) hx hb dX9_ask_215 (by decide) ?_
            refine lv_iload hx hb dX9_ask_217 (lv_at hl 5 rfl) ?_
            refine lv_imul hx hb dX9_ask_219 ?_
            refine rw_topi (y := nI (6 * (c 42))) (pk_mul _ _) ?_
            refine lv_iload hx hb dX9_ask_220 (lv_at hl 7 rfl) ?_
            refine lv_iadd hx hb dX9_ask_222 ?_
            refine rw_topi (y := nI ((6 * (c 42)) + i)) (nI_add _ _) ?_
            refine lv_iload hx hb dX9_ask_223 (lv_at hl 0 rfl) ?_
            refine mt_41 (f := f1) hx hb hK hP hD hS ((6 * (c 42)) + i) rfl (by omega) rfl dX9_ask_225 (fun H locs hP hD hS => ?_)
            refine lv_aload_n hx hb dX9_ask_226 rfl (lv_at hl 1 rfl) ?_
            refine mg_19 hx hb hts hown hK hP dX9_ask_227 ?_
            refine lv_iload hx hb dX9_ask_230 (lv_at hl 7 rfl) ?_
            refine lv_dup2_11 hx hb dX9_ask_232 rfl rfl ?_
            refine ml_19 (x := f9 i) hx hb hK hP i rfl (by omega) rfl dX9_ask_233 ?_
            refine lv_iload hx hb dX9_ask_234 (lv_at hl 0 rfl) ?_
            refine lv_isub hx hb dX9_ask_236 ?_
            refine mt_19 (f := f9) hx hb hK hP hD hS i rfl (by omega) rfl dX9_ask_237 (fun H locs hP hD hS => ?_)
            refine lv_iload hx hb dX9_ask_238 (lv_at hl 6 rfl) ?_
            refine lv_iload hx hb dX9_ask_240 (lv_at hl 0 rfl) ?_
            refine lv_isub hx hb dX9_ask_242 ?_
            refine lv_istore (lv' := [(6, .int (w - (f9 i))), (8, .int (f9 i)), (0, .ref h), (1, .int x), (2, .int y), (3, .int (nI (c 2))), (5, .int (nI (c 42))), (7, .int (nI i))]) hx hb dX9_ask_243 hl (by decide) rfl (fun ls hl => ?_)
            refine lv_iinc (v := nI (i + 1)) (lv' := [(7, .int (nI (i + 1))), (6, .int (w - (f9 i))), (8, .int (f9 i)), (0, .ref h), (1, .int x), (2, .int y), (3, .int (nI (c 2))), (5, .int (nI (c 42)))]) hx hb dX9_ask_245 hl (k := 7) rfl (nI_1 _) (by decide) rfl (fun ls hl => ?_)
            refine lv_goto (tgt := 154) hx hb dX9_ask_248 (by decide) ?_
            exact ih (i + 1) (w - (f9 i)) (upd f1 ((6 * (c 42)) + i) (f9 i)) (upd f9 i ((f9 i) - (f9 i))) H locs (by omega) (by rw [← he]; simp only [lp, askStep, if_neg c179, if_pos c194]) hP hD hS ls (lv_sub hl [3, 4, 5, 6, 7, 1, 0] rfl)
          · refine lv_iload hx hb dX9_ask_197 (lv_at hl 5 rfl) ?_
            refine lv_goto (tgt := 209) hx hb dX9_ask_199 (by decide) ?_
            refine lv_istore (lv' := [(8, .int w), (0, .ref h), (1, .int x), (2, .int y), (3, .int (nI (c 2))), (5, .int (nI (c 42))), (6, .int w), (7, .int (nI i))]) hx hb dX9_ask_209 hl (by decide) rfl (fun ls hl => ?_)
            refine lv_aload_n hx hb dX9_ask_211 rfl (lv_at hl 1 rfl) ?_
            refine mg_41 hx hb hts hown hK hP dX9_ask_212 ?_
            refine lv_bipush (v := 6) hx hb dX9_ask_215 (by decide) ?_
            refine lv_iload hx hb dX9_ask_217 (lv_at hl 5 rfl) ?_
            refine lv_imul hx hb dX9_ask_219 ?_
            refine rw_topi (y := nI (6 * (c 42))) (pk_mul _ _) ?_
            refine lv_iload hx hb dX9_ask_220 (lv_at hl 7 rfl) ?_
            refine lv_iadd hx hb dX9_ask_222 ?_
            refine rw_topi (y := nI ((6 * (c 42)) + i)) (nI_add _ _) ?_
            refine lv_iload hx hb dX9_ask_223 (lv_at hl 0 rfl) ?_
            refine mt_41 (f := f1) hx hb hK hP hD hS ((6 * (c 42)) + i) rfl (by omega) rfl dX9_ask_225 (fun H locs hP hD hS => ?_)
            refine lv_aload_n hx hb dX9_ask_226 rfl (lv_at hl 1 rfl) ?_
            refine mg_19 hx hb hts hown hK hP dX9_ask_227 ?_
            refine lv_iload hx hb dX9_ask_230 (lv_at hl 7 rfl) ?_
            refine lv_dup2_11 hx hb dX9_ask_232 rfl rfl ?_
            refine ml_19 (x := f9 i) hx hb hK hP i rfl (by omega) rfl dX9_ask_233 ?_
            refine lv_iload hx hb dX9_ask_234 (lv_at hl 0 rfl) ?_
            refine lv_isub hx hb dX9_ask_236 ?_
            refine mt_19 (f := f9) hx hb hK hP hD hS i rfl (by omega) rfl dX9_ask_237 (fun H locs hP hD hS => ?_)
            refine lv_iload hx hb dX9_ask_238 (lv_at hl 6 rfl) ?_
            refine lv_iload hx hb dX9_ask_240 (lv_at hl 0 rfl) ?_
            refine lv_isub hx hb dX9_ask_242 ?_
            refine lv_istore (lv' := [(6, .int (w - w)), (8, .int w), (0, .ref h), (1, .int x), (2, .int y), (3, .int (nI (c 2))), (5, .int (nI (c 42))), (7, .int (nI i))]) hx hb dX9_ask_243 hl (by decide) rfl (fun ls hl => ?_)
            refine lv_iinc (v := nI (i + 1)) (lv' := [(7, .int (nI (i + 1))), (6, .int (w - w)), (8, .int w), (0, .ref h), (1, .int x), (2, .int y), (3, .int (nI (c 2))), (5, .int (nI (c 42)))]) hx hb dX9_ask_245 hl (k := 7) rfl (nI_1 _) (by decide) rfl (fun ls hl => ?_)
            refine lv_goto (tgt := 154) hx hb dX9_ask_248 (by decide) ?_
            exact ih (i + 1) (w - w) (upd f1 ((6 * (c 42)) + i) w) (upd f9 i ((f9 i) - w)) H locs (by omega) (by rw [← he]; simp only [lp, askStep, if_neg c179, if_neg c194]) hP hD hS ls (lv_sub hl [3, 4, 5, 6, 7, 1, 0] rfl)
        · refine lv_goto (tgt := 245) hx hb dX9_ask_182 (by decide) ?_
          refine lv_iinc (v := nI (i + 1)) (lv' := [(7, .int (nI (i + 1))), (0, .ref h), (1, .int x), (2, .int y), (3, .int (nI (c 2))), (5, .int (nI (c 42))), (6, .int w)]) hx hb dX9_ask_245 hl (k := 6) rfl (nI_1 _) (by decide) rfl (fun ls hl => ?_)
          refine lv_goto (tgt := 154) hx hb dX9_ask_248 (by decide) ?_
          exact ih (i + 1) w f1 f9 H locs (by omega) (by rw [← he]; simp only [lp, askStep, if_pos c179]) hP hD hS ls (lv_sub hl [1, 2, 3, 4, 5, 6, 0] rfl)
    have L6 : ∀ (r i : Nat) (f : Nat → Int32) (H : Heap) (locs : List Loc), i + r = c 2 → lp (fun i f => upd f (3 * c 42 + i) (a 1 i)) r i f = askSur (c 42) (c 2) (a 1) (a 40) → va_P D vwCl (Mw h q k (up c 2 0) (up v 0 0) nm (up (up (up (up (up (up (up (up (up a 47 (whyFar x y (c 2) sn (up c 2 0, up v 0 0, nm, a))) 26 (upd (a 26) (c 42) x)) 27 (upd (a 27) (c 42) y)) 28 (upd (a 28) (c 42) (nI (c 23)))) 29 (upd (a 29) (c 42) (a 3 1))) 30 (upd (a 30) (c 42) (a 3 4))) 31 (upd (a 31) (c 42) (a 3 5))) 39 (upd (a 39) (c 42) (nI (c 2)))) 40 f)) H → va_D A (Mw h q k (up c 2 0) (up v 0 0) nm (up (up (up (up (up (up (up (up (up a 47 (whyFar x y (c 2) sn (up c 2 0, up v 0 0, nm, a))) 26 (upd (a 26) (c 42) x)) 27 (upd (a 27) (c 42) y)) 28 (upd (a 28) (c 42) (nI (c 23)))) 29 (upd (a 29) (c 42) (a 3 1))) 30 (upd (a 30) (c 42) (a 3 4))) 31 (upd (a 31) (c 42) (a 3 5))) 39 (upd (a 39) (c 42) (nI (c 2)))) 40 f)) → va_S A s.heap H locs → ∀ (ls : Array Slot), lv_has ls 9 [(0, .ref h), (1, .int x), (2, .int y), (3, .int (nI (c 2))), (5, .int (nI (c 42))), (6, .int (nI i))] → W p l e (rmd 3 0 0) s m args below meth c_ H locs 0 0 Q (F0 m 117 ls []) := by
      intro r
      induction r with
      | zero =>
        intro i f H locs hi he hP hD hS ls hl
        refine lv_iload hx hb dX9_ask_117 (lv_at hl 5 rfl) ?_
        refine lv_iload_n hx hb dX9_ask_119 rfl (lv_at hl 3 rfl) ?_
        refine lv_icmp_ge (tgt := 148) hx hb dX9_ask_120 (by decide) (fun c120 => ?_) (fun c120 => absurd (nI_le (by omega) (by omega)) c120)
        refine lv_iload_n hx hb dX9_ask_148 rfl (lv_at hl 2 rfl) ?_
        refine lv_istore (lv' := [(6, .int y), (0, .ref h), (1, .int x), (2, .int y), (3, .int (nI (c 2))), (5, .int (nI (c 42)))]) hx hb dX9_ask_149 hl (by decide) rfl (fun ls hl => ?_)
        refine lv_iconst (v := 1) hx hb dX9_ask_151 (by decide) ?_
        refine lv_istore (lv' := [(7, .int 1), (6, .int y), (0, .ref h), (1, .int x), (2, .int y), (3, .int (nI (c 2))), (5, .int (nI (c 42)))]) hx hb dX9_ask_152 hl (by decide) rfl (fun ls hl => ?_)
        rw [show f = askSur (c 42) (c 2) (a 1) (a 40) from he] at hP hD
        exact L7 (c 22 - 1) 1 y (a 41) (a 19) H locs (by omega) rfl hP hD hS ls (lv_sub hl [2, 3, 4, 5, 6, 1, 0] rfl)
      | succ r ih =>
        intro i f H locs hi he hP hD hS ls hl
        refine lv_iload hx hb dX9_ask_117 (lv_at hl 5 rfl) ?_
        refine lv_iload_n hx hb dX9_ask_119 rfl (lv_at hl 3 rfl) ?_
        refine lv_icmp_ge (tgt := 148) hx hb dX9_ask_120 (by decide) (fun c120 => absurd c120 (nI_ge (by omega) (by omega))) (fun c120 => ?_)
        refine lv_aload_n hx hb dX9_ask_123 rfl (lv_at hl 0 rfl) ?_
        refine mg_40 hx hb hts hown hK hP dX9_ask_124 ?_
        refine lv_iconst (v := 3) hx hb dX9_ask_127 (by decide) ?_
        refine lv_iload hx hb dX9_ask_128 (lv_at hl 4 rfl) ?_
        refine lv_imul hx hb dX9_ask_130 ?_
        refine rw_topi (y := nI (3 * (c 42))) (pk_mul _ _) ?_
        refine lv_iload hx hb dX9_ask_131 (lv_at hl 5 rfl) ?_
        refine lv_iadd hx hb dX9_ask_133 ?_
        refine rw_topi (y := nI ((3 * (c 42)) + i)) (nI_add _ _) ?_
        refine lv_aload_n hx hb dX9_ask_134 rfl (lv_at hl 0 rfl) ?_
        refine mg_1 hx hb hts hown hK hP dX9_ask_135 ?_
        refine lv_iload hx hb dX9_ask_138 (lv_at hl 5 rfl) ?_
        refine ml_1 (x := (a 1) i) hx hb hK hP i rfl (by omega) rfl dX9_ask_140 ?_
        refine mt_40 (f := f) hx hb hK hP hD hS ((3 * (c 42)) + i) rfl (by omega) rfl dX9_ask_141 (fun H locs hP hD hS => ?_)
        rw [up_up] at hP hD
        refine lv_iinc (v := nI (i + 1)) (lv' := [(6, .int (nI (i + 1))), (0, .ref h), (1, .int x), (2, .int y), (3, .int (nI (c 2))), (5, .int (nI (c 42)))]) hx hb dX9_ask_142 hl (k := 5) rfl (nI_1 _) (by decide) rfl (fun ls hl => ?_)
        refine lv_goto (tgt := 117) hx hb dX9_ask_145 (by decide) ?_
        exact ih (i + 1) (upd f ((3 * (c 42)) + i) ((a 1) i)) H locs (by omega) (by rw [← he]; rfl) hP hD hS ls (lv_sub hl [1, 2, 3, 4, 5, 0] rfl)
    refine lv_iconst (v := 0) hx hb dX9_ask_114 (by decide) ?_
    refine lv_istore (lv' := [(6, .int 0), (5, .int (nI (c 42))), (4, .int ((mWhy x y (c 2) sn (up c 2 0, up v 0 0, nm, a)).1)), (3, .int (nI (c 2))), (0, .ref h), (1, .int x), (2, .int y)]) hx hb dX9_ask_115 hl (by decide) rfl (fun ls hl => ?_)
    exact L6 (c 2) 0 (a 40) H locs (by omega) (rfl) hP hD hS ls (lv_sub hl [4, 5, 6, 3, 1, 0] rfl)
  · refine lv_iconst (v := (-1)) hx hb dX9_ask_29 (by decide) ?_
    refine lv_iload hx hb dX9_ask_30 (lv_at hl 0 rfl) ?_
    refine lv_isub hx hb dX9_ask_32 ?_
    exact fs_i hx hb hr hlocks hq ((-1) - ((mWhy x y (c 2) sn (up c 2 0, up v 0 0, nm, a)).1), (up c 2 0, up v 0 0, nm, up a 47 (whyFar x y (c 2) sn (up c 2 0, up v 0 0, nm, a)))) (by rw [mAsk, if_neg (show ¬ ((mWhy x y (c 2) sn (mAsk0 (c, v, nm, a))).1 ≤ 0) from c26)]; rfl) hP hD hS dX9_ask_33 rfl
