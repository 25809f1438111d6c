theorem ntf {b : Bool} (h : b = true) : ¬ (b = false) := by rw [h]; decide
set_option maxHeartbeats 4000000 in
set_option maxRecDepth 100000 in
theorem c_X8_isTag (l : Launch) (D : va_G) (k : Nat → ClassId) (x : Int32) : Ro l yX8_isTag cX8_isTag 1 (some .boolean) 0 D (TY k) G0 [.int x] ([]) (some (.int (bI (isIn x 8)))) := by
  refine ro_body (by decide +kernel) (Nat.le_of_ble_eq_true rfl) ?_
  intro p e s m args below meth c_ Q hx hb hml hown hts hK hP hS hG hr hq hlocks ls hl
  replace hl : lv_has ls 1 [(0, .int x)] := hl
  change s.vm.findClass RX8 = some m.cls at hown
  refine lv_iload_n hx hb dX8_isTag_0 rfl (lv_at hl 0 rfl) ?_
  refine lv_if_lt (tgt := 14) hx hb dX8_isTag_1 (by decide) (fun c1 => ?_) (fun c1 => ?_)
  · refine lv_iconst (v := 0) hx hb dX8_isTag_14 (by decide) ?_
    exact ro_z hx hb hr hlocks hq (rfl) dX8_isTag_15 (by rw [isIn]; simp [bI, show nI 8 = 8 from rfl, c1])
  · refine lv_iload_n hx hb dX8_isTag_4 rfl (lv_at hl 0 rfl) ?_
    refine lv_bipush (v := 8) hx hb dX8_isTag_5 (by decide) ?_
    refine lv_icmp_ge (tgt := 14) hx hb dX8_isTag_7 (by decide) (fun c7 => ?_) (fun c7 => ?_)
    · refine lv_iconst (v := 0) hx hb dX8_isTag_14 (by decide) ?_
      exact ro_z hx hb hr hlocks hq (rfl) dX8_isTag_15 (by rw [isIn]; simp [bI, show nI 8 = 8 from rfl, c1, c7])
    · refine lv_iconst (v := 1) hx hb dX8_isTag_10 (by decide) ?_
      refine lv_goto (tgt := 15) hx hb dX8_isTag_11 (by decide) ?_
      exact ro_z hx hb hr hlocks hq (rfl) dX8_isTag_15 (by rw [isIn]; simp [bI, show nI 8 = 8 from rfl, c1, c7])
set_option maxHeartbeats 4000000 in
set_option maxRecDepth 100000 in
theorem c_X8_tag (l : Launch) (D : va_G) (k : Nat → ClassId) (dz : Nat) (q : Nat → Nat → Nat) (np wk : Nat) (ft fV : Nat → Int32) (fm : Int32) (st be : Nat) (fk : Int32) (rd mt : Nat → Int32) (nT : Nat) (fT : Nat → Int32) (nf : Nat) (g : Int32) (a : Nat → Nat → Int32) (n : Nat) (gt : Nat → Int64) (gn : Nat → Nat) (gr : Nat → Nat → Nat → Int32) (ga : Nat → Nat → Int32) (lost : Int32) (mm : Nat) (gc : Nat → Nat → Int32) (gl : Nat → Nat) (d1 d2 : Int32) (x y z : Int32) (hp : np ≤ 40) (hw : wk ≤ 400) (hT : nT ≤ 320) (hf : nf ≤ 6) (hf1 : 1 ≤ nf) (hn : n ≤ 100) (hm : mm ≤ 600) : Fs (S := Int32 × (CSt)) l yX8_tag cX8_tag 5 (some .boolean) 1 0 0 D (TY k) G0 [.ref (q 6 0), .int x, .int y, .int z] (bX k dz q d1 d2 ((np, wk, ft), fV, (fm, st, be, fk, rd, mt), (nT, fT), (nf, g, a), (n, gt, gn, gr, ga, lost, mm, gc, gl))) (fun u => some (.int u.1)) (fun u => u = xTag x y z ((np, wk, ft), fV, (fm, st, be, fk, rd, mt), (nT, fT), (nf, g, a), (n, gt, gn, gr, ga, lost, mm, gc, gl))) (fun u => bX k dz q d1 d2 u.2) := by
  refine fs_body (by decide +kernel) (Nat.le_of_ble_eq_true rfl) ?_
  intro p e s m args below meth c_ Q A hx hb hml hown hts hK hP hD hS hA hG hin hr hq hlocks ls hl
  replace hl : lv_has ls 5 [(0, .ref (q 6 0)), (1, .int x), (2, .int y), (3, .int z)] := hl
  change s.vm.findClass RX8 = some m.cls at hown
  replace hP : va_P D vwCl ([(q 6 0, .inr (8, [.ref (q 7 0), .ref (q 8 0), .ref (q 9 0), .ref (q 10 0), .ref (q 5 0), .ref (q 6 1), .int (nI np), .int (nI wk)])), (q 6 1, .inl (k 0, 40, .inl ft)), (q 9 0, .inr (6, [.ref (q 9 1)])), (q 9 1, .inl (k 0, 9, .inl fV)), (q 8 0, .inr (5, [.ref (q 8 1), .ref (q 8 2), .int fm, .int (nI st), .int (nI be), .int fk])), (q 8 1, .inl (k 0, 9, .inl rd)), (q 8 2, .inl (k 1, 9, .inl mt)), (q 7 0, .inr (7, [.ref (q 7 1), .int (nI nT)])), (q 7 1, .inl (k 0, 320, .inl fT)), (q 10 0, .inr (2, [.ref (q 10 1), .ref (q 10 2), .ref (q 10 3), .ref (q 10 4), .int (nI nf), .int g])), (q 10 1, .inl (k 0, 6, .inl (a 1))), (q 10 2, .inl (k 0, 6, .inl (a 2))), (q 10 3, .inl (k 0, 6, .inl (a 3))), (q 10 4, .inl (k 0, 2400, .inl (a 4)))] ++ bG k dz q n gt gn gr ga lost mm gc gl d1 d2) s.heap := hP
  refine lv_aload_n hx hb dX8_tag_0 rfl (lv_at hl 0 rfl) ?_
  refine lv_iload_n hx hb dX8_tag_1 rfl (lv_at hl 1 rfl) ?_
  refine ro_V (rest := []) (st1 := [.int (bI (isIn x np))]) (As := [.int x]) ⟨hx, hb, hml, hown, hts⟩ Gd0 trivial hS hK (c_X8_isPerson l D k dz q np wk ft fV fm st be fk rd mt nT fT nf g a n gt gn gr ga lost mm gc gl d1 d2 x) mi_X8_isPerson wd_2_101 wp_1_7 wd_2_99 ⟨Nat.le_of_ble_eq_true rfl, Nat.le_of_ble_eq_true rfl⟩ (hP) 0 rfl rfl rfl hl.1 rfl (Nat.le_of_ble_eq_true rfl) rfl ⟨Nat.le_of_ble_eq_true rfl, Nat.le_of_ble_eq_true rfl⟩ dX8_tag_2 ?_
  refine lv_if_eq (tgt := 15) hx hb dX8_tag_5 (by decide) (fun c5 => ?_) (fun c5 => ?_)
  · replace c5 : (isIn x np) = false := bI_0.mp c5
    refine lv_iconst (v := 0) hx hb dX8_tag_15 (by decide) ?_
    exact fs_z hx hb hr hlocks hq (0, ((np, wk, ft), fV, (fm, st, be, fk, rd, mt), (nT, fT), (nf, g, a), (n, gt, gn, gr, ga, lost, mm, gc, gl))) (by rw [xTag, if_pos c5]; try rfl) hP hD hS (rfl) dX8_tag_16 rfl
  · replace c5 : (isIn x np) = true := bI_n.mp c5
    refine lv_iload_n hx hb dX8_tag_8 rfl (lv_at hl 2 rfl) ?_
    refine ro_S (rest := []) (st1 := [.int (bI (isIn y 8))]) (As := [.int y]) ⟨hx, hb, hml, hown, hts⟩ Gd0 trivial hS hK (c_X8_isTag l D k y) mi_X8_isTag wd_2_104 wd_2_103 ⟨Nat.le_of_ble_eq_true rfl, Nat.le_of_ble_eq_true rfl⟩ (fun k9 q9 h9 => by simp at h9) rfl hl.1 rfl (Nat.le_of_ble_eq_true rfl) rfl ⟨Nat.le_of_ble_eq_true rfl, Nat.le_of_ble_eq_true rfl⟩ dX8_tag_9 ?_
    refine lv_if_ne (tgt := 17) hx hb dX8_tag_12 (by decide) (fun c12 => ?_) (fun c12 => ?_)
    · replace c12 : (isIn y 8) = true := bI_n.mp c12
      refine lv_aload_n hx hb dX8_tag_17 rfl (lv_at hl 0 rfl) ?_
      refine va_get (D := D) (ci := 8) (v := .ref (q 6 1)) (C := RX8) (T := TX8) (N := 8) hx hb hts inX8 hown hK hP 0 rfl rfl 5 (by decide) (hts _ wd_1_161) (fun _ h9 => h9) rfl dX8_tag_18 ?_
      refine lv_iload_n hx hb dX8_tag_21 rfl (lv_at hl 1 rfl) ?_
      refine ra_iald (n := 40) (f := ft) hx hb hK hP 1 0 rfl rfl x.toNatClampNeg ((isIn_spec c5 (by omega)).1) (by have := (isIn_spec c5 (by omega)).2; omega) (by decide) dX8_tag_22 ?_
      refine lv_iload_n hx hb dX8_tag_23 rfl (lv_at hl 2 rfl) ?_
      refine lv_ishr hx hb dX8_tag_24 ?_
      refine lv_iconst (v := 1) hx hb dX8_tag_25 (by decide) ?_
      refine lv_iand hx hb dX8_tag_26 ?_
      refine lv_if_eq (tgt := 34) hx hb dX8_tag_27 (by decide) (fun c27 => ?_) (fun c27 => ?_)
      · refine lv_iconst (v := 0) hx hb dX8_tag_34 (by decide) ?_
        refine lv_istore (lv' := [(4, .int 0), (0, .ref (q 6 0)), (1, .int x), (2, .int y), (3, .int z)]) hx hb dX8_tag_35 hl (by decide) rfl (fun ls hl => ?_)
        refine lv_iload hx hb dX8_tag_37 (lv_at hl 0 rfl) ?_
        refine lv_iload_n hx hb dX8_tag_39 rfl (lv_at hl 4 rfl) ?_
        refine lv_icmp_ne (tgt := 45) hx hb dX8_tag_40 (by decide) (fun c40 => ?_) (fun c40 => ?_)
        · refine lv_aload_n hx hb dX8_tag_45 rfl (lv_at hl 1 rfl) ?_
          refine va_get (D := D) (ci := 8) (v := .ref (q 6 1)) (C := RX8) (T := TX8) (N := 8) hx hb hts inX8 hown hK hP 0 rfl rfl 5 (by decide) (hts _ wd_1_161) (fun _ h9 => h9) rfl dX8_tag_46 ?_
          refine lv_iload_n hx hb dX8_tag_49 rfl (lv_at hl 2 rfl) ?_
          refine lv_dup2_11 hx hb dX8_tag_50 rfl rfl ?_
          refine ra_iald (n := 40) (f := ft) hx hb hK hP 1 0 rfl rfl x.toNatClampNeg ((isIn_spec c5 (by omega)).1) (by have := (isIn_spec c5 (by omega)).2; omega) (by decide) dX8_tag_51 ?_
          refine lv_iconst (v := 1) hx hb dX8_tag_52 (by decide) ?_
          refine lv_iload_n hx hb dX8_tag_53 rfl (lv_at hl 3 rfl) ?_
          refine lv_ishl hx hb dX8_tag_54 ?_
          refine lv_ixor hx hb dX8_tag_55 ?_
          refine ra_iast (n := 40) (f := ft) hx hb hK hP hD hS 1 0 rfl rfl x.toNatClampNeg ((isIn_spec c5 (by omega)).1) (by have := (isIn_spec c5 (by omega)).2; omega) (by decide) dX8_tag_56 (fun H locs hP hD hS => ?_)
          replace hP : va_P D vwCl ([(q 6 0, .inr (8, [.ref (q 7 0), .ref (q 8 0), .ref (q 9 0), .ref (q 10 0), .ref (q 5 0), .ref (q 6 1), .int (nI np), .int (nI wk)])), (q 6 1, .inl (k 0, 40, .inl (upd ft x.toNatClampNeg ((ft x.toNatClampNeg) ^^^ (1 <<< (y &&& 31)))))), (q 9 0, .inr (6, [.ref (q 9 1)])), (q 9 1, .inl (k 0, 9, .inl fV)), (q 8 0, .inr (5, [.ref (q 8 1), .ref (q 8 2), .int fm, .int (nI st), .int (nI be), .int fk])), (q 8 1, .inl (k 0, 9, .inl rd)), (q 8 2, .inl (k 1, 9, .inl mt)), (q 7 0, .inr (7, [.ref (q 7 1), .int (nI nT)])), (q 7 1, .inl (k 0, 320, .inl fT)), (q 10 0, .inr (2, [.ref (q 10 1), .ref (q 10 2), .ref (q 10 3), .ref (q 10 4), .int (nI nf), .int g])), (q 10 1, .inl (k 0, 6, .inl (a 1))), (q 10 2, .inl (k 0, 6, .inl (a 2))), (q 10 3, .inl (k 0, 6, .inl (a 3))), (q 10 4, .inl (k 0, 2400, .inl (a 4)))] ++ bG k dz q n gt gn gr ga lost mm gc gl d1 d2) H := hP
          replace hD : va_D A ([(q 6 0, .inr (8, [.ref (q 7 0), .ref (q 8 0), .ref (q 9 0), .ref (q 10 0), .ref (q 5 0), .ref (q 6 1), .int (nI np), .int (nI wk)])), (q 6 1, .inl (k 0, 40, .inl (upd ft x.toNatClampNeg ((ft x.toNatClampNeg) ^^^ (1 <<< (y &&& 31)))))), (q 9 0, .inr (6, [.ref (q 9 1)])), (q 9 1, .inl (k 0, 9, .inl fV)), (q 8 0, .inr (5, [.ref (q 8 1), .ref (q 8 2), .int fm, .int (nI st), .int (nI be), .int fk])), (q 8 1, .inl (k 0, 9, .inl rd)), (q 8 2, .inl (k 1, 9, .inl mt)), (q 7 0, .inr (7, [.ref (q 7 1), .int (nI nT)])), (q 7 1, .inl (k 0, 320, .inl fT)), (q 10 0, .inr (2, [.ref (q 10 1), .ref (q 10 2), .ref (q 10 3), .ref (q 10 4), .int (nI nf), .int g])), (q 10 1, .inl (k 0, 6, .inl (a 1))), (q 10 2, .inl (k 0, 6, .inl (a 2))), (q 10 3, .inl (k 0, 6, .inl (a 3))), (q 10 4, .inl (k 0, 2400, .inl (a 4)))] ++ bG k dz q n gt gn gr ga lost mm gc gl d1 d2) := hD
          refine lv_iconst (v := 1) hx hb dX8_tag_57 (by decide) ?_
          exact fs_z hx hb hr hlocks hq (1, ((np, wk, upd ft x.toNatClampNeg ((ft x.toNatClampNeg) ^^^ (1 <<< (y &&& 31)))), fV, (fm, st, be, fk, rd, mt), (nT, fT), (nf, g, a), (n, gt, gn, gr, ga, lost, mm, gc, gl))) (by rw [xTag, if_neg (ntf c5), if_neg (ntf c12), if_pos c27, if_neg c40]; try rfl) hP hD hS (rfl) dX8_tag_58 rfl
        · refine lv_iconst (v := 0) hx hb dX8_tag_43 (by decide) ?_
          exact fs_z hx hb hr hlocks hq (0, ((np, wk, ft), fV, (fm, st, be, fk, rd, mt), (nT, fT), (nf, g, a), (n, gt, gn, gr, ga, lost, mm, gc, gl))) (by rw [xTag, if_neg (ntf c5), if_neg (ntf c12), if_pos c27, if_pos c40]; try rfl) hP hD hS (rfl) dX8_tag_44 rfl
      · refine lv_iconst (v := 1) hx hb dX8_tag_30 (by decide) ?_
        refine lv_goto (tgt := 35) hx hb dX8_tag_31 (by decide) ?_
        refine lv_istore (lv' := [(4, .int 1), (0, .ref (q 6 0)), (1, .int x), (2, .int y), (3, .int z)]) hx hb dX8_tag_35 hl (by decide) rfl (fun ls hl => ?_)
        refine lv_iload hx hb dX8_tag_37 (lv_at hl 0 rfl) ?_
        refine lv_iload_n hx hb dX8_tag_39 rfl (lv_at hl 4 rfl) ?_
        refine lv_icmp_ne (tgt := 45) hx hb dX8_tag_40 (by decide) (fun c40 => ?_) (fun c40 => ?_)
        · refine lv_aload_n hx hb dX8_tag_45 rfl (lv_at hl 1 rfl) ?_
          refine va_get (D := D) (ci := 8) (v := .ref (q 6 1)) (C := RX8) (T := TX8) (N := 8) hx hb hts inX8 hown hK hP 0 rfl rfl 5 (by decide) (hts _ wd_1_161) (fun _ h9 => h9) rfl dX8_tag_46 ?_
          refine lv_iload_n hx hb dX8_tag_49 rfl (lv_at hl 2 rfl) ?_
          refine lv_dup2_11 hx hb dX8_tag_50 rfl rfl ?_
          refine ra_iald (n := 40) (f := ft) hx hb hK hP 1 0 rfl rfl x.toNatClampNeg ((isIn_spec c5 (by omega)).1) (by have := (isIn_spec c5 (by omega)).2; omega) (by decide) dX8_tag_51 ?_
          refine lv_iconst (v := 1) hx hb dX8_tag_52 (by decide) ?_
          refine lv_iload_n hx hb dX8_tag_53 rfl (lv_at hl 3 rfl) ?_
          refine lv_ishl hx hb dX8_tag_54 ?_
          refine lv_ixor hx hb dX8_tag_55 ?_
          refine ra_iast (n := 40) (f := ft) hx hb hK hP hD hS 1 0 rfl rfl x.toNatClampNeg ((isIn_spec c5 (by omega)).1) (by have := (isIn_spec c5 (by omega)).2; omega) (by decide) dX8_tag_56 (fun H locs hP hD hS => ?_)
          replace hP : va_P D vwCl ([(q 6 0, .inr (8, [.ref (q 7 0), .ref (q 8 0), .ref (q 9 0), .ref (q 10 0), .ref (q 5 0), .ref (q 6 1), .int (nI np), .int (nI wk)])), (q 6 1, .inl (k 0, 40, .inl (upd ft x.toNatClampNeg ((ft x.toNatClampNeg) ^^^ (1 <<< (y &&& 31)))))), (q 9 0, .inr (6, [.ref (q 9 1)])), (q 9 1, .inl (k 0, 9, .inl fV)), (q 8 0, .inr (5, [.ref (q 8 1), .ref (q 8 2), .int fm, .int (nI st), .int (nI be), .int fk])), (q 8 1, .inl (k 0, 9, .inl rd)), (q 8 2, .inl (k 1, 9, .inl mt)), (q 7 0, .inr (7, [.ref (q 7 1), .int (nI nT)])), (q 7 1, .inl (k 0, 320, .inl fT)), (q 10 0, .inr (2, [.ref (q 10 1), .ref (q 10 2), .ref (q 10 3), .ref (q 10 4), .int (nI nf), .int g])), (q 10 1, .inl (k 0, 6, .inl (a 1))), (q 10 2, .inl (k 0, 6, .inl (a 2))), (q 10 3, .inl (k 0, 6, .inl (a 3))), (q 10 4, .inl (k 0, 2400, .inl (a 4)))] ++ bG k dz q n gt gn gr ga lost mm gc gl d1 d2) H := hP
          replace hD : va_D A ([(q 6 0, .inr (8, [.ref (q 7 0), .ref (q 8 0), .ref (q 9 0), .ref (q 10 0), .ref (q 5 0), .ref (q 6 1), .int (nI np), .int (nI wk)])), (q 6 1, .inl (k 0, 40, .inl (upd ft x.toNatClampNeg ((ft x.toNatClampNeg) ^^^ (1 <<< (y &&& 31)))))), (q 9 0, .inr (6, [.ref (q 9 1)])), (q 9 1, .inl (k 0, 9, .inl fV)), (q 8 0, .inr (5, [.ref (q 8 1), .ref (q 8 2), .int fm, .int (nI st), .int (nI be), .int fk])), (q 8 1, .inl (k 0, 9, .inl rd)), (q 8 2, .inl (k 1, 9, .inl mt)), (q 7 0, .inr (7, [.ref (q 7 1), .int (nI nT)])), (q 7 1, .inl (k 0, 320, .inl fT)), (q 10 0, .inr (2, [.ref (q 10 1), .ref (q 10 2), .ref (q 10 3), .ref (q 10 4), .int (nI nf), .int g])), (q 10 1, .inl (k 0, 6, .inl (a 1))), (q 10 2, .inl (k 0, 6, .inl (a 2))), (q 10 3, .inl (k 0, 6, .inl (a 3))), (q 10 4, .inl (k 0, 2400, .inl (a 4)))] ++ bG k dz q n gt gn gr ga lost mm gc gl d1 d2) := hD
          refine lv_iconst (v := 1) hx hb dX8_tag_57 (by decide) ?_
          exact fs_z hx hb hr hlocks hq (1, ((np, wk, upd ft x.toNatClampNeg ((ft x.toNatClampNeg) ^^^ (1 <<< (y &&& 31)))), fV, (fm, st, be, fk, rd, mt), (nT, fT), (nf, g, a), (n, gt, gn, gr, ga, lost, mm, gc, gl))) (by rw [xTag, if_neg (ntf c5), if_neg (ntf c12), if_neg c27, if_neg c40]; try rfl) hP hD hS (rfl) dX8_tag_58 rfl
        · refine lv_iconst (v := 0) hx hb dX8_tag_43 (by decide) ?_
          exact fs_z hx hb hr hlocks hq (0, ((np, wk, ft), fV, (fm, st, be, fk, rd, mt), (nT, fT), (nf, g, a), (n, gt, gn, gr, ga, lost, mm, gc, gl))) (by rw [xTag, if_neg (ntf c5), if_neg (ntf c12), if_neg c27, if_pos c40]; try rfl) hP hD hS (rfl) dX8_tag_44 rfl
    · replace c12 : (isIn y 8) = false := bI_0.mp c12
      refine lv_iconst (v := 0) hx hb dX8_tag_15 (by decide) ?_
      exact fs_z hx hb hr hlocks hq (0, ((np, wk, ft), fV, (fm, st, be, fk, rd, mt), (nT, fT), (nf, g, a), (n, gt, gn, gr, ga, lost, mm, gc, gl))) (by rw [xTag, if_neg (ntf c5), if_pos c12]; try rfl) hP hD hS (rfl) dX8_tag_16 rfl
set_option maxHeartbeats 4000000 in
set_option maxRecDepth 100000 in
theorem c_X8_fund (l : Launch) (D : va_G) (k : Nat → ClassId) (dz : Nat) (q : Nat → Nat → Nat) (np wk : Nat) (ft fV : Nat → Int32) (fm : Int32) (st be : Nat) (fk : Int32) (rd mt : Nat → Int32) (nT : Nat) (fT : Nat → Int32) (nf : Nat) (g : Int32) (a : Nat → Nat → Int32) (n : Nat) (gt : Nat → Int64) (gn : Nat → Nat) (gr : Nat → Nat → Nat → Int32) (ga : Nat → Nat → Int32) (lost : Int32) (mm : Nat) (gc : Nat → Nat → Int32) (gl : Nat → Nat) (d1 d2 : Int32) (x y : Int32) (hp : np ≤ 40) (hw : wk ≤ 400) (hT : nT ≤ 320) (hf : nf ≤ 6) (hf1 : 1 ≤ nf) (hn : n ≤ 100) (hm : mm ≤ 600) : Fs (S := Int32 × (CSt)) l yX8_fund cX8_fund 3 (some .int) 1 0 0 D (TY k) G0 [.ref (q 6 0), .int x, .int y] (bX k dz q d1 d2 ((np, wk, ft), fV, (fm, st, be, fk, rd, mt), (nT, fT), (nf, g, a), (n, gt, gn, gr, ga, lost, mm, gc, gl))) (fun u => some (.int u.1)) (fun u => u = xFund x y ((np, wk, ft), fV, (fm, st, be, fk, rd, mt), (nT, fT), (nf, g, a), (n, gt, gn, gr, ga, lost, mm, gc, gl))) (fun u => bX k dz q d1 d2 u.2) := by
  refine fs_body (by decide +kernel) (Nat.le_of_ble_eq_true rfl) ?_
  intro p e s m args below meth c_ Q A hx hb hml hown hts hK hP hD hS hA hG hin hr hq hlocks ls hl
  replace hl : lv_has ls 3 [(0, .ref (q 6 0)), (1, .int x), (2, .int y)] := hl
  change s.vm.findClass RX8 = some m.cls at hown
  replace hP : va_P D vwCl ([(q 6 0, .inr (8, [.ref (q 7 0), .ref (q 8 0), .ref (q 9 0), .ref (q 10 0), .ref (q 5 0), .ref (q 6 1), .int (nI np), .int (nI wk)])), (q 6 1, .inl (k 0, 40, .inl ft)), (q 9 0, .inr (6, [.ref (q 9 1)])), (q 9 1, .inl (k 0, 9, .inl fV)), (q 8 0, .inr (5, [.ref (q 8 1), .ref (q 8 2), .int fm, .int (nI st), .int (nI be), .int fk])), (q 8 1, .inl (k 0, 9, .inl rd)), (q 8 2, .inl (k 1, 9, .inl mt)), (q 7 0, .inr (7, [.ref (q 7 1), .int (nI nT)])), (q 7 1, .inl (k 0, 320, .inl fT)), (q 10 0, .inr (2, [.ref (q 10 1), .ref (q 10 2), .ref (q 10 3), .ref (q 10 4), .int (nI nf), .int g])), (q 10 1, .inl (k 0, 6, .inl (a 1))), (q 10 2, .inl (k 0, 6, .inl (a 2))), (q 10 3, .inl (k 0, 6, .inl (a 3))), (q 10 4, .inl (k 0, 2400, .inl (a 4)))] ++ bG k dz q n gt gn gr ga lost mm gc gl d1 d2) s.heap := hP
  refine lv_iload_n hx hb dX8_fund_0 rfl (lv_at hl 1 rfl) ?_
  refine ro_S (rest := []) (st1 := [.int (bI (isIn x 8))]) (As := [.int x]) ⟨hx, hb, hml, hown, hts⟩ Gd0 trivial hS hK (c_X8_isTag l D k x) mi_X8_isTag wd_2_104 wd_2_103 ⟨Nat.le_of_ble_eq_true rfl, Nat.le_of_ble_eq_true rfl⟩ (fun k9 q9 h9 => by simp at h9) rfl hl.1 rfl (Nat.le_of_ble_eq_true rfl) rfl ⟨Nat.le_of_ble_eq_true rfl, Nat.le_of_ble_eq_true rfl⟩ dX8_fund_1 ?_
  refine lv_if_eq (tgt := 17) hx hb dX8_fund_4 (by decide) (fun c4 => ?_) (fun c4 => ?_)
  · replace c4 : (isIn x 8) = false := bI_0.mp c4
    refine lv_iconst (v := (-1)) hx hb dX8_fund_17 (by decide) ?_
    exact fs_i hx hb hr hlocks hq ((-1), ((np, wk, ft), fV, (fm, st, be, fk, rd, mt), (nT, fT), (nf, g, a), (n, gt, gn, gr, ga, lost, mm, gc, gl))) (by rw [xFund, if_pos c4]; try rfl) hP hD hS dX8_fund_18 rfl
  · replace c4 : (isIn x 8) = true := bI_n.mp c4
    refine lv_iload_n hx hb dX8_fund_7 rfl (lv_at hl 2 rfl) ?_
    refine lv_if_lt (tgt := 17) hx hb dX8_fund_8 (by decide) (fun c8 => ?_) (fun c8 => ?_)
    · refine lv_iconst (v := (-1)) hx hb dX8_fund_17 (by decide) ?_
      exact fs_i hx hb hr hlocks hq ((-1), ((np, wk, ft), fV, (fm, st, be, fk, rd, mt), (nT, fT), (nf, g, a), (n, gt, gn, gr, ga, lost, mm, gc, gl))) (by rw [xFund, if_neg (ntf c4), if_pos c8]; try rfl) hP hD hS dX8_fund_18 rfl
    · refine lv_iload_n hx hb dX8_fund_11 rfl (lv_at hl 2 rfl) ?_
      refine lv_ldc (v := 100000) hx hb hown (hts _ wd_2_110) dX8_fund_12 ?_
      refine lv_icmp_le (tgt := 19) hx hb dX8_fund_14 (by decide) (fun c14 => ?_) (fun c14 => ?_)
      · refine lv_aload_n hx hb dX8_fund_19 rfl (lv_at hl 0 rfl) ?_
        refine va_get (D := D) (ci := 8) (v := .ref (q 10 0)) (C := RX8) (T := TX8) (N := 8) hx hb hts inX8 hown hK hP 0 rfl rfl 3 (by decide) (hts _ wd_1_159) (fun _ h9 => h9) rfl dX8_fund_20 ?_
        refine lv_iload_n hx hb dX8_fund_23 rfl (lv_at hl 1 rfl) ?_
        refine lv_iload_n hx hb dX8_fund_24 rfl (lv_at hl 2 rfl) ?_
        refine lv_aload_n hx hb dX8_fund_25 rfl (lv_at hl 0 rfl) ?_
        refine va_get (D := D) (ci := 8) (v := .int (nI wk)) (C := RX8) (T := TX8) (N := 8) hx hb hts inX8 hown hK hP 0 rfl rfl 7 (by decide) (hts _ wd_1_163) (fun _ h9 => h9) rfl dX8_fund_26 ?_
        refine fs_Vf ([(q 6 0, .inr (8, [.ref (q 7 0), .ref (q 8 0), .ref (q 9 0), .ref (q 10 0), .ref (q 5 0), .ref (q 6 1), .int (nI np), .int (nI wk)])), (q 6 1, .inl (k 0, 40, .inl ft)), (q 9 0, .inr (6, [.ref (q 9 1)])), (q 9 1, .inl (k 0, 9, .inl fV)), (q 8 0, .inr (5, [.ref (q 8 1), .ref (q 8 2), .int fm, .int (nI st), .int (nI be), .int fk])), (q 8 1, .inl (k 0, 9, .inl rd)), (q 8 2, .inl (k 1, 9, .inl mt)), (q 7 0, .inr (7, [.ref (q 7 1), .int (nI nT)])), (q 7 1, .inl (k 0, 320, .inl fT))]) (bG k dz q n gt gn gr ga lost mm gc gl d1 d2) (rest := []) (As := [.int x, .int y, .int (nI wk)]) ⟨hx, hb, hml, hown, hts⟩ Gd0 trivial hS hA hK (hP) (hD) (c_X1_found l D k (q 10) nf g a x y (nI wk) (by omega)) mi_X1_found wd_2_112 wd_2_113 wd_2_111 ⟨Nat.le_of_ble_eq_true rfl, Nat.le_of_ble_eq_true rfl⟩ 0 rfl rfl rfl hl.1 rfl (Nat.le_of_ble_eq_true rfl) ⟨Nat.le_of_ble_eq_true rfl, Nat.le_of_ble_eq_true rfl⟩ dX8_fund_29 (fun u_1 H locs hu_2 hP hD hS => ?_)
        replace hP : va_P D vwCl ([(q 6 0, .inr (8, [.ref (q 7 0), .ref (q 8 0), .ref (q 9 0), .ref (q 10 0), .ref (q 5 0), .ref (q 6 1), .int (nI np), .int (nI wk)])), (q 6 1, .inl (k 0, 40, .inl ft)), (q 9 0, .inr (6, [.ref (q 9 1)])), (q 9 1, .inl (k 0, 9, .inl fV)), (q 8 0, .inr (5, [.ref (q 8 1), .ref (q 8 2), .int fm, .int (nI st), .int (nI be), .int fk])), (q 8 1, .inl (k 0, 9, .inl rd)), (q 8 2, .inl (k 1, 9, .inl mt)), (q 7 0, .inr (7, [.ref (q 7 1), .int (nI nT)])), (q 7 1, .inl (k 0, 320, .inl fT)), (q 10 0, .inr (2, [.ref (q 10 1), .ref (q 10 2), .ref (q 10 3), .ref (q 10 4), .int (nI (u_1.2.1)), .int u_1.2.2.1])), (q 10 1, .inl (k 0, 6, .inl (u_1.2.2.2 1))), (q 10 2, .inl (k 0, 6, .inl (u_1.2.2.2 2))), (q 10 3, .inl (k 0, 6, .inl (u_1.2.2.2 3))), (q 10 4, .inl (k 0, 2400, .inl (u_1.2.2.2 4)))] ++ bG k dz q n gt gn gr ga lost mm gc gl d1 d2) H := hP
        replace hD : va_D A ([(q 6 0, .inr (8, [.ref (q 7 0), .ref (q 8 0), .ref (q 9 0), .ref (q 10 0), .ref (q 5 0), .ref (q 6 1), .int (nI np), .int (nI wk)])), (q 6 1, .inl (k 0, 40, .inl ft)), (q 9 0, .inr (6, [.ref (q 9 1)])), (q 9 1, .inl (k 0, 9, .inl fV)), (q 8 0, .inr (5, [.ref (q 8 1), .ref (q 8 2), .int fm, .int (nI st), .int (nI be), .int fk])), (q 8 1, .inl (k 0, 9, .inl rd)), (q 8 2, .inl (k 1, 9, .inl mt)), (q 7 0, .inr (7, [.ref (q 7 1), .int (nI nT)])), (q 7 1, .inl (k 0, 320, .inl fT)), (q 10 0, .inr (2, [.ref (q 10 1), .ref (q 10 2), .ref (q 10 3), .ref (q 10 4), .int (nI (u_1.2.1)), .int u_1.2.2.1])), (q 10 1, .inl (k 0, 6, .inl (u_1.2.2.2 1))), (q 10 2, .inl (k 0, 6, .inl (u_1.2.2.2 2))), (q 10 3, .inl (k 0, 6, .inl (u_1.2.2.2 3))), (q 10 4, .inl (k 0, 2400, .inl (u_1.2.2.2 4)))] ++ bG k dz q n gt gn gr ga lost mm gc gl d1 d2) := hD
        refine W.eq (g2 := F0 m 32 ls [.int u_1.1]) rfl ?_
        exact fs_i hx hb hr hlocks hq (u_1.1, ((np, wk, ft), fV, (fm, st, be, fk, rd, mt), (nT, fT), (u_1.2.1, u_1.2.2.1, u_1.2.2.2), (n, gt, gn, gr, ga, lost, mm, gc, gl))) (by rw [xFund, if_neg (ntf c4), if_neg c8, if_pos c14, ← hu_2]; try rfl) hP hD hS dX8_fund_32 rfl
      · refine lv_iconst (v := (-1)) hx hb dX8_fund_17 (by decide) ?_
        exact fs_i hx hb hr hlocks hq ((-1), ((np, wk, ft), fV, (fm, st, be, fk, rd, mt), (nT, fT), (nf, g, a), (n, gt, gn, gr, ga, lost, mm, gc, gl))) (by rw [xFund, if_neg (ntf c4), if_neg c8, if_neg c14]; try rfl) hP hD hS dX8_fund_18 rfl
set_option maxHeartbeats 4000000 in
set_option maxRecDepth 100000 in
theorem c_X8_gift (l : Launch) (D : va_G) (k : Nat → ClassId) (dz : Nat) (q : Nat → Nat → Nat) (np wk : Nat) (ft fV : Nat → Int32) (fm : Int32) (st be : Nat) (fk : Int32) (rd mt : Nat → Int32) (nT : Nat) (fT : Nat → Int32) (nf : Nat) (g : Int32) (a : Nat → Nat → Int32) (n : Nat) (gt : Nat → Int64) (gn : Nat → Nat) (gr : Nat → Nat → Nat → Int32) (ga : Nat → Nat → Int32) (lost : Int32) (mm : Nat) (gc : Nat → Nat → Int32) (gl : Nat → Nat) (d1 d2 : Int32) (x y : Int32) (hp : np ≤ 40) (hw : wk ≤ 400) (hT : nT ≤ 320) (hf : nf ≤ 6) (hf1 : 1 ≤ nf) (hn : n ≤ 100) (hm : mm ≤ 600) : Fs (S := Int32 × (CSt)) l yX8_gift cX8_gift 3 (some .int) 1 0 0 D (TY k) G0 [.ref (q 6 0), .int x, .int y] (bX k dz q d1 d2 ((np, wk, ft), fV, (fm, st, be, fk, rd, mt), (nT, fT), (nf, g, a), (n, gt, gn, gr, ga, lost, mm, gc, gl))) (fun u => some (.int u.1)) (fun u => u = xGift x y ((np, wk, ft), fV, (fm, st, be, fk, rd, mt), (nT, fT), (nf, g, a), (n, gt, gn, gr, ga, lost, mm, gc, gl))) (fun u => bX k dz q d1 d2 u.2) := by
  refine fs_body (by decide +kernel) (Nat.le_of_ble_eq_true rfl) ?_
  intro p e s m args below meth c_ Q A hx hb hml hown hts hK hP hD hS hA hG hin hr hq hlocks ls hl
  replace hl : lv_has ls 3 [(0, .ref (q 6 0)), (1, .int x), (2, .int y)] := hl
  change s.vm.findClass RX8 = some m.cls at hown
  replace hP : va_P D vwCl ([(q 6 0, .inr (8, [.ref (q 7 0), .ref (q 8 0), .ref (q 9 0), .ref (q 10 0), .ref (q 5 0), .ref (q 6 1), .int (nI np), .int (nI wk)])), (q 6 1, .inl (k 0, 40, .inl ft)), (q 9 0, .inr (6, [.ref (q 9 1)])), (q 9 1, .inl (k 0, 9, .inl fV)), (q 8 0, .inr (5, [.ref (q 8 1), .ref (q 8 2), .int fm, .int (nI st), .int (nI be), .int fk])), (q 8 1, .inl (k 0, 9, .inl rd)), (q 8 2, .inl (k 1, 9, .inl mt)), (q 7 0, .inr (7, [.ref (q 7 1), .int (nI nT)])), (q 7 1, .inl (k 0, 320, .inl fT)), (q 10 0, .inr (2, [.ref (q 10 1), .ref (q 10 2), .ref (q 10 3), .ref (q 10 4), .int (nI nf), .int g])), (q 10 1, .inl (k 0, 6, .inl (a 1))), (q 10 2, .inl (k 0, 6, .inl (a 2))), (q 10 3, .inl (k 0, 6, .inl (a 3))), (q 10 4, .inl (k 0, 2400, .inl (a 4)))] ++ bG k dz q n gt gn gr ga lost mm gc gl d1 d2) s.heap := hP
  refine lv_aload_n hx hb dX8_gift_0 rfl (lv_at hl 0 rfl) ?_
  refine va_get (D := D) (ci := 8) (v := .ref (q 10 0)) (C := RX8) (T := TX8) (N := 8) hx hb hts inX8 hown hK hP 0 rfl rfl 3 (by decide) (hts _ wd_1_159) (fun _ h9 => h9) rfl dX8_gift_1 ?_
  refine lv_iload_n hx hb dX8_gift_4 rfl (lv_at hl 1 rfl) ?_
  refine ro_V (rest := []) (st1 := [.int (bI (isIn x nf))]) (As := [.int x]) ⟨hx, hb, hml, hown, hts⟩ Gd0 trivial hS hK (c_X1_has l D k (q 10) nf g a x) mi_X1_has wd_2_120 wd_2_121 wd_2_119 ⟨Nat.le_of_ble_eq_true rfl, Nat.le_of_ble_eq_true rfl⟩ (hP.sub [9, 10, 11, 12, 13] rfl) 0 rfl rfl rfl hl.1 rfl (Nat.le_of_ble_eq_true rfl) rfl ⟨Nat.le_of_ble_eq_true rfl, Nat.le_of_ble_eq_true rfl⟩ dX8_gift_5 ?_
  refine lv_if_eq (tgt := 22) hx hb dX8_gift_8 (by decide) (fun c8 => ?_) (fun c8 => ?_)
  · replace c8 : (isIn x nf) = false := bI_0.mp c8
    refine lv_iconst (v := (-1)) hx hb dX8_gift_22 (by decide) ?_
    exact fs_i hx hb hr hlocks hq ((-1), ((np, wk, ft), fV, (fm, st, be, fk, rd, mt), (nT, fT), (nf, g, a), (n, gt, gn, gr, ga, lost, mm, gc, gl))) (by rw [xGift, if_pos c8]; try rfl) hP hD hS dX8_gift_23 rfl
  · replace c8 : (isIn x nf) = true := bI_n.mp c8
    refine lv_iload_n hx hb dX8_gift_11 rfl (lv_at hl 2 rfl) ?_
    refine lv_iconst (v := 1) hx hb dX8_gift_12 (by decide) ?_
    refine lv_icmp_lt (tgt := 22) hx hb dX8_gift_13 (by decide) (fun c13 => ?_) (fun c13 => ?_)
    · refine lv_iconst (v := (-1)) hx hb dX8_gift_22 (by decide) ?_
      exact fs_i hx hb hr hlocks hq ((-1), ((np, wk, ft), fV, (fm, st, be, fk, rd, mt), (nT, fT), (nf, g, a), (n, gt, gn, gr, ga, lost, mm, gc, gl))) (by rw [xGift, if_neg (ntf c8), if_pos c13]; try rfl) hP hD hS dX8_gift_23 rfl
    · refine lv_iload_n hx hb dX8_gift_16 rfl (lv_at hl 2 rfl) ?_
      refine lv_ldc (v := 100000) hx hb hown (hts _ wd_2_110) dX8_gift_17 ?_
      refine lv_icmp_le (tgt := 24) hx hb dX8_gift_19 (by decide) (fun c19 => ?_) (fun c19 => ?_)
      · refine lv_aload_n hx hb dX8_gift_24 rfl (lv_at hl 0 rfl) ?_
        refine va_get (D := D) (ci := 8) (v := .ref (q 10 0)) (C := RX8) (T := TX8) (N := 8) hx hb hts inX8 hown hK hP 0 rfl rfl 3 (by decide) (hts _ wd_1_159) (fun _ h9 => h9) rfl dX8_gift_25 ?_
        refine lv_iload_n hx hb dX8_gift_28 rfl (lv_at hl 1 rfl) ?_
        refine rw_topi (y := nI x.toNatClampNeg) ((isIn_spec c8 (by omega)).1) ?_
        refine lv_iload_n hx hb dX8_gift_29 rfl (lv_at hl 2 rfl) ?_
        refine fs_Vf ([(q 6 0, .inr (8, [.ref (q 7 0), .ref (q 8 0), .ref (q 9 0), .ref (q 10 0), .ref (q 5 0), .ref (q 6 1), .int (nI np), .int (nI wk)])), (q 6 1, .inl (k 0, 40, .inl ft)), (q 9 0, .inr (6, [.ref (q 9 1)])), (q 9 1, .inl (k 0, 9, .inl fV)), (q 8 0, .inr (5, [.ref (q 8 1), .ref (q 8 2), .int fm, .int (nI st), .int (nI be), .int fk])), (q 8 1, .inl (k 0, 9, .inl rd)), (q 8 2, .inl (k 1, 9, .inl mt)), (q 7 0, .inr (7, [.ref (q 7 1), .int (nI nT)])), (q 7 1, .inl (k 0, 320, .inl fT))]) (bG k dz q n gt gn gr ga lost mm gc gl d1 d2) (rest := []) (As := [.int (nI x.toNatClampNeg), .int y]) ⟨hx, hb, hml, hown, hts⟩ Gd0 trivial hS hA hK (hP) (hD) (c_X1_give l D k (q 10) nf g a x.toNatClampNeg y (by have := (isIn_spec c8 (by omega)).2; omega)) mi_X1_give wd_2_124 wd_2_125 wd_2_123 ⟨Nat.le_of_ble_eq_true rfl, Nat.le_of_ble_eq_true rfl⟩ 0 rfl rfl rfl hl.1 rfl (Nat.le_of_ble_eq_true rfl) ⟨Nat.le_of_ble_eq_true rfl, Nat.le_of_ble_eq_true rfl⟩ dX8_gift_30 (fun u_1 H locs hu_2 hP hD hS => ?_)
        replace hP : va_P D vwCl ([(q 6 0, .inr (8, [.ref (q 7 0), .ref (q 8 0), .ref (q 9 0), .ref (q 10 0), .ref (q 5 0), .ref (q 6 1), .int (nI np), .int (nI wk)])), (q 6 1, .inl (k 0, 40, .inl ft)), (q 9 0, .inr (6, [.ref (q 9 1)])), (q 9 1, .inl (k 0, 9, .inl fV)), (q 8 0, .inr (5, [.ref (q 8 1), .ref (q 8 2), .int fm, .int (nI st), .int (nI be), .int fk])), (q 8 1, .inl (k 0, 9, .inl rd)), (q 8 2, .inl (k 1, 9, .inl mt)), (q 7 0, .inr (7, [.ref (q 7 1), .int (nI nT)])), (q 7 1, .inl (k 0, 320, .inl fT)), (q 10 0, .inr (2, [.ref (q 10 1), .ref (q 10 2), .ref (q 10 3), .ref (q 10 4), .int (nI (u_1.2.1)), .int u_1.2.2.1])), (q 10 1, .inl (k 0, 6, .inl (u_1.2.2.2 1))), (q 10 2, .inl (k 0, 6, .inl (u_1.2.2.2 2))), (q 10 3, .inl (k 0, 6, .inl (u_1.2.2.2 3))), (q 10 4, .inl (k 0, 2400, .inl (u_1.2.2.2 4)))] ++ bG k dz q n gt gn gr ga lost mm gc gl d1 d2) H := hP
        replace hD : va_D A ([(q 6 0, .inr (8, [.ref (q 7 0), .ref (q 8 0), .ref (q 9 0), .ref (q 10 0), .ref (q 5 0), .ref (q 6 1), .int (nI np), .int (nI wk)])), (q 6 1, .inl (k 0, 40, .inl ft)), (q 9 0, .inr (6, [.ref (q 9 1)])), (q 9 1, .inl (k 0, 9, .inl fV)), (q 8 0, .inr (5, [.ref (q 8 1), .ref (q 8 2), .int fm, .int (nI st), .int (nI be), .int fk])), (q 8 1, .inl (k 0, 9, .inl rd)), (q 8 2, .inl (k 1, 9, .inl mt)), (q 7 0, .inr (7, [.ref (q 7 1), .int (nI nT)])), (q 7 1, .inl (k 0, 320, .inl fT)), (q 10 0, .inr (2, [.ref (q 10 1), .ref (q 10 2), .ref (q 10 3), .ref (q 10 4), .int (nI (u_1.2.1)), .int u_1.2.2.1])), (q 10 1, .inl (k 0, 6, .inl (u_1.2.2.2 1))), (q 10 2, .inl (k 0, 6, .inl (u_1.2.2.2 2))), (q 10 3, .inl (k 0, 6, .inl (u_1.2.2.2 3))), (q 10 4, .inl (k 0, 2400, .inl (u_1.2.2.2 4)))] ++ bG k dz q n gt gn gr ga lost mm gc gl d1 d2) := hD
        refine W.eq (g2 := F0 m 33 ls [.int u_1.1]) rfl ?_
        exact fs_i hx hb hr hlocks hq (u_1.1, ((np, wk, ft), fV, (fm, st, be, fk, rd, mt), (nT, fT), (u_1.2.1, u_1.2.2.1, u_1.2.2.2), (n, gt, gn, gr, ga, lost, mm, gc, gl))) (by rw [xGift, if_neg (ntf c8), if_neg c13, if_pos c19, ← hu_2]; try rfl) hP hD hS dX8_gift_33 rfl
      · refine lv_iconst (v := (-1)) hx hb dX8_gift_22 (by decide) ?_
        exact fs_i hx hb hr hlocks hq ((-1), ((np, wk, ft), fV, (fm, st, be, fk, rd, mt), (nT, fT), (nf, g, a), (n, gt, gn, gr, ga, lost, mm, gc, gl))) (by rw [xGift, if_neg (ntf c8), if_neg c13, if_neg c19]; try rfl) hP hD hS dX8_gift_23 rfl
def xOwes (x : Int32) (u : CSt) : Int32 := if isIn x u.np = false then -1 else cDebt u.n u.ga u.mm u.gc x
def xChest (x y : Int32) (u : CSt) : Int32 := if isIn x u.F.1 = false then -1 else if y < 0 then -1 else if y ≤ nI u.wk then (if y = nI u.wk then u.F.2.2 1 x.toNatClampNeg else (if u.F.2.2 3 x.toNatClampNeg ≤ y then u.F.2.2 4 (y.toNatClampNeg * 6 + x.toNatClampNeg) else -1)) else -1
def xCount (x : Int32) (u : CSt) : Int32 := match swN x 7 with
  | 0 => nI u.wk | 1 => nI u.np | 2 => nI u.F.1 | 3 => nI u.n | 4 => fOpens (col u.ga 16) u.n | 5 => u.lost | 6 => u.F.2.1 | 7 => nI u.T.1 | _ => -1
def xRule (x : Int32) (u : CSt) : Int32 := if x < 0 then -1 else if x < 9 then u.V x.toNatClampNeg else -1
def xOpenNo (x : Int32) (u : CSt) : Int32 := match fOpen (col u.ga 1) (col u.ga 16) x u.n with | none => -1 | some j => u.ga j 0
def xBar (x : Int32) (u : CSt) : Bool := decide (0 < fUnpaid (col u.gc 0) (leftOf u.gc) x u.mm) || !decide (fCalled (col u.ga 1) (col u.ga 16) x u.n < u.V 8)
def xRing (x : Int32) (u : CSt) : Int32 := if isIn x u.np = false then -1 else match fOpen (col u.ga 1) (col u.ga 16) x u.n with | none => -1 | some j => cRing (col u.ga 1) (col u.ga 16) u.gt u.n x 40 1 (u.gt j)
set_option maxHeartbeats 4000000 in
set_option maxRecDepth 100000 in
theorem c_X8_owes (l : Launch) (D : va_G) (k : Nat → ClassId) (dz : Nat) (q : Nat → Nat → Nat) (np wk : Nat) (ft fV : Nat → Int32) (fm : Int32) (st be : Nat) (fk : Int32) (rd mt : Nat → Int32) (nT : Nat) (fT : Nat → Int32) (nf : Nat) (g : Int32) (a : Nat → Nat → Int32) (n : Nat) (gt : Nat → Int64) (gn : Nat → Nat) (gr : Nat → Nat → Nat → Int32) (ga : Nat → Nat → Int32) (lost : Int32) (mm : Nat) (gc : Nat → Nat → Int32) (gl : Nat → Nat) (d1 d2 : Int32) (x : Int32) (hp : np ≤ 40) (hw : wk ≤ 400) (hT : nT ≤ 320) (hf : nf ≤ 6) (hf1 : 1 ≤ nf) (hn : n ≤ 100) (hm : mm ≤ 600) : Ro l yX8_owes cX8_owes 2 (some .int) 5 D (TY k) G0 [.ref (q 6 0), .int x] (bX k dz q d1 d2 ((np, wk, ft), fV, (fm, st, be, fk, rd, mt), (nT, fT), (nf, g, a), (n, gt, gn, gr, ga, lost, mm, gc, gl))) (some (.int (xOwes x ((np, wk, ft), fV, (fm, st, be, fk, rd, mt), (nT, fT), (nf, g, a), (n, gt, gn, gr, ga, lost, mm, gc, gl))))) := by
  refine ro_body (by decide +kernel) (Nat.le_of_ble_eq_true rfl) ?_
  intro p e s m args below meth c_ Q hx hb hml hown hts hK hP hS hG hr hq hlocks ls hl
  replace hl : lv_has ls 2 [(0, .ref (q 6 0)), (1, .int x)] := hl
  change s.vm.findClass RX8 = some m.cls at hown
  replace hP : va_P D vwCl ([(q 6 0, .inr (8, [.ref (q 7 0), .ref (q 8 0), .ref (q 9 0), .ref (q 10 0), .ref (q 5 0), .ref (q 6 1), .int (nI np), .int (nI wk)])), (q 6 1, .inl (k 0, 40, .inl ft)), (q 9 0, .inr (6, [.ref (q 9 1)])), (q 9 1, .inl (k 0, 9, .inl fV)), (q 8 0, .inr (5, [.ref (q 8 1), .ref (q 8 2), .int fm, .int (nI st), .int (nI be), .int fk])), (q 8 1, .inl (k 0, 9, .inl rd)), (q 8 2, .inl (k 1, 9, .inl mt)), (q 7 0, .inr (7, [.ref (q 7 1), .int (nI nT)])), (q 7 1, .inl (k 0, 320, .inl fT)), (q 10 0, .inr (2, [.ref (q 10 1), .ref (q 10 2), .ref (q 10 3), .ref (q 10 4), .int (nI nf), .int g])), (q 10 1, .inl (k 0, 6, .inl (a 1))), (q 10 2, .inl (k 0, 6, .inl (a 2))), (q 10 3, .inl (k 0, 6, .inl (a 3))), (q 10 4, .inl (k 0, 2400, .inl (a 4)))] ++ bG k dz q n gt gn gr ga lost mm gc gl d1 d2) s.heap := hP
  refine lv_aload_n hx hb dX8_owes_0 rfl (lv_at hl 0 rfl) ?_
  refine lv_iload_n hx hb dX8_owes_1 rfl (lv_at hl 1 rfl) ?_
  refine ro_V (rest := []) (st1 := [.int (bI (isIn x np))]) (As := [.int x]) ⟨hx, hb, hml, hown, hts⟩ Gd0 trivial hS hK (c_X8_isPerson l D k dz q np wk ft fV fm st be fk rd mt nT fT nf g a n gt gn gr ga lost mm gc gl d1 d2 x) mi_X8_isPerson wd_2_101 wp_1_7 wd_2_99 ⟨Nat.le_of_ble_eq_true rfl, Nat.le_of_ble_eq_true rfl⟩ (hP) 0 rfl rfl rfl hl.1 rfl (Nat.le_of_ble_eq_true rfl) rfl ⟨Nat.le_of_ble_eq_true rfl, Nat.le_of_ble_eq_true rfl⟩ dX8_owes_2 ?_
  refine lv_if_eq (tgt := 19) hx hb dX8_owes_5 (by decide) (fun c5 => ?_) (fun c5 => ?_)
  · replace c5 : (isIn x np) = false := bI_0.mp c5
    refine lv_iconst (v := (-1)) hx hb dX8_owes_19 (by decide) ?_
    exact ro_i hx hb hr hlocks hq dX8_owes_20 (by rw [xOwes, if_pos c5]; try rfl)
  · replace c5 : (isIn x np) = true := bI_n.mp c5
    refine lv_aload_n hx hb dX8_owes_8 rfl (lv_at hl 0 rfl) ?_
    refine va_get (D := D) (ci := 8) (v := .ref (q 5 0)) (C := RX8) (T := TX8) (N := 8) hx hb hts inX8 hown hK hP 0 rfl rfl 4 (by decide) (hts _ wd_1_160) (fun _ h9 => h9) rfl dX8_owes_9 ?_
    refine lv_iload_n hx hb dX8_owes_12 rfl (lv_at hl 1 rfl) ?_
    refine ro_V (rest := []) (st1 := [.int (cDebt n ga mm gc x)]) (As := [.int x]) ⟨hx, hb, hml, hown, hts⟩ Gd0 trivial hS hK (c_X3_debtOf l D k dz q n gt gn gr ga lost mm gc gl d1 d2 x hn hm) mi_X3_debtOf wd_3_185 wd_3_186 wd_3_184 ⟨Nat.le_of_ble_eq_true rfl, Nat.le_of_ble_eq_true rfl⟩ ((hP.low (fun c hc => List.mem_append_right _ hc))) 0 rfl rfl rfl hl.1 rfl (Nat.le_of_ble_eq_true rfl) rfl ⟨Nat.le_of_ble_eq_true rfl, Nat.le_of_ble_eq_true rfl⟩ dX8_owes_13 ?_
    refine lv_goto (tgt := 20) hx hb dX8_owes_16 (by decide) ?_
    exact ro_i hx hb hr hlocks hq dX8_owes_20 (by rw [xOwes, if_neg (ntf c5)]; try rfl)
set_option maxHeartbeats 4000000 in
set_option maxRecDepth 100000 in
theorem c_X8_chest (l : Launch) (D : va_G) (k : Nat → ClassId) (dz : Nat) (q : Nat → Nat → Nat) (np wk : Nat) (ft fV : Nat → Int32) (fm : Int32) (st be : Nat) (fk : Int32) (rd mt : Nat → Int32) (nT : Nat) (fT : Nat → Int32) (nf : Nat) (g : Int32) (a : Nat → Nat → Int32) (n : Nat) (gt : Nat → Int64) (gn : Nat → Nat) (gr : Nat → Nat → Nat → Int32) (ga : Nat → Nat → Int32) (lost : Int32) (mm : Nat) (gc : Nat → Nat → Int32) (gl : Nat → Nat) (d1 d2 : Int32) (x y : Int32) (hp : np ≤ 40) (hw : wk ≤ 400) (hT : nT ≤ 320) (hf : nf ≤ 6) (hf1 : 1 ≤ nf) (hn : n ≤ 100) (hm : mm ≤ 600) : Ro l yX8_chest cX8_chest 3 (some .int) 1 D (TY k) G0 [.ref (q 6 0), .int x, .int y] (bX k dz q d1 d2 ((np, wk, ft), fV, (fm, st, be, fk, rd, mt), (nT, fT), (nf, g, a), (n, gt, gn, gr, ga, lost, mm, gc, gl))) (some (.int (xChest x y ((np, wk, ft), fV, (fm, st, be, fk, rd, mt), (nT, fT), (nf, g, a), (n, gt, gn, gr, ga, lost, mm, gc, gl))))) := by
  refine ro_body (by decide +kernel) (Nat.le_of_ble_eq_true rfl) ?_
  intro p e s m args below meth c_ Q hx hb hml hown hts hK hP hS hG hr hq hlocks ls hl
  replace hl : lv_has ls 3 [(0, .ref (q 6 0)), (1, .int x), (2, .int y)] := hl
  change s.vm.findClass RX8 = some m.cls at hown
  replace hP : va_P D vwCl ([(q 6 0, .inr (8, [.ref (q 7 0), .ref (q 8 0), .ref (q 9 0), .ref (q 10 0), .ref (q 5 0), .ref (q 6 1), .int (nI np), .int (nI wk)])), (q 6 1, .inl (k 0, 40, .inl ft)), (q 9 0, .inr (6, [.ref (q 9 1)])), (q 9 1, .inl (k 0, 9, .inl fV)), (q 8 0, .inr (5, [.ref (q 8 1), .ref (q 8 2), .int fm, .int (nI st), .int (nI be), .int fk])), (q 8 1, .inl (k 0, 9, .inl rd)), (q 8 2, .inl (k 1, 9, .inl mt)), (q 7 0, .inr (7, [.ref (q 7 1), .int (nI nT)])), (q 7 1, .inl (k 0, 320, .inl fT)), (q 10 0, .inr (2, [.ref (q 10 1), .ref (q 10 2), .ref (q 10 3), .ref (q 10 4), .int (nI nf), .int g])), (q 10 1, .inl (k 0, 6, .inl (a 1))), (q 10 2, .inl (k 0, 6, .inl (a 2))), (q 10 3, .inl (k 0, 6, .inl (a 3))), (q 10 4, .inl (k 0, 2400, .inl (a 4)))] ++ bG k dz q n gt gn gr ga lost mm gc gl d1 d2) s.heap := hP
  refine lv_aload_n hx hb dX8_chest_0 rfl (lv_at hl 0 rfl) ?_
  refine va_get (D := D) (ci := 8) (v := .ref (q 10 0)) (C := RX8) (T := TX8) (N := 8) hx hb hts inX8 hown hK hP 0 rfl rfl 3 (by decide) (hts _ wd_1_159) (fun _ h9 => h9) rfl dX8_chest_1 ?_
  refine lv_iload_n hx hb dX8_chest_4 rfl (lv_at hl 1 rfl) ?_
  refine ro_V (rest := []) (st1 := [.int (bI (isIn x nf))]) (As := [.int x]) ⟨hx, hb, hml, hown, hts⟩ Gd0 trivial hS hK (c_X1_has l D k (q 10) nf g a x) mi_X1_has wd_2_120 wd_2_121 wd_2_119 ⟨Nat.le_of_ble_eq_true rfl, Nat.le_of_ble_eq_true rfl⟩ (hP.sub [9, 10, 11, 12, 13] rfl) 0 rfl rfl rfl hl.1 rfl (Nat.le_of_ble_eq_true rfl) rfl ⟨Nat.le_of_ble_eq_true rfl, Nat.le_of_ble_eq_true rfl⟩ dX8_chest_5 ?_
  refine lv_if_eq (tgt := 23) hx hb dX8_chest_8 (by decide) (fun c8 => ?_) (fun c8 => ?_)
  · replace c8 : (isIn x nf) = false := bI_0.mp c8
    refine lv_iconst (v := (-1)) hx hb dX8_chest_23 (by decide) ?_
    exact ro_i hx hb hr hlocks hq dX8_chest_24 (by rw [xChest, if_pos c8]; try rfl)
  · replace c8 : (isIn x nf) = true := bI_n.mp c8
    have hx6 := (isIn_spec c8 (by omega)).2
    refine lv_iload_n hx hb dX8_chest_11 rfl (lv_at hl 2 rfl) ?_
    refine lv_if_lt (tgt := 23) hx hb dX8_chest_12 (by decide) (fun c12 => ?_) (fun c12 => ?_)
    · refine lv_iconst (v := (-1)) hx hb dX8_chest_23 (by decide) ?_
      exact ro_i hx hb hr hlocks hq dX8_chest_24 (by rw [xChest, if_neg (ntf c8), if_pos c12]; try rfl)
    · refine lv_iload_n hx hb dX8_chest_15 rfl (lv_at hl 2 rfl) ?_
      refine lv_aload_n hx hb dX8_chest_16 rfl (lv_at hl 0 rfl) ?_
      refine va_get (D := D) (ci := 8) (v := .int (nI wk)) (C := RX8) (T := TX8) (N := 8) hx hb hts inX8 hown hK hP 0 rfl rfl 7 (by decide) (hts _ wd_1_163) (fun _ h9 => h9) rfl dX8_chest_17 ?_
      refine lv_icmp_le (tgt := 25) hx hb dX8_chest_20 (by decide) (fun c20 => ?_) (fun c20 => ?_)
      · refine lv_iload_n hx hb dX8_chest_25 rfl (lv_at hl 2 rfl) ?_
        refine lv_aload_n hx hb dX8_chest_26 rfl (lv_at hl 0 rfl) ?_
        refine va_get (D := D) (ci := 8) (v := .int (nI wk)) (C := RX8) (T := TX8) (N := 8) hx hb hts inX8 hown hK hP 0 rfl rfl 7 (by decide) (hts _ wd_1_163) (fun _ h9 => h9) rfl dX8_chest_27 ?_
        refine lv_icmp_ne (tgt := 44) hx hb dX8_chest_30 (by decide) (fun c30 => ?_) (fun c30 => ?_)
        · have hyw : y.toNatClampNeg < wk := by
            have h1 := clamp_le c12 c20 (by omega)
            rcases Nat.lt_or_eq_of_le h1 with h2 | h2
            · exact h2
            · exact absurd (by rw [← h2]; exact nI_self c12) c30
          refine lv_aload_n hx hb dX8_chest_44 rfl (lv_at hl 0 rfl) ?_
          refine va_get (D := D) (ci := 8) (v := .ref (q 10 0)) (C := RX8) (T := TX8) (N := 8) hx hb hts inX8 hown hK hP 0 rfl rfl 3 (by decide) (hts _ wd_1_159) (fun _ h9 => h9) rfl dX8_chest_45 ?_
          refine lv_iload_n hx hb dX8_chest_48 rfl (lv_at hl 1 rfl) ?_
          refine rw_topi (y := nI x.toNatClampNeg) ((isIn_spec c8 (by omega)).1) ?_
          refine lv_iload_n hx hb dX8_chest_49 rfl (lv_at hl 2 rfl) ?_
          refine rw_topi (y := nI y.toNatClampNeg) (nI_self c12) ?_
          refine ro_V (rest := []) (st1 := [.int (if a 3 x.toNatClampNeg ≤ nI y.toNatClampNeg then a 4 (y.toNatClampNeg * 6 + x.toNatClampNeg) else -1)]) (As := [.int (nI x.toNatClampNeg), .int (nI y.toNatClampNeg)]) ⟨hx, hb, hml, hown, hts⟩ Gd0 trivial hS hK (c_X1_penceAtEnd l D k (q 10) nf g a x.toNatClampNeg y.toNatClampNeg (by omega) (by omega)) mi_X1_penceAtEnd wd_4_42 wd_4_43 wd_4_41 ⟨Nat.le_of_ble_eq_true rfl, Nat.le_of_ble_eq_true rfl⟩ (hP.sub [9, 10, 11, 12, 13] rfl) 0 rfl rfl rfl hl.1 rfl (Nat.le_of_ble_eq_true rfl) rfl ⟨Nat.le_of_ble_eq_true rfl, Nat.le_of_ble_eq_true rfl⟩ dX8_chest_50 ?_
          exact ro_i hx hb hr hlocks hq dX8_chest_53 (by rw [xChest, if_neg (ntf c8), if_neg c12, if_pos c20, if_neg c30]; rw [← nI_self c12])
        · refine lv_aload_n hx hb dX8_chest_33 rfl (lv_at hl 0 rfl) ?_
          refine va_get (D := D) (ci := 8) (v := .ref (q 10 0)) (C := RX8) (T := TX8) (N := 8) hx hb hts inX8 hown hK hP 0 rfl rfl 3 (by decide) (hts _ wd_1_159) (fun _ h9 => h9) rfl dX8_chest_34 ?_
          refine lv_iload_n hx hb dX8_chest_37 rfl (lv_at hl 1 rfl) ?_
          refine rw_topi (y := nI x.toNatClampNeg) ((isIn_spec c8 (by omega)).1) ?_
          refine ro_V (rest := []) (st1 := [.int (a 1 x.toNatClampNeg)]) (As := [.int (nI x.toNatClampNeg)]) ⟨hx, hb, hml, hown, hts⟩ Gd0 trivial hS hK (c_X1_penceNow l D k (q 10) nf g a x.toNatClampNeg (by omega)) mi_X1_penceNow wd_4_38 wd_4_39 wd_4_37 ⟨Nat.le_of_ble_eq_true rfl, Nat.le_of_ble_eq_true rfl⟩ (hP.sub [9, 10, 11, 12, 13] rfl) 0 rfl rfl rfl hl.1 rfl (Nat.le_of_ble_eq_true rfl) rfl ⟨Nat.le_of_ble_eq_true rfl, Nat.le_of_ble_eq_true rfl⟩ dX8_chest_38 ?_
          refine lv_goto (tgt := 53) hx hb dX8_chest_41 (by decide) ?_
          exact ro_i hx hb hr hlocks hq dX8_chest_53 (by rw [xChest, if_neg (ntf c8), if_neg c12, if_pos c20, if_pos c30]; try rfl)
      · refine lv_iconst (v := (-1)) hx hb dX8_chest_23 (by decide) ?_
        exact ro_i hx hb hr hlocks hq dX8_chest_24 (by rw [xChest, if_neg (ntf c8), if_neg c12, if_neg c20]; try rfl)
set_option maxHeartbeats 4000000 in
set_option maxRecDepth 100000 in
theorem c_X8_count (l : Launch) (D : va_G) (k : Nat → ClassId) (dz : Nat) (q : Nat → Nat → Nat) (np wk : Nat) (ft fV : Nat → Int32) (fm : Int32) (st be : Nat) (fk : Int32) (rd mt : Nat → Int32) (nT : Nat) (fT : Nat → Int32) (nf : Nat) (g : Int32) (a : Nat → Nat → Int32) (n : Nat) (gt : Nat → Int64) (gn : Nat → Nat) (gr : Nat → Nat → Nat → Int32) (ga : Nat → Nat → Int32) (lost : Int32) (mm : Nat) (gc : Nat → Nat → Int32) (gl : Nat → Nat) (d1 d2 : Int32) (x : Int32) (hp : np ≤ 40) (hw : wk ≤ 400) (hT : nT ≤ 320) (hf : nf ≤ 6) (hf1 : 1 ≤ nf) (hn : n ≤ 100) (hm : mm ≤ 600) : Ro l yX8_count cX8_count 2 (some .int) 4 D (TY k) G0 [.ref (q 6 0), .int x] (bX k dz q d1 d2 ((np, wk, ft), fV, (fm, st, be, fk, rd, mt), (nT, fT), (nf, g, a), (n, gt, gn, gr, ga, lost, mm, gc, gl))) (some (.int (xCount x ((np, wk, ft), fV, (fm, st, be, fk, rd, mt), (nT, fT), (nf, g, a), (n, gt, gn, gr, ga, lost, mm, gc, gl))))) := by
  refine ro_body (by decide +kernel) (Nat.le_of_ble_eq_true rfl) ?_
  intro p e s m args below meth c_ Q hx hb hml hown hts hK hP hS hG hr hq hlocks ls hl
  replace hl : lv_has ls 2 [(0, .ref (q 6 0)), (1, .int x)] := hl
  change s.vm.findClass RX8 = some m.cls at hown
  replace hP : va_P D vwCl ([(q 6 0, .inr (8, [.ref (q 7 0), .ref (q 8 0), .ref (q 9 0), .ref (q 10 0), .ref (q 5 0), .ref (q 6 1), .int (nI np), .int (nI wk)])), (q 6 1, .inl (k 0, 40, .inl ft)), (q 9 0, .inr (6, [.ref (q 9 1)])), (q 9 1, .inl (k 0, 9, .inl fV)), (q 8 0, .inr (5, [.ref (q 8 1), .ref (q 8 2), .int fm, .int (nI st), .int (nI be), .int fk])), (q 8 1, .inl (k 0, 9, .inl rd)), (q 8 2, .inl (k 1, 9, .inl mt)), (q 7 0, .inr (7, [.ref (q 7 1), .int (nI nT)])), (q 7 1, .inl (k 0, 320, .inl fT)), (q 10 0, .inr (2, [.ref (q 10 1), .ref (q 10 2), .ref (q 10 3), .ref (q 10 4), .int (nI nf), .int g])), (q 10 1, .inl (k 0, 6, .inl (a 1))), (q 10 2, .inl (k 0, 6, .inl (a 2))), (q 10 3, .inl (k 0, 6, .inl (a 3))), (q 10 4, .inl (k 0, 2400, .inl (a 4)))] ++ bG k dz q n gt gn gr ga lost mm gc gl d1 d2) s.heap := hP
  refine lv_iload_n hx hb dX8_count_0 rfl (lv_at hl 1 rfl) ?_
  rcases sw_cases x 7 with sw_2 | ⟨j_1, hj_1, ej_1⟩
  · refine lv_tableOut (tgt := 106) hx hb dX8_count_1 sw_2 (by decide) ?_
    refine lv_iconst (v := (-1)) hx hb dX8_count_106 (by decide) ?_
    exact ro_i hx hb hr hlocks hq dX8_count_107 (by simp only [xCount, swN_out sw_2])
  · subst ej_1
    rcases (show j_1 = 0 ∨ j_1 = 1 ∨ j_1 = 2 ∨ j_1 = 3 ∨ j_1 = 4 ∨ j_1 = 5 ∨ j_1 = 6 ∨ j_1 = 7 by omega) with rfl | rfl | rfl | rfl | rfl | rfl | rfl | rfl
    · refine lv_tableIn (off := 47) (tgt := 48) hx hb dX8_count_1 (by decide) (by decide) (by decide) (by decide) ?_
      refine lv_aload_n hx hb dX8_count_48 rfl (lv_at hl 0 rfl) ?_
      refine va_get (D := D) (ci := 8) (v := .int (nI wk)) (C := RX8) (T := TX8) (N := 8) hx hb hts inX8 hown hK hP 0 rfl rfl 7 (by decide) (hts _ wd_1_163) (fun _ h9 => h9) rfl dX8_count_49 ?_
      exact ro_i hx hb hr hlocks hq dX8_count_52 (by simp only [xCount, swN_in (show 0 ≤ 7 by decide) (by decide)])
    · refine lv_tableIn (off := 52) (tgt := 53) hx hb dX8_count_1 (by decide) (by decide) (by decide) (by decide) ?_
      refine lv_aload_n hx hb dX8_count_53 rfl (lv_at hl 0 rfl) ?_
      refine va_get (D := D) (ci := 8) (v := .int (nI np)) (C := RX8) (T := TX8) (N := 8) hx hb hts inX8 hown hK hP 0 rfl rfl 6 (by decide) (hts _ wd_1_162) (fun _ h9 => h9) rfl dX8_count_54 ?_
      exact ro_i hx hb hr hlocks hq dX8_count_57 (by simp only [xCount, swN_in (show 1 ≤ 7 by decide) (by decide)])
    · refine lv_tableIn (off := 57) (tgt := 58) hx hb dX8_count_1 (by decide) (by decide) (by decide) (by decide) ?_
      refine lv_aload_n hx hb dX8_count_58 rfl (lv_at hl 0 rfl) ?_
      refine va_get (D := D) (ci := 8) (v := .ref (q 10 0)) (C := RX8) (T := TX8) (N := 8) hx hb hts inX8 hown hK hP 0 rfl rfl 3 (by decide) (hts _ wd_1_159) (fun _ h9 => h9) rfl dX8_count_59 ?_
      refine ro_V (rest := []) (st1 := [.int (nI nf)]) (As := []) ⟨hx, hb, hml, hown, hts⟩ Gd0 trivial hS hK (c_X1_howMany l D k (q 10) nf g a) mi_X1_howMany wd_4_54 wd_4_55 wd_4_53 ⟨Nat.le_of_ble_eq_true rfl, Nat.le_of_ble_eq_true rfl⟩ (hP.sub [9, 10, 11, 12, 13] rfl) 0 rfl rfl rfl hl.1 rfl (Nat.le_of_ble_eq_true rfl) rfl ⟨Nat.le_of_ble_eq_true rfl, Nat.le_of_ble_eq_true rfl⟩ dX8_count_62 ?_
      exact ro_i hx hb hr hlocks hq dX8_count_65 (by simp only [xCount, swN_in (show 2 ≤ 7 by decide) (by decide)])
    · refine lv_tableIn (off := 65) (tgt := 66) hx hb dX8_count_1 (by decide) (by decide) (by decide) (by decide) ?_
      refine lv_aload_n hx hb dX8_count_66 rfl (lv_at hl 0 rfl) ?_
      refine va_get (D := D) (ci := 8) (v := .ref (q 5 0)) (C := RX8) (T := TX8) (N := 8) hx hb hts inX8 hown hK hP 0 rfl rfl 4 (by decide) (hts _ wd_1_160) (fun _ h9 => h9) rfl dX8_count_67 ?_
      refine ro_V (rest := []) (st1 := [.int (nI n)]) (As := []) ⟨hx, hb, hml, hown, hts⟩ Gd0 trivial hS hK (c_X3_howManyLoans l D k dz q n gt gn gr ga lost mm gc gl d1 d2) mi_X3_howManyLoans wd_2_143 wd_2_144 wd_2_142 ⟨Nat.le_of_ble_eq_true rfl, Nat.le_of_ble_eq_true rfl⟩ ((hP.low (fun c hc => List.mem_append_right _ hc))) 0 rfl rfl rfl hl.1 rfl (Nat.le_of_ble_eq_true rfl) rfl ⟨Nat.le_of_ble_eq_true rfl, Nat.le_of_ble_eq_true rfl⟩ dX8_count_70 ?_
      exact ro_i hx hb hr hlocks hq dX8_count_73 (by simp only [xCount, swN_in (show 3 ≤ 7 by decide) (by decide)])
    · refine lv_tableIn (off := 73) (tgt := 74) hx hb dX8_count_1 (by decide) (by decide) (by decide) (by decide) ?_
      refine lv_aload_n hx hb dX8_count_74 rfl (lv_at hl 0 rfl) ?_
      refine va_get (D := D) (ci := 8) (v := .ref (q 5 0)) (C := RX8) (T := TX8) (N := 8) hx hb hts inX8 hown hK hP 0 rfl rfl 4 (by decide) (hts _ wd_1_160) (fun _ h9 => h9) rfl dX8_count_75 ?_
      refine ro_V (rest := []) (st1 := [.int (fOpens (col ga 16) n)]) (As := []) ⟨hx, hb, hml, hown, hts⟩ Gd0 trivial hS hK (c_X3_howManyOpen l D k dz q n gt gn gr ga lost mm gc gl d1 d2 hn hm) mi_X3_howManyOpen wd_4_58 wd_4_59 wd_4_57 ⟨Nat.le_of_ble_eq_true rfl, Nat.le_of_ble_eq_true rfl⟩ ((hP.low (fun c hc => List.mem_append_right _ hc))) 0 rfl rfl rfl hl.1 rfl (Nat.le_of_ble_eq_true rfl) rfl ⟨Nat.le_of_ble_eq_true rfl, Nat.le_of_ble_eq_true rfl⟩ dX8_count_78 ?_
      exact ro_i hx hb hr hlocks hq dX8_count_81 (by simp only [xCount, swN_in (show 4 ≤ 7 by decide) (by decide)])
    · refine lv_tableIn (off := 81) (tgt := 82) hx hb dX8_count_1 (by decide) (by decide) (by decide) (by decide) ?_
      refine lv_aload_n hx hb dX8_count_82 rfl (lv_at hl 0 rfl) ?_
      refine va_get (D := D) (ci := 8) (v := .ref (q 5 0)) (C := RX8) (T := TX8) (N := 8) hx hb hts inX8 hown hK hP 0 rfl rfl 4 (by decide) (hts _ wd_1_160) (fun _ h9 => h9) rfl dX8_count_83 ?_
      refine ro_V (rest := []) (st1 := [.int lost]) (As := []) ⟨hx, hb, hml, hown, hts⟩ Gd0 trivial hS hK (c_X3_lostPence l D k dz q n gt gn gr ga lost mm gc gl d1 d2) mi_X3_lostPence wd_4_62 wd_4_63 wd_4_61 ⟨Nat.le_of_ble_eq_true rfl, Nat.le_of_ble_eq_true rfl⟩ ((hP.low (fun c hc => List.mem_append_right _ hc))) 0 rfl rfl rfl hl.1 rfl (Nat.le_of_ble_eq_true rfl) rfl ⟨Nat.le_of_ble_eq_true rfl, Nat.le_of_ble_eq_true rfl⟩ dX8_count_86 ?_
      exact ro_i hx hb hr hlocks hq dX8_count_89 (by simp only [xCount, swN_in (show 5 ≤ 7 by decide) (by decide)])
    · refine lv_tableIn (off := 89) (tgt := 90) hx hb dX8_count_1 (by decide) (by decide) (by decide) (by decide) ?_
      refine lv_aload_n hx hb dX8_count_90 rfl (lv_at hl 0 rfl) ?_
      refine va_get (D := D) (ci := 8) (v := .ref (q 10 0)) (C := RX8) (T := TX8) (N := 8) hx hb hts inX8 hown hK hP 0 rfl rfl 3 (by decide) (hts _ wd_1_159) (fun _ h9 => h9) rfl dX8_count_91 ?_
      refine ro_V (rest := []) (st1 := [.int g]) (As := []) ⟨hx, hb, hml, hown, hts⟩ Gd0 trivial hS hK (c_X1_givenInAll l D k (q 10) nf g a) mi_X1_givenInAll wd_4_66 wd_4_67 wd_4_65 ⟨Nat.le_of_ble_eq_true rfl, Nat.le_of_ble_eq_true rfl⟩ (hP.sub [9, 10, 11, 12, 13] rfl) 0 rfl rfl rfl hl.1 rfl (Nat.le_of_ble_eq_true rfl) rfl ⟨Nat.le_of_ble_eq_true rfl, Nat.le_of_ble_eq_true rfl⟩ dX8_count_94 ?_
      exact ro_i hx hb hr hlocks hq dX8_count_97 (by simp only [xCount, swN_in (show 6 ≤ 7 by decide) (by decide)])
    · refine lv_tableIn (off := 97) (tgt := 98) hx hb dX8_count_1 (by decide) (by decide) (by decide) (by decide) ?_
      refine lv_aload_n hx hb dX8_count_98 rfl (lv_at hl 0 rfl) ?_
      refine va_get (D := D) (ci := 8) (v := .ref (q 7 0)) (C := RX8) (T := TX8) (N := 8) hx hb hts inX8 hown hK hP 0 rfl rfl 0 (by decide) (hts _ wd_1_156) (fun _ h9 => h9) rfl dX8_count_99 ?_
      refine ro_V (rest := []) (st1 := [.int (nI nT)]) (As := []) ⟨hx, hb, hml, hown, hts⟩ Gd0 trivial hS hK (c_X7_length l D k (q 7) nT fT) mi_X7_length wd_1_194 wd_1_195 wd_1_193 ⟨Nat.le_of_ble_eq_true rfl, Nat.le_of_ble_eq_true rfl⟩ (hP.sub [7, 8] rfl) 0 rfl rfl rfl hl.1 rfl (Nat.le_of_ble_eq_true rfl) rfl ⟨Nat.le_of_ble_eq_true rfl, Nat.le_of_ble_eq_true rfl⟩ dX8_count_102 ?_
      exact ro_i hx hb hr hlocks hq dX8_count_105 (by simp only [xCount, swN_in (show 7 ≤ 7 by decide) (by decide)])
set_option maxHeartbeats 4000000 in
set_option maxRecDepth 100000 in
theorem c_X8_rule (l : Launch) (D : va_G) (k : Nat → ClassId) (kz : Nat) (ke sK sV : Nat → Nat) (dz mi : Nat) (q : Nat → Nat → Nat) (np wk : Nat) (ft fV : Nat → Int32) (fm : Int32) (st be : Nat) (fk : Int32) (rd mt : Nat → Int32) (nT : Nat) (fT : Nat → Int32) (nf : Nat) (g : Int32) (a : Nat → Nat → Int32) (n : Nat) (gt : Nat → Int64) (gn : Nat → Nat) (gr : Nat → Nat → Nat → Int32) (ga : Nat → Nat → Int32) (lost : Int32) (mm : Nat) (gc : Nat → Nat → Int32) (gl : Nat → Nat) (d1 d2 : Int32) (x : Int32) (hp : np ≤ 40) (hw : wk ≤ 400) (hT : nT ≤ 320) (hf : nf ≤ 6) (hf1 : 1 ≤ nf) (hn : n ≤ 100) (hm : mm ≤ 600) : Ro l yX8_rule cX8_rule 2 (some .int) 1 D (TY k) (GA kz ke sK sV dz mi) [.ref (q 6 0), .int x] (bX k dz q d1 d2 ((np, wk, ft), fV, (fm, st, be, fk, rd, mt), (nT, fT), (nf, g, a), (n, gt, gn, gr, ga, lost, mm, gc, gl))) (some (.int (xRule x ((np, wk, ft), fV, (fm, st, be, fk, rd, mt), (nT, fT), (nf, g, a), (n, gt, gn, gr, ga, lost, mm, gc, gl))))) := by
  refine ro_body (by decide +kernel) (Nat.le_of_ble_eq_true rfl) ?_
  intro p e s m args below meth c_ Q hx hb hml hown hts hK hP hS hG hr hq hlocks ls hl
  replace hl : lv_has ls 2 [(0, .ref (q 6 0)), (1, .int x)] := hl
  change s.vm.findClass RX8 = some m.cls at hown
  replace hP : va_P D vwCl ([(q 6 0, .inr (8, [.ref (q 7 0), .ref (q 8 0), .ref (q 9 0), .ref (q 10 0), .ref (q 5 0), .ref (q 6 1), .int (nI np), .int (nI wk)])), (q 6 1, .inl (k 0, 40, .inl ft)), (q 9 0, .inr (6, [.ref (q 9 1)])), (q 9 1, .inl (k 0, 9, .inl fV)), (q 8 0, .inr (5, [.ref (q 8 1), .ref (q 8 2), .int fm, .int (nI st), .int (nI be), .int fk])), (q 8 1, .inl (k 0, 9, .inl rd)), (q 8 2, .inl (k 1, 9, .inl mt)), (q 7 0, .inr (7, [.ref (q 7 1), .int (nI nT)])), (q 7 1, .inl (k 0, 320, .inl fT)), (q 10 0, .inr (2, [.ref (q 10 1), .ref (q 10 2), .ref (q 10 3), .ref (q 10 4), .int (nI nf), .int g])), (q 10 1, .inl (k 0, 6, .inl (a 1))), (q 10 2, .inl (k 0, 6, .inl (a 2))), (q 10 3, .inl (k 0, 6, .inl (a 3))), (q 10 4, .inl (k 0, 2400, .inl (a 4)))] ++ bG k dz q n gt gn gr ga lost mm gc gl d1 d2) s.heap := hP
  have hGA := hG
  have hGL := hG.2
  replace hG := hG.1
  refine lv_iload_n hx hb dX8_rule_0 rfl (lv_at hl 1 rfl) ?_
  refine lv_if_lt (tgt := 12) hx hb dX8_rule_1 (by decide) (fun c1 => ?_) (fun c1 => ?_)
  · refine lv_iconst (v := (-1)) hx hb dX8_rule_12 (by decide) ?_
    exact ro_i hx hb hr hlocks hq dX8_rule_13 (by rw [xRule, if_pos c1]; try rfl)
  · refine lv_iload_n hx hb dX8_rule_4 rfl (lv_at hl 1 rfl) ?_
    refine va_gets hx hb hG.1 hS hown (hts _ wd_2_86) (fun _ h9 => h9) dX8_rule_5 ?_
    refine va_tlen (v := 9) hx hb hG.2.1 hS rfl dX8_rule_8 ?_
    refine lv_icmp_lt (tgt := 14) hx hb dX8_rule_9 (by decide) (fun c9 => ?_) (fun c9 => ?_)
    · have hx9 : x.toNatClampNeg < 9 := clamp_lt c1 c9 (by decide)
      refine lv_aload_n hx hb dX8_rule_14 rfl (lv_at hl 0 rfl) ?_
      refine va_get (D := D) (ci := 8) (v := .ref (q 9 0)) (C := RX8) (T := TX8) (N := 8) hx hb hts inX8 hown hK hP 0 rfl rfl 2 (by decide) (hts _ wd_1_158) (fun _ h9 => h9) rfl dX8_rule_15 ?_
      refine va_gets hx hb hG.1 hS hown (hts _ wd_2_86) (fun _ h9 => h9) dX8_rule_18 ?_
      refine lv_iload_n hx hb dX8_rule_21 rfl (lv_at hl 1 rfl) ?_
      refine rw_topi (y := nI x.toNatClampNeg) (nI_self c1) ?_
      refine vb_tq (v := .ref (ke x.toNatClampNeg)) hx hb hG.2.1 hS (vp_in_nI (by omega) (by omega)) (by show Value.ref (ke (nI x.toNatClampNeg).toNatClampNeg) = _; rw [nI_clamp (by omega)]) dX8_rule_22 ?_
      refine ro_V (rest := []) (st1 := [.int (fV x.toNatClampNeg)]) (As := [.ref (ke x.toNatClampNeg)]) ⟨hx, hb, hml, hown, hts⟩ GdK hG hS hK (c_X6_current l D k kz ke sK sV (q 9) fV x.toNatClampNeg (by omega)) mi_X6_current wd_2_88 wd_2_89 wd_2_87 ⟨Nat.le_of_ble_eq_true rfl, Nat.le_of_ble_eq_true rfl⟩ (hP.sub [2, 3] rfl) 0 rfl rfl rfl hl.1 rfl (Nat.le_of_ble_eq_true rfl) rfl ⟨Nat.le_of_ble_eq_true rfl, Nat.le_of_ble_eq_true rfl⟩ dX8_rule_23 ?_
      exact ro_i hx hb hr hlocks hq dX8_rule_26 (by rw [xRule, if_neg c1, if_pos c9]; try rfl)
    · refine lv_iconst (v := (-1)) hx hb dX8_rule_12 (by decide) ?_
      exact ro_i hx hb hr hlocks hq dX8_rule_13 (by rw [xRule, if_neg c1, if_neg c9]; try rfl)
