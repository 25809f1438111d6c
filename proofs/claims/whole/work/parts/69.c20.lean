set_option maxHeartbeats 4000000 in
set_option maxRecDepth 100000 in
theorem c_X3_takePayment (l : Launch) (D : va_G) (k : Nat → ClassId) (t : Nat → Nat) (nf : Nat) (g : Int32) (a0 : Nat → Nat → Int32) (dz : Nat) (q : Nat → Nat → Nat) (n : Nat) (gt : Nat → Int64) (gn : Nat → Nat) (gr0 : Nat → Nat → Nat → Int32) (ga0 : Nat → Nat → Int32) (lost : Int32) (mm : Nat) (gc0 : Nat → Nat → Int32) (gl : Nat → Nat) (d1 d2 : Int32) (x y : Int32) (hn : n ≤ 100) (hm : mm ≤ 600) (hgl : ∀ i, i < mm → gl i < n) : Fs (S := TPS) l yX3_takePayment cX3_takePayment 6 none 4 0 0 D (TY k) G0 [.ref (q 5 0), .int x, .int y, .ref (t 0)] (bF t k (nf, g, a0) ++ bG k dz q n gt gn gr0 ga0 lost mm gc0 gl d1 d2) (fun _ => none) (fun u => u = tpAll x n mm gl (y, a0, ga0, gr0, gc0)) (fun u => bF t k (nf, g, u.2.1) ++ bG k dz q n gt gn u.2.2.2.1 u.2.2.1 lost mm u.2.2.2.2 gl d1 d2) := by
  refine fs_body (by decide +kernel) (Nat.le_of_ble_eq_true rfl) ?_
  intro p e s m args below meth c_ Q A hx hb hml hown hts hK hP hD hS hA hG hin hr hq hlocks ls hl
  replace hl : lv_has ls 6 [(0, .ref (q 5 0)), (1, .int x), (2, .int y), (3, .ref (t 0))] := hl
  change s.vm.findClass RX3 = some m.cls at hown
  have L : ∀ (r i : Nat) (w : Int32) (a : Nat → Nat → Int32) (ga : Nat → Nat → Int32) (gr : Nat → Nat → Nat → Int32) (gc : Nat → Nat → Int32) (H : Heap) (locs : List Loc), i + r = mm → lp (tpStep x gl) r i (w, a, ga, gr, gc) = lp (tpStep x gl) mm 0 (y, a0, ga0, gr0, gc0) → va_P D vwCl (bF t k (nf, g, a) ++ bG k dz q n gt gn gr ga lost mm gc gl d1 d2) H → va_D A (bF t k (nf, g, a) ++ bG k dz q n gt gn gr ga lost mm gc gl d1 d2) → va_S A s.heap H locs → ∀ (ls : Array Slot), lv_has ls 6 [(0, .ref (q 5 0)), (1, .int x), (3, .ref (t 0)), (4, .int w), (5, .int (nI i))] → W p l e (rmd 4 0 0) s m args below meth c_ H locs 0 0 Q (F0 m 6 ls []) := by
    intro r
    induction r with
    | zero =>
      intro i w a ga gr gc H locs hi he hP hD hS ls hl
      refine lv_iload hx hb dX3_takePayment_6 (lv_at hl 4 rfl) ?_
      refine lv_aload_n hx hb dX3_takePayment_8 rfl (lv_at hl 0 rfl) ?_
      refine va_get (D := D) (ci := 3) (v := .ref (q 5 2)) (C := RX3) (T := TX3) (N := 3) hx hb hts inX3 hown hK ((hP.low (fun c hc => List.mem_append_right _ hc)).mem bG_o) 0 rfl rfl 1 (by decide) (hts _ wd_1_147) (fun _ h9 => h9) rfl dX3_takePayment_9 ?_
      refine ro_V (rest := [.int (nI i)]) (st1 := [.int (nI mm), .int (nI i)]) (As := []) ⟨hx, hb, hml, hown, hts⟩ Gd0 trivial hS hK (c_Jx4a65c_size_8abf5 l D k (q 5 2) (if mm = 0 then dz else q 5 4) d2 mm) mi_Jx4a65c_size_8abf5 wd_2_147 wd_2_148 wd_2_146 ⟨Nat.le_of_ble_eq_true rfl, Nat.le_of_ble_eq_true rfl⟩ ((hP.low (fun c hc => List.mem_append_right _ hc)).mem bG_c) 0 rfl rfl rfl hl.1 rfl (Nat.le_of_ble_eq_true rfl) rfl ⟨Nat.le_of_ble_eq_true rfl, Nat.le_of_ble_eq_true rfl⟩ dX3_takePayment_12 ?_
      refine lv_icmp_ge (tgt := 66) hx hb dX3_takePayment_15 (by decide) (fun c15 => ?_) (fun c15 => absurd (nI_le (by omega) (by omega)) c15)
      refine lv_aload_n hx hb dX3_takePayment_66 rfl (lv_at hl 0 rfl) ?_
      refine lv_iload_n hx hb dX3_takePayment_67 rfl (lv_at hl 1 rfl) ?_
      refine ro_V (rest := []) (st1 := oR (q 0) (fOpen (col ga 1) (col ga 16) x n) :: []) (As := [.int x]) ⟨hx, hb, hml, hown, hts⟩ Gd0 trivial hS hK (c_X3_openLoanOf l D k dz q n gt gn gr ga lost mm gc gl d1 d2 x hn hm) mi_X3_openLoanOf wd_2_151 wd_2_152 wd_3_188 ⟨Nat.le_of_ble_eq_true rfl, Nat.le_of_ble_eq_true rfl⟩ ((hP.low (fun c hc => List.mem_append_right _ hc))) 0 rfl rfl rfl hl.1 rfl (Nat.le_of_ble_eq_true rfl) rfl ⟨Nat.le_of_ble_eq_true rfl, Nat.le_of_ble_eq_true rfl⟩ dX3_takePayment_68 ?_
      cases o68 : fOpen (col ga 1) (col ga 16) x n with
      | none =>
        refine W.eq (g2 := F0 m 71 ls [.null]) rfl ?_
        refine lv_astoreN (lv' := [(5, .null), (0, .ref (q 5 0)), (1, .int x), (3, .ref (t 0)), (4, .int w)]) hx hb dX3_takePayment_71 hl (by decide) rfl (fun ls hl => ?_)
        refine lv_aloadN hx hb dX3_takePayment_73 (lv_at hl 0 rfl) ?_
        refine lv_ifnullN (tgt := 86) hx hb dX3_takePayment_75 (by decide) ?_
        exact fs_v hx hb hr hlocks hq (w, a, ga, gr, gc) (by rw [tpAll, ← he]; show _ = tpEnd x n (w, a, ga, gr, gc); unfold tpEnd; rw [show fOpen (col ((w, a, ga, gr, gc) : TPS).2.2.1 1) (col ((w, a, ga, gr, gc) : TPS).2.2.1 16) x n = _ from o68]; try rfl) hP hD hS dX3_takePayment_86 rfl
      | some j68 =>
        refine W.eq (g2 := F0 m 71 ls [.ref (q 0 j68)]) rfl ?_
        have hj68 : j68 < n := by have := (fnd_lt o68).2.1; omega
        refine lv_astore (lv' := [(5, .ref (q 0 j68)), (0, .ref (q 5 0)), (1, .int x), (3, .ref (t 0)), (4, .int w)]) hx hb dX3_takePayment_71 hl (by decide) rfl (fun ls hl => ?_)
        refine lv_aload hx hb dX3_takePayment_73 (lv_at hl 0 rfl) ?_
        refine lv_ifnull hx hb dX3_takePayment_75 ?_
        refine lv_aload hx hb dX3_takePayment_78 (lv_at hl 0 rfl) ?_
        refine lv_iload hx hb dX3_takePayment_80 (lv_at hl 4 rfl) ?_
        refine lv_aload_n hx hb dX3_takePayment_82 rfl (lv_at hl 3 rfl) ?_
        replace hP : va_P D vwCl ([] ++ (bFL t k (q 0 j68) (ga j68) (q 1 j68) (q 2 j68) (q 3 j68) (gt j68) ((nf, g, a), gr 2 j68, gr 3 j68) ++ gxP k dz q n gt gn gr ga lost mm d1 d2 j68 (sK q mm gc gl))) H := hP.prm (fun x9 => bP_x hj68 x9)
        replace hD : va_D A ([] ++ (bFL t k (q 0 j68) (ga j68) (q 1 j68) (q 2 j68) (q 3 j68) (gt j68) ((nf, g, a), gr 2 j68, gr 3 j68) ++ gxP k dz q n gt gn gr ga lost mm d1 d2 j68 (sK q mm gc gl))) := hD.prm (fun x9 => bP_x hj68 x9)
        refine fs_Sf ([]) (gxP k dz q n gt gn gr ga lost mm d1 d2 j68 (sK q mm gc gl)) (rest := []) (As := [.ref (q 0 j68), .int w, .ref (t 0)]) ⟨hx, hb, hml, hown, hts⟩ Gd0 trivial hS hA hK (hP) (hD) (c_X3_payLoan l D k t nf g a (q 0 j68) (ga j68) (q 1 j68) (q 2 j68) (q 3 j68) (gt j68) (gr 2 j68) (gr 3 j68) w) mi_X3_payLoan wd_3_222 wd_3_221 ⟨Nat.le_of_ble_eq_true rfl, Nat.le_of_ble_eq_true rfl⟩ rfl hl.1 rfl (Nat.le_of_ble_eq_true rfl) ⟨Nat.le_of_ble_eq_true rfl, Nat.le_of_ble_eq_true rfl⟩ dX3_takePayment_83 (fun u_1 H locs hu_2 hP hD hS => ?_)
        subst hu_2
        replace hP : va_P D vwCl ([] ++ (bFL t k (q 0 j68) (tpL j68 (w, a, ga, gr, gc)).1 (q 1 j68) (q 2 j68) (q 3 j68) (gt j68) ((nf, g, up a 1 (tpL j68 (w, a, ga, gr, gc)).2.1), gr 2 j68, (tpL j68 (w, a, ga, gr, gc)).2.2) ++ gxP k dz q n gt gn gr ga lost mm d1 d2 j68 (sK q mm gc gl))) H := hP
        replace hP : va_P D vwCl (bF t k (nf, g, up a 1 (tpL j68 (w, a, ga, gr, gc)).2.1) ++ bG k dz q n gt gn (up gr 3 (up (gr 3) j68 (tpL j68 (w, a, ga, gr, gc)).2.2)) (up ga j68 (tpL j68 (w, a, ga, gr, gc)).1) lost mm gc gl d1 d2) H := hP.prm (fun x9 => bP_y hj68 _ _ _ x9)
        replace hD : va_D A ([] ++ (bFL t k (q 0 j68) (tpL j68 (w, a, ga, gr, gc)).1 (q 1 j68) (q 2 j68) (q 3 j68) (gt j68) ((nf, g, up a 1 (tpL j68 (w, a, ga, gr, gc)).2.1), gr 2 j68, (tpL j68 (w, a, ga, gr, gc)).2.2) ++ gxP k dz q n gt gn gr ga lost mm d1 d2 j68 (sK q mm gc gl))) := hD
        replace hD : va_D A (bF t k (nf, g, up a 1 (tpL j68 (w, a, ga, gr, gc)).2.1) ++ bG k dz q n gt gn (up gr 3 (up (gr 3) j68 (tpL j68 (w, a, ga, gr, gc)).2.2)) (up ga j68 (tpL j68 (w, a, ga, gr, gc)).1) lost mm gc gl d1 d2) := hD.prm (fun x9 => bP_y hj68 _ _ _ x9)
        refine W.eq (g2 := F0 m 86 ls []) rfl ?_
        exact fs_v hx hb hr hlocks hq (w, up a 1 (tpL j68 (w, a, ga, gr, gc)).2.1, up ga j68 (tpL j68 (w, a, ga, gr, gc)).1, up gr 3 (up (gr 3) j68 (tpL j68 (w, a, ga, gr, gc)).2.2), gc) (by rw [tpAll, ← he]; show _ = tpEnd x n (w, a, ga, gr, gc); unfold tpEnd; rw [show fOpen (col ((w, a, ga, gr, gc) : TPS).2.2.1 1) (col ((w, a, ga, gr, gc) : TPS).2.2.1 16) x n = _ from o68]; try rfl) hP hD hS dX3_takePayment_86 rfl
    | succ r ih =>
      intro i w a ga gr gc H locs hi he hP hD hS ls hl
      refine lv_iload hx hb dX3_takePayment_6 (lv_at hl 4 rfl) ?_
      refine lv_aload_n hx hb dX3_takePayment_8 rfl (lv_at hl 0 rfl) ?_
      refine va_get (D := D) (ci := 3) (v := .ref (q 5 2)) (C := RX3) (T := TX3) (N := 3) hx hb hts inX3 hown hK ((hP.low (fun c hc => List.mem_append_right _ hc)).mem bG_o) 0 rfl rfl 1 (by decide) (hts _ wd_1_147) (fun _ h9 => h9) rfl dX3_takePayment_9 ?_
      refine ro_V (rest := [.int (nI i)]) (st1 := [.int (nI mm), .int (nI i)]) (As := []) ⟨hx, hb, hml, hown, hts⟩ Gd0 trivial hS hK (c_Jx4a65c_size_8abf5 l D k (q 5 2) (if mm = 0 then dz else q 5 4) d2 mm) mi_Jx4a65c_size_8abf5 wd_2_147 wd_2_148 wd_2_146 ⟨Nat.le_of_ble_eq_true rfl, Nat.le_of_ble_eq_true rfl⟩ ((hP.low (fun c hc => List.mem_append_right _ hc)).mem bG_c) 0 rfl rfl rfl hl.1 rfl (Nat.le_of_ble_eq_true rfl) rfl ⟨Nat.le_of_ble_eq_true rfl, Nat.le_of_ble_eq_true rfl⟩ dX3_takePayment_12 ?_
      refine lv_icmp_ge (tgt := 66) hx hb dX3_takePayment_15 (by decide) (fun c15 => absurd c15 (nI_ge (by omega) (by omega))) (fun c15 => ?_)
      refine lv_aload_n hx hb dX3_takePayment_18 rfl (lv_at hl 0 rfl) ?_
      refine va_get (D := D) (ci := 3) (v := .ref (q 5 2)) (C := RX3) (T := TX3) (N := 3) hx hb hts inX3 hown hK ((hP.low (fun c hc => List.mem_append_right _ hc)).mem bG_o) 0 rfl rfl 1 (by decide) (hts _ wd_1_147) (fun _ h9 => h9) rfl dX3_takePayment_19 ?_
      refine lv_iload hx hb dX3_takePayment_22 (lv_at hl 4 rfl) ?_
      refine ro_V (rest := []) (st1 := [.ref (q 4 i)]) (As := [.int (nI i)]) ⟨hx, hb, hml, hown, hts⟩ Gd0 trivial hS hK (c_Jx4a65c_get_915e3 l D k (q 5 2) (q 5 4) d2 mm (capOf mm) (q 4) i (by omega) (capOf_ok _).1 (by have := (capOf_ok mm).2.1; omega)) mi_Jx4a65c_get_915e3 wd_2_155 wd_2_156 wd_2_154 ⟨Nat.le_of_ble_eq_true rfl, Nat.le_of_ble_eq_true rfl⟩ ((hP.low (fun c hc => List.mem_append_right _ hc)).mem2 (bG_cp (by omega)) (bG_ca (by omega))) 0 rfl rfl rfl hl.1 rfl (Nat.le_of_ble_eq_true rfl) rfl ⟨Nat.le_of_ble_eq_true rfl, Nat.le_of_ble_eq_true rfl⟩ dX3_takePayment_24 ?_
      refine va_castS hx hb hown (hts _ wd_2_179) (hK.1 1 _ rfl).2 (va_recv hK ((hP.low (fun c hc => List.mem_append_right _ hc)).mem (bG_K (i := i) (by omega))) (q0 := 0) rfl rfl) dX3_takePayment_27 ?_
      refine va_get (D := D) (ci := 1) (v := .int (gc i 0)) (C := RX0) (T := TX0) (N := 4) hx hb hts inX0 hown hK ((hP.low (fun c hc => List.mem_append_right _ hc)).mem (bG_K (i := i) (by omega))) 0 rfl rfl 0 (by decide) (hts _ wd_4_19) (fun _ h9 => h9) rfl dX3_takePayment_30 ?_
      refine lv_iload_n hx hb dX3_takePayment_33 rfl (lv_at hl 1 rfl) ?_
      refine lv_icmp_ne (tgt := 60) hx hb dX3_takePayment_34 (by decide) (fun c34 => ?_) (fun c34 => ?_)
      · refine lv_iinc (v := nI (i + 1)) (lv' := [(5, .int (nI (i + 1))), (0, .ref (q 5 0)), (1, .int x), (3, .ref (t 0)), (4, .int w)]) hx hb dX3_takePayment_60 hl (k := 4) rfl (nI_1 _) (by decide) rfl (fun ls hl => ?_)
        refine lv_goto (tgt := 6) hx hb dX3_takePayment_63 (by decide) ?_
        exact ih (i + 1) w a ga gr gc H locs (by omega) (by rw [← he]; show _ = lp (tpStep x gl) r (i + 1) (tpStep x gl i (w, a, ga, gr, gc)); rw [show tpStep x gl i (w, a, ga, gr, gc) = _ from if_neg c34]) hP hD hS ls (lv_sub hl [1, 2, 3, 4, 0] rfl)
      · refine lv_iload hx hb dX3_takePayment_37 (lv_at hl 3 rfl) ?_
        refine lv_aload_n hx hb dX3_takePayment_39 rfl (lv_at hl 0 rfl) ?_
        refine va_get (D := D) (ci := 3) (v := .ref (q 5 2)) (C := RX3) (T := TX3) (N := 3) hx hb hts inX3 hown hK ((hP.low (fun c hc => List.mem_append_right _ hc)).mem bG_o) 0 rfl rfl 1 (by decide) (hts _ wd_1_147) (fun _ h9 => h9) rfl dX3_takePayment_40 ?_
        refine lv_iload hx hb dX3_takePayment_43 (lv_at hl 4 rfl) ?_
        refine ro_V (rest := [.int w]) (st1 := [.ref (q 4 i), .int w]) (As := [.int (nI i)]) ⟨hx, hb, hml, hown, hts⟩ Gd0 trivial hS hK (c_Jx4a65c_get_915e3 l D k (q 5 2) (q 5 4) d2 mm (capOf mm) (q 4) i (by omega) (capOf_ok _).1 (by have := (capOf_ok mm).2.1; omega)) mi_Jx4a65c_get_915e3 wd_2_155 wd_2_156 wd_2_154 ⟨Nat.le_of_ble_eq_true rfl, Nat.le_of_ble_eq_true rfl⟩ ((hP.low (fun c hc => List.mem_append_right _ hc)).mem2 (bG_cp (by omega)) (bG_ca (by omega))) 0 rfl rfl rfl hl.1 rfl (Nat.le_of_ble_eq_true rfl) rfl ⟨Nat.le_of_ble_eq_true rfl, Nat.le_of_ble_eq_true rfl⟩ dX3_takePayment_45 ?_
        refine va_castS hx hb hown (hts _ wd_2_179) (hK.1 1 _ rfl).2 (va_recv hK ((hP.low (fun c hc => List.mem_append_right _ hc)).mem (bG_K (i := i) (by omega))) (q0 := 0) rfl rfl) dX3_takePayment_48 ?_
        refine lv_iload hx hb dX3_takePayment_51 (lv_at hl 3 rfl) ?_
        refine lv_aload_n hx hb dX3_takePayment_53 rfl (lv_at hl 2 rfl) ?_
        replace hP : va_P D vwCl ([] ++ ((bFL t k (q 0 (gl i)) (ga (gl i)) (q 1 (gl i)) (q 2 (gl i)) (q 3 (gl i)) (gt (gl i)) ((nf, g, a), gr 2 (gl i), gr 3 (gl i)) ++ [cK (q 4 i) (gc i 0) (q 0 (gl i)) (gc i 2) (gc i 3)]) ++ gxP k dz q n gt gn gr ga lost mm d1 d2 (gl i) (sgx mm (fun i => [eK q gc gl i]) i))) H := hP.prm (fun x9 => bQ_x (by omega) (hgl i (by omega)) x9)
        replace hD : va_D A ([] ++ ((bFL t k (q 0 (gl i)) (ga (gl i)) (q 1 (gl i)) (q 2 (gl i)) (q 3 (gl i)) (gt (gl i)) ((nf, g, a), gr 2 (gl i), gr 3 (gl i)) ++ [cK (q 4 i) (gc i 0) (q 0 (gl i)) (gc i 2) (gc i 3)]) ++ gxP k dz q n gt gn gr ga lost mm d1 d2 (gl i) (sgx mm (fun i => [eK q gc gl i]) i))) := hD.prm (fun x9 => bQ_x (by omega) (hgl i (by omega)) x9)
        refine fs_Sf ([]) (gxP k dz q n gt gn gr ga lost mm d1 d2 (gl i) (sgx mm (fun i => [eK q gc gl i]) i)) (rest := [.int w]) (As := [.ref (q 4 i), .int w, .ref (t 0)]) ⟨hx, hb, hml, hown, hts⟩ Gd0 trivial hS hA hK (hP) (hD) (c_X3_payCall l D k t nf g a (q 0 (gl i)) (ga (gl i)) (q 1 (gl i)) (q 2 (gl i)) (q 3 (gl i)) (gt (gl i)) (gr 2 (gl i)) (gr 3 (gl i)) (q 4 i) (gc i 0) (gc i 2) (gc i 3) w) mi_X3_payCall wd_3_202 wd_3_201 ⟨Nat.le_of_ble_eq_true rfl, Nat.le_of_ble_eq_true rfl⟩ rfl hl.1 rfl (Nat.le_of_ble_eq_true rfl) ⟨Nat.le_of_ble_eq_true rfl, Nat.le_of_ble_eq_true rfl⟩ dX3_takePayment_54 (fun u_1 H locs hu_2 hP hD hS => ?_)
        subst hu_2
        replace hP : va_P D vwCl ([] ++ ((bFL t k (q 0 (gl i)) (tpK gl i (w, a, ga, gr, gc)).2.1.1 (q 1 (gl i)) (q 2 (gl i)) (q 3 (gl i)) (gt (gl i)) ((nf, g, up a 1 (tpK gl i (w, a, ga, gr, gc)).2.1.2.1), gr 2 (gl i), (tpK gl i (w, a, ga, gr, gc)).2.1.2.2) ++ [cK (q 4 i) (gc i 0) (q 0 (gl i)) (gc i 2) (tpK gl i (w, a, ga, gr, gc)).2.2]) ++ gxP k dz q n gt gn gr ga lost mm d1 d2 (gl i) (sgx mm (fun i => [eK q gc gl i]) i))) H := hP
        replace hP : va_P D vwCl (bF t k (nf, g, up a 1 (tpK gl i (w, a, ga, gr, gc)).2.1.2.1) ++ bG k dz q n gt gn (up gr 3 (up (gr 3) (gl i) (tpK gl i (w, a, ga, gr, gc)).2.1.2.2)) (up ga (gl i) (tpK gl i (w, a, ga, gr, gc)).2.1.1) lost mm (up gc i (up (gc i) 3 (tpK gl i (w, a, ga, gr, gc)).2.2)) gl d1 d2) H := hP.prm (fun x9 => bQ_y (by omega) (hgl i (by omega)) _ _ _ _ x9)
        replace hD : va_D A ([] ++ ((bFL t k (q 0 (gl i)) (tpK gl i (w, a, ga, gr, gc)).2.1.1 (q 1 (gl i)) (q 2 (gl i)) (q 3 (gl i)) (gt (gl i)) ((nf, g, up a 1 (tpK gl i (w, a, ga, gr, gc)).2.1.2.1), gr 2 (gl i), (tpK gl i (w, a, ga, gr, gc)).2.1.2.2) ++ [cK (q 4 i) (gc i 0) (q 0 (gl i)) (gc i 2) (tpK gl i (w, a, ga, gr, gc)).2.2]) ++ gxP k dz q n gt gn gr ga lost mm d1 d2 (gl i) (sgx mm (fun i => [eK q gc gl i]) i))) := hD
        replace hD : va_D A (bF t k (nf, g, up a 1 (tpK gl i (w, a, ga, gr, gc)).2.1.2.1) ++ bG k dz q n gt gn (up gr 3 (up (gr 3) (gl i) (tpK gl i (w, a, ga, gr, gc)).2.1.2.2)) (up ga (gl i) (tpK gl i (w, a, ga, gr, gc)).2.1.1) lost mm (up gc i (up (gc i) 3 (tpK gl i (w, a, ga, gr, gc)).2.2)) gl d1 d2) := hD.prm (fun x9 => bQ_y (by omega) (hgl i (by omega)) _ _ _ _ x9)
        refine W.eq (g2 := F0 m 57 ls [.int ((tpK gl i (w, a, ga, gr, gc)).1), .int w]) rfl ?_
        refine lv_isub hx hb dX3_takePayment_57 ?_
        refine lv_istore (lv' := [(4, .int (w - ((tpK gl i (w, a, ga, gr, gc)).1))), (0, .ref (q 5 0)), (1, .int x), (3, .ref (t 0)), (5, .int (nI i))]) hx hb dX3_takePayment_58 hl (by decide) rfl (fun ls hl => ?_)
        refine lv_iinc (v := nI (i + 1)) (lv' := [(5, .int (nI (i + 1))), (4, .int (w - ((tpK gl i (w, a, ga, gr, gc)).1))), (0, .ref (q 5 0)), (1, .int x), (3, .ref (t 0))]) hx hb dX3_takePayment_60 hl (k := 4) rfl (nI_1 _) (by decide) rfl (fun ls hl => ?_)
        refine lv_goto (tgt := 6) hx hb dX3_takePayment_63 (by decide) ?_
        exact ih (i + 1) (w - ((tpK gl i (w, a, ga, gr, gc)).1)) (up a 1 (tpK gl i (w, a, ga, gr, gc)).2.1.2.1) (up ga (gl i) (tpK gl i (w, a, ga, gr, gc)).2.1.1) (up gr 3 (up (gr 3) (gl i) (tpK gl i (w, a, ga, gr, gc)).2.1.2.2)) (up gc i (up (gc i) 3 (tpK gl i (w, a, ga, gr, gc)).2.2)) H locs (by omega) (by rw [← he]; show _ = lp (tpStep x gl) r (i + 1) (tpStep x gl i (w, a, ga, gr, gc)); rw [show tpStep x gl i (w, a, ga, gr, gc) = _ from if_pos c34]) hP hD hS ls (lv_sub hl [2, 3, 4, 1, 0] rfl)
  refine lv_iload_n hx hb dX3_takePayment_0 rfl (lv_at hl 2 rfl) ?_
  refine lv_istore (lv' := [(4, .int y), (0, .ref (q 5 0)), (1, .int x), (2, .int y), (3, .ref (t 0))]) hx hb dX3_takePayment_1 hl (by decide) rfl (fun ls hl => ?_)
  refine lv_iconst (v := 0) hx hb dX3_takePayment_3 (by decide) ?_
  refine lv_istore (lv' := [(5, .int 0), (4, .int y), (0, .ref (q 5 0)), (1, .int x), (2, .int y), (3, .ref (t 0))]) hx hb dX3_takePayment_4 hl (by decide) rfl (fun ls hl => ?_)
  exact L mm 0 y a0 ga0 gr0 gc0 _ _ (by omega) (rfl) hP hD hS ls (lv_sub hl [2, 3, 5, 1, 0] rfl)
