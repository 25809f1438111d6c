/-! ===== the law, call by call: loan, surety, taken, about ===== -/
theorem prm_a (a b c : va_W) : ∀ x, cn x (a ++ (b ++ c)) = cn x (([] : va_W) ++ ((a ++ c) ++ b)) := by
  intro x
  simp only [cn_app, cn_nil]
  omega
theorem prm_b (a b c : va_W) : ∀ x, cn x (([] : va_W) ++ ((a ++ c) ++ b)) = cn x (a ++ (b ++ c)) := fun x => (prm_a a b c x).symm
section LAW4
variable {p : Program} {l : Launch} {e : Env} {s : State} {m : MethodId} {args : Array Value} {below : List Frame} {meth : Method} {c : Code} {Q : State → Prop} {b L : Nat} {xs : Nat → Int32} {D : va_G} {k : Nat → ClassId} {kz : Nat} {ke sK sV : Nat → Nat} {dz mi : Nat} {sx : Nat → Nat} {N : Nat} {q : Nat → Nat → Nat} {d1 d2 : Int32} {u : CSt} {v : MSt} {g : GH} {h_ : Nat} {qm : Nat → Nat} {ad : Nat} {fo : Nat → Int64} {H : Heap} {locs : List Loc} {cells slots : Nat} {ls : Array Slot}
set_option maxHeartbeats 4000000 in
set_option maxRecDepth 100000 in
theorem law_loan (C : LC p s m c args b L xs D k kz ke sK sV dz mi sx) (hst : l.stackTraces = false) (hN : 6 * N + 6 ≤ L) (hL : L ≤ 3072) (h : Rel N u v g) (hx9 : RX v) (hP : va_P D vwCl (LW k dz q d1 d2 u h_ qm v ad fo) H) (hD : va_D (AA s) (LW k dz q d1 d2 u h_ qm v ad fo)) (hS : va_S (AA s) s.heap H locs) (hl : lv_has ls 7 (LV b (q 6 0) h_ ad N)) (hc1 : cells + 600 ≤ 601024) (hc2 : slots + 3700 ≤ 7293034)
    (kk : LK p l e s m args below meth c Q b D k dz (q 6 0) h_ qm ad N (cells + 600) (slots + 3700)) : W p l e room_1 s m args below meth c H locs cells slots Q (F0 m 598 ls []) := by
  obtain ⟨hx, hb, hml, hown, hts, hK, hG, hX, hbl⟩ := id C
  have hA : ∀ q, s.heap.size ≤ q → AA s q := fun _ h => h
  have hu := h.xb
  have hv := h.mb
  have hN5 : N ≤ 512 := by omega
  unfold LK at kk
  obtain ⟨⟨r1, r4⟩, r2⟩ := rel_loan h (xs (6 * N + 1)) (xs (6 * N + 2))
  refine lv_aload_n hx hb dL_law_598 rfl (lv_at hl 1 rfl) ?_
  refine law_arg C hS hN hL (lv_at hl 0 rfl) (lv_at hl 4 rfl) 1 (by decide) dL_law_599 dL_law_600 dL_law_602 (by decide) dL_law_603 dL_law_604 ?_
  refine law_arg C hS hN hL (lv_at hl 0 rfl) (lv_at hl 4 rfl) 2 (by decide) dL_law_605 dL_law_606 dL_law_608 (by decide) dL_law_609 dL_law_610 ?_
  refine lv_aload_n hx hb dL_law_611 rfl (lv_at hl 3 rfl) ?_
  replace hP := hP.prm (prm_a _ _ _)
  replace hD := hD.prm (prm_a _ _ _)
  refine fsw_S (n := 4) [] (MwU h_ qm k v) (rest := []) (As := [.ref (q 6 0), .int (xs (6 * N + 1)), .int (xs (6 * N + 2)), .ref ad]) ⟨hx, hb, hml, hown, hts⟩ GdAT hG hS hA hK hP hD (cu_h_loan l hst D k kz ke sK sV dz mi q u d1 d2 sx (xs (6 * N + 1)) (xs (6 * N + 2)) ad fo hu) wd_4_71 wd_1_0 ⟨by decide +kernel, by decide +kernel⟩ (by decide +kernel) wd_4_70 wd_4_69 ⟨Nat.le_of_ble_eq_true rfl, Nat.le_of_ble_eq_true rfl⟩ rfl hl.1 rfl (Nat.le_of_ble_eq_true rfl) ⟨by show cells + 1 ≤ 601024; omega, by show slots + 6 ≤ 7293034; omega⟩ dL_law_612 (fun r H locs _ hP hD hS => ?_)
  replace hP := hP.prm (prm_b _ _ _)
  replace hD := hD.prm (prm_b _ _ _)
  refine lv_istore (lv' := (5, .int (hV (xLoanV (xs (6 * N + 1)) (xs (6 * N + 2)) u))) :: LV b (q 6 0) h_ ad N) hx hb dL_law_615 hl (by decide) rfl (fun ls hl => ?_)
  refine lv_aload_n hx hb dL_law_617 rfl (lv_at hl 3 rfl) ?_
  refine law_arg C hS hN hL (lv_at hl 1 rfl) (lv_at hl 5 rfl) 1 (by decide) dL_law_618 dL_law_619 dL_law_621 (by decide) dL_law_622 dL_law_623 ?_
  refine law_arg C hS hN hL (lv_at hl 1 rfl) (lv_at hl 5 rfl) 2 (by decide) dL_law_624 dL_law_625 dL_law_627 (by decide) dL_law_628 dL_law_629 ?_
  refine fs_Vf (bX k dz q d1 d2 u) ([(ad, .inl (k 3, 1, .inr (.inl (hO (xLoanV (xs (6 * N + 1)) (xs (6 * N + 2)) u) fo))))]) (rest := []) (As := [.int (xs (6 * N + 1)), .int (xs (6 * N + 2))]) ⟨hx, hb, hml, hown, hts⟩ Gd0 trivial hS hA hK hP hD (cv_loan l D h_ qm k v (xs (6 * N + 1)) (xs (6 * N + 2)) u.gn hv) mi_X9_loan wd_6_16 wd_6_17 wd_6_15 ⟨Nat.le_of_ble_eq_true rfl, Nat.le_of_ble_eq_true rfl⟩ 0 rfl rfl rfl hl.1 rfl (Nat.le_of_ble_eq_true rfl) ⟨by show cells + 1 + 0 ≤ 601024; omega, by show slots + 6 + 0 ≤ 7293034; omega⟩ dL_law_630 (fun r H locs hr hP hD hS => ?_)
  subst hr
  refine lv_istore (lv' := (6, .int (mLoan (xs (6 * N + 1)) (xs (6 * N + 2)) v).1) :: (5, .int (hV (xLoanV (xs (6 * N + 1)) (xs (6 * N + 2)) u))) :: LV b (q 6 0) h_ ad N) hx hb dL_law_633 hl (by decide) rfl (fun ls hl => ?_)
  refine lv_aload_n hx hb dL_law_635 rfl (lv_at hl 4 rfl) ?_
  refine ro_V (rest := []) (st1 := [.int ((mLoan (xs (6 * N + 1)) (xs (6 * N + 2)) v).2.2.1 0)]) (As := []) ⟨hx, hb, hml, hown, hts⟩ Gd0 trivial hS hK (cv_thrown l D h_ qm k (mLoan (xs (6 * N + 1)) (xs (6 * N + 2)) v).2 _ r2.mb) mi_X9_thrown wd_5_99 wd_5_100 wd_5_98 ⟨Nat.le_of_ble_eq_true rfl, Nat.le_of_ble_eq_true rfl⟩ (va_P_mid hP) 0 rfl rfl rfl hl.1 rfl (Nat.le_of_ble_eq_true rfl) rfl ⟨by show cells + 1 + 0 ≤ 601024; omega, by show slots + 6 + 0 ≤ 7293034; omega⟩ dL_law_636 ?_
  refine lv_iload hx hb dL_law_639 (lv_at hl 1 rfl) ?_
  refine lv_icmp_eq (tgt := 646) hx hb dL_law_641 (by decide) (fun _ => ?_) (fun c9 => absurd r1 c9)
  have fin : W p l e room_1 s m args below meth c H locs (cells + 1 + 0) (slots + 6 + 0) Q (F0 m 663 ls []) := by
    refine lv_goto (tgt := 920) hx hb dL_law_663 (by decide) ?_
    refine W.widen (k := cells + 600) (n := slots + 3700) (by omega) (by omega) ?_
    exact kk q d1 d2 _ _ g (hO (xLoanV (xs (6 * N + 1)) (xs (6 * N + 2)) u) fo) _ _ ls rfl (r2.upN) (rx_loan hx9 (xs (6 * N + 1)) (xs (6 * N + 2))) hP hD hS (lv_sub hl [2, 3, 4, 5, 6] rfl)
  refine lv_iload hx hb dL_law_646 (lv_at hl 1 rfl) ?_
  refine lv_if_ne (tgt := 663) hx hb dL_law_648 (by decide) (fun _ => fin) (fun c5 => ?_)
  have hP3 : va_P D vwCl [(ad, .inl (k 3, 1, .inr (.inl (hO (xLoanV (xs (6 * N + 1)) (xs (6 * N + 2)) u) fo))))] H := hP.low (fun c hc => List.mem_append_right _ (List.mem_append_right _ hc))
  have heq : hO (xLoanV (xs (6 * N + 1)) (xs (6 * N + 2)) u) fo (0 : Int32).toNatClampNeg = (mLoan (xs (6 * N + 1)) (xs (6 * N + 2)) v).1.toInt64 := by
    cases ho : (xLoanV (xs (6 * N + 1)) (xs (6 * N + 2)) u) with
    | none => rw [ho] at c5; exact absurd c5 (by decide)
    | some w9 =>
      rw [r4 w9 ho]
      exact pk_uLs
  refine lv_aload_n hx hb dL_law_651 rfl (lv_at hl 5 rfl) ?_
  refine lv_iconst (v := 0) hx hb dL_law_652 (by decide) ?_
  refine va_lald hx hb hK hP3 0 3 rfl rfl (pk_in 0 1 (by decide)) dL_law_653 ?_
  refine lv_iload hx hb dL_law_654 (lv_at hl 0 rfl) ?_
  refine lv_i2l (v := (mLoan (xs (6 * N + 1)) (xs (6 * N + 2)) v).1.toInt64) hx hb dL_law_656 rfl ?_
  refine W.lcmp hx hb dL_law_657 ?_
  refine lv_if_eq (tgt := 663) hx hb dL_law_658 (by decide) (fun _ => fin) (fun c9 => absurd (lg_cmp0.mpr heq) c9)
set_option maxHeartbeats 4000000 in
set_option maxRecDepth 100000 in
theorem law_surety (C : LC p s m c args b L xs D k kz ke sK sV dz mi sx) (hst : l.stackTraces = false) (hN : 6 * N + 6 ≤ L) (hL : L ≤ 3072) (h : Rel N u v g) (hx9 : RX v) (hP : va_P D vwCl (LW k dz q d1 d2 u h_ qm v ad fo) H) (hD : va_D (AA s) (LW k dz q d1 d2 u h_ qm v ad fo)) (hS : va_S (AA s) s.heap H locs) (hl : lv_has ls 7 (LV b (q 6 0) h_ ad N)) (hc1 : cells + 600 ≤ 601024) (hc2 : slots + 3700 ≤ 7293034)
    (kk : LK p l e s m args below meth c Q b D k dz (q 6 0) h_ qm ad N (cells + 600) (slots + 3700)) : W p l e room_1 s m args below meth c H locs cells slots Q (F0 m 666 ls []) := by
  obtain ⟨hx, hb, hml, hown, hts, hK, hG, hX, hbl⟩ := id C
  have hA : ∀ q, s.heap.size ≤ q → AA s q := fun _ h => h
  have hu := h.xb
  have hv := h.mb
  have hN5 : N ≤ 512 := by omega
  unfold LK at kk
  obtain ⟨⟨r1, r4⟩, r2⟩ := rel_surety h (xs (6 * N + 1)) (xs (6 * N + 2))
  refine lv_aload_n hx hb dL_law_666 rfl (lv_at hl 1 rfl) ?_
  refine law_arg C hS hN hL (lv_at hl 0 rfl) (lv_at hl 4 rfl) 1 (by decide) dL_law_667 dL_law_668 dL_law_670 (by decide) dL_law_671 dL_law_672 ?_
  refine law_arg C hS hN hL (lv_at hl 0 rfl) (lv_at hl 4 rfl) 2 (by decide) dL_law_673 dL_law_674 dL_law_676 (by decide) dL_law_677 dL_law_678 ?_
  refine lv_aload_n hx hb dL_law_679 rfl (lv_at hl 3 rfl) ?_
  replace hP := hP.prm (prm_a _ _ _)
  replace hD := hD.prm (prm_a _ _ _)
  refine fsw_S (n := 4) [] (MwU h_ qm k v) (rest := []) (As := [.ref (q 6 0), .int (xs (6 * N + 1)), .int (xs (6 * N + 2)), .ref ad]) ⟨hx, hb, hml, hown, hts⟩ GdAT hG hS hA hK hP hD (cu_h_surety l hst D k kz ke sK sV dz mi q u d1 d2 sx (xs (6 * N + 1)) (xs (6 * N + 2)) ad fo hu) wd_4_150 wd_1_0 ⟨by decide +kernel, by decide +kernel⟩ (by decide +kernel) wd_4_149 wd_4_148 ⟨Nat.le_of_ble_eq_true rfl, Nat.le_of_ble_eq_true rfl⟩ rfl hl.1 rfl (Nat.le_of_ble_eq_true rfl) ⟨by show cells + 1 ≤ 601024; omega, by show slots + 6 ≤ 7293034; omega⟩ dL_law_680 (fun r H locs _ hP hD hS => ?_)
  replace hP := hP.prm (prm_b _ _ _)
  replace hD := hD.prm (prm_b _ _ _)
  refine lv_istore (lv' := (5, .int (hV (xSuretyV (xs (6 * N + 1)) (xs (6 * N + 2)) u))) :: LV b (q 6 0) h_ ad N) hx hb dL_law_683 hl (by decide) rfl (fun ls hl => ?_)
  refine lv_aload_n hx hb dL_law_685 rfl (lv_at hl 3 rfl) ?_
  refine law_arg C hS hN hL (lv_at hl 1 rfl) (lv_at hl 5 rfl) 1 (by decide) dL_law_686 dL_law_687 dL_law_689 (by decide) dL_law_690 dL_law_691 ?_
  refine law_arg C hS hN hL (lv_at hl 1 rfl) (lv_at hl 5 rfl) 2 (by decide) dL_law_692 dL_law_693 dL_law_695 (by decide) dL_law_696 dL_law_697 ?_
  refine fs_Vf (bX k dz q d1 d2 u) ([(ad, .inl (k 3, 1, .inr (.inl (hO (xSuretyV (xs (6 * N + 1)) (xs (6 * N + 2)) u) fo))))]) (rest := []) (As := [.int (xs (6 * N + 1)), .int (xs (6 * N + 2))]) ⟨hx, hb, hml, hown, hts⟩ Gd0 trivial hS hA hK hP hD (cv_surety l D h_ qm k v (xs (6 * N + 1)) (xs (6 * N + 2)) u.gn hv) mi_X9_surety wd_6_28 wd_6_29 wd_6_27 ⟨Nat.le_of_ble_eq_true rfl, Nat.le_of_ble_eq_true rfl⟩ 0 rfl rfl rfl hl.1 rfl (Nat.le_of_ble_eq_true rfl) ⟨by show cells + 1 + 0 ≤ 601024; omega, by show slots + 6 + 0 ≤ 7293034; omega⟩ dL_law_698 (fun r H locs hr hP hD hS => ?_)
  subst hr
  refine lv_istore (lv' := (6, .int (mSurety (xs (6 * N + 1)) (xs (6 * N + 2)) v).1) :: (5, .int (hV (xSuretyV (xs (6 * N + 1)) (xs (6 * N + 2)) u))) :: LV b (q 6 0) h_ ad N) hx hb dL_law_701 hl (by decide) rfl (fun ls hl => ?_)
  refine lv_aload_n hx hb dL_law_703 rfl (lv_at hl 4 rfl) ?_
  refine ro_V (rest := []) (st1 := [.int ((mSurety (xs (6 * N + 1)) (xs (6 * N + 2)) v).2.2.1 0)]) (As := []) ⟨hx, hb, hml, hown, hts⟩ Gd0 trivial hS hK (cv_thrown l D h_ qm k (mSurety (xs (6 * N + 1)) (xs (6 * N + 2)) v).2 _ r2.mb) mi_X9_thrown wd_5_99 wd_5_100 wd_5_98 ⟨Nat.le_of_ble_eq_true rfl, Nat.le_of_ble_eq_true rfl⟩ (va_P_mid hP) 0 rfl rfl rfl hl.1 rfl (Nat.le_of_ble_eq_true rfl) rfl ⟨by show cells + 1 + 0 ≤ 601024; omega, by show slots + 6 + 0 ≤ 7293034; omega⟩ dL_law_704 ?_
  refine lv_iload hx hb dL_law_707 (lv_at hl 1 rfl) ?_
  refine lv_icmp_eq (tgt := 714) hx hb dL_law_709 (by decide) (fun _ => ?_) (fun c9 => absurd r1 c9)
  have fin : W p l e room_1 s m args below meth c H locs (cells + 1 + 0) (slots + 6 + 0) Q (F0 m 731 ls []) := by
    refine lv_goto (tgt := 920) hx hb dL_law_731 (by decide) ?_
    refine W.widen (k := cells + 600) (n := slots + 3700) (by omega) (by omega) ?_
    exact kk q d1 d2 _ _ g (hO (xSuretyV (xs (6 * N + 1)) (xs (6 * N + 2)) u) fo) _ _ ls rfl (r2.upN) (rx_surety hx9 (xs (6 * N + 1)) (xs (6 * N + 2))) hP hD hS (lv_sub hl [2, 3, 4, 5, 6] rfl)
  refine lv_iload hx hb dL_law_714 (lv_at hl 1 rfl) ?_
  refine lv_if_ne (tgt := 731) hx hb dL_law_716 (by decide) (fun _ => fin) (fun c5 => ?_)
  have hP3 : va_P D vwCl [(ad, .inl (k 3, 1, .inr (.inl (hO (xSuretyV (xs (6 * N + 1)) (xs (6 * N + 2)) u) fo))))] H := hP.low (fun c hc => List.mem_append_right _ (List.mem_append_right _ hc))
  have heq : hO (xSuretyV (xs (6 * N + 1)) (xs (6 * N + 2)) u) fo (0 : Int32).toNatClampNeg = (mSurety (xs (6 * N + 1)) (xs (6 * N + 2)) v).1.toInt64 := by
    cases ho : (xSuretyV (xs (6 * N + 1)) (xs (6 * N + 2)) u) with
    | none => rw [ho] at c5; exact absurd c5 (by decide)
    | some w9 =>
      rw [r4 w9 ho]
      exact pk_uLs
  refine lv_aload_n hx hb dL_law_719 rfl (lv_at hl 5 rfl) ?_
  refine lv_iconst (v := 0) hx hb dL_law_720 (by decide) ?_
  refine va_lald hx hb hK hP3 0 3 rfl rfl (pk_in 0 1 (by decide)) dL_law_721 ?_
  refine lv_iload hx hb dL_law_722 (lv_at hl 0 rfl) ?_
  refine lv_i2l (v := (mSurety (xs (6 * N + 1)) (xs (6 * N + 2)) v).1.toInt64) hx hb dL_law_724 rfl ?_
  refine W.lcmp hx hb dL_law_725 ?_
  refine lv_if_eq (tgt := 731) hx hb dL_law_726 (by decide) (fun _ => fin) (fun c9 => absurd (lg_cmp0.mpr heq) c9)
set_option maxHeartbeats 4000000 in
set_option maxRecDepth 100000 in
theorem law_taken (C : LC p s m c args b L xs D k kz ke sK sV dz mi sx) (hst : l.stackTraces = false) (hN : 6 * N + 6 ≤ L) (hL : L ≤ 3072) (h : Rel N u v g) (hx9 : RX v) (hP : va_P D vwCl (LW k dz q d1 d2 u h_ qm v ad fo) H) (hD : va_D (AA s) (LW k dz q d1 d2 u h_ qm v ad fo)) (hS : va_S (AA s) s.heap H locs) (hl : lv_has ls 7 (LV b (q 6 0) h_ ad N)) (hc1 : cells + 600 ≤ 601024) (hc2 : slots + 3700 ≤ 7293034)
    (kk : LK p l e s m args below meth c Q b D k dz (q 6 0) h_ qm ad N (cells + 600) (slots + 3700)) : W p l e room_1 s m args below meth c H locs cells slots Q (F0 m 734 ls []) := by
  obtain ⟨hx, hb, hml, hown, hts, hK, hG, hX, hbl⟩ := id C
  have hA : ∀ q, s.heap.size ≤ q → AA s q := fun _ h => h
  have hu := h.xb
  have hv := h.mb
  have hN5 : N ≤ 512 := by omega
  unfold LK at kk
  obtain ⟨⟨r1, r4⟩, r2⟩ := rel_taken h (xs (6 * N + 1)) (xs (6 * N + 2))
  refine lv_aload_n hx hb dL_law_734 rfl (lv_at hl 1 rfl) ?_
  refine law_arg C hS hN hL (lv_at hl 0 rfl) (lv_at hl 4 rfl) 1 (by decide) dL_law_735 dL_law_736 dL_law_738 (by decide) dL_law_739 dL_law_740 ?_
  refine law_arg C hS hN hL (lv_at hl 0 rfl) (lv_at hl 4 rfl) 2 (by decide) dL_law_741 dL_law_742 dL_law_744 (by decide) dL_law_745 dL_law_746 ?_
  refine lv_aload_n hx hb dL_law_747 rfl (lv_at hl 3 rfl) ?_
  replace hP := hP.prm (prm_a _ _ _)
  replace hD := hD.prm (prm_a _ _ _)
  refine fsw_S (n := 4) [] (MwU h_ qm k v) (rest := []) (As := [.ref (q 6 0), .int (xs (6 * N + 1)), .int (xs (6 * N + 2)), .ref ad]) ⟨hx, hb, hml, hown, hts⟩ GdAT hG hS hA hK hP hD (cu_h_taken l hst D k kz ke sK sV dz mi q u d1 d2 sx (xs (6 * N + 1)) (xs (6 * N + 2)) ad fo hu) wd_4_158 wd_1_0 ⟨by decide +kernel, by decide +kernel⟩ (by decide +kernel) wd_4_157 wd_4_156 ⟨Nat.le_of_ble_eq_true rfl, Nat.le_of_ble_eq_true rfl⟩ rfl hl.1 rfl (Nat.le_of_ble_eq_true rfl) ⟨by show cells + 1 ≤ 601024; omega, by show slots + 6 ≤ 7293034; omega⟩ dL_law_748 (fun r H locs _ hP hD hS => ?_)
  replace hP := hP.prm (prm_b _ _ _)
  replace hD := hD.prm (prm_b _ _ _)
  refine lv_istore (lv' := (5, .int (hV (xTakenV (xs (6 * N + 1)) (xs (6 * N + 2)) u))) :: LV b (q 6 0) h_ ad N) hx hb dL_law_751 hl (by decide) rfl (fun ls hl => ?_)
  refine lv_aload_n hx hb dL_law_753 rfl (lv_at hl 3 rfl) ?_
  refine law_arg C hS hN hL (lv_at hl 1 rfl) (lv_at hl 5 rfl) 1 (by decide) dL_law_754 dL_law_755 dL_law_757 (by decide) dL_law_758 dL_law_759 ?_
  refine law_arg C hS hN hL (lv_at hl 1 rfl) (lv_at hl 5 rfl) 2 (by decide) dL_law_760 dL_law_761 dL_law_763 (by decide) dL_law_764 dL_law_765 ?_
  refine fs_Vf (bX k dz q d1 d2 u) ([(ad, .inl (k 3, 1, .inr (.inl (hO (xTakenV (xs (6 * N + 1)) (xs (6 * N + 2)) u) fo))))]) (rest := []) (As := [.int (xs (6 * N + 1)), .int (xs (6 * N + 2))]) ⟨hx, hb, hml, hown, hts⟩ Gd0 trivial hS hA hK hP hD (cv_taken l D h_ qm k v (xs (6 * N + 1)) (xs (6 * N + 2)) u.gn hv) mi_X9_taken wd_6_32 wd_6_33 wd_6_31 ⟨Nat.le_of_ble_eq_true rfl, Nat.le_of_ble_eq_true rfl⟩ 0 rfl rfl rfl hl.1 rfl (Nat.le_of_ble_eq_true rfl) ⟨by show cells + 1 + 0 ≤ 601024; omega, by show slots + 6 + 0 ≤ 7293034; omega⟩ dL_law_766 (fun r H locs hr hP hD hS => ?_)
  subst hr
  refine lv_istore (lv' := (6, .int (mTaken (xs (6 * N + 1)) (xs (6 * N + 2)) v).1) :: (5, .int (hV (xTakenV (xs (6 * N + 1)) (xs (6 * N + 2)) u))) :: LV b (q 6 0) h_ ad N) hx hb dL_law_769 hl (by decide) rfl (fun ls hl => ?_)
  refine lv_aload_n hx hb dL_law_771 rfl (lv_at hl 4 rfl) ?_
  refine ro_V (rest := []) (st1 := [.int ((mTaken (xs (6 * N + 1)) (xs (6 * N + 2)) v).2.2.1 0)]) (As := []) ⟨hx, hb, hml, hown, hts⟩ Gd0 trivial hS hK (cv_thrown l D h_ qm k (mTaken (xs (6 * N + 1)) (xs (6 * N + 2)) v).2 _ r2.mb) mi_X9_thrown wd_5_99 wd_5_100 wd_5_98 ⟨Nat.le_of_ble_eq_true rfl, Nat.le_of_ble_eq_true rfl⟩ (va_P_mid hP) 0 rfl rfl rfl hl.1 rfl (Nat.le_of_ble_eq_true rfl) rfl ⟨by show cells + 1 + 0 ≤ 601024; omega, by show slots + 6 + 0 ≤ 7293034; omega⟩ dL_law_772 ?_
  refine lv_iload hx hb dL_law_775 (lv_at hl 1 rfl) ?_
  refine lv_icmp_eq (tgt := 782) hx hb dL_law_777 (by decide) (fun _ => ?_) (fun c9 => absurd r1 c9)
  have fin : W p l e room_1 s m args below meth c H locs (cells + 1 + 0) (slots + 6 + 0) Q (F0 m 799 ls []) := by
    refine lv_goto (tgt := 920) hx hb dL_law_799 (by decide) ?_
    refine W.widen (k := cells + 600) (n := slots + 3700) (by omega) (by omega) ?_
    exact kk q d1 d2 _ _ g (hO (xTakenV (xs (6 * N + 1)) (xs (6 * N + 2)) u) fo) _ _ ls rfl (r2.upN) (rx_taken hx9 (xs (6 * N + 1)) (xs (6 * N + 2))) hP hD hS (lv_sub hl [2, 3, 4, 5, 6] rfl)
  refine lv_iload hx hb dL_law_782 (lv_at hl 1 rfl) ?_
  refine lv_if_ne (tgt := 799) hx hb dL_law_784 (by decide) (fun _ => fin) (fun c5 => ?_)
  have hP3 : va_P D vwCl [(ad, .inl (k 3, 1, .inr (.inl (hO (xTakenV (xs (6 * N + 1)) (xs (6 * N + 2)) u) fo))))] H := hP.low (fun c hc => List.mem_append_right _ (List.mem_append_right _ hc))
  have heq : hO (xTakenV (xs (6 * N + 1)) (xs (6 * N + 2)) u) fo (0 : Int32).toNatClampNeg = (mTaken (xs (6 * N + 1)) (xs (6 * N + 2)) v).1.toInt64 := by
    cases ho : (xTakenV (xs (6 * N + 1)) (xs (6 * N + 2)) u) with
    | none => rw [ho] at c5; exact absurd c5 (by decide)
    | some w9 =>
      rw [r4 w9 ho]
      exact pk_uLs
  refine lv_aload_n hx hb dL_law_787 rfl (lv_at hl 5 rfl) ?_
  refine lv_iconst (v := 0) hx hb dL_law_788 (by decide) ?_
  refine va_lald hx hb hK hP3 0 3 rfl rfl (pk_in 0 1 (by decide)) dL_law_789 ?_
  refine lv_iload hx hb dL_law_790 (lv_at hl 0 rfl) ?_
  refine lv_i2l (v := (mTaken (xs (6 * N + 1)) (xs (6 * N + 2)) v).1.toInt64) hx hb dL_law_792 rfl ?_
  refine W.lcmp hx hb dL_law_793 ?_
  refine lv_if_eq (tgt := 799) hx hb dL_law_794 (by decide) (fun _ => fin) (fun c9 => absurd (lg_cmp0.mpr heq) c9)
set_option maxHeartbeats 4000000 in
set_option maxRecDepth 100000 in
theorem law_about (C : LC p s m c args b L xs D k kz ke sK sV dz mi sx) (hst : l.stackTraces = false) (hN : 6 * N + 6 ≤ L) (hL : L ≤ 3072) (h : Rel N u v g) (hx9 : RX v) (hP : va_P D vwCl (LW k dz q d1 d2 u h_ qm v ad fo) H) (hD : va_D (AA s) (LW k dz q d1 d2 u h_ qm v ad fo)) (hS : va_S (AA s) s.heap H locs) (hl : lv_has ls 7 (LV b (q 6 0) h_ ad N)) (hc1 : cells + 600 ≤ 601024) (hc2 : slots + 3700 ≤ 7293034)
    (kk : LK p l e s m args below meth c Q b D k dz (q 6 0) h_ qm ad N (cells + 600) (slots + 3700)) : W p l e room_1 s m args below meth c H locs cells slots Q (F0 m 802 ls []) := by
  obtain ⟨hx, hb, hml, hown, hts, hK, hG, hX, hbl⟩ := id C
  have hA : ∀ q, s.heap.size ≤ q → AA s q := fun _ h => h
  have hu := h.xb
  have hv := h.mb
  have hN5 : N ≤ 512 := by omega
  unfold LK at kk
  obtain ⟨⟨r1, r4⟩, r2⟩ := rel_about h (xs (6 * N + 1)) (xs (6 * N + 2))
  refine lv_aload_n hx hb dL_law_802 rfl (lv_at hl 1 rfl) ?_
  refine law_arg C hS hN hL (lv_at hl 0 rfl) (lv_at hl 4 rfl) 1 (by decide) dL_law_803 dL_law_804 dL_law_806 (by decide) dL_law_807 dL_law_808 ?_
  refine law_arg C hS hN hL (lv_at hl 0 rfl) (lv_at hl 4 rfl) 2 (by decide) dL_law_809 dL_law_810 dL_law_812 (by decide) dL_law_813 dL_law_814 ?_
  refine lv_aload_n hx hb dL_law_815 rfl (lv_at hl 3 rfl) ?_
  replace hP := hP.prm (prm_a _ _ _)
  replace hD := hD.prm (prm_a _ _ _)
  refine fsw_S (n := 4) [] (MwU h_ qm k v) (rest := []) (As := [.ref (q 6 0), .int (xs (6 * N + 1)), .int (xs (6 * N + 2)), .ref ad]) ⟨hx, hb, hml, hown, hts⟩ GdAT hG hS hA hK hP hD (cu_h_about l hst D k kz ke sK sV dz mi q u d1 d2 sx (xs (6 * N + 1)) (xs (6 * N + 2)) ad fo hu) wd_4_166 wd_1_0 ⟨by decide +kernel, by decide +kernel⟩ (by decide +kernel) wd_4_165 wd_4_164 ⟨Nat.le_of_ble_eq_true rfl, Nat.le_of_ble_eq_true rfl⟩ rfl hl.1 rfl (Nat.le_of_ble_eq_true rfl) ⟨by show cells + 1 ≤ 601024; omega, by show slots + 6 ≤ 7293034; omega⟩ dL_law_816 (fun r H locs _ hP hD hS => ?_)
  replace hP := hP.prm (prm_b _ _ _)
  replace hD := hD.prm (prm_b _ _ _)
  refine lv_istore (lv' := (5, .int (hV (xAboutV (xs (6 * N + 1)) (xs (6 * N + 2)) u))) :: LV b (q 6 0) h_ ad N) hx hb dL_law_819 hl (by decide) rfl (fun ls hl => ?_)
  refine lv_aload_n hx hb dL_law_821 rfl (lv_at hl 3 rfl) ?_
  refine law_arg C hS hN hL (lv_at hl 1 rfl) (lv_at hl 5 rfl) 1 (by decide) dL_law_822 dL_law_823 dL_law_825 (by decide) dL_law_826 dL_law_827 ?_
  refine law_arg C hS hN hL (lv_at hl 1 rfl) (lv_at hl 5 rfl) 2 (by decide) dL_law_828 dL_law_829 dL_law_831 (by decide) dL_law_832 dL_law_833 ?_
  refine fs_Vf (bX k dz q d1 d2 u) ([(ad, .inl (k 3, 1, .inr (.inl (hO (xAboutV (xs (6 * N + 1)) (xs (6 * N + 2)) u) fo))))]) (rest := []) (As := [.int (xs (6 * N + 1)), .int (xs (6 * N + 2))]) ⟨hx, hb, hml, hown, hts⟩ Gd0 trivial hS hA hK hP hD (cv_about l D h_ qm k v (xs (6 * N + 1)) (xs (6 * N + 2)) u.gn hv) mi_X9_about wd_6_36 wd_6_37 wd_6_35 ⟨Nat.le_of_ble_eq_true rfl, Nat.le_of_ble_eq_true rfl⟩ 0 rfl rfl rfl hl.1 rfl (Nat.le_of_ble_eq_true rfl) ⟨by show cells + 1 + 0 ≤ 601024; omega, by show slots + 6 + 0 ≤ 7293034; omega⟩ dL_law_834 (fun r H locs hr hP hD hS => ?_)
  subst hr
  refine lv_istore (lv' := (6, .int (mAbout (xs (6 * N + 1)) (xs (6 * N + 2)) u.gn v).1) :: (5, .int (hV (xAboutV (xs (6 * N + 1)) (xs (6 * N + 2)) u))) :: LV b (q 6 0) h_ ad N) hx hb dL_law_837 hl (by decide) rfl (fun ls hl => ?_)
  refine lv_aload_n hx hb dL_law_839 rfl (lv_at hl 4 rfl) ?_
  refine ro_V (rest := []) (st1 := [.int ((mAbout (xs (6 * N + 1)) (xs (6 * N + 2)) u.gn v).2.2.1 0)]) (As := []) ⟨hx, hb, hml, hown, hts⟩ Gd0 trivial hS hK (cv_thrown l D h_ qm k (mAbout (xs (6 * N + 1)) (xs (6 * N + 2)) u.gn v).2 _ r2.mb) mi_X9_thrown wd_5_99 wd_5_100 wd_5_98 ⟨Nat.le_of_ble_eq_true rfl, Nat.le_of_ble_eq_true rfl⟩ (va_P_mid hP) 0 rfl rfl rfl hl.1 rfl (Nat.le_of_ble_eq_true rfl) rfl ⟨by show cells + 1 + 0 ≤ 601024; omega, by show slots + 6 + 0 ≤ 7293034; omega⟩ dL_law_840 ?_
  refine lv_iload hx hb dL_law_843 (lv_at hl 1 rfl) ?_
  refine lv_icmp_eq (tgt := 850) hx hb dL_law_845 (by decide) (fun _ => ?_) (fun c9 => absurd r1 c9)
  have fin : W p l e room_1 s m args below meth c H locs (cells + 1 + 0) (slots + 6 + 0) Q (F0 m 867 ls []) := by
    refine lv_goto (tgt := 920) hx hb dL_law_867 (by decide) ?_
    refine W.widen (k := cells + 600) (n := slots + 3700) (by omega) (by omega) ?_
    exact kk q d1 d2 _ _ g (hO (xAboutV (xs (6 * N + 1)) (xs (6 * N + 2)) u) fo) _ _ ls rfl (r2.upN) (rx_about hx9 (xs (6 * N + 1)) (xs (6 * N + 2)) u.gn) hP hD hS (lv_sub hl [2, 3, 4, 5, 6] rfl)
  refine lv_iload hx hb dL_law_850 (lv_at hl 1 rfl) ?_
  refine lv_if_ne (tgt := 867) hx hb dL_law_852 (by decide) (fun _ => fin) (fun c5 => ?_)
  have hP3 : va_P D vwCl [(ad, .inl (k 3, 1, .inr (.inl (hO (xAboutV (xs (6 * N + 1)) (xs (6 * N + 2)) u) fo))))] H := hP.low (fun c hc => List.mem_append_right _ (List.mem_append_right _ hc))
  have heq : hO (xAboutV (xs (6 * N + 1)) (xs (6 * N + 2)) u) fo (0 : Int32).toNatClampNeg = (mAbout (xs (6 * N + 1)) (xs (6 * N + 2)) u.gn v).1.toInt64 := by
    cases ho : (xAboutV (xs (6 * N + 1)) (xs (6 * N + 2)) u) with
    | none => rw [ho] at c5; exact absurd c5 (by decide)
    | some w9 =>
      rw [r4 w9 ho]
      exact pk_uLs
  refine lv_aload_n hx hb dL_law_855 rfl (lv_at hl 5 rfl) ?_
  refine lv_iconst (v := 0) hx hb dL_law_856 (by decide) ?_
  refine va_lald hx hb hK hP3 0 3 rfl rfl (pk_in 0 1 (by decide)) dL_law_857 ?_
  refine lv_iload hx hb dL_law_858 (lv_at hl 0 rfl) ?_
  refine lv_i2l (v := (mAbout (xs (6 * N + 1)) (xs (6 * N + 2)) u.gn v).1.toInt64) hx hb dL_law_860 rfl ?_
  refine W.lcmp hx hb dL_law_861 ?_
  refine lv_if_eq (tgt := 867) hx hb dL_law_862 (by decide) (fun _ => fin) (fun c9 => absurd (lg_cmp0.mpr heq) c9)
end LAW4
