/-! ===== the law, call by call: owes, next, chest, ring, count, tag ===== -/
section LAW3
variable {p : Program} {l : Launch} {e : Env} {s : State} {m : MethodId} {args : Array Value} {below : List Frame} {meth : Method} {c : Code} {Q : State → Prop} {b L : Nat} {xs : Nat → Int32} {D : va_G} {k : Nat → ClassId} {kz : Nat} {ke sK sV : Nat → Nat} {dz mi : Nat} {sx : Nat → Nat} {N : Nat} {q : Nat → Nat → Nat} {d1 d2 : Int32} {u : CSt} {v : MSt} {g : GH} {h_ : Nat} {qm : Nat → Nat} {ad : Nat} {fo : Nat → Int64} {H : Heap} {locs : List Loc} {cells slots : Nat} {ls : Array Slot}
set_option maxHeartbeats 4000000 in
set_option maxRecDepth 100000 in
theorem law_owes (C : LC p s m c args b L xs D k kz ke sK sV dz mi sx) (hN : 6 * N + 6 ≤ L) (hL : L ≤ 3072) (h : Rel N u v g) (hx9 : RX v) (hP : va_P D vwCl (LW k dz q d1 d2 u h_ qm v ad fo) H) (hD : va_D (AA s) (LW k dz q d1 d2 u h_ qm v ad fo)) (hS : va_S (AA s) s.heap H locs) (hl : lv_has ls 7 (LV b (q 6 0) h_ ad N)) (hc1 : cells + 600 ≤ 601024) (hc2 : slots + 3700 ≤ 7293034)
    (kk : LK p l e s m args below meth c Q b D k dz (q 6 0) h_ qm ad N (cells + 600) (slots + 3700)) : W p l e room_1 s m args below meth c H locs cells slots Q (F0 m 523 ls []) := by
  obtain ⟨hx, hb, hml, hown, hts, hK, hG, hX, hbl⟩ := id C
  have hA : ∀ q, s.heap.size ≤ q → AA s q := fun _ h => h
  have hu := h.xb
  have hv := h.mb
  have hN5 : N ≤ 512 := by omega
  unfold LK at kk
  have r1 := rel_owes h (xs (6 * N + 1))
  refine lv_aload_n hx hb dL_law_523 rfl (lv_at hl 1 rfl) ?_
  refine law_arg C hS hN hL (lv_at hl 0 rfl) (lv_at hl 4 rfl) 1 (by decide) dL_law_524 dL_law_525 dL_law_527 (by decide) dL_law_528 dL_law_529 ?_
  refine ro_V (rest := []) (st1 := [.int (xOwes (xs (6 * N + 1)) u)]) (As := [.int (xs (6 * N + 1))]) ⟨hx, hb, hml, hown, hts⟩ Gd0 trivial hS hK (cu_owes l D k dz q u d1 d2 (xs (6 * N + 1)) hu) mi_X8_owes wd_3_225 wd_3_226 wd_3_224 ⟨Nat.le_of_ble_eq_true rfl, Nat.le_of_ble_eq_true rfl⟩ (va_P_mid (w1 := []) hP) 0 rfl rfl rfl hl.1 rfl (Nat.le_of_ble_eq_true rfl) rfl ⟨by show cells ≤ 601024; omega, by show slots ≤ 7293034; omega⟩ dL_law_530 ?_
  refine lv_aload_n hx hb dL_law_533 rfl (lv_at hl 2 rfl) ?_
  refine law_arg C hS hN hL (lv_at hl 0 rfl) (lv_at hl 4 rfl) 1 (by decide) dL_law_534 dL_law_535 dL_law_537 (by decide) dL_law_538 dL_law_539 ?_
  refine fs_Vf (bX k dz q d1 d2 u) ([(ad, .inl (k 3, 1, .inr (.inl fo)))]) (rest := [.int (xOwes (xs (6 * N + 1)) u)]) (As := [.int (xs (6 * N + 1))]) ⟨hx, hb, hml, hown, hts⟩ Gd0 trivial hS hA hK hP hD (cv_owes l D h_ qm k v (xs (6 * N + 1)) u.gn hv) mi_X9_owes wd_5_224 wd_5_225 wd_5_223 ⟨Nat.le_of_ble_eq_true rfl, Nat.le_of_ble_eq_true rfl⟩ 0 rfl rfl rfl hl.1 rfl (Nat.le_of_ble_eq_true rfl) ⟨by show cells + 0 ≤ 601024; omega, by show slots + 0 ≤ 7293034; omega⟩ dL_law_540 (fun r H locs hr hP hD hS => ?_)
  subst hr
  refine lv_icmp_eq (tgt := 920) hx hb dL_law_543 (by decide) (fun _ => ?_) (fun c9 => absurd r1 c9)
  refine W.widen (k := cells + 600) (n := slots + 3700) (by omega) (by omega) ?_
  exact kk q d1 d2 _ _ g fo _ _ ls rfl (h.t0.upN) hx9 hP hD hS hl
set_option maxHeartbeats 4000000 in
set_option maxRecDepth 100000 in
theorem law_next (C : LC p s m c args b L xs D k kz ke sK sV dz mi sx) (hN : 6 * N + 6 ≤ L) (hL : L ≤ 3072) (h : Rel N u v g) (hx9 : RX v) (hP : va_P D vwCl (LW k dz q d1 d2 u h_ qm v ad fo) H) (hD : va_D (AA s) (LW k dz q d1 d2 u h_ qm v ad fo)) (hS : va_S (AA s) s.heap H locs) (hl : lv_has ls 7 (LV b (q 6 0) h_ ad N)) (hc1 : cells + 600 ≤ 601024) (hc2 : slots + 3700 ≤ 7293034)
    (kk : LK p l e s m args below meth c Q b D k dz (q 6 0) h_ qm ad N (cells + 600) (slots + 3700)) : W p l e room_1 s m args below meth c H locs cells slots Q (F0 m 548 ls []) := by
  obtain ⟨hx, hb, hml, hown, hts, hK, hG, hX, hbl⟩ := id C
  have hA : ∀ q, s.heap.size ≤ q → AA s q := fun _ h => h
  have hu := h.xb
  have hv := h.mb
  have hN5 : N ≤ 512 := by omega
  unfold LK at kk
  have hms := next_ms hu
  obtain ⟨g2, r1, r2⟩ := rel_next h hN5
  refine lv_aload_n hx hb dL_law_548 rfl (lv_at hl 1 rfl) ?_
  refine fs_Vf [] (MwU h_ qm k v ++ [(ad, .inl (k 3, 1, .inr (.inl fo)))]) (rest := []) (As := []) ⟨hx, hb, hml, hown, hts⟩ GdA hG.1 hS hA hK hP hD (cu_next l D k kz ke sK sV dz mi q u d1 d2  hu) mi_X8_next wd_3_229 wd_3_230 wd_3_228 ⟨Nat.le_of_ble_eq_true rfl, Nat.le_of_ble_eq_true rfl⟩ 0 rfl rfl rfl hl.1 rfl (Nat.le_of_ble_eq_true rfl) ⟨by show cells + 600 ≤ 601024; omega, by show slots + (1200 + (gT (ewAll (nI u.wk) u.n u.gn (u.gr 1) u.E).2.2.1 - gT u.mm)) ≤ 7293034; omega⟩ dL_law_549 (fun r H locs hr hP hD hS => ?_)
  obtain ⟨⟨r0, uu⟩, q2, d9⟩ := r
  obtain ⟨hr1, hr2⟩ := hr
  have hr3 : r0 = (xNext u).1 := congrArg (fun z : Int32 × CSt => z.1) hr1
  have hr4 : uu = (xNext u).2 := congrArg (fun z : Int32 × CSt => z.2) hr1
  subst hr3
  subst hr4
  refine lv_aload_n hx hb dL_law_552 rfl (lv_at hl 2 rfl) ?_
  refine fs_Vf (bX k dz (qMix q q2) d1 d9 (xNext u).2) ([(ad, .inl (k 3, 1, .inr (.inl fo)))]) (rest := [.int (xNext u).1]) (As := []) ⟨hx, hb, hml, hown, hts⟩ Gd0 trivial hS hA hK hP hD (cv_next l D h_ qm k v  u.gn hv) mi_X9_next wd_6_4 wd_6_5 wd_6_3 ⟨Nat.le_of_ble_eq_true rfl, Nat.le_of_ble_eq_true rfl⟩ 0 rfl rfl rfl hl.1 rfl (Nat.le_of_ble_eq_true rfl) ⟨by show cells + 600 + 0 ≤ 601024; omega, by show slots + (1200 + (gT (ewAll (nI u.wk) u.n u.gn (u.gr 1) u.E).2.2.1 - gT u.mm)) + 0 ≤ 7293034; omega⟩ dL_law_553 (fun r H locs hr hP hD hS => ?_)
  subst hr
  refine lv_icmp_eq (tgt := 920) hx hb dL_law_556 (by decide) (fun _ => ?_) (fun c9 => absurd r1 c9)
  refine W.widen (k := cells + 600) (n := slots + 3700) (by omega) (by omega) ?_
  exact kk (qMix q q2) d1 d9 _ _ g2 fo _ _ ls rfl (r2) (rx_next h hx9 u.gn) hP hD hS hl
set_option maxHeartbeats 4000000 in
set_option maxRecDepth 100000 in
theorem law_chest (C : LC p s m c args b L xs D k kz ke sK sV dz mi sx) (hN : 6 * N + 6 ≤ L) (hL : L ≤ 3072) (h : Rel N u v g) (hx9 : RX v) (hP : va_P D vwCl (LW k dz q d1 d2 u h_ qm v ad fo) H) (hD : va_D (AA s) (LW k dz q d1 d2 u h_ qm v ad fo)) (hS : va_S (AA s) s.heap H locs) (hl : lv_has ls 7 (LV b (q 6 0) h_ ad N)) (hc1 : cells + 600 ≤ 601024) (hc2 : slots + 3700 ≤ 7293034)
    (kk : LK p l e s m args below meth c Q b D k dz (q 6 0) h_ qm ad N (cells + 600) (slots + 3700)) : W p l e room_1 s m args below meth c H locs cells slots Q (F0 m 561 ls []) := by
  obtain ⟨hx, hb, hml, hown, hts, hK, hG, hX, hbl⟩ := id C
  have hA : ∀ q, s.heap.size ≤ q → AA s q := fun _ h => h
  have hu := h.xb
  have hv := h.mb
  have hN5 : N ≤ 512 := by omega
  unfold LK at kk
  have r1 := rel_chest h (xs (6 * N + 1)) (xs (6 * N + 2))
  refine lv_aload_n hx hb dL_law_561 rfl (lv_at hl 1 rfl) ?_
  refine law_arg C hS hN hL (lv_at hl 0 rfl) (lv_at hl 4 rfl) 1 (by decide) dL_law_562 dL_law_563 dL_law_565 (by decide) dL_law_566 dL_law_567 ?_
  refine law_arg C hS hN hL (lv_at hl 0 rfl) (lv_at hl 4 rfl) 2 (by decide) dL_law_568 dL_law_569 dL_law_571 (by decide) dL_law_572 dL_law_573 ?_
  refine ro_V (rest := []) (st1 := [.int (xChest (xs (6 * N + 1)) (xs (6 * N + 2)) u)]) (As := [.int (xs (6 * N + 1)), .int (xs (6 * N + 2))]) ⟨hx, hb, hml, hown, hts⟩ Gd0 trivial hS hK (cu_chest l D k dz q u d1 d2 (xs (6 * N + 1)) (xs (6 * N + 2)) hu) mi_X8_chest wd_4_34 wd_4_35 wd_4_33 ⟨Nat.le_of_ble_eq_true rfl, Nat.le_of_ble_eq_true rfl⟩ (va_P_mid (w1 := []) hP) 0 rfl rfl rfl hl.1 rfl (Nat.le_of_ble_eq_true rfl) rfl ⟨by show cells ≤ 601024; omega, by show slots ≤ 7293034; omega⟩ dL_law_574 ?_
  refine lv_aload_n hx hb dL_law_577 rfl (lv_at hl 2 rfl) ?_
  refine law_arg C hS hN hL (lv_at hl 0 rfl) (lv_at hl 4 rfl) 1 (by decide) dL_law_578 dL_law_579 dL_law_581 (by decide) dL_law_582 dL_law_583 ?_
  refine law_arg C hS hN hL (lv_at hl 0 rfl) (lv_at hl 4 rfl) 2 (by decide) dL_law_584 dL_law_585 dL_law_587 (by decide) dL_law_588 dL_law_589 ?_
  refine fs_Vf (bX k dz q d1 d2 u) ([(ad, .inl (k 3, 1, .inr (.inl fo)))]) (rest := [.int (xChest (xs (6 * N + 1)) (xs (6 * N + 2)) u)]) (As := [.int (xs (6 * N + 1)), .int (xs (6 * N + 2))]) ⟨hx, hb, hml, hown, hts⟩ Gd0 trivial hS hA hK hP hD (cv_chest l D h_ qm k v (xs (6 * N + 1)) (xs (6 * N + 2)) u.gn hv) mi_X9_chest wd_6_12 wd_6_13 wd_6_11 ⟨Nat.le_of_ble_eq_true rfl, Nat.le_of_ble_eq_true rfl⟩ 0 rfl rfl rfl hl.1 rfl (Nat.le_of_ble_eq_true rfl) ⟨by show cells + 0 ≤ 601024; omega, by show slots + 0 ≤ 7293034; omega⟩ dL_law_590 (fun r H locs hr hP hD hS => ?_)
  subst hr
  refine lv_icmp_eq (tgt := 920) hx hb dL_law_593 (by decide) (fun _ => ?_) (fun c9 => absurd r1 c9)
  refine W.widen (k := cells + 600) (n := slots + 3700) (by omega) (by omega) ?_
  exact kk q d1 d2 _ _ g fo _ _ ls rfl (h.t0.upN) hx9 hP hD hS hl
set_option maxHeartbeats 4000000 in
set_option maxRecDepth 100000 in
theorem law_ring (C : LC p s m c args b L xs D k kz ke sK sV dz mi sx) (hN : 6 * N + 6 ≤ L) (hL : L ≤ 3072) (h : Rel N u v g) (hx9 : RX v) (hP : va_P D vwCl (LW k dz q d1 d2 u h_ qm v ad fo) H) (hD : va_D (AA s) (LW k dz q d1 d2 u h_ qm v ad fo)) (hS : va_S (AA s) s.heap H locs) (hl : lv_has ls 7 (LV b (q 6 0) h_ ad N)) (hc1 : cells + 600 ≤ 601024) (hc2 : slots + 3700 ≤ 7293034)
    (kk : LK p l e s m args below meth c Q b D k dz (q 6 0) h_ qm ad N (cells + 600) (slots + 3700)) : W p l e room_1 s m args below meth c H locs cells slots Q (F0 m 870 ls []) := by
  obtain ⟨hx, hb, hml, hown, hts, hK, hG, hX, hbl⟩ := id C
  have hA : ∀ q, s.heap.size ≤ q → AA s q := fun _ h => h
  have hu := h.xb
  have hv := h.mb
  have hN5 : N ≤ 512 := by omega
  unfold LK at kk
  obtain ⟨r1, r2⟩ := rel_ring h (xs (6 * N + 1))
  refine lv_aload_n hx hb dL_law_870 rfl (lv_at hl 1 rfl) ?_
  refine law_arg C hS hN hL (lv_at hl 0 rfl) (lv_at hl 4 rfl) 1 (by decide) dL_law_871 dL_law_872 dL_law_874 (by decide) dL_law_875 dL_law_876 ?_
  refine ro_V (rest := []) (st1 := [.int (xRing (xs (6 * N + 1)) u)]) (As := [.int (xs (6 * N + 1))]) ⟨hx, hb, hml, hown, hts⟩ GdA hG.1 hS hK (cu_ring l D k kz ke sK sV dz mi q u d1 d2 (xs (6 * N + 1)) hu) mi_X8_ring wd_4_46 wd_4_47 wd_4_45 ⟨Nat.le_of_ble_eq_true rfl, Nat.le_of_ble_eq_true rfl⟩ (va_P_mid (w1 := []) hP) 0 rfl rfl rfl hl.1 rfl (Nat.le_of_ble_eq_true rfl) rfl ⟨by show cells ≤ 601024; omega, by show slots ≤ 7293034; omega⟩ dL_law_877 ?_
  refine lv_aload_n hx hb dL_law_880 rfl (lv_at hl 2 rfl) ?_
  refine law_arg C hS hN hL (lv_at hl 0 rfl) (lv_at hl 4 rfl) 1 (by decide) dL_law_881 dL_law_882 dL_law_884 (by decide) dL_law_885 dL_law_886 ?_
  refine fs_Vf (bX k dz q d1 d2 u) ([(ad, .inl (k 3, 1, .inr (.inl fo)))]) (rest := [.int (xRing (xs (6 * N + 1)) u)]) (As := [.int (xs (6 * N + 1))]) ⟨hx, hb, hml, hown, hts⟩ Gd0 trivial hS hA hK hP hD (cv_ring l D h_ qm k v (xs (6 * N + 1)) u.gn hv) mi_X9_ring wd_6_44 wd_6_45 wd_6_43 ⟨Nat.le_of_ble_eq_true rfl, Nat.le_of_ble_eq_true rfl⟩ 0 rfl rfl rfl hl.1 rfl (Nat.le_of_ble_eq_true rfl) ⟨by show cells + 0 ≤ 601024; omega, by show slots + 0 ≤ 7293034; omega⟩ dL_law_887 (fun r H locs hr hP hD hS => ?_)
  subst hr
  refine lv_icmp_eq (tgt := 920) hx hb dL_law_890 (by decide) (fun _ => ?_) (fun c9 => absurd r1 c9)
  refine W.widen (k := cells + 600) (n := slots + 3700) (by omega) (by omega) ?_
  exact kk q d1 d2 _ _ g fo _ _ ls rfl (r2.upN) (rx_ring hx9 (xs (6 * N + 1)) u.gn) hP hD hS hl
set_option maxHeartbeats 4000000 in
set_option maxRecDepth 100000 in
theorem law_count (C : LC p s m c args b L xs D k kz ke sK sV dz mi sx) (hN : 6 * N + 6 ≤ L) (hL : L ≤ 3072) (h : Rel N u v g) (hx9 : RX v) (hP : va_P D vwCl (LW k dz q d1 d2 u h_ qm v ad fo) H) (hD : va_D (AA s) (LW k dz q d1 d2 u h_ qm v ad fo)) (hS : va_S (AA s) s.heap H locs) (hl : lv_has ls 7 (LV b (q 6 0) h_ ad N)) (hc1 : cells + 600 ≤ 601024) (hc2 : slots + 3700 ≤ 7293034)
    (kk : LK p l e s m args below meth c Q b D k dz (q 6 0) h_ qm ad N (cells + 600) (slots + 3700)) : W p l e room_1 s m args below meth c H locs cells slots Q (F0 m 895 ls []) := by
  obtain ⟨hx, hb, hml, hown, hts, hK, hG, hX, hbl⟩ := id C
  have hA : ∀ q, s.heap.size ≤ q → AA s q := fun _ h => h
  have hu := h.xb
  have hv := h.mb
  have hN5 : N ≤ 512 := by omega
  unfold LK at kk
  have r1 := rel_count h (xs (6 * N + 1))
  refine lv_aload_n hx hb dL_law_895 rfl (lv_at hl 1 rfl) ?_
  refine law_arg C hS hN hL (lv_at hl 0 rfl) (lv_at hl 4 rfl) 1 (by decide) dL_law_896 dL_law_897 dL_law_899 (by decide) dL_law_900 dL_law_901 ?_
  refine ro_V (rest := []) (st1 := [.int (xCount (xs (6 * N + 1)) u)]) (As := [.int (xs (6 * N + 1))]) ⟨hx, hb, hml, hown, hts⟩ Gd0 trivial hS hK (cu_count l D k dz q u d1 d2 (xs (6 * N + 1)) hu) mi_X8_count wd_4_50 wd_4_51 wd_4_49 ⟨Nat.le_of_ble_eq_true rfl, Nat.le_of_ble_eq_true rfl⟩ (va_P_mid (w1 := []) hP) 0 rfl rfl rfl hl.1 rfl (Nat.le_of_ble_eq_true rfl) rfl ⟨by show cells ≤ 601024; omega, by show slots ≤ 7293034; omega⟩ dL_law_902 ?_
  refine lv_aload_n hx hb dL_law_905 rfl (lv_at hl 2 rfl) ?_
  refine law_arg C hS hN hL (lv_at hl 0 rfl) (lv_at hl 4 rfl) 1 (by decide) dL_law_906 dL_law_907 dL_law_909 (by decide) dL_law_910 dL_law_911 ?_
  refine fs_Vf (bX k dz q d1 d2 u) ([(ad, .inl (k 3, 1, .inr (.inl fo)))]) (rest := [.int (xCount (xs (6 * N + 1)) u)]) (As := [.int (xs (6 * N + 1))]) ⟨hx, hb, hml, hown, hts⟩ Gd0 trivial hS hA hK hP hD (cv_count l D h_ qm k v (xs (6 * N + 1)) u.gn hv) mi_X9_count wd_6_48 wd_6_49 wd_6_47 ⟨Nat.le_of_ble_eq_true rfl, Nat.le_of_ble_eq_true rfl⟩ 0 rfl rfl rfl hl.1 rfl (Nat.le_of_ble_eq_true rfl) ⟨by show cells + 0 ≤ 601024; omega, by show slots + 0 ≤ 7293034; omega⟩ dL_law_912 (fun r H locs hr hP hD hS => ?_)
  subst hr
  refine lv_icmp_eq (tgt := 920) hx hb dL_law_915 (by decide) (fun _ => ?_) (fun c9 => absurd r1 c9)
  refine W.widen (k := cells + 600) (n := slots + 3700) (by omega) (by omega) ?_
  exact kk q d1 d2 _ _ g fo _ _ ls rfl (h.t0.upN) hx9 hP hD hS hl
set_option maxHeartbeats 4000000 in
set_option maxRecDepth 100000 in
theorem law_tag (C : LC p s m c args b L xs D k kz ke sK sV dz mi sx) (hN : 6 * N + 6 ≤ L) (hL : L ≤ 3072) (h : Rel N u v g) (hx9 : RX v) (hP : va_P D vwCl (LW k dz q d1 d2 u h_ qm v ad fo) H) (hD : va_D (AA s) (LW k dz q d1 d2 u h_ qm v ad fo)) (hS : va_S (AA s) s.heap H locs) (hl : lv_has ls 7 (LV b (q 6 0) h_ ad N)) (hc1 : cells + 600 ≤ 601024) (hc2 : slots + 3700 ≤ 7293034)
    (kk : LK p l e s m args below meth c Q b D k dz (q 6 0) h_ qm ad N (cells + 600) (slots + 3700)) : W p l e room_1 s m args below meth c H locs cells slots Q (F0 m 310 ls []) := by
  obtain ⟨hx, hb, hml, hown, hts, hK, hG, hX, hbl⟩ := id C
  have hA : ∀ q, s.heap.size ≤ q → AA s q := fun _ h => h
  have hu := h.xb
  have hv := h.mb
  have hN5 : N ≤ 512 := by omega
  unfold LK at kk
  refine lv_aload_n hx hb dL_law_310 rfl (lv_at hl 1 rfl) ?_
  refine law_arg C hS hN hL (lv_at hl 0 rfl) (lv_at hl 4 rfl) 1 (by decide) dL_law_311 dL_law_312 dL_law_314 (by decide) dL_law_315 dL_law_316 ?_
  refine law_arg C hS hN hL (lv_at hl 0 rfl) (lv_at hl 4 rfl) 2 (by decide) dL_law_317 dL_law_318 dL_law_320 (by decide) dL_law_321 dL_law_322 ?_
  refine law_arg C hS hN hL (lv_at hl 0 rfl) (lv_at hl 4 rfl) 3 (by decide) dL_law_323 dL_law_324 dL_law_326 (by decide) dL_law_327 dL_law_328 ?_
  refine lv_if_eq (tgt := 336) hx hb dL_law_329 (by decide) (fun c3 => ?_) (fun c3 => ?_)
  · obtain ⟨r1, r2⟩ := rel_tag h (xs (6 * N + 1)) (xs (6 * N + 2)) false
    refine lv_iconst (v := bI false) hx hb dL_law_336 (by decide) ?_
    refine fs_Vf [] (MwU h_ qm k v ++ [(ad, .inl (k 3, 1, .inr (.inl fo)))]) (rest := []) (As := [.int (xs (6 * N + 1)), .int (xs (6 * N + 2)), .int (bI false)]) ⟨hx, hb, hml, hown, hts⟩ Gd0 trivial hS hA hK hP hD (cu_tag l D k dz q u d1 d2 (xs (6 * N + 1)) (xs (6 * N + 2)) (bI false) hu) mi_X8_tag wd_2_96 wd_2_97 wd_2_95 ⟨Nat.le_of_ble_eq_true rfl, Nat.le_of_ble_eq_true rfl⟩ 0 rfl rfl rfl hl.1 rfl (Nat.le_of_ble_eq_true rfl) ⟨by show cells + 0 ≤ 601024; omega, by show slots + 0 ≤ 7293034; omega⟩ dL_law_337 (fun r H locs hr hP hD hS => ?_)
    subst hr
    refine lv_aload_n hx hb dL_law_340 rfl (lv_at hl 2 rfl) ?_
    refine law_arg C hS hN hL (lv_at hl 0 rfl) (lv_at hl 4 rfl) 1 (by decide) dL_law_341 dL_law_342 dL_law_344 (by decide) dL_law_345 dL_law_346 ?_
    refine law_arg C hS hN hL (lv_at hl 0 rfl) (lv_at hl 4 rfl) 2 (by decide) dL_law_347 dL_law_348 dL_law_350 (by decide) dL_law_351 dL_law_352 ?_
    refine law_arg C hS hN hL (lv_at hl 0 rfl) (lv_at hl 4 rfl) 3 (by decide) dL_law_353 dL_law_354 dL_law_356 (by decide) dL_law_357 dL_law_358 ?_
    refine lv_if_eq (tgt := 366) hx hb dL_law_359 (by decide) (fun _ => ?_) (fun c9 => absurd c3 c9)
    refine lv_iconst (v := bI false) hx hb dL_law_366 (by decide) ?_
    refine fs_Vf (bX k dz q d1 d2 (xTag (xs (6 * N + 1)) (xs (6 * N + 2)) (bI false) u).2) ([(ad, .inl (k 3, 1, .inr (.inl fo)))]) (rest := [.int (xTag (xs (6 * N + 1)) (xs (6 * N + 2)) (bI false) u).1]) (As := [.int (xs (6 * N + 1)), .int (xs (6 * N + 2)), .int (bI false)]) ⟨hx, hb, hml, hown, hts⟩ Gd0 trivial hS hA hK hP hD (cv_tag l D h_ qm k v (xs (6 * N + 1)) (xs (6 * N + 2)) (bI false) u.gn hv) mi_X9_tag wd_5_166 wd_5_167 wd_5_165 ⟨Nat.le_of_ble_eq_true rfl, Nat.le_of_ble_eq_true rfl⟩ 0 rfl rfl rfl hl.1 rfl (Nat.le_of_ble_eq_true rfl) ⟨by show cells + 0 + 0 ≤ 601024; omega, by show slots + 0 + 0 ≤ 7293034; omega⟩ dL_law_367 (fun r H locs hr hP hD hS => ?_)
    subst hr
    refine lv_icmp_eq (tgt := 920) hx hb dL_law_370 (by decide) (fun _ => ?_) (fun c9 => absurd r1 c9)
    refine W.widen (k := cells + 600) (n := slots + 3700) (by omega) (by omega) ?_
    exact kk q d1 d2 _ _ g fo _ _ ls rfl (r2.upN) (rx_tag hx9 (xs (6 * N + 1)) (xs (6 * N + 2)) (bI false)) hP hD hS hl
  · obtain ⟨r1, r2⟩ := rel_tag h (xs (6 * N + 1)) (xs (6 * N + 2)) true
    refine lv_iconst (v := bI true) hx hb dL_law_332 (by decide) ?_
    refine lv_goto (tgt := 337) hx hb dL_law_333 (by decide) ?_
    refine fs_Vf [] (MwU h_ qm k v ++ [(ad, .inl (k 3, 1, .inr (.inl fo)))]) (rest := []) (As := [.int (xs (6 * N + 1)), .int (xs (6 * N + 2)), .int (bI true)]) ⟨hx, hb, hml, hown, hts⟩ Gd0 trivial hS hA hK hP hD (cu_tag l D k dz q u d1 d2 (xs (6 * N + 1)) (xs (6 * N + 2)) (bI true) hu) mi_X8_tag wd_2_96 wd_2_97 wd_2_95 ⟨Nat.le_of_ble_eq_true rfl, Nat.le_of_ble_eq_true rfl⟩ 0 rfl rfl rfl hl.1 rfl (Nat.le_of_ble_eq_true rfl) ⟨by show cells + 0 ≤ 601024; omega, by show slots + 0 ≤ 7293034; omega⟩ dL_law_337 (fun r H locs hr hP hD hS => ?_)
    subst hr
    refine lv_aload_n hx hb dL_law_340 rfl (lv_at hl 2 rfl) ?_
    refine law_arg C hS hN hL (lv_at hl 0 rfl) (lv_at hl 4 rfl) 1 (by decide) dL_law_341 dL_law_342 dL_law_344 (by decide) dL_law_345 dL_law_346 ?_
    refine law_arg C hS hN hL (lv_at hl 0 rfl) (lv_at hl 4 rfl) 2 (by decide) dL_law_347 dL_law_348 dL_law_350 (by decide) dL_law_351 dL_law_352 ?_
    refine law_arg C hS hN hL (lv_at hl 0 rfl) (lv_at hl 4 rfl) 3 (by decide) dL_law_353 dL_law_354 dL_law_356 (by decide) dL_law_357 dL_law_358 ?_
    refine lv_if_eq (tgt := 366) hx hb dL_law_359 (by decide) (fun c9 => absurd c9 c3) (fun _ => ?_)
    refine lv_iconst (v := bI true) hx hb dL_law_362 (by decide) ?_
    refine lv_goto (tgt := 367) hx hb dL_law_363 (by decide) ?_
    refine fs_Vf (bX k dz q d1 d2 (xTag (xs (6 * N + 1)) (xs (6 * N + 2)) (bI true) u).2) ([(ad, .inl (k 3, 1, .inr (.inl fo)))]) (rest := [.int (xTag (xs (6 * N + 1)) (xs (6 * N + 2)) (bI true) u).1]) (As := [.int (xs (6 * N + 1)), .int (xs (6 * N + 2)), .int (bI true)]) ⟨hx, hb, hml, hown, hts⟩ Gd0 trivial hS hA hK hP hD (cv_tag l D h_ qm k v (xs (6 * N + 1)) (xs (6 * N + 2)) (bI true) u.gn hv) mi_X9_tag wd_5_166 wd_5_167 wd_5_165 ⟨Nat.le_of_ble_eq_true rfl, Nat.le_of_ble_eq_true rfl⟩ 0 rfl rfl rfl hl.1 rfl (Nat.le_of_ble_eq_true rfl) ⟨by show cells + 0 + 0 ≤ 601024; omega, by show slots + 0 + 0 ≤ 7293034; omega⟩ dL_law_367 (fun r H locs hr hP hD hS => ?_)
    subst hr
    refine lv_icmp_eq (tgt := 920) hx hb dL_law_370 (by decide) (fun _ => ?_) (fun c9 => absurd r1 c9)
    refine W.widen (k := cells + 600) (n := slots + 3700) (by omega) (by omega) ?_
    exact kk q d1 d2 _ _ g fo _ _ ls rfl (r2.upN) (rx_tag hx9 (xs (6 * N + 1)) (xs (6 * N + 2)) (bI true)) hP hD hS hl
end LAW3
