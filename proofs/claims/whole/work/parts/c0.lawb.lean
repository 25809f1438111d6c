/-! ===== the law, call by call: fault, rule, person, fund, gift, ask, pay ===== -/
section LAW2
variable {p : Program} {l : Launch} {e : Env} {s : State} {m : MethodId} {args : Array Value} {below : List Frame} {meth : Method} {c : Code} {Q : State → Prop} {b L : Nat} {xs : Nat → Int32} {D : va_G} {k : Nat → ClassId} {kz : Nat} {ke sK sV : Nat → Nat} {dz mi : Nat} {sx : Nat → Nat} {N : Nat} {q : Nat → Nat → Nat} {d1 d2 : Int32} {u : CSt} {v : MSt} {g : GH} {h_ : Nat} {qm : Nat → Nat} {ad : Nat} {fo : Nat → Int64} {H : Heap} {locs : List Loc} {cells slots : Nat} {ls : Array Slot}
set_option maxHeartbeats 4000000 in
set_option maxRecDepth 100000 in
theorem law_fault (C : LC p s m c args b L xs D k kz ke sK sV dz mi sx) (hN : 6 * N + 6 ≤ L) (hL : L ≤ 3072) (h : Rel N u v g) (hx9 : RX v) (hP : va_P D vwCl (LW k dz q d1 d2 u h_ qm v ad fo) H) (hD : va_D (AA s) (LW k dz q d1 d2 u h_ qm v ad fo)) (hS : va_S (AA s) s.heap H locs) (hl : lv_has ls 7 (LV b (q 6 0) h_ ad N)) (hc1 : cells + 600 ≤ 601024) (hc2 : slots + 3700 ≤ 7293034)
    (kk : LK p l e s m args below meth c Q b D k dz (q 6 0) h_ qm ad N (cells + 600) (slots + 3700)) : W p l e room_1 s m args below meth c H locs cells slots Q (F0 m 247 ls []) := by
  obtain ⟨hx, hb, hml, hown, hts, hK, hG, hX, hbl⟩ := id C
  have hA : ∀ q, s.heap.size ≤ q → AA s q := fun _ h => h
  have hu := h.xb
  have hv := h.mb
  have hN5 : N ≤ 512 := by omega
  unfold LK at kk
  have r1 := h.2.1.2.2.1
  refine lv_aload_n hx hb dL_law_247 rfl (lv_at hl 1 rfl) ?_
  refine ro_V (rest := []) (st1 := [.int u.R.2.2.2.1]) (As := []) ⟨hx, hb, hml, hown, hts⟩ Gd0 trivial hS hK (cu_fault l D k dz q u d1 d2  hu) mi_X8_fault wd_2_75 wd_2_76 wd_2_74 ⟨Nat.le_of_ble_eq_true rfl, Nat.le_of_ble_eq_true rfl⟩ (va_P_mid (w1 := []) hP) 0 rfl rfl rfl hl.1 rfl (Nat.le_of_ble_eq_true rfl) rfl ⟨by show cells ≤ 601024; omega, by show slots ≤ 7293034; omega⟩ dL_law_248 ?_
  refine lv_aload_n hx hb dL_law_251 rfl (lv_at hl 2 rfl) ?_
  refine fs_Vf (bX k dz q d1 d2 u) ([(ad, .inl (k 3, 1, .inr (.inl fo)))]) (rest := [.int u.R.2.2.2.1]) (As := []) ⟨hx, hb, hml, hown, hts⟩ Gd0 trivial hS hA hK hP hD (cv_fault l D h_ qm k v  u.gn hv) mi_X9_fault wd_5_154 wd_5_155 wd_5_153 ⟨Nat.le_of_ble_eq_true rfl, Nat.le_of_ble_eq_true rfl⟩ 0 rfl rfl rfl hl.1 rfl (Nat.le_of_ble_eq_true rfl) ⟨by show cells + 0 ≤ 601024; omega, by show slots + 0 ≤ 7293034; omega⟩ dL_law_252 (fun r H locs hr hP hD hS => ?_)
  subst hr
  refine lv_icmp_eq (tgt := 920) hx hb dL_law_255 (by decide) (fun _ => ?_) (fun c9 => absurd r1 c9)
  refine W.widen (k := cells + 600) (n := slots + 3700) (by omega) (by omega) ?_
  exact kk q d1 d2 _ _ g fo _ _ ls rfl (h.t0.upN) hx9 hP hD hS hl
set_option maxHeartbeats 4000000 in
set_option maxRecDepth 100000 in
theorem law_rule (C : LC p s m c args b L xs D k kz ke sK sV dz mi sx) (hN : 6 * N + 6 ≤ L) (hL : L ≤ 3072) (h : Rel N u v g) (hx9 : RX v) (hP : va_P D vwCl (LW k dz q d1 d2 u h_ qm v ad fo) H) (hD : va_D (AA s) (LW k dz q d1 d2 u h_ qm v ad fo)) (hS : va_S (AA s) s.heap H locs) (hl : lv_has ls 7 (LV b (q 6 0) h_ ad N)) (hc1 : cells + 600 ≤ 601024) (hc2 : slots + 3700 ≤ 7293034)
    (kk : LK p l e s m args below meth c Q b D k dz (q 6 0) h_ qm ad N (cells + 600) (slots + 3700)) : W p l e room_1 s m args below meth c H locs cells slots Q (F0 m 260 ls []) := by
  obtain ⟨hx, hb, hml, hown, hts, hK, hG, hX, hbl⟩ := id C
  have hA : ∀ q, s.heap.size ≤ q → AA s q := fun _ h => h
  have hu := h.xb
  have hv := h.mb
  have hN5 : N ≤ 512 := by omega
  unfold LK at kk
  have r1 := rel_rule h (xs (6 * N + 1))
  refine lv_aload_n hx hb dL_law_260 rfl (lv_at hl 1 rfl) ?_
  refine law_arg C hS hN hL (lv_at hl 0 rfl) (lv_at hl 4 rfl) 1 (by decide) dL_law_261 dL_law_262 dL_law_264 (by decide) dL_law_265 dL_law_266 ?_
  refine ro_V (rest := []) (st1 := [.int (xRule (xs (6 * N + 1)) u)]) (As := [.int (xs (6 * N + 1))]) ⟨hx, hb, hml, hown, hts⟩ GdA hG.1 hS hK (cu_rule l D k kz ke sK sV dz mi q u d1 d2 (xs (6 * N + 1)) hu) mi_X8_rule wd_2_83 wd_2_84 wd_2_82 ⟨Nat.le_of_ble_eq_true rfl, Nat.le_of_ble_eq_true rfl⟩ (va_P_mid (w1 := []) hP) 0 rfl rfl rfl hl.1 rfl (Nat.le_of_ble_eq_true rfl) rfl ⟨by show cells ≤ 601024; omega, by show slots ≤ 7293034; omega⟩ dL_law_267 ?_
  refine lv_aload_n hx hb dL_law_270 rfl (lv_at hl 2 rfl) ?_
  refine law_arg C hS hN hL (lv_at hl 0 rfl) (lv_at hl 4 rfl) 1 (by decide) dL_law_271 dL_law_272 dL_law_274 (by decide) dL_law_275 dL_law_276 ?_
  refine fs_Vf (bX k dz q d1 d2 u) ([(ad, .inl (k 3, 1, .inr (.inl fo)))]) (rest := [.int (xRule (xs (6 * N + 1)) u)]) (As := [.int (xs (6 * N + 1))]) ⟨hx, hb, hml, hown, hts⟩ Gd0 trivial hS hA hK hP hD (cv_rule l D h_ qm k v (xs (6 * N + 1)) u.gn hv) mi_X9_rule wd_5_158 wd_5_159 wd_5_157 ⟨Nat.le_of_ble_eq_true rfl, Nat.le_of_ble_eq_true rfl⟩ 0 rfl rfl rfl hl.1 rfl (Nat.le_of_ble_eq_true rfl) ⟨by show cells + 0 ≤ 601024; omega, by show slots + 0 ≤ 7293034; omega⟩ dL_law_277 (fun r H locs hr hP hD hS => ?_)
  subst hr
  refine lv_icmp_eq (tgt := 920) hx hb dL_law_280 (by decide) (fun _ => ?_) (fun c9 => absurd r1 c9)
  refine W.widen (k := cells + 600) (n := slots + 3700) (by omega) (by omega) ?_
  exact kk q d1 d2 _ _ g fo _ _ ls rfl (h.t0.upN) hx9 hP hD hS hl
set_option maxHeartbeats 4000000 in
set_option maxRecDepth 100000 in
theorem law_person (C : LC p s m c args b L xs D k kz ke sK sV dz mi sx) (hN : 6 * N + 6 ≤ L) (hL : L ≤ 3072) (h : Rel N u v g) (hx9 : RX v) (hP : va_P D vwCl (LW k dz q d1 d2 u h_ qm v ad fo) H) (hD : va_D (AA s) (LW k dz q d1 d2 u h_ qm v ad fo)) (hS : va_S (AA s) s.heap H locs) (hl : lv_has ls 7 (LV b (q 6 0) h_ ad N)) (hc1 : cells + 600 ≤ 601024) (hc2 : slots + 3700 ≤ 7293034)
    (kk : LK p l e s m args below meth c Q b D k dz (q 6 0) h_ qm ad N (cells + 600) (slots + 3700)) : W p l e room_1 s m args below meth c H locs cells slots Q (F0 m 285 ls []) := by
  obtain ⟨hx, hb, hml, hown, hts, hK, hG, hX, hbl⟩ := id C
  have hA : ∀ q, s.heap.size ≤ q → AA s q := fun _ h => h
  have hu := h.xb
  have hv := h.mb
  have hN5 : N ≤ 512 := by omega
  unfold LK at kk
  obtain ⟨r1, r2⟩ := rel_person h (xs (6 * N + 1))
  refine lv_aload_n hx hb dL_law_285 rfl (lv_at hl 1 rfl) ?_
  refine law_arg C hS hN hL (lv_at hl 0 rfl) (lv_at hl 4 rfl) 1 (by decide) dL_law_286 dL_law_287 dL_law_289 (by decide) dL_law_290 dL_law_291 ?_
  refine fs_Vf [] (MwU h_ qm k v ++ [(ad, .inl (k 3, 1, .inr (.inl fo)))]) (rest := []) (As := [.int (xs (6 * N + 1))]) ⟨hx, hb, hml, hown, hts⟩ Gd0 trivial hS hA hK hP hD (cu_person l D k dz q u d1 d2 (xs (6 * N + 1)) hu) mi_X8_person wd_2_92 wd_2_93 wd_2_91 ⟨Nat.le_of_ble_eq_true rfl, Nat.le_of_ble_eq_true rfl⟩ 0 rfl rfl rfl hl.1 rfl (Nat.le_of_ble_eq_true rfl) ⟨by show cells + 0 ≤ 601024; omega, by show slots + 0 ≤ 7293034; omega⟩ dL_law_292 (fun r H locs hr hP hD hS => ?_)
  subst hr
  refine lv_aload_n hx hb dL_law_295 rfl (lv_at hl 2 rfl) ?_
  refine law_arg C hS hN hL (lv_at hl 0 rfl) (lv_at hl 4 rfl) 1 (by decide) dL_law_296 dL_law_297 dL_law_299 (by decide) dL_law_300 dL_law_301 ?_
  refine fs_Vf (bX k dz q d1 d2 (xPerson (xs (6 * N + 1)) u).2) ([(ad, .inl (k 3, 1, .inr (.inl fo)))]) (rest := [.int (xPerson (xs (6 * N + 1)) u).1]) (As := [.int (xs (6 * N + 1))]) ⟨hx, hb, hml, hown, hts⟩ Gd0 trivial hS hA hK hP hD (cv_person l D h_ qm k v (xs (6 * N + 1)) u.gn hv) mi_X9_person wd_5_162 wd_5_163 wd_5_161 ⟨Nat.le_of_ble_eq_true rfl, Nat.le_of_ble_eq_true rfl⟩ 0 rfl rfl rfl hl.1 rfl (Nat.le_of_ble_eq_true rfl) ⟨by show cells + 0 + 0 ≤ 601024; omega, by show slots + 0 + 0 ≤ 7293034; omega⟩ dL_law_302 (fun r H locs hr hP hD hS => ?_)
  subst hr
  refine lv_icmp_eq (tgt := 920) hx hb dL_law_305 (by decide) (fun _ => ?_) (fun c9 => absurd r1 c9)
  refine W.widen (k := cells + 600) (n := slots + 3700) (by omega) (by omega) ?_
  exact kk q d1 d2 _ _ g fo _ _ ls rfl (r2.upN) (rx_person hx9 (xs (6 * N + 1))) hP hD hS hl
set_option maxHeartbeats 4000000 in
set_option maxRecDepth 100000 in
theorem law_fund (C : LC p s m c args b L xs D k kz ke sK sV dz mi sx) (hN : 6 * N + 6 ≤ L) (hL : L ≤ 3072) (h : Rel N u v g) (hx9 : RX v) (hP : va_P D vwCl (LW k dz q d1 d2 u h_ qm v ad fo) H) (hD : va_D (AA s) (LW k dz q d1 d2 u h_ qm v ad fo)) (hS : va_S (AA s) s.heap H locs) (hl : lv_has ls 7 (LV b (q 6 0) h_ ad N)) (hc1 : cells + 600 ≤ 601024) (hc2 : slots + 3700 ≤ 7293034)
    (kk : LK p l e s m args below meth c Q b D k dz (q 6 0) h_ qm ad N (cells + 600) (slots + 3700)) : W p l e room_1 s m args below meth c H locs cells slots Q (F0 m 375 ls []) := by
  obtain ⟨hx, hb, hml, hown, hts, hK, hG, hX, hbl⟩ := id C
  have hA : ∀ q, s.heap.size ≤ q → AA s q := fun _ h => h
  have hu := h.xb
  have hv := h.mb
  have hN5 : N ≤ 512 := by omega
  unfold LK at kk
  obtain ⟨g2, r1, r2⟩ := rel_fund h (xs (6 * N + 1)) (xs (6 * N + 2))
  refine lv_aload_n hx hb dL_law_375 rfl (lv_at hl 1 rfl) ?_
  refine law_arg C hS hN hL (lv_at hl 0 rfl) (lv_at hl 4 rfl) 1 (by decide) dL_law_376 dL_law_377 dL_law_379 (by decide) dL_law_380 dL_law_381 ?_
  refine law_arg C hS hN hL (lv_at hl 0 rfl) (lv_at hl 4 rfl) 2 (by decide) dL_law_382 dL_law_383 dL_law_385 (by decide) dL_law_386 dL_law_387 ?_
  refine fs_Vf [] (MwU h_ qm k v ++ [(ad, .inl (k 3, 1, .inr (.inl fo)))]) (rest := []) (As := [.int (xs (6 * N + 1)), .int (xs (6 * N + 2))]) ⟨hx, hb, hml, hown, hts⟩ Gd0 trivial hS hA hK hP hD (cu_fund l D k dz q u d1 d2 (xs (6 * N + 1)) (xs (6 * N + 2)) hu) mi_X8_fund wd_2_107 wd_2_108 wd_2_106 ⟨Nat.le_of_ble_eq_true rfl, Nat.le_of_ble_eq_true rfl⟩ 0 rfl rfl rfl hl.1 rfl (Nat.le_of_ble_eq_true rfl) ⟨by show cells + 0 ≤ 601024; omega, by show slots + 0 ≤ 7293034; omega⟩ dL_law_388 (fun r H locs hr hP hD hS => ?_)
  subst hr
  refine lv_aload_n hx hb dL_law_391 rfl (lv_at hl 2 rfl) ?_
  refine law_arg C hS hN hL (lv_at hl 0 rfl) (lv_at hl 4 rfl) 1 (by decide) dL_law_392 dL_law_393 dL_law_395 (by decide) dL_law_396 dL_law_397 ?_
  refine law_arg C hS hN hL (lv_at hl 0 rfl) (lv_at hl 4 rfl) 2 (by decide) dL_law_398 dL_law_399 dL_law_401 (by decide) dL_law_402 dL_law_403 ?_
  refine fs_Vf (bX k dz q d1 d2 (xFund (xs (6 * N + 1)) (xs (6 * N + 2)) u).2) ([(ad, .inl (k 3, 1, .inr (.inl fo)))]) (rest := [.int (xFund (xs (6 * N + 1)) (xs (6 * N + 2)) u).1]) (As := [.int (xs (6 * N + 1)), .int (xs (6 * N + 2))]) ⟨hx, hb, hml, hown, hts⟩ Gd0 trivial hS hA hK hP hD (cv_fund l D h_ qm k v (xs (6 * N + 1)) (xs (6 * N + 2)) u.gn hv) mi_X9_fund wd_5_174 wd_5_175 wd_5_173 ⟨Nat.le_of_ble_eq_true rfl, Nat.le_of_ble_eq_true rfl⟩ 0 rfl rfl rfl hl.1 rfl (Nat.le_of_ble_eq_true rfl) ⟨by show cells + 0 + 0 ≤ 601024; omega, by show slots + 0 + 0 ≤ 7293034; omega⟩ dL_law_404 (fun r H locs hr hP hD hS => ?_)
  subst hr
  refine lv_icmp_eq (tgt := 920) hx hb dL_law_407 (by decide) (fun _ => ?_) (fun c9 => absurd r1 c9)
  refine W.widen (k := cells + 600) (n := slots + 3700) (by omega) (by omega) ?_
  exact kk q d1 d2 _ _ g2 fo _ _ ls rfl (r2) (rx_fund hx9 (xs (6 * N + 1)) (xs (6 * N + 2))) hP hD hS hl
set_option maxHeartbeats 4000000 in
set_option maxRecDepth 100000 in
theorem law_gift (C : LC p s m c args b L xs D k kz ke sK sV dz mi sx) (hN : 6 * N + 6 ≤ L) (hL : L ≤ 3072) (h : Rel N u v g) (hx9 : RX v) (hP : va_P D vwCl (LW k dz q d1 d2 u h_ qm v ad fo) H) (hD : va_D (AA s) (LW k dz q d1 d2 u h_ qm v ad fo)) (hS : va_S (AA s) s.heap H locs) (hl : lv_has ls 7 (LV b (q 6 0) h_ ad N)) (hc1 : cells + 600 ≤ 601024) (hc2 : slots + 3700 ≤ 7293034)
    (kk : LK p l e s m args below meth c Q b D k dz (q 6 0) h_ qm ad N (cells + 600) (slots + 3700)) : W p l e room_1 s m args below meth c H locs cells slots Q (F0 m 412 ls []) := by
  obtain ⟨hx, hb, hml, hown, hts, hK, hG, hX, hbl⟩ := id C
  have hA : ∀ q, s.heap.size ≤ q → AA s q := fun _ h => h
  have hu := h.xb
  have hv := h.mb
  have hN5 : N ≤ 512 := by omega
  unfold LK at kk
  obtain ⟨g2, r1, r2⟩ := rel_gift h hN5 (xs (6 * N + 1)) (xs (6 * N + 2))
  refine lv_aload_n hx hb dL_law_412 rfl (lv_at hl 1 rfl) ?_
  refine law_arg C hS hN hL (lv_at hl 0 rfl) (lv_at hl 4 rfl) 1 (by decide) dL_law_413 dL_law_414 dL_law_416 (by decide) dL_law_417 dL_law_418 ?_
  refine law_arg C hS hN hL (lv_at hl 0 rfl) (lv_at hl 4 rfl) 2 (by decide) dL_law_419 dL_law_420 dL_law_422 (by decide) dL_law_423 dL_law_424 ?_
  refine fs_Vf [] (MwU h_ qm k v ++ [(ad, .inl (k 3, 1, .inr (.inl fo)))]) (rest := []) (As := [.int (xs (6 * N + 1)), .int (xs (6 * N + 2))]) ⟨hx, hb, hml, hown, hts⟩ Gd0 trivial hS hA hK hP hD (cu_gift l D k dz q u d1 d2 (xs (6 * N + 1)) (xs (6 * N + 2)) hu) mi_X8_gift wd_2_116 wd_2_117 wd_2_115 ⟨Nat.le_of_ble_eq_true rfl, Nat.le_of_ble_eq_true rfl⟩ 0 rfl rfl rfl hl.1 rfl (Nat.le_of_ble_eq_true rfl) ⟨by show cells + 0 ≤ 601024; omega, by show slots + 0 ≤ 7293034; omega⟩ dL_law_425 (fun r H locs hr hP hD hS => ?_)
  subst hr
  refine lv_aload_n hx hb dL_law_428 rfl (lv_at hl 2 rfl) ?_
  refine law_arg C hS hN hL (lv_at hl 0 rfl) (lv_at hl 4 rfl) 1 (by decide) dL_law_429 dL_law_430 dL_law_432 (by decide) dL_law_433 dL_law_434 ?_
  refine law_arg C hS hN hL (lv_at hl 0 rfl) (lv_at hl 4 rfl) 2 (by decide) dL_law_435 dL_law_436 dL_law_438 (by decide) dL_law_439 dL_law_440 ?_
  refine fs_Vf (bX k dz q d1 d2 (xGift (xs (6 * N + 1)) (xs (6 * N + 2)) u).2) ([(ad, .inl (k 3, 1, .inr (.inl fo)))]) (rest := [.int (xGift (xs (6 * N + 1)) (xs (6 * N + 2)) u).1]) (As := [.int (xs (6 * N + 1)), .int (xs (6 * N + 2))]) ⟨hx, hb, hml, hown, hts⟩ Gd0 trivial hS hA hK hP hD (cv_gift l D h_ qm k v (xs (6 * N + 1)) (xs (6 * N + 2)) u.gn hv) mi_X9_gift wd_5_179 wd_5_180 wd_5_178 ⟨Nat.le_of_ble_eq_true rfl, Nat.le_of_ble_eq_true rfl⟩ 0 rfl rfl rfl hl.1 rfl (Nat.le_of_ble_eq_true rfl) ⟨by show cells + 0 + 0 ≤ 601024; omega, by show slots + 0 + 0 ≤ 7293034; omega⟩ dL_law_441 (fun r H locs hr hP hD hS => ?_)
  subst hr
  refine lv_icmp_eq (tgt := 920) hx hb dL_law_444 (by decide) (fun _ => ?_) (fun c9 => absurd r1 c9)
  refine W.widen (k := cells + 600) (n := slots + 3700) (by omega) (by omega) ?_
  exact kk q d1 d2 _ _ g2 fo _ _ ls rfl (r2) (rx_gift hx9 (xs (6 * N + 1)) (xs (6 * N + 2))) hP hD hS hl
set_option maxHeartbeats 4000000 in
set_option maxRecDepth 100000 in
theorem law_ask (C : LC p s m c args b L xs D k kz ke sK sV dz mi sx) (hN : 6 * N + 6 ≤ L) (hL : L ≤ 3072) (h : Rel N u v g) (hx9 : RX v) (hP : va_P D vwCl (LW k dz q d1 d2 u h_ qm v ad fo) H) (hD : va_D (AA s) (LW k dz q d1 d2 u h_ qm v ad fo)) (hS : va_S (AA s) s.heap H locs) (hl : lv_has ls 7 (LV b (q 6 0) h_ ad N)) (hc1 : cells + 600 ≤ 601024) (hc2 : slots + 3700 ≤ 7293034)
    (kk : LK p l e s m args below meth c Q b D k dz (q 6 0) h_ qm ad N (cells + 600) (slots + 3700)) : W p l e room_1 s m args below meth c H locs cells slots Q (F0 m 449 ls []) := by
  obtain ⟨hx, hb, hml, hown, hts, hK, hG, hX, hbl⟩ := id C
  have hA : ∀ q, s.heap.size ≤ q → AA s q := fun _ h => h
  have hu := h.xb
  have hv := h.mb
  have hN5 : N ≤ 512 := by omega
  unfold LK at kk
  have hms := gSl_le hu.2.2.2.2.2.1
  have hms2 := hu.2.2.1
  obtain ⟨g2, r1, r2, r3⟩ := rel_ask h hx9 hN5 (xs (6 * N + 1)) (xs (6 * N + 2))
  refine lv_aload_n hx hb dL_law_449 rfl (lv_at hl 1 rfl) ?_
  refine law_arg C hS hN hL (lv_at hl 0 rfl) (lv_at hl 4 rfl) 1 (by decide) dL_law_450 dL_law_451 dL_law_453 (by decide) dL_law_454 dL_law_455 ?_
  refine law_arg C hS hN hL (lv_at hl 0 rfl) (lv_at hl 4 rfl) 2 (by decide) dL_law_456 dL_law_457 dL_law_459 (by decide) dL_law_460 dL_law_461 ?_
  refine fs_Vf [] (MwU h_ qm k v ++ [(ad, .inl (k 3, 1, .inr (.inl fo)))]) (rest := []) (As := [.int (xs (6 * N + 1)), .int (xs (6 * N + 2))]) ⟨hx, hb, hml, hown, hts⟩ GdA hG.1 hS hA hK hP hD (cu_ask l D k kz ke sK sV dz mi q u d1 d2 (xs (6 * N + 1)) (xs (6 * N + 2)) hu) mi_X8_ask wd_2_129 wd_2_130 wd_2_128 ⟨Nat.le_of_ble_eq_true rfl, Nat.le_of_ble_eq_true rfl⟩ 0 rfl rfl rfl hl.1 rfl (Nat.le_of_ble_eq_true rfl) ⟨by show cells + 5 ≤ 601024; omega, by show slots + (30 + u.T.1 + gSl u.n) ≤ 7293034; omega⟩ dL_law_462 (fun r H locs hr hP hD hS => ?_)
  obtain ⟨⟨r0, uu⟩, q2, d9⟩ := r
  obtain ⟨hr1, hr2⟩ := hr
  have hr3 : r0 = (xAsk (xs (6 * N + 1)) (xs (6 * N + 2)) u).1 := congrArg (fun z : Int32 × CSt => z.1) hr1
  have hr4 : uu = (xAsk (xs (6 * N + 1)) (xs (6 * N + 2)) u).2 := congrArg (fun z : Int32 × CSt => z.2) hr1
  subst hr3
  subst hr4
  refine lv_aload_n hx hb dL_law_465 rfl (lv_at hl 2 rfl) ?_
  refine law_arg C hS hN hL (lv_at hl 0 rfl) (lv_at hl 4 rfl) 1 (by decide) dL_law_466 dL_law_467 dL_law_469 (by decide) dL_law_470 dL_law_471 ?_
  refine law_arg C hS hN hL (lv_at hl 0 rfl) (lv_at hl 4 rfl) 2 (by decide) dL_law_472 dL_law_473 dL_law_475 (by decide) dL_law_476 dL_law_477 ?_
  refine fs_Vf (bX k dz q2 d9 d2 (xAsk (xs (6 * N + 1)) (xs (6 * N + 2)) u).2) ([(ad, .inl (k 3, 1, .inr (.inl fo)))]) (rest := [.int (xAsk (xs (6 * N + 1)) (xs (6 * N + 2)) u).1]) (As := [.int (xs (6 * N + 1)), .int (xs (6 * N + 2))]) ⟨hx, hb, hml, hown, hts⟩ Gd0 trivial hS hA hK hP hD (cv_ask l D h_ qm k v (xs (6 * N + 1)) (xs (6 * N + 2)) u.gn hv) mi_X9_ask wd_5_188 wd_5_189 wd_5_187 ⟨Nat.le_of_ble_eq_true rfl, Nat.le_of_ble_eq_true rfl⟩ 0 rfl rfl rfl hl.1 rfl (Nat.le_of_ble_eq_true rfl) ⟨by show cells + 5 + 0 ≤ 601024; omega, by show slots + (30 + u.T.1 + gSl u.n) + 0 ≤ 7293034; omega⟩ dL_law_478 (fun r H locs hr hP hD hS => ?_)
  subst hr
  refine lv_icmp_eq (tgt := 920) hx hb dL_law_481 (by decide) (fun _ => ?_) (fun c9 => absurd r1 c9)
  refine W.widen (k := cells + 600) (n := slots + 3700) (by omega) (by omega) ?_
  exact kk q2 d9 d2 _ _ g2 fo _ _ ls hr2 (r2.upN) r3 hP hD hS hl
set_option maxHeartbeats 4000000 in
set_option maxRecDepth 100000 in
theorem law_pay (C : LC p s m c args b L xs D k kz ke sK sV dz mi sx) (hN : 6 * N + 6 ≤ L) (hL : L ≤ 3072) (h : Rel N u v g) (hx9 : RX v) (hP : va_P D vwCl (LW k dz q d1 d2 u h_ qm v ad fo) H) (hD : va_D (AA s) (LW k dz q d1 d2 u h_ qm v ad fo)) (hS : va_S (AA s) s.heap H locs) (hl : lv_has ls 7 (LV b (q 6 0) h_ ad N)) (hc1 : cells + 600 ≤ 601024) (hc2 : slots + 3700 ≤ 7293034)
    (kk : LK p l e s m args below meth c Q b D k dz (q 6 0) h_ qm ad N (cells + 600) (slots + 3700)) : W p l e room_1 s m args below meth c H locs cells slots Q (F0 m 486 ls []) := by
  obtain ⟨hx, hb, hml, hown, hts, hK, hG, hX, hbl⟩ := id C
  have hA : ∀ q, s.heap.size ≤ q → AA s q := fun _ h => h
  have hu := h.xb
  have hv := h.mb
  have hN5 : N ≤ 512 := by omega
  unfold LK at kk
  obtain ⟨g2, r1, r2, r3⟩ := rel_pay h hx9 hN5 (xs (6 * N + 1)) (xs (6 * N + 2))
  refine lv_aload_n hx hb dL_law_486 rfl (lv_at hl 1 rfl) ?_
  refine law_arg C hS hN hL (lv_at hl 0 rfl) (lv_at hl 4 rfl) 1 (by decide) dL_law_487 dL_law_488 dL_law_490 (by decide) dL_law_491 dL_law_492 ?_
  refine law_arg C hS hN hL (lv_at hl 0 rfl) (lv_at hl 4 rfl) 2 (by decide) dL_law_493 dL_law_494 dL_law_496 (by decide) dL_law_497 dL_law_498 ?_
  refine fs_Vf [] (MwU h_ qm k v ++ [(ad, .inl (k 3, 1, .inr (.inl fo)))]) (rest := []) (As := [.int (xs (6 * N + 1)), .int (xs (6 * N + 2))]) ⟨hx, hb, hml, hown, hts⟩ Gd0 trivial hS hA hK hP hD (cu_pay l D k dz q u d1 d2 (xs (6 * N + 1)) (xs (6 * N + 2)) hu) mi_X8_pay wd_3_181 wd_3_182 wd_3_180 ⟨Nat.le_of_ble_eq_true rfl, Nat.le_of_ble_eq_true rfl⟩ 0 rfl rfl rfl hl.1 rfl (Nat.le_of_ble_eq_true rfl) ⟨by show cells + 0 ≤ 601024; omega, by show slots + 0 ≤ 7293034; omega⟩ dL_law_499 (fun r H locs hr hP hD hS => ?_)
  subst hr
  refine lv_aload_n hx hb dL_law_502 rfl (lv_at hl 2 rfl) ?_
  refine law_arg C hS hN hL (lv_at hl 0 rfl) (lv_at hl 4 rfl) 1 (by decide) dL_law_503 dL_law_504 dL_law_506 (by decide) dL_law_507 dL_law_508 ?_
  refine law_arg C hS hN hL (lv_at hl 0 rfl) (lv_at hl 4 rfl) 2 (by decide) dL_law_509 dL_law_510 dL_law_512 (by decide) dL_law_513 dL_law_514 ?_
  refine fs_Vf (bX k dz q d1 d2 (xPay (xs (6 * N + 1)) (xs (6 * N + 2)) u).2) ([(ad, .inl (k 3, 1, .inr (.inl fo)))]) (rest := [.int (xPay (xs (6 * N + 1)) (xs (6 * N + 2)) u).1]) (As := [.int (xs (6 * N + 1)), .int (xs (6 * N + 2))]) ⟨hx, hb, hml, hown, hts⟩ Gd0 trivial hS hA hK hP hD (cv_pay l D h_ qm k v (xs (6 * N + 1)) (xs (6 * N + 2)) u.gn hv) mi_X9_pay wd_5_236 wd_5_237 wd_5_235 ⟨Nat.le_of_ble_eq_true rfl, Nat.le_of_ble_eq_true rfl⟩ 0 rfl rfl rfl hl.1 rfl (Nat.le_of_ble_eq_true rfl) ⟨by show cells + 0 + 0 ≤ 601024; omega, by show slots + 0 + 0 ≤ 7293034; omega⟩ dL_law_515 (fun r H locs hr hP hD hS => ?_)
  subst hr
  refine lv_icmp_eq (tgt := 920) hx hb dL_law_518 (by decide) (fun _ => ?_) (fun c9 => absurd r1 c9)
  refine W.widen (k := cells + 600) (n := slots + 3700) (by omega) (by omega) ?_
  exact kk q d1 d2 _ _ g2 fo _ _ ls rfl (r2.upN) r3 hP hD hS hl
end LAW2
