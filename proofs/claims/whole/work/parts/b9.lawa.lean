/-! ===== the law, call by call: feed, end, rules ===== -/
section LAW1
variable {p : Program} {l : Launch} {e : Env} {s : State} {m : MethodId} {args : Array Value} {below : List Frame} {meth : Method} {c : Code} {Q : State → Prop} {b L : Nat} {xs : Nat → Int32} {D : va_G} {k : Nat → ClassId} {kz : Nat} {ke sK sV : Nat → Nat} {dz mi : Nat} {sx : Nat → Nat} {N : Nat} {q : Nat → Nat → Nat} {d1 d2 : Int32} {u : CSt} {v : MSt} {g : GH} {h_ : Nat} {qm : Nat → Nat} {ad : Nat} {fo : Nat → Int64} {H : Heap} {locs : List Loc} {cells slots : Nat} {ls : Array Slot}
set_option maxHeartbeats 4000000 in
set_option maxRecDepth 100000 in
theorem law_feed (C : LC p s m c args b L xs D k kz ke sK sV dz mi sx) (hN : 6 * N + 6 ≤ L) (hL : L ≤ 3072) (h : Rel N u v g) (hx9 : RX v) (hP : va_P D vwCl (LW k dz q d1 d2 u h_ qm v ad fo) H) (hD : va_D (AA s) (LW k dz q d1 d2 u h_ qm v ad fo)) (hS : va_S (AA s) s.heap H locs) (hl : lv_has ls 7 (LV b (q 6 0) h_ ad N)) (hc1 : cells + 600 ≤ 601024) (hc2 : slots + 3700 ≤ 7293034)
    (kk : LK p l e s m args below meth c Q b D k dz (q 6 0) h_ qm ad N (cells + 600) (slots + 3700)) : W p l e room_1 s m args below meth c H locs cells slots Q (F0 m 136 ls []) := by
  obtain ⟨hx, hb, hml, hown, hts, hK, hG, hX, hbl⟩ := id C
  have hA : ∀ q, s.heap.size ≤ q → AA s q := fun _ h => h
  have hu := h.xb
  have hv := h.mb
  have hN5 : N ≤ 512 := by omega
  unfold LK at kk
  obtain ⟨r1, r2⟩ := rel_feed h (xs (6 * N + 1)) (xs (6 * N + 2)) (xs (6 * N + 3)) (xs (6 * N + 4)) (xs (6 * N + 5))
  refine lv_aload_n hx hb dL_law_136 rfl (lv_at hl 1 rfl) ?_
  refine law_arg C hS hN hL (lv_at hl 0 rfl) (lv_at hl 4 rfl) 1 (by decide) dL_law_137 dL_law_138 dL_law_140 (by decide) dL_law_141 dL_law_142 ?_
  refine law_arg C hS hN hL (lv_at hl 0 rfl) (lv_at hl 4 rfl) 2 (by decide) dL_law_143 dL_law_144 dL_law_146 (by decide) dL_law_147 dL_law_148 ?_
  refine law_arg C hS hN hL (lv_at hl 0 rfl) (lv_at hl 4 rfl) 3 (by decide) dL_law_149 dL_law_150 dL_law_152 (by decide) dL_law_153 dL_law_154 ?_
  refine law_arg C hS hN hL (lv_at hl 0 rfl) (lv_at hl 4 rfl) 4 (by decide) dL_law_155 dL_law_156 dL_law_158 (by decide) dL_law_159 dL_law_160 ?_
  refine law_arg C hS hN hL (lv_at hl 0 rfl) (lv_at hl 4 rfl) 5 (by decide) dL_law_161 dL_law_162 dL_law_164 (by decide) dL_law_165 dL_law_166 ?_
  refine fs_Vf [] (MwU h_ qm k v ++ [(ad, .inl (k 3, 1, .inr (.inl fo)))]) (rest := []) (As := [.int (xs (6 * N + 1)), .int (xs (6 * N + 2)), .int (xs (6 * N + 3)), .int (xs (6 * N + 4)), .int (xs (6 * N + 5))]) ⟨hx, hb, hml, hown, hts⟩ Gd0 trivial hS hA hK hP hD (cu_feed l D k dz q u d1 d2 (xs (6 * N + 1)) (xs (6 * N + 2)) (xs (6 * N + 3)) (xs (6 * N + 4)) (xs (6 * N + 5)) hu) mi_X8_feed wd_1_182 wd_1_183 wd_1_181 ⟨Nat.le_of_ble_eq_true rfl, Nat.le_of_ble_eq_true rfl⟩ 0 rfl rfl rfl hl.1 rfl (Nat.le_of_ble_eq_true rfl) ⟨by show cells + 0 ≤ 601024; omega, by show slots + 0 ≤ 7293034; omega⟩ dL_law_167 (fun r H locs hr hP hD hS => ?_)
  subst hr
  refine lv_aload_n hx hb dL_law_170 rfl (lv_at hl 2 rfl) ?_
  refine law_arg C hS hN hL (lv_at hl 0 rfl) (lv_at hl 4 rfl) 1 (by decide) dL_law_171 dL_law_172 dL_law_174 (by decide) dL_law_175 dL_law_176 ?_
  refine law_arg C hS hN hL (lv_at hl 0 rfl) (lv_at hl 4 rfl) 2 (by decide) dL_law_177 dL_law_178 dL_law_180 (by decide) dL_law_181 dL_law_182 ?_
  refine law_arg C hS hN hL (lv_at hl 0 rfl) (lv_at hl 4 rfl) 3 (by decide) dL_law_183 dL_law_184 dL_law_186 (by decide) dL_law_187 dL_law_188 ?_
  refine law_arg C hS hN hL (lv_at hl 0 rfl) (lv_at hl 4 rfl) 4 (by decide) dL_law_189 dL_law_190 dL_law_192 (by decide) dL_law_193 dL_law_194 ?_
  refine law_arg C hS hN hL (lv_at hl 0 rfl) (lv_at hl 4 rfl) 5 (by decide) dL_law_195 dL_law_196 dL_law_198 (by decide) dL_law_199 dL_law_200 ?_
  refine fs_Vf (bX k dz q d1 d2 (xFeed (xs (6 * N + 1)) (xs (6 * N + 2)) (xs (6 * N + 3)) (xs (6 * N + 4)) (xs (6 * N + 5)) u).2) ([(ad, .inl (k 3, 1, .inr (.inl fo)))]) (rest := [.int (xFeed (xs (6 * N + 1)) (xs (6 * N + 2)) (xs (6 * N + 3)) (xs (6 * N + 4)) (xs (6 * N + 5)) u).1]) (As := [.int (xs (6 * N + 1)), .int (xs (6 * N + 2)), .int (xs (6 * N + 3)), .int (xs (6 * N + 4)), .int (xs (6 * N + 5))]) ⟨hx, hb, hml, hown, hts⟩ Gd0 trivial hS hA hK hP hD (cv_feed l D h_ qm k v (xs (6 * N + 1)) (xs (6 * N + 2)) (xs (6 * N + 3)) (xs (6 * N + 4)) (xs (6 * N + 5)) u.gn hv) mi_X9_feed wd_5_103 wd_5_104 wd_5_102 ⟨Nat.le_of_ble_eq_true rfl, Nat.le_of_ble_eq_true rfl⟩ 0 rfl rfl rfl hl.1 rfl (Nat.le_of_ble_eq_true rfl) ⟨by show cells + 0 + 0 ≤ 601024; omega, by show slots + 0 + 0 ≤ 7293034; omega⟩ dL_law_201 (fun r H locs hr hP hD hS => ?_)
  subst hr
  refine lv_icmp_eq (tgt := 920) hx hb dL_law_204 (by decide) (fun _ => ?_) (fun c9 => absurd r1 c9)
  refine W.widen (k := cells + 600) (n := slots + 3700) (by omega) (by omega) ?_
  exact kk q d1 d2 _ _ g fo _ _ ls rfl (r2.upN) (rx_feed hx9 (xs (6 * N + 1)) (xs (6 * N + 2)) (xs (6 * N + 3)) (xs (6 * N + 4)) (xs (6 * N + 5))) hP hD hS hl
set_option maxHeartbeats 4000000 in
set_option maxRecDepth 100000 in
theorem law_end (C : LC p s m c args b L xs D k kz ke sK sV dz mi sx) (hN : 6 * N + 6 ≤ L) (hL : L ≤ 3072) (h : Rel N u v g) (hx9 : RX v) (hP : va_P D vwCl (LW k dz q d1 d2 u h_ qm v ad fo) H) (hD : va_D (AA s) (LW k dz q d1 d2 u h_ qm v ad fo)) (hS : va_S (AA s) s.heap H locs) (hl : lv_has ls 7 (LV b (q 6 0) h_ ad N)) (hc1 : cells + 600 ≤ 601024) (hc2 : slots + 3700 ≤ 7293034)
    (kk : LK p l e s m args below meth c Q b D k dz (q 6 0) h_ qm ad N (cells + 600) (slots + 3700)) : W p l e room_1 s m args below meth c H locs cells slots Q (F0 m 209 ls []) := by
  obtain ⟨hx, hb, hml, hown, hts, hK, hG, hX, hbl⟩ := id C
  have hA : ∀ q, s.heap.size ≤ q → AA s q := fun _ h => h
  have hu := h.xb
  have hv := h.mb
  have hN5 : N ≤ 512 := by omega
  unfold LK at kk
  obtain ⟨r1, r2⟩ := rel_end h (xs (6 * N + 1))
  refine lv_aload_n hx hb dL_law_209 rfl (lv_at hl 1 rfl) ?_
  refine law_arg C hS hN hL (lv_at hl 0 rfl) (lv_at hl 4 rfl) 1 (by decide) dL_law_210 dL_law_211 dL_law_213 (by decide) dL_law_214 dL_law_215 ?_
  refine fs_Vf [] (MwU h_ qm k v ++ [(ad, .inl (k 3, 1, .inr (.inl fo)))]) (rest := []) (As := [.int (xs (6 * N + 1))]) ⟨hx, hb, hml, hown, hts⟩ Gd0 trivial hS hA hK hP hD (cu_end l D k dz q u d1 d2 (xs (6 * N + 1)) hu) mi_X8_end wd_1_198 wd_1_199 wd_1_197 ⟨Nat.le_of_ble_eq_true rfl, Nat.le_of_ble_eq_true rfl⟩ 0 rfl rfl rfl hl.1 rfl (Nat.le_of_ble_eq_true rfl) ⟨by show cells + 0 ≤ 601024; omega, by show slots + 0 ≤ 7293034; omega⟩ dL_law_216 (fun r H locs hr hP hD hS => ?_)
  subst hr
  refine lv_aload_n hx hb dL_law_219 rfl (lv_at hl 2 rfl) ?_
  refine law_arg C hS hN hL (lv_at hl 0 rfl) (lv_at hl 4 rfl) 1 (by decide) dL_law_220 dL_law_221 dL_law_223 (by decide) dL_law_224 dL_law_225 ?_
  refine fs_Vf (bX k dz q d1 d2 (xEnd (xs (6 * N + 1)) u).2) ([(ad, .inl (k 3, 1, .inr (.inl fo)))]) (rest := [.int (xEnd (xs (6 * N + 1)) u).1]) (As := [.int (xs (6 * N + 1))]) ⟨hx, hb, hml, hown, hts⟩ Gd0 trivial hS hA hK hP hD (cv_end l D h_ qm k v (xs (6 * N + 1)) u.gn hv) mi_X9_end wd_5_111 wd_5_112 wd_5_110 ⟨Nat.le_of_ble_eq_true rfl, Nat.le_of_ble_eq_true rfl⟩ 0 rfl rfl rfl hl.1 rfl (Nat.le_of_ble_eq_true rfl) ⟨by show cells + 0 + 0 ≤ 601024; omega, by show slots + 0 + 0 ≤ 7293034; omega⟩ dL_law_226 (fun r H locs hr hP hD hS => ?_)
  subst hr
  refine lv_icmp_eq (tgt := 920) hx hb dL_law_229 (by decide) (fun _ => ?_) (fun c9 => absurd r1 c9)
  refine W.widen (k := cells + 600) (n := slots + 3700) (by omega) (by omega) ?_
  exact kk q d1 d2 _ _ g fo _ _ ls rfl (r2.upN) (rx_end hx9 (xs (6 * N + 1))) hP hD hS hl
set_option maxHeartbeats 4000000 in
set_option maxRecDepth 100000 in
theorem law_rules (C : LC p s m c args b L xs D k kz ke sK sV dz mi sx) (hN : 6 * N + 6 ≤ L) (hL : L ≤ 3072) (h : Rel N u v g) (hx9 : RX v) (hP : va_P D vwCl (LW k dz q d1 d2 u h_ qm v ad fo) H) (hD : va_D (AA s) (LW k dz q d1 d2 u h_ qm v ad fo)) (hS : va_S (AA s) s.heap H locs) (hl : lv_has ls 7 (LV b (q 6 0) h_ ad N)) (hc1 : cells + 600 ≤ 601024) (hc2 : slots + 3700 ≤ 7293034)
    (kk : LK p l e s m args below meth c Q b D k dz (q 6 0) h_ qm ad N (cells + 600) (slots + 3700)) : W p l e room_1 s m args below meth c H locs cells slots Q (F0 m 234 ls []) := by
  obtain ⟨hx, hb, hml, hown, hts, hK, hG, hX, hbl⟩ := id C
  have hA : ∀ q, s.heap.size ≤ q → AA s q := fun _ h => h
  have hu := h.xb
  have hv := h.mb
  have hN5 : N ≤ 512 := by omega
  unfold LK at kk
  obtain ⟨r1, r2, r3⟩ := rel_rules h hx9
  refine lv_aload_n hx hb dL_law_234 rfl (lv_at hl 1 rfl) ?_
  refine fs_Vf [] (MwU h_ qm k v ++ [(ad, .inl (k 3, 1, .inr (.inl fo)))]) (rest := []) (As := []) ⟨hx, hb, hml, hown, hts⟩ GdA hG.1 hS hA hK hP hD (cu_rules l D k kz ke sK sV dz mi q u d1 d2  hu) mi_X8_rules wd_1_206 wd_1_207 wd_1_205 ⟨Nat.le_of_ble_eq_true rfl, Nat.le_of_ble_eq_true rfl⟩ 0 rfl rfl rfl hl.1 rfl (Nat.le_of_ble_eq_true rfl) ⟨by show cells + 0 ≤ 601024; omega, by show slots + 0 ≤ 7293034; omega⟩ dL_law_235 (fun r H locs hr hP hD hS => ?_)
  subst hr
  refine lv_aload_n hx hb dL_law_238 rfl (lv_at hl 2 rfl) ?_
  refine fs_Vf (bX k dz q d1 d2 (xRules u).2) ([(ad, .inl (k 3, 1, .inr (.inl fo)))]) (rest := [.int (xRules u).1]) (As := []) ⟨hx, hb, hml, hown, hts⟩ Gd0 trivial hS hA hK hP hD (cv_rules l D h_ qm k v  u.gn hv) mi_X9_rules wd_5_115 wd_5_116 wd_5_114 ⟨Nat.le_of_ble_eq_true rfl, Nat.le_of_ble_eq_true rfl⟩ 0 rfl rfl rfl hl.1 rfl (Nat.le_of_ble_eq_true rfl) ⟨by show cells + 0 + 0 ≤ 601024; omega, by show slots + 0 + 0 ≤ 7293034; omega⟩ dL_law_239 (fun r H locs hr hP hD hS => ?_)
  subst hr
  refine lv_icmp_eq (tgt := 920) hx hb dL_law_242 (by decide) (fun _ => ?_) (fun c9 => absurd r1 c9)
  refine W.widen (k := cells + 600) (n := slots + 3700) (by omega) (by omega) ?_
  exact kk q d1 d2 _ _ g fo _ _ ls rfl (r2.upN) r3 hP hD hS hl
end LAW1
