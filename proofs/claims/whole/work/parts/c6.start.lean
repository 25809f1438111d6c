/-! ===== the law, from its entry ===== -/
section KCL
variable {s : State} {args : Array Value}
theorem arr_K {ty : FieldType} (hno : ∀ C, ty ≠ .object C) (h : (Cond.arrayClass ty).before args s = true) : ∃ cA : ClassId, ArrOfT s cA ty ∧ va_RA s cA ty := by
  obtain ⟨cA, kA, comp, h1, h2, h3⟩ := Cond.arrayClass_spec (args := args) (first := s) (o := none) (s := s) (idx := []) h
  refine ⟨cA, fun n z => ⟨fun k h => (by cases h), kA, h2, comp, h3⟩, ?_⟩
  cases ty with
  | object C => exact absurd rfl (hno C)
  | _ => exact h1
theorem arr_O (h : (Cond.arrayOver (.object "java/lang/Object")).before args s = true) : ∃ cA : ClassId, ArrOfT s cA (.object "java/lang/Object") ∧ va_RA s cA (.object "java/lang/Object") := by
  obtain ⟨comp, cA, kA, h1, -, h2, h3, h4⟩ := Cond.arrayOver_spec (args := args) (first := s) (o := none) (s := s) (idx := []) h
  exact ⟨cA, fun n z => ⟨fun k h => (by cases h), kA, h2, comp, h3⟩, kA, comp, h2, h3, h1, h4⟩
theorem law_K (hto : ∀ w ∈ lw_tbl, w.before args s = true) (hts : ∀ w ∈ BW, w.before args s = true) : ∃ (D : va_G) (k : Nat → ClassId), va_K D vwCl (TY k) s := by
  obtain ⟨c0, i0, k0⟩ := u_known (C := RJx4a65c) (T := TJx4a65c) (N := 3) (n := 3) hts inJx4a65c (hts _ wd_1_121)
  obtain ⟨c1, i1, k1⟩ := u_known (C := RX0) (T := TX0) (N := 4) (n := 4) hts inX0 (hts _ wd_4_13)
  obtain ⟨c2, i2, k2⟩ := u_known (C := RX1) (T := TX1) (N := 6) (n := 6) hts inX1 (hts _ wd_1_90)
  obtain ⟨c3, i3, k3⟩ := u_known (C := RX3) (T := TX3) (N := 3) (n := 3) hts inX3 (hts _ wd_1_115)
  obtain ⟨c4, i4, k4⟩ := u_known (C := RX4) (T := TX4) (N := 18) (n := 18) hts inX4 (hts _ wd_3_12)
  obtain ⟨c5, i5, k5⟩ := u_known (C := RX5) (T := TX5) (N := 6) (n := 6) hts inX5 (hts _ wd_1_51)
  obtain ⟨c6, i6, k6⟩ := u_known (C := RX6) (T := TX6) (N := 1) (n := 1) hts inX6 (hts _ wd_1_79)
  obtain ⟨c7, i7, k7⟩ := u_known (C := RX7) (T := TX7) (N := 2) (n := 2) hts inX7 (hts _ wd_1_37)
  obtain ⟨c8, i8, k8⟩ := u_known (C := RX8) (T := TX8) (N := 8) (n := 8) hts inX8 (hts _ wd_1_29)
  obtain ⟨c9, i9, k9⟩ := u_known (C := RX9) (T := TX9) (N := 48) (n := 48) hts inX9 (hts _ wd_4_187)
  obtain ⟨a0, b0⟩ := arr_K (ty := .int) (fun C h => by cases h) (hts _ wd_1_49)
  obtain ⟨a1, b1⟩ := arr_K (ty := .boolean) (fun C h => by cases h) (hts _ wd_1_77)
  obtain ⟨a2, b2⟩ := arr_O (hto _ wd_3_174)
  obtain ⟨a3, b3⟩ := arr_K (ty := .long) (fun C h => by cases h) (hts _ wd_6_51)
  refine ⟨(fun k => match k with | 0 => c0 | 1 => c1 | 2 => c2 | 3 => c3 | 4 => c4 | 5 => c5 | 6 => c6 | 7 => c7 | 8 => c8 | _ => c9, fun k => match k with | 0 => i0 | 1 => i1 | 2 => i2 | 3 => i3 | 4 => i4 | 5 => i5 | 6 => i6 | 7 => i7 | 8 => i8 | _ => i9), fun k => match k with | 0 => a0 | 1 => a1 | 2 => a2 | _ => a3, ?_, ?_⟩
  · intro c q hq
    match c, hq with
    | 0, hq => cases hq; exact k0
    | 1, hq => cases hq; exact k1
    | 2, hq => cases hq; exact k2
    | 3, hq => cases hq; exact k3
    | 4, hq => cases hq; exact k4
    | 5, hq => cases hq; exact k5
    | 6, hq => cases hq; exact k6
    | 7, hq => cases hq; exact k7
    | 8, hq => cases hq; exact k8
    | 9, hq => cases hq; exact k9
    | c + 10, hq => simp [vwCl] at hq
  · intro c q hq
    match c, hq with
    | 0, hq => cases hq; exact b0
    | 1, hq => cases hq; exact b1
    | 2, hq => cases hq; exact b2
    | 3, hq => cases hq; exact b3
    | c + 4, hq => simp [TY] at hq
end KCL
section RNL
variable {p : Program} {l : Launch} {e : Env} {R : Room} {s : State} {m : MethodId} {args : Array Value} {below : List Frame} {meth : Method} {c : Code} {H H0 : Heap} {locs : List Loc} {cells slots : Nat} {Q : State → Prop} {cc : ByteArray} {pc : Nat} {ls : Array Slot} {rest : List Value} {D : va_G} {A : Nat → Prop} {ws : va_W} {k : Nat → ClassId}
theorem ra_newl (hexec : p.tables.exec = Jvm.exec) (hb : c.code = cc) (harr : (Cond.arrayClass .long).before args s = true) (hK : va_K D vwCl (TY k) s) (hP : va_P D vwCl ws H) (hD : va_D A ws) (hS : va_S A H0 H locs) (hA : ∀ q, H0.size ≤ q → A q) {n : Int32} {N' : Nat} (hn : ¬ n < 0) (hN : n.toNatClampNeg = N') (hbytes : N' * componentBytes .long ≤ 536870912) (hcells : cells + 1 ≤ R.cells) (hslots : slots + N' ≤ R.slots) (hdg : decode cc pc = .ok (.newarray .long, 2))
    (kk : ∀ (q : Nat) (H1 : Heap), va_P D vwCl (ws ++ [(q, .inl (k 3, N', .inr (.inl (fun _ => 0))))]) H1 → va_D A (ws ++ [(q, .inl (k 3, N', .inr (.inl (fun _ => 0))))]) → va_S A H0 H1 locs → W p l e R s m args below meth c H1 locs (cells + 1) (slots + N') Q (F0 m (pc + 2) ls (.ref q :: rest))) : W p l e R s m args below meth c H locs cells slots Q (F0 m pc ls (.int n :: rest)) := by
  refine va_newa (atype := .long) (ty := .long) (a0 := (N', .inr (.inl (fun _ => 0)))) hexec hb harr rfl hK hP hD hS hA (fun cA => rfl) hn hN hbytes hcells hslots hdg (fun q cA H1 hK1 hP1 hD1 hS1 => ?_)
  have h1 : va_RA s cA .long := (hK1.2 4 (cA, .long) rfl).2
  have h2 : va_RA s (k 3) .long := (hK.2 3 (k 3, .long) rfl).2
  have e9 : cA = k 3 := Option.some.inj ((va_nm_long h1).symm.trans (va_nm_long h2))
  subst e9
  exact kk q H1 hP1 hD1 hS1
end RNL
set_option maxHeartbeats 4000000 in
set_option maxRecDepth 100000 in
theorem whole_start {p : Program} {e : Env} {s : State} {m : MethodId} {below : List Frame} {meth : Method} {c : Code} (l : Launch) (hst : l.stackTraces = false) {b L : Nat} {xs : Nat → Int32} (hL : L ≤ 3072) (C0 : lw_At p s m meth c b L xs) : W p l e room_1 s m #[Value.ref b] below meth c s.heap [] 0 0 (lw_Z below #[Value.ref b] s) (entryFrame m ([Value.ref b] : List Value).toArray 7) := by
  obtain ⟨hx, hb, hr, hml, hown, hto, hX, hbl, hlocks, hgv⟩ := id C0
  have hts : ∀ w ∈ BW, w.before #[Value.ref b] s = true := fun w hw => hto w (List.mem_filter.mp hw).1
  obtain ⟨D, k, hK⟩ := law_K hto hts
  obtain ⟨kz, ke, sK, sV, dz, mi, sx, hG⟩ := law_G hto hts hgv
  have C : LC p s m c #[Value.ref b] b L xs D k kz ke sK sV dz mi sx := ⟨hx, hb, hml, hown, hts, hK, hG, hX, hbl⟩
  have hA : ∀ q : Nat, s.heap.size ≤ q → (AA s) q := fun _ h => h
  have hS : va_S (AA s) s.heap s.heap [] := va_S.rf
  have hP : va_P D vwCl [] s.heap := fun k q h => by simp at h
  have hD : va_D (AA s) [] := ⟨fun i j p q h => by simp at h, fun k q h => by simp at h⟩
  have hl := lv_entry ([.ref b]) (n := 7) (Nat.le_of_ble_eq_true rfl)
  rw [lg_entry_eq]
  generalize (lg_sl ([.ref b]) ++ List.replicate (7 - (lg_sl ([.ref b])).length) Slot.unset).toArray = ls at hl ⊢
  have hl : lv_has ls 7 [(0, .ref b)] := hl
  refine va_new (ci := 8) (fs := [.null, .null, .null, .null, .null, .null, .int 0, .int 0]) (C := RX8) (T := TX8) (N := 8) hx hb hts inX8 tyX8 tyX8_ok hown (hts _ wd_1_28) (hts _ wd_1_29) (hts _ wd_1_1) hK hP hD hS hA rfl (by decide +kernel) (Nat.le_of_ble_eq_true rfl) (Nat.le_of_ble_eq_true rfl) dL_law_0 (fun q0 H hP hD hS => ?_)
  refine lv_dup hx hb dL_law_3 rfl ?_
  refine fs_If [] [] (rest := [.ref q0]) (As := []) ⟨hx, hb, hml, hown, hts⟩ GdA hG.1 hS hA hK hP hD (c_X8_init l D k kz ke sK sV dz mi q0) mi_X8_init wd_1_31 wd_1_30 rfl ⟨Nat.le_of_ble_eq_true rfl, Nat.le_of_ble_eq_true rfl⟩ rfl hl.1 rfl (Nat.le_of_ble_eq_true rfl) ⟨Nat.le_of_ble_eq_true rfl, Nat.le_of_ble_eq_true rfl⟩ dL_law_4 (fun q H2 locs2 hq hP2 hD2 hS2 => ?_)
  have ea : ([] : va_W) ++ (bX k dz q 0 0 xu0 ++ []) = bX k dz q 0 0 xu0 := by rw [List.nil_append, List.append_nil]
  rw [ea] at hP2 hD2
  clear hP hD hS
  replace hq : q 6 0 = q0 := hq
  subst hq
  refine lv_astore_n (lv' := [(1, .ref (q 6 0)), (0, .ref b)]) hx hb dL_law_7 rfl hl (by decide) rfl (fun ls hl => ?_)
  refine va_new (ci := 9) (fs := [.int 0, .null, .int 0, .null, .null, .null, .null, .null, .int 0, .int 0, .int 0, .int 0, .int 0, .int 0, .int 0, .long 0, .int 0, .null, .null, .null, .null, .int 0, .int 0, .int 0, .int 0, .int 0, .null, .null, .null, .null, .null, .null, .null, .null, .null, .null, .null, .null, .null, .null, .null, .null, .int 0, .null, .null, .null, .int 0, .null]) (C := RX9) (T := TX9) (N := 48) hx hb hts inX9 tyX9 tyX9_ok hown (hts _ wd_4_186) (hts _ wd_4_187) (hts _ wd_1_10) hK hP2 hD2 hS2 hA rfl (by decide +kernel) (Nat.le_of_ble_eq_true rfl) (Nat.le_of_ble_eq_true rfl) dL_law_8 (fun h_ H hP hD hS => ?_)
  refine lv_dup hx hb dL_law_11 rfl ?_
  refine fs_If (bX k dz q 0 0 xu0) [] (rest := [.ref h_]) (As := []) ⟨hx, hb, hml, hown, hts⟩ Gd0 trivial hS hA hK hP hD (c_X9_init l D h_ k) mi_X9_init wd_4_189 wd_4_188 rfl ⟨Nat.le_of_ble_eq_true rfl, Nat.le_of_ble_eq_true rfl⟩ rfl hl.1 rfl (Nat.le_of_ble_eq_true rfl) ⟨Nat.le_of_ble_eq_true rfl, Nat.le_of_ble_eq_true rfl⟩ dL_law_12 (fun qm H locs _ hP hD hS => ?_)
  refine lv_astore_n (lv' := [(2, .ref h_), (1, .ref (q 6 0)), (0, .ref b)]) hx hb dL_law_15 rfl hl (by decide) rfl (fun ls hl => ?_)
  refine lv_iconst (v := 1) hx hb dL_law_16 (by decide) ?_
  refine ra_newl (N' := 1) hx hb (hts _ wd_6_51) hK hP hD hS hA (by decide) (by decide) (by decide) (Nat.le_of_ble_eq_true rfl) (Nat.le_of_ble_eq_true rfl) dL_law_17 (fun ad H hP hD hS => ?_)
  have eb : (bX k dz q 0 0 xu0 ++ (Mw h_ qm k mc0 mv0 0 ma0 ++ [])) ++ [(ad, .inl (k 3, 1, .inr (.inl (fun _ => 0))))] = LW k dz q 0 0 xu0 h_ qm mu0 ad (fun _ => 0) := by
    rw [List.append_nil, List.append_assoc]
  replace hP : va_P D vwCl ((bX k dz q 0 0 xu0 ++ (Mw h_ qm k mc0 mv0 0 ma0 ++ [])) ++ [(ad, .inl (k 3, 1, .inr (.inl (fun _ => 0))))]) H := hP
  replace hD : va_D (AA s) ((bX k dz q 0 0 xu0 ++ (Mw h_ qm k mc0 mv0 0 ma0 ++ [])) ++ [(ad, .inl (k 3, 1, .inr (.inl (fun _ => 0))))]) := hD
  rw [eb] at hP hD
  refine lv_astore_n (lv' := [(3, .ref ad), (2, .ref h_), (1, .ref (q 6 0)), (0, .ref b)]) hx hb dL_law_19 rfl hl (by decide) rfl (fun ls hl => ?_)
  refine lv_iconst (v := nI (6 * 0)) hx hb dL_law_20 (by decide) ?_
  refine lv_istore (lv' := [(4, .int (nI (6 * 0))), (3, .ref ad), (2, .ref h_), (1, .ref (q 6 0)), (0, .ref b)]) hx hb dL_law_21 hl (by decide) rfl (fun ls hl => ?_)
  refine W.widen (k := 100) (n := 9000) (Nat.le_of_ble_eq_true rfl) (Nat.le_of_ble_eq_true rfl) ?_
  exact law_loop C hst hL hr hlocks 512 0 q 0 0 xu0 mu0 g0 (fun _ => 0) H locs 100 9000 ls (by omega) (by omega) rel_start rx_start hP hD hS (lv_sub hl [4, 3, 2, 1, 0] rfl) (by omega) (by omega)
