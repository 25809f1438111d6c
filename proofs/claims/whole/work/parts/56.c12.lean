theorem mi_Jx4a65c_init_da8c8 : MI RJx4a65c yJx4a65c_init_da8c8 cJx4a65c_init_da8c8 1 none 0 := ⟨⟨wd_1_9, wd_1_124⟩, rfl, by decide +kernel, by decide +kernel, by decide +kernel⟩
theorem mi_Jxa1e45_init_da8c8 : MI RJxa1e45 yJxa1e45_init_da8c8 cJxa1e45_init_da8c8 1 none 0 := ⟨⟨wd_1_7, wd_1_130⟩, rfl, by decide +kernel, by decide +kernel, by decide +kernel⟩
theorem mi_Jxc12de_init_da8c8 : MI RJxc12de yJxc12de_init_da8c8 cJxc12de_init_da8c8 1 none 0 := ⟨⟨wd_1_8, wd_1_127⟩, rfl, by decide +kernel, by decide +kernel, by decide +kernel⟩
theorem mi_Jx4a65c_grow_92f84 : MI RJx4a65c yJx4a65c_grow_92f84 cJx4a65c_grow_92f84 4 (some (.array (.object "java/lang/Object"))) 1 := ⟨⟨wd_1_9, wd_3_142⟩, rfl, by decide +kernel, by decide +kernel, by decide +kernel⟩
theorem mi_Jx4a65c_grow_d5877 : MI RJx4a65c yJx4a65c_grow_d5877 cJx4a65c_grow_d5877 1 (some (.array (.object "java/lang/Object"))) 0 := ⟨⟨wd_1_9, wd_3_138⟩, rfl, by decide +kernel, by decide +kernel, by decide +kernel⟩
theorem mi_Jx4a65c_size_8abf5 : MI RJx4a65c yJx4a65c_size_8abf5 cJx4a65c_size_8abf5 1 (some .int) 0 := ⟨⟨wd_1_9, wd_2_149⟩, rfl, by decide +kernel, by decide +kernel, by decide +kernel⟩
theorem mi_Jx4a65c_elementData_915e3 : MI RJx4a65c yJx4a65c_elementData_915e3 cJx4a65c_elementData_915e3 2 (some (.object "java/lang/Object")) 1 := ⟨⟨wd_1_9, wd_2_165⟩, rfl, by decide +kernel, by decide +kernel, by decide +kernel⟩
theorem mi_Jx4a65c_get_915e3 : MI RJx4a65c yJx4a65c_get_915e3 cJx4a65c_get_915e3 2 (some (.object "java/lang/Object")) 1 := ⟨⟨wd_1_9, wd_2_157⟩, rfl, by decide +kernel, by decide +kernel, by decide +kernel⟩
theorem mi_Jx4a65c_add_72be8 : MI RJx4a65c yJx4a65c_add_72be8 cJx4a65c_add_72be8 4 none 3 := ⟨⟨wd_1_9, wd_3_134⟩, rfl, by decide +kernel, by decide +kernel, by decide +kernel⟩
theorem mi_Jx4a65c_add_9ea2d : MI RJx4a65c yJx4a65c_add_9ea2d cJx4a65c_add_9ea2d 2 (some .boolean) 1 := ⟨⟨wd_1_9, wd_3_130⟩, rfl, by decide +kernel, by decide +kernel, by decide +kernel⟩
theorem mi_J7_copyOf_1904c : MI RJ7 yJ7_copyOf_1904c cJ7_copyOf_1904c 2 (some (.array (.object "java/lang/Object"))) 2 := ⟨⟨wd_1_22, wd_3_153⟩, rfl, by decide +kernel, by decide +kernel, by decide +kernel⟩
theorem mi_J7_copyOf_6403c : MI RJ7 yJ7_copyOf_6403c cJ7_copyOf_6403c 4 (some (.array (.object "java/lang/Object"))) 3 := ⟨⟨wd_1_22, wd_3_172⟩, rfl, by decide +kernel, by decide +kernel, by decide +kernel⟩
theorem mi_J8_newLength_cabcc : MI RJ8 yJ8_newLength_cabcc cJ8_newLength_cabcc 4 (some .int) 3 := ⟨⟨wd_1_21, wd_3_145⟩, rfl, by decide +kernel, by decide +kernel, by decide +kernel⟩
set_option maxHeartbeats 4000000 in
set_option maxRecDepth 100000 in
theorem c_Jx4a65c_size_8abf5 (l : Launch) (D : va_G) (k : Nat → ClassId) (la ea : Nat) (md : Int32) (n : Nat) : Ro l yJx4a65c_size_8abf5 cJx4a65c_size_8abf5 1 (some .int) 0 D (TY k) G0 [.ref la] ([(la, .inr (0, [.int md, .ref ea, .int (nI n)]))]) (some (.int (nI n))) := by
  refine ro_body (by decide +kernel) (Nat.le_of_ble_eq_true rfl) ?_
  intro p e s m args below meth c_ Q hx hb hml hown hts hK hP hS hG hr hq hlocks ls hl
  replace hl : lv_has ls 1 [(0, .ref la)] := hl
  change s.vm.findClass RJx4a65c = some m.cls at hown
  refine lv_aload_n hx hb dJx4a65c_size_8abf5_0 rfl (lv_at hl 0 rfl) ?_
  refine va_get (D := D) (ci := 0) (v := .int (nI n)) (C := RJx4a65c) (T := TJx4a65c) (N := 3) hx hb hts inJx4a65c hown hK hP 0 rfl rfl 2 (by decide) (hts _ wd_1_135) (fun _ h9 => h9) rfl dJx4a65c_size_8abf5_1 ?_
  exact ro_i hx hb hr hlocks hq dJx4a65c_size_8abf5_4 (rfl)
set_option maxHeartbeats 4000000 in
set_option maxRecDepth 100000 in
theorem c_Jx4a65c_elementData_915e3 (l : Launch) (D : va_G) (k : Nat → ClassId) (la qa : Nat) (md : Int32) (n cp : Nat) (pl : Nat → Nat) (i : Nat) (hi : i < n) (hcp : n ≤ cp) (hc31 : cp < 2 ^ 31) : Ro l yJx4a65c_elementData_915e3 cJx4a65c_elementData_915e3 2 (some (.object "java/lang/Object")) 0 D (TY k) G0 [.ref la, .int (nI i)] ([(la, .inr (0, [.int md, .ref qa, .int (nI n)])), (qa, .inl (k 2, cp, .inr (.inr (.inr (.inr (els n pl))))))]) (some (.ref (pl i))) := by
  refine ro_body (by decide +kernel) (Nat.le_of_ble_eq_true rfl) ?_
  intro p e s m args below meth c_ Q hx hb hml hown hts hK hP hS hG hr hq hlocks ls hl
  replace hl : lv_has ls 2 [(0, .ref la), (1, .int (nI i))] := hl
  change s.vm.findClass RJx4a65c = some m.cls at hown
  refine lv_aload_n hx hb dJx4a65c_elementData_915e3_0 rfl (lv_at hl 0 rfl) ?_
  refine va_get (D := D) (ci := 0) (v := .ref qa) (C := RJx4a65c) (T := TJx4a65c) (N := 3) hx hb hts inJx4a65c hown hK hP 0 rfl rfl 1 (by decide) (hts _ wd_1_134) (fun _ h9 => h9) rfl dJx4a65c_elementData_915e3_1 ?_
  refine lv_iload_n hx hb dJx4a65c_elementData_915e3_4 rfl (lv_at hl 1 rfl) ?_
  refine va_aldq hx hb hK hP 1 2 rfl rfl (vp_in_nI (by omega) (by omega)) dJx4a65c_elementData_915e3_5 ?_
  refine rw_topv (y := .ref (pl i)) (by rw [nI_clamp (by omega)]; simp [els, va_rf, show i < n by omega]) ?_
  exact ro_a hx hb hr (Or.inl ⟨_, rfl⟩) hlocks hq (Or.inr ⟨_, rfl⟩) dJx4a65c_elementData_915e3_6 rfl
set_option maxHeartbeats 4000000 in
set_option maxRecDepth 100000 in
theorem c_Jx4a65c_get_915e3 (l : Launch) (D : va_G) (k : Nat → ClassId) (la qa : Nat) (md : Int32) (n cp : Nat) (pl : Nat → Nat) (i : Nat) (hi : i < n) (hcp : n ≤ cp) (hc31 : cp < 2 ^ 31) : Ro l yJx4a65c_get_915e3 cJx4a65c_get_915e3 2 (some (.object "java/lang/Object")) 2 D (TY k) G0 [.ref la, .int (nI i)] ([(la, .inr (0, [.int md, .ref qa, .int (nI n)])), (qa, .inl (k 2, cp, .inr (.inr (.inr (.inr (els n pl))))))]) (some (.ref (pl i))) := by
  refine ro_body (by decide +kernel) (Nat.le_of_ble_eq_true rfl) ?_
  intro p e s m args below meth c_ Q hx hb hml hown hts hK hP hS hG hr hq hlocks ls hl
  replace hl : lv_has ls 2 [(0, .ref la), (1, .int (nI i))] := hl
  change s.vm.findClass RJx4a65c = some m.cls at hown
  refine lv_iload_n hx hb dJx4a65c_get_915e3_0 rfl (lv_at hl 1 rfl) ?_
  refine lv_aload_n hx hb dJx4a65c_get_915e3_1 rfl (lv_at hl 0 rfl) ?_
  refine va_get (D := D) (ci := 0) (v := .int (nI n)) (C := RJx4a65c) (T := TJx4a65c) (N := 3) hx hb hts inJx4a65c hown hK hP 0 rfl rfl 2 (by decide) (hts _ wd_1_135) (fun _ h9 => h9) rfl dJx4a65c_get_915e3_2 ?_
  refine ro_S (rest := []) (st1 := [.int (nI i)]) (As := [.int (nI i), .int (nI n)]) ⟨hx, hb, hml, hown, hts⟩ Gd0 trivial hS hK (c_J15_checkIndex_7cf53 l D k i n hi (by omega)) mi_J15_checkIndex_7cf53 wd_2_159 wd_2_158 ⟨Nat.le_of_ble_eq_true rfl, Nat.le_of_ble_eq_true rfl⟩ (fun k9 q9 h9 => by simp at h9) rfl hl.1 rfl (Nat.le_of_ble_eq_true rfl) rfl ⟨Nat.le_of_ble_eq_true rfl, Nat.le_of_ble_eq_true rfl⟩ dJx4a65c_get_915e3_5 ?_
  refine lv_pop hx hb dJx4a65c_get_915e3_8 rfl ?_
  refine lv_aload_n hx hb dJx4a65c_get_915e3_9 rfl (lv_at hl 0 rfl) ?_
  refine lv_iload_n hx hb dJx4a65c_get_915e3_10 rfl (lv_at hl 1 rfl) ?_
  refine ro_V (rest := []) (st1 := [.ref (pl i)]) (As := [.int (nI i)]) ⟨hx, hb, hml, hown, hts⟩ Gd0 trivial hS hK (c_Jx4a65c_elementData_915e3 l D k la qa md n cp pl i hi hcp hc31) mi_Jx4a65c_elementData_915e3 wd_2_163 wd_2_164 wd_2_162 ⟨Nat.le_of_ble_eq_true rfl, Nat.le_of_ble_eq_true rfl⟩ (hP) 0 rfl rfl rfl hl.1 rfl (Nat.le_of_ble_eq_true rfl) rfl ⟨Nat.le_of_ble_eq_true rfl, Nat.le_of_ble_eq_true rfl⟩ dJx4a65c_get_915e3_11 ?_
  exact ro_a hx hb hr (Or.inl ⟨_, rfl⟩) hlocks hq (Or.inr ⟨_, rfl⟩) dJx4a65c_get_915e3_14 rfl
set_option maxHeartbeats 4000000 in
set_option maxRecDepth 100000 in
theorem c_J8_newLength_cabcc (l : Launch) (D : va_G) (k : Nat → ClassId) (c : Nat) (h1 : 10 ≤ c) (h2 : c ≤ 1000) : Ro l yJ8_newLength_cabcc cJ8_newLength_cabcc 4 (some .int) 1 D (TY k) G0 [.int (nI c), .int 1, .int (nI (c / 2))] ([]) (some (.int (nI (c + c / 2)))) := by
  refine ro_body (by decide +kernel) (Nat.le_of_ble_eq_true rfl) ?_
  intro p e s m args below meth c_ Q hx hb hml hown hts hK hP hS hG hr hq hlocks ls hl
  replace hl : lv_has ls 4 [(0, .int (nI c)), (1, .int 1), (2, .int (nI (c / 2)))] := hl
  change s.vm.findClass RJ8 = some m.cls at hown
  refine lv_iload_n hx hb dJ8_newLength_cabcc_0 rfl (lv_at hl 0 rfl) ?_
  refine lv_iload_n hx hb dJ8_newLength_cabcc_1 rfl (lv_at hl 1 rfl) ?_
  refine lv_iload_n hx hb dJ8_newLength_cabcc_2 rfl (lv_at hl 2 rfl) ?_
  refine va_mmax hx hb (hml.trans hl.1.symm) hown (hts _ wd_3_146) (hts _ wd_3_1) (hts _ wd_1_11) (hts _ wd_3_2) (by decide) (Nat.le_of_ble_eq_true rfl) (Nat.le_of_ble_eq_true rfl) (Nat.le_of_ble_eq_true rfl) dJ8_newLength_cabcc_3 ?_
  refine rw_topi (y := nI (c / 2)) (if_pos ((nI_ltI (a := 1) (b := c / 2) (by decide) (by omega)).mpr (by omega))) ?_
  refine lv_iadd hx hb dJ8_newLength_cabcc_6 ?_
  refine rw_topi (y := nI (c + (c / 2))) (nI_add _ _) ?_
  refine lv_istore_n (lv' := [(3, .int (nI (c + (c / 2)))), (0, .int (nI c)), (1, .int 1), (2, .int (nI (c / 2)))]) hx hb dJ8_newLength_cabcc_7 rfl hl (by decide) rfl (fun ls hl => ?_)
  refine lv_iconst (v := 0) hx hb dJ8_newLength_cabcc_8 (by decide) ?_
  refine lv_iload_n hx hb dJ8_newLength_cabcc_9 rfl (lv_at hl 0 rfl) ?_
  refine lv_icmp_ge (tgt := 21) hx hb dJ8_newLength_cabcc_10 (by decide) (fun c10 => absurd c10 (nI_nle (by omega) (by omega))) (fun c10 => ?_)
  refine lv_iload_n hx hb dJ8_newLength_cabcc_13 rfl (lv_at hl 0 rfl) ?_
  refine lv_ldc (v := 2147483639) hx hb hown (hts _ wd_3_147) dJ8_newLength_cabcc_14 ?_
  refine lv_icmp_gt (tgt := 21) hx hb dJ8_newLength_cabcc_16 (by decide) (fun c16 => absurd c16 (fun z => absurd ((nI_ltI (a := 2147483639) (b := c + c / 2) (by decide) (by omega)).mp z) (by omega))) (fun c16 => ?_)
  refine lv_iload_n hx hb dJ8_newLength_cabcc_19 rfl (lv_at hl 0 rfl) ?_
  exact ro_i hx hb hr hlocks hq dJ8_newLength_cabcc_20 (rfl)
set_option maxHeartbeats 4000000 in
set_option maxRecDepth 100000 in
theorem c_J7_copyOf_6403c (l : Launch) (D : va_G) (k : Nat → ClassId) (dz mi : Nat) (qa : Nat) (n ci : Nat) (pl : Nat → Nat) (fs : Nat → List Value) (r9 : vw_C) (h1 : 10 ≤ n) (h2 : n ≤ 1000) (hc9 : vwCl[ci]? = some r9) (hr9 : r9.1 = RX4 ∨ r9.1 = RX0) : Fs (S := Nat) l yJ7_copyOf_6403c cJ7_copyOf_6403c 4 (some (.array (.object "java/lang/Object"))) 1 1 (n + n / 2) D (TY k) (GL dz mi) [.ref qa, .int (nI (n + n / 2)), .ref mi] ([(qa, .inl (k 2, n, .inr (.inr (.inr (.inr (els n pl))))))] ++ sg (n + 1) (fun i => [(pl i, .inr (ci, fs i))])) (fun u => some (.ref u)) (fun _ => True) (fun u => [(qa, .inl (k 2, n, .inr (.inr (.inr (.inr (els n pl)))))), (u, .inl (k 2, n + n / 2, .inr (.inr (.inr (.inr (els n pl))))))] ++ sg (n + 1) (fun i => [(pl i, .inr (ci, fs i))])) := by
  refine fs_body (by decide +kernel) (Nat.le_of_ble_eq_true rfl) ?_
  intro p e s m args below meth c_ Q A hx hb hml hown hts hK hP hD hS hA hG hin hr hq hlocks ls hl
  replace hl : lv_has ls 4 [(0, .ref qa), (1, .int (nI (n + n / 2))), (2, .ref mi)] := hl
  change s.vm.findClass RJ7 = some m.cls at hown
  have hcs9 : ∀ U : State, (va_Nw (.castable RX4 "java/lang/Object") U ∧ va_Nw (.castable RX0 "java/lang/Object") U) → va_Nw (.castable r9.1 "java/lang/Object") U := by
    intro U h
    rcases hr9 with e9 | e9
    · rw [e9]; exact h.1
    · rw [e9]; exact h.2
  refine lv_aload_n hx hb dJ7_copyOf_6403c_0 rfl (lv_at hl 2 rfl) ?_
  refine va_ldcM hx hb hown (hts _ wd_3_173) hG.2.2.2.1 dJ7_copyOf_6403c_1 ?_
  refine lv_acmp_ne (rx := some mi) (ry := some mi) (tgt := 13) hx hb dJ7_copyOf_6403c_3 (by decide) (fun z => absurd rfl z) (fun _ => ?_)
  refine lv_iload_n hx hb dJ7_copyOf_6403c_6 rfl (lv_at hl 1 rfl) ?_
  refine ra_newq (N' := n + n / 2) hx hb hown (hts _ wd_3_175) hG.2.2.1 hK hP hD hS hA (nI_pos (by omega)) (nI_clamp (by omega)) (by omega) (Nat.le_of_ble_eq_true rfl) (by show 0 + (n + n / 2) ≤ n + n / 2; omega) dJ7_copyOf_6403c_7 (fun q_7 H hP hD hS => ?_)
  replace hP : va_P D vwCl ([(qa, .inl (k 2, n, .inr (.inr (.inr (.inr (els n pl)))))), (q_7, .inl (k 2, n + n / 2, .inr (.inr (.inr (.inr (fun _ => none))))))] ++ sg (n + 1) (fun i => [(pl i, .inr (ci, fs i))])) H := hP.prm (by intro x; simp only [cn_app, cn_cons, cn_nil]; omega)
  replace hD : va_D A ([(qa, .inl (k 2, n, .inr (.inr (.inr (.inr (els n pl)))))), (q_7, .inl (k 2, n + n / 2, .inr (.inr (.inr (.inr (fun _ => none))))))] ++ sg (n + 1) (fun i => [(pl i, .inr (ci, fs i))])) := hD.prm (by intro x; simp only [cn_app, cn_cons, cn_nil]; omega)
  refine W.widen (k := 1) (n := n + n / 2) (by omega) (by omega) ?_
  refine lv_goto (tgt := 24) hx hb dJ7_copyOf_6403c_10 (by decide) ?_
  refine lv_astore_n (lv' := [(3, .ref q_7), (0, .ref qa), (1, .int (nI (n + n / 2))), (2, .ref mi)]) hx hb dJ7_copyOf_6403c_24 rfl hl (by decide) rfl (fun ls hl => ?_)
  refine lv_aload_n hx hb dJ7_copyOf_6403c_25 rfl (lv_at hl 1 rfl) ?_
  refine lv_iconst (v := 0) hx hb dJ7_copyOf_6403c_26 (by decide) ?_
  refine lv_aload_n hx hb dJ7_copyOf_6403c_27 rfl (lv_at hl 0 rfl) ?_
  refine lv_iconst (v := 0) hx hb dJ7_copyOf_6403c_28 (by decide) ?_
  refine lv_aload_n hx hb dJ7_copyOf_6403c_29 rfl (lv_at hl 1 rfl) ?_
  refine va_alen (v := nI n) hx hb hK hP 0 2 rfl rfl (rfl) dJ7_copyOf_6403c_30 ?_
  refine lv_iload_n hx hb dJ7_copyOf_6403c_31 rfl (lv_at hl 2 rfl) ?_
  refine va_mmin hx hb (hml.trans hl.1.symm) hown (hts _ wd_3_176) (hts _ wd_1_223) (hts _ wd_1_11) (hts _ wd_1_224) (Nat.le_of_ble_eq_true rfl) (Nat.le_of_ble_eq_true rfl) (by first | exact Nat.le_of_ble_eq_true rfl | exact Nat.le_refl _) (by first | exact Nat.le_of_ble_eq_true rfl | exact Nat.le_refl _ | exact Nat.zero_le _) dJ7_copyOf_6403c_32 ?_
  refine rw_topi (y := nI n) (if_neg (nI_nlt (by omega) (by omega))) ?_
  refine va_copyq (C := r9.1) hx hb (hml.trans hl.1.symm) hown (hts _ wd_3_177) (hts _ wd_3_19) (hts _ wd_3_18) (hts _ wd_1_20) hK hP hD hS 0 1 2 2 rfl rfl rfl rfl (by decide) (by decide) (nI_pos (by omega)) (by rw [nI_clamp (by omega)]; show 0 + _ ≤ _; omega) (by rw [nI_clamp (by omega)]; show 0 + _ ≤ _; omega) (fun i hi y hy => ?_) (vb_asgC (hcs9 s hG.2.2.2.2.2)) (Nat.le_of_ble_eq_true rfl) (Nat.le_of_ble_eq_true rfl) dJ7_copyOf_6403c_35 (fun H locs hP hD hS => ?_)
  · rw [nI_clamp (by omega)] at hi
    have hy2 : els n pl i = some y := by rw [show i = (0 : Int32).toNatClampNeg + i by show i = 0 + i; omega]; exact hy
    have hy3 : y = pl i := by unfold els at hy2; rw [if_pos (by omega)] at hy2; exact (Option.some.inj hy2).symm
    subst hy3
    exact va_recv hK (hP.mem (c := (pl i, .inr (ci, fs i))) (List.mem_append_right _ (mem_sg (by omega) List.mem_cons_self))) (q0 := 0) hc9 rfl
  rw [show va_cpy (els n pl) (fun _ => none) (0 : Int32).toNatClampNeg (0 : Int32).toNatClampNeg (nI n).toNatClampNeg = els n pl by rw [nI_clamp (by omega)]; exact els_cpy n pl] at hP hD
  replace hP : va_P D vwCl ([(qa, .inl (k 2, n, .inr (.inr (.inr (.inr (els n pl)))))), (q_7, .inl (k 2, n + n / 2, .inr (.inr (.inr (.inr (els n pl))))))] ++ sg (n + 1) (fun i => [(pl i, .inr (ci, fs i))])) H := hP
  replace hD : va_D A ([(qa, .inl (k 2, n, .inr (.inr (.inr (.inr (els n pl)))))), (q_7, .inl (k 2, n + n / 2, .inr (.inr (.inr (.inr (els n pl))))))] ++ sg (n + 1) (fun i => [(pl i, .inr (ci, fs i))])) := hD
  refine lv_aload_n hx hb dJ7_copyOf_6403c_38 rfl (lv_at hl 0 rfl) ?_
  exact fs_a hx hb hr (Or.inr ⟨_, rfl⟩) hlocks hq (q_7) trivial hP hD hS (Or.inr ⟨_, rfl⟩) dJ7_copyOf_6403c_39 rfl
set_option maxHeartbeats 4000000 in
set_option maxRecDepth 100000 in
theorem c_J7_copyOf_1904c (l : Launch) (D : va_G) (k : Nat → ClassId) (dz mi : Nat) (qa : Nat) (n ci : Nat) (pl : Nat → Nat) (fs : Nat → List Value) (r9 : vw_C) (h1 : 10 ≤ n) (h2 : n ≤ 1000) (hc9 : vwCl[ci]? = some r9) (hr9 : r9.1 = RX4 ∨ r9.1 = RX0) : Fs (S := Nat) l yJ7_copyOf_1904c cJ7_copyOf_1904c 2 (some (.array (.object "java/lang/Object"))) 2 1 (n + n / 2) D (TY k) (GL dz mi) [.ref qa, .int (nI (n + n / 2))] ([(qa, .inl (k 2, n, .inr (.inr (.inr (.inr (els n pl))))))] ++ sg (n + 1) (fun i => [(pl i, .inr (ci, fs i))])) (fun u => some (.ref u)) (fun _ => True) (fun u => [(qa, .inl (k 2, n, .inr (.inr (.inr (.inr (els n pl)))))), (u, .inl (k 2, n + n / 2, .inr (.inr (.inr (.inr (els n pl))))))] ++ sg (n + 1) (fun i => [(pl i, .inr (ci, fs i))])) := by
  refine fs_body (by decide +kernel) (Nat.le_of_ble_eq_true rfl) ?_
  intro p e s m args below meth c_ Q A hx hb hml hown hts hK hP hD hS hA hG hin hr hq hlocks ls hl
  replace hl : lv_has ls 2 [(0, .ref qa), (1, .int (nI (n + n / 2)))] := hl
  change s.vm.findClass RJ7 = some m.cls at hown
  have hcs9 : ∀ U : State, (va_Nw (.castable RX4 "java/lang/Object") U ∧ va_Nw (.castable RX0 "java/lang/Object") U) → va_Nw (.castable r9.1 "java/lang/Object") U := by
    intro U h
    rcases hr9 with e9 | e9
    · rw [e9]; exact h.1
    · rw [e9]; exact h.2
  refine lv_aload_n hx hb dJ7_copyOf_1904c_0 rfl (lv_at hl 0 rfl) ?_
  refine lv_iload_n hx hb dJ7_copyOf_1904c_1 rfl (lv_at hl 1 rfl) ?_
  refine lv_aload_n hx hb dJ7_copyOf_1904c_2 rfl (lv_at hl 0 rfl) ?_
  refine va_getC hx hb (hml.trans hl.1.symm) hown (hts _ wd_3_154) (va_Dc.use hG.2.2.2.2.1) (hts _ wd_6_68) (hts _ wd_3_155) (hts _ wd_3_169) hG.2.2.2.1 (ra_isq hK (hP.low (fun d hd => by rw [List.mem_singleton.mp hd]; exact List.mem_of_getElem? (i := 0) rfl))) (Nat.le_of_ble_eq_true rfl) (Nat.le_of_ble_eq_true rfl) dJ7_copyOf_1904c_3 ?_
  refine fs_Sf ([]) ([]) (rest := []) (As := [.ref qa, .int (nI (n + n / 2)), .ref mi]) ⟨hx, hb, hml, hown, hts⟩ GdL hG hS hA hK (by rw [List.append_nil]; exact hP) (by rw [List.append_nil]; exact hD) (c_J7_copyOf_6403c l D k dz mi qa n ci pl fs r9 h1 h2 hc9 hr9) mi_J7_copyOf_6403c wd_3_171 wd_3_170 ⟨Nat.le_of_ble_eq_true rfl, Nat.le_of_ble_eq_true rfl⟩ rfl hl.1 rfl (Nat.le_of_ble_eq_true rfl) ⟨Nat.le_of_ble_eq_true rfl, by show 0 + (n + n / 2) ≤ n + n / 2; omega⟩ dJ7_copyOf_1904c_6 (fun u_1 H locs hu_2 hP hD hS => ?_)
  replace hP : va_P D vwCl ([(qa, .inl (k 2, n, .inr (.inr (.inr (.inr (els n pl)))))), (u_1, .inl (k 2, n + n / 2, .inr (.inr (.inr (.inr (els n pl))))))] ++ sg (n + 1) (fun i => [(pl i, .inr (ci, fs i))])) H := hP.prm (by intro x; simp only [cn_app, cn_cons, cn_nil]; omega)
  replace hD : va_D A ([(qa, .inl (k 2, n, .inr (.inr (.inr (.inr (els n pl)))))), (u_1, .inl (k 2, n + n / 2, .inr (.inr (.inr (.inr (els n pl))))))] ++ sg (n + 1) (fun i => [(pl i, .inr (ci, fs i))])) := hD.prm (by intro x; simp only [cn_app, cn_cons, cn_nil]; omega)
  refine W.widen (k := 1) (n := n + n / 2) (by omega) (by omega) ?_
  refine W.eq (g2 := F0 m 9 ls [.ref u_1]) rfl ?_
  exact fs_a hx hb hr (Or.inr ⟨_, rfl⟩) hlocks hq (u_1) trivial hP hD hS (Or.inr ⟨_, rfl⟩) dJ7_copyOf_1904c_9 rfl
