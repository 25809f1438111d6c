theorem els_push0 (pl : Nat → Nat) : va_up (fun _ => none) 0 (some (pl 0)) = els 1 pl := by
  have := els_push 0 pl
  rw [show els 0 pl = (fun _ => none) from funext (fun i => if_neg (Nat.not_lt_zero i))] at this
  exact this
set_option maxHeartbeats 4000000 in
set_option maxRecDepth 100000 in
theorem c_grow1_0 (l : Launch) (D : va_G) (k : Nat → ClassId) (dz mi la : Nat) (md : Int32)   : Fs (S := Nat) l yJx4a65c_grow_92f84 cJx4a65c_grow_92f84 4 (some (.array (.object "java/lang/Object"))) 3 1 10 D (TY k) (GL dz mi) [.ref la, .int 1] ([(la, .inr (0, [.int md, .ref dz, .int 0]))]) (fun u => some (.ref u)) (fun _ => True) (fun u => [(la, .inr (0, [.int md, .ref u, .int 0])), (u, .inl (k 2, 10, .inr (.inr (.inr (.inr (fun _ => none))))))]) := by
  refine fs_body (by decide +kernel) (Nat.le_of_ble_eq_true rfl) ?_
  intro p e s m args below meth c_ Q A hx hb hml hown hts hK hP hD hS hA hG hin hr hq hlocks ls hl
  replace hl : lv_has ls 4 [(0, .ref la), (1, .int 1)] := hl
  change s.vm.findClass RJx4a65c = some m.cls at hown
  refine lv_aload_n hx hb dJx4a65c_grow_92f84_0 rfl (lv_at hl 0 rfl) ?_
  refine va_get (D := D) (ci := 0) (v := .ref dz) (C := RJx4a65c) (T := TJx4a65c) (N := 3) hx hb hts inJx4a65c hown hK hP 0 rfl rfl 1 (by decide) (hts _ wd_1_134) (fun _ h9 => h9) rfl dJx4a65c_grow_92f84_1 ?_
  refine va_tlen (v := 0) hx hb hG.2.1 hS rfl dJx4a65c_grow_92f84_4 ?_
  refine lv_istore_n (lv' := [(2, .int 0), (0, .ref la), (1, .int 1)]) hx hb dJx4a65c_grow_92f84_5 rfl hl (by decide) rfl (fun ls hl => ?_)
  refine lv_iload_n hx hb dJx4a65c_grow_92f84_6 rfl (lv_at hl 0 rfl) ?_
  refine lv_if_gt (tgt := 20) hx hb dJx4a65c_grow_92f84_7 (by decide) (fun c7 => absurd c7 (by decide)) (fun c7 => ?_)
  refine lv_aload_n hx hb dJx4a65c_grow_92f84_10 rfl (lv_at hl 1 rfl) ?_
  refine va_get (D := D) (ci := 0) (v := .ref dz) (C := RJx4a65c) (T := TJx4a65c) (N := 3) hx hb hts inJx4a65c hown hK hP 0 rfl rfl 1 (by decide) (hts _ wd_1_134) (fun _ h9 => h9) rfl dJx4a65c_grow_92f84_11 ?_
  refine va_gets hx hb hG.1 hS hown (hts _ wd_1_132) (fun _ h9 => h9) dJx4a65c_grow_92f84_14 ?_
  refine lv_acmp_eq (rx := some dz) (ry := some dz) (tgt := 45) hx hb dJx4a65c_grow_92f84_17 (by decide) (fun _ => ?_) (fun z => absurd rfl z)
  refine lv_aload_n hx hb dJx4a65c_grow_92f84_45 rfl (lv_at hl 1 rfl) ?_
  refine lv_bipush (v := 10) hx hb dJx4a65c_grow_92f84_46 (by decide) ?_
  refine lv_iload_n hx hb dJx4a65c_grow_92f84_48 rfl (lv_at hl 2 rfl) ?_
  refine va_mmax hx hb (hml.trans hl.1.symm) hown (hts _ wd_3_178) (hts _ wd_3_1) (hts _ wd_1_11) (hts _ wd_3_2) (by decide) (Nat.le_of_ble_eq_true rfl) (Nat.le_of_ble_eq_true rfl) (Nat.le_of_ble_eq_true rfl) dJx4a65c_grow_92f84_49 ?_
  refine rw_topi (y := 10) (by decide) ?_
  refine ra_newq (N' := 10) hx hb hown (hts _ wd_3_179) hG.2.2.1 hK hP hD hS hA (by decide) (by decide) (by omega) (Nat.le_of_ble_eq_true rfl) (by show 0 + (10) ≤ 10; omega) dJx4a65c_grow_92f84_52 (fun q_52 H hP hD hS => ?_)
  replace hP : va_P D vwCl ([(la, .inr (0, [.int md, .ref dz, .int 0])), (q_52, .inl (k 2, 10, .inr (.inr (.inr (.inr (fun _ => none))))))]) H := hP.prm (by intro x; simp only [cn_app, cn_cons, cn_nil]; omega)
  replace hD : va_D A ([(la, .inr (0, [.int md, .ref dz, .int 0])), (q_52, .inl (k 2, 10, .inr (.inr (.inr (.inr (fun _ => none))))))]) := hD.prm (by intro x; simp only [cn_app, cn_cons, cn_nil]; omega)
  refine W.widen (k := 1) (n := 10) (by omega) (by omega) ?_
  refine lv_dup_x1 hx hb dJx4a65c_grow_92f84_55 rfl rfl ?_
  refine va_put (D := D) (ci := 0) (v := .ref q_52) (C := RJx4a65c) (T := TJx4a65c) (N := 3) hx hb hts inJx4a65c tyJx4a65c tyJx4a65c_ok nmJx4a65c hown hK hP hD hS 0 rfl rfl 1 (by decide) (hts _ wd_1_134) (fun _ h9 => h9) rfl (tyJx4a65c_ok 1 (by decide)) rfl rfl (Nat.le_of_ble_eq_true rfl) dJx4a65c_grow_92f84_56 (fun H locs hP hD hS => ?_)
  replace hP : va_P D vwCl ([(la, .inr (0, [.int md, .ref q_52, .int 0])), (q_52, .inl (k 2, 10, .inr (.inr (.inr (.inr (fun _ => none))))))]) H := hP
  replace hD : va_D A ([(la, .inr (0, [.int md, .ref q_52, .int 0])), (q_52, .inl (k 2, 10, .inr (.inr (.inr (.inr (fun _ => none))))))]) := hD
  exact fs_a hx hb hr (Or.inr ⟨_, rfl⟩) hlocks hq (q_52) trivial hP hD hS (Or.inr ⟨_, rfl⟩) dJx4a65c_grow_92f84_59 rfl
set_option maxHeartbeats 4000000 in
set_option maxRecDepth 100000 in
theorem c_grow1_n (l : Launch) (D : va_G) (k : Nat → ClassId) (dz mi la : Nat) (md : Int32) (qa n : Nat) (ci : Nat) (pl : Nat → Nat) (fs : Nat → List Value) (r9 : vw_C) (h1 : 10 ≤ n) (h2 : n ≤ 1000) (hc9 : vwCl[ci]? = some r9) (hr9 : r9.1 = RX4 ∨ r9.1 = RX0) : Fs (S := Nat) l yJx4a65c_grow_92f84 cJx4a65c_grow_92f84 4 (some (.array (.object "java/lang/Object"))) 3 1 (n + n / 2) D (TY k) (GL dz mi) [.ref la, .int (nI (n + 1))] ([(la, .inr (0, [.int md, .ref qa, .int (nI n)])), (qa, .inl (k 2, n, .inr (.inr (.inr (.inr (els n pl))))))] ++ sg (n + 1) (fun i => [(pl i, .inr (ci, fs i))])) (fun u => some (.ref u)) (fun _ => True) (fun u => [(la, .inr (0, [.int md, .ref u, .int (nI n)])), (u, .inl (k 2, n + n / 2, .inr (.inr (.inr (.inr (els n pl))))))] ++ sg (n + 1) (fun i => [(pl i, .inr (ci, fs i))])) := by
  refine fs_body (by decide +kernel) (Nat.le_of_ble_eq_true rfl) ?_
  intro p e s m args below meth c_ Q A hx hb hml hown hts hK hP hD hS hA hG hin hr hq hlocks ls hl
  replace hl : lv_has ls 4 [(0, .ref la), (1, .int (nI (n + 1)))] := hl
  change s.vm.findClass RJx4a65c = some m.cls at hown
  have hcs9 : ∀ U : State, (va_Nw (.castable RX4 "java/lang/Object") U ∧ va_Nw (.castable RX0 "java/lang/Object") U) → va_Nw (.castable r9.1 "java/lang/Object") U := by
    intro U h
    rcases hr9 with e9 | e9
    · rw [e9]; exact h.1
    · rw [e9]; exact h.2
  refine lv_aload_n hx hb dJx4a65c_grow_92f84_0 rfl (lv_at hl 0 rfl) ?_
  refine va_get (D := D) (ci := 0) (v := .ref qa) (C := RJx4a65c) (T := TJx4a65c) (N := 3) hx hb hts inJx4a65c hown hK hP 0 rfl rfl 1 (by decide) (hts _ wd_1_134) (fun _ h9 => h9) rfl dJx4a65c_grow_92f84_1 ?_
  refine va_alen (v := nI n) hx hb hK hP 1 2 rfl rfl (rfl) dJx4a65c_grow_92f84_4 ?_
  refine lv_istore_n (lv' := [(2, .int (nI n)), (0, .ref la), (1, .int (nI (n + 1)))]) hx hb dJx4a65c_grow_92f84_5 rfl hl (by decide) rfl (fun ls hl => ?_)
  refine lv_iload_n hx hb dJx4a65c_grow_92f84_6 rfl (lv_at hl 0 rfl) ?_
  refine lv_if_gt (tgt := 20) hx hb dJx4a65c_grow_92f84_7 (by decide) (fun c7 => ?_) (fun c7 => absurd (nI_lt (a := 0) (by omega) (by omega)) c7)
  refine lv_iload_n hx hb dJx4a65c_grow_92f84_20 rfl (lv_at hl 0 rfl) ?_
  refine lv_iload_n hx hb dJx4a65c_grow_92f84_21 rfl (lv_at hl 2 rfl) ?_
  refine lv_iload_n hx hb dJx4a65c_grow_92f84_22 rfl (lv_at hl 0 rfl) ?_
  refine lv_isub hx hb dJx4a65c_grow_92f84_23 ?_
  refine rw_topi (y := 1) (by rw [pk_sub (by omega), show n + 1 - n = 1 by omega]; rfl) ?_
  refine lv_iload_n hx hb dJx4a65c_grow_92f84_24 rfl (lv_at hl 0 rfl) ?_
  refine lv_iconst (v := 1) hx hb dJx4a65c_grow_92f84_25 (by decide) ?_
  refine lv_ishr hx hb dJx4a65c_grow_92f84_26 ?_
  refine rw_topi (y := nI (n / 2)) (pk_shrN (by omega) _ 1 (by decide)) ?_
  refine ro_S (rest := []) (st1 := [.int (nI (n + n / 2))]) (As := [.int (nI n), .int 1, .int (nI (n / 2))]) ⟨hx, hb, hml, hown, hts⟩ Gd0 trivial hS hK (c_J8_newLength_cabcc l D k n (by omega) (by omega)) mi_J8_newLength_cabcc wd_3_144 wd_3_143 ⟨Nat.le_of_ble_eq_true rfl, Nat.le_of_ble_eq_true rfl⟩ (fun k9 q9 h9 => by simp at h9) rfl hl.1 rfl (Nat.le_of_ble_eq_true rfl) rfl ⟨Nat.le_of_ble_eq_true rfl, Nat.le_of_ble_eq_true rfl⟩ dJx4a65c_grow_92f84_27 ?_
  refine lv_istore_n (lv' := [(3, .int (nI (n + n / 2))), (2, .int (nI n)), (0, .ref la), (1, .int (nI (n + 1)))]) hx hb dJx4a65c_grow_92f84_30 rfl hl (by decide) rfl (fun ls hl => ?_)
  refine lv_aload_n hx hb dJx4a65c_grow_92f84_31 rfl (lv_at hl 2 rfl) ?_
  refine lv_aload_n hx hb dJx4a65c_grow_92f84_32 rfl (lv_at hl 2 rfl) ?_
  refine va_get (D := D) (ci := 0) (v := .ref qa) (C := RJx4a65c) (T := TJx4a65c) (N := 3) hx hb hts inJx4a65c hown hK hP 0 rfl rfl 1 (by decide) (hts _ wd_1_134) (fun _ h9 => h9) rfl dJx4a65c_grow_92f84_33 ?_
  refine lv_iload_n hx hb dJx4a65c_grow_92f84_36 rfl (lv_at hl 0 rfl) ?_
  refine fs_Sf ([(la, .inr (0, [.int md, .ref qa, .int (nI n)]))]) ([]) (rest := [.ref la]) (As := [.ref qa, .int (nI (n + n / 2))]) ⟨hx, hb, hml, hown, hts⟩ GdL hG hS hA hK (by rw [List.append_nil]; exact hP) (by rw [List.append_nil]; exact hD) (c_J7_copyOf_1904c l D k dz mi qa n ci pl fs r9 h1 h2 hc9 hr9) mi_J7_copyOf_1904c wd_3_152 wd_3_151 ⟨Nat.le_of_ble_eq_true rfl, Nat.le_of_ble_eq_true rfl⟩ rfl hl.1 rfl (Nat.le_of_ble_eq_true rfl) ⟨Nat.le_of_ble_eq_true rfl, by show 0 + (n + n / 2) ≤ n + n / 2; omega⟩ dJx4a65c_grow_92f84_37 (fun u_1 H locs hu_2 hP hD hS => ?_)
  replace hP : va_P D vwCl ([(la, .inr (0, [.int md, .ref qa, .int (nI n)])), (qa, .inl (k 2, n, .inr (.inr (.inr (.inr (els n pl)))))), (u_1, .inl (k 2, n + n / 2, .inr (.inr (.inr (.inr (els n pl))))))] ++ sg (n + 1) (fun i => [(pl i, .inr (ci, fs i))])) H := hP.prm (by intro x; simp only [cn_app, cn_cons, cn_nil]; omega)
  replace hD : va_D A ([(la, .inr (0, [.int md, .ref qa, .int (nI n)])), (qa, .inl (k 2, n, .inr (.inr (.inr (.inr (els n pl)))))), (u_1, .inl (k 2, n + n / 2, .inr (.inr (.inr (.inr (els n pl))))))] ++ sg (n + 1) (fun i => [(pl i, .inr (ci, fs i))])) := hD.prm (by intro x; simp only [cn_app, cn_cons, cn_nil]; omega)
  refine W.widen (k := 1) (n := n + n / 2) (by omega) (by omega) ?_
  refine W.eq (g2 := F0 m 40 ls [.ref u_1, .ref la]) rfl ?_
  refine lv_dup_x1 hx hb dJx4a65c_grow_92f84_40 rfl rfl ?_
  refine va_put (D := D) (ci := 0) (v := .ref u_1) (C := RJx4a65c) (T := TJx4a65c) (N := 3) hx hb hts inJx4a65c tyJx4a65c tyJx4a65c_ok nmJx4a65c hown hK hP hD hS 0 rfl rfl 1 (by decide) (hts _ wd_1_134) (fun _ h9 => h9) rfl (tyJx4a65c_ok 1 (by decide)) rfl rfl (Nat.le_of_ble_eq_true rfl) dJx4a65c_grow_92f84_41 (fun H locs hP hD hS => ?_)
  replace hP : va_P D vwCl ([(la, .inr (0, [.int md, .ref u_1, .int (nI n)])), (qa, .inl (k 2, n, .inr (.inr (.inr (.inr (els n pl)))))), (u_1, .inl (k 2, n + n / 2, .inr (.inr (.inr (.inr (els n pl))))))] ++ sg (n + 1) (fun i => [(pl i, .inr (ci, fs i))])) H := hP
  replace hD : va_D A ([(la, .inr (0, [.int md, .ref u_1, .int (nI n)])), (qa, .inl (k 2, n, .inr (.inr (.inr (.inr (els n pl)))))), (u_1, .inl (k 2, n + n / 2, .inr (.inr (.inr (.inr (els n pl))))))] ++ sg (n + 1) (fun i => [(pl i, .inr (ci, fs i))])) := hD
  replace hP : va_P D vwCl ([(la, .inr (0, [.int md, .ref u_1, .int (nI n)])), (u_1, .inl (k 2, n + n / 2, .inr (.inr (.inr (.inr (els n pl))))))] ++ sg (n + 1) (fun i => [(pl i, .inr (ci, fs i))])) H := (hP.prm (b := (qa, .inl (k 2, n, .inr (.inr (.inr (.inr (els n pl)))))) :: ([(la, .inr (0, [.int md, .ref u_1, .int (nI n)])), (u_1, .inl (k 2, n + n / 2, .inr (.inr (.inr (.inr (els n pl))))))] ++ sg (n + 1) (fun i => [(pl i, .inr (ci, fs i))]))) (by intro x; simp only [cn_app, cn_cons, cn_nil]; omega)).tail
  replace hD : va_D A ([(la, .inr (0, [.int md, .ref u_1, .int (nI n)])), (u_1, .inl (k 2, n + n / 2, .inr (.inr (.inr (.inr (els n pl))))))] ++ sg (n + 1) (fun i => [(pl i, .inr (ci, fs i))])) := (hD.prm (b := (qa, .inl (k 2, n, .inr (.inr (.inr (.inr (els n pl)))))) :: ([(la, .inr (0, [.int md, .ref u_1, .int (nI n)])), (u_1, .inl (k 2, n + n / 2, .inr (.inr (.inr (.inr (els n pl))))))] ++ sg (n + 1) (fun i => [(pl i, .inr (ci, fs i))]))) (by intro x; simp only [cn_app, cn_cons, cn_nil]; omega)).tail
  exact fs_a hx hb hr (Or.inr ⟨_, rfl⟩) hlocks hq (u_1) trivial hP hD hS (Or.inr ⟨_, rfl⟩) dJx4a65c_grow_92f84_44 rfl
set_option maxHeartbeats 4000000 in
set_option maxRecDepth 100000 in
theorem c_grow0_0 (l : Launch) (D : va_G) (k : Nat → ClassId) (dz mi la : Nat) (md : Int32)   : Fs (S := Nat) l yJx4a65c_grow_d5877 cJx4a65c_grow_d5877 1 (some (.array (.object "java/lang/Object"))) 4 1 10 D (TY k) (GL dz mi) [.ref la] ([(la, .inr (0, [.int md, .ref dz, .int 0]))]) (fun u => some (.ref u)) (fun _ => True) (fun u => [(la, .inr (0, [.int md, .ref u, .int 0])), (u, .inl (k 2, 10, .inr (.inr (.inr (.inr (fun _ => none))))))]) := by
  refine fs_body (by decide +kernel) (Nat.le_of_ble_eq_true rfl) ?_
  intro p e s m args below meth c_ Q A hx hb hml hown hts hK hP hD hS hA hG hin hr hq hlocks ls hl
  replace hl : lv_has ls 1 [(0, .ref la)] := hl
  change s.vm.findClass RJx4a65c = some m.cls at hown
  refine lv_aload_n hx hb dJx4a65c_grow_d5877_0 rfl (lv_at hl 0 rfl) ?_
  refine lv_aload_n hx hb dJx4a65c_grow_d5877_1 rfl (lv_at hl 0 rfl) ?_
  refine va_get (D := D) (ci := 0) (v := .int 0) (C := RJx4a65c) (T := TJx4a65c) (N := 3) hx hb hts inJx4a65c hown hK hP 0 rfl rfl 2 (by decide) (hts _ wd_1_135) (fun _ h9 => h9) rfl dJx4a65c_grow_d5877_2 ?_
  refine lv_iconst (v := 1) hx hb dJx4a65c_grow_d5877_5 (by decide) ?_
  refine lv_iadd hx hb dJx4a65c_grow_d5877_6 ?_
  refine rw_topi (y := 1) (by decide) ?_
  refine fs_Vf ([]) ([]) (rest := []) (As := [.int 1]) ⟨hx, hb, hml, hown, hts⟩ GdL hG hS hA hK (hP) (hD) (c_grow1_0 l D k dz mi la md) mi_Jx4a65c_grow_92f84 wd_3_141 wp_2_5 wd_3_139 ⟨Nat.le_of_ble_eq_true rfl, Nat.le_of_ble_eq_true rfl⟩ 0 rfl rfl rfl hl.1 rfl (Nat.le_of_ble_eq_true rfl) ⟨Nat.le_of_ble_eq_true rfl, Nat.le_of_ble_eq_true rfl⟩ dJx4a65c_grow_d5877_7 (fun u_1 H locs hu_2 hP hD hS => ?_)
  replace hP : va_P D vwCl ([(la, .inr (0, [.int md, .ref u_1, .int 0])), (u_1, .inl (k 2, 10, .inr (.inr (.inr (.inr (fun _ => none))))))]) H := hP.prm (by intro x; simp only [cn_app, cn_cons, cn_nil]; omega)
  replace hD : va_D A ([(la, .inr (0, [.int md, .ref u_1, .int 0])), (u_1, .inl (k 2, 10, .inr (.inr (.inr (.inr (fun _ => none))))))]) := hD.prm (by intro x; simp only [cn_app, cn_cons, cn_nil]; omega)
  refine W.widen (k := 1) (n := 10) (by omega) (by omega) ?_
  refine W.eq (g2 := F0 m 10 ls [.ref u_1]) rfl ?_
  exact fs_a hx hb hr (Or.inr ⟨_, rfl⟩) hlocks hq (u_1) trivial hP hD hS (Or.inr ⟨_, rfl⟩) dJx4a65c_grow_d5877_10 rfl
set_option maxHeartbeats 4000000 in
set_option maxRecDepth 100000 in
theorem c_grow0_n (l : Launch) (D : va_G) (k : Nat → ClassId) (dz mi la : Nat) (md : Int32) (qa n : Nat) (ci : Nat) (pl : Nat → Nat) (fs : Nat → List Value) (r9 : vw_C) (h1 : 10 ≤ n) (h2 : n ≤ 1000) (hc9 : vwCl[ci]? = some r9) (hr9 : r9.1 = RX4 ∨ r9.1 = RX0) : Fs (S := Nat) l yJx4a65c_grow_d5877 cJx4a65c_grow_d5877 1 (some (.array (.object "java/lang/Object"))) 4 1 (n + n / 2) D (TY k) (GL dz mi) [.ref la] ([(la, .inr (0, [.int md, .ref qa, .int (nI n)])), (qa, .inl (k 2, n, .inr (.inr (.inr (.inr (els n pl))))))] ++ sg (n + 1) (fun i => [(pl i, .inr (ci, fs i))])) (fun u => some (.ref u)) (fun _ => True) (fun u => [(la, .inr (0, [.int md, .ref u, .int (nI n)])), (u, .inl (k 2, n + n / 2, .inr (.inr (.inr (.inr (els n pl))))))] ++ sg (n + 1) (fun i => [(pl i, .inr (ci, fs i))])) := by
  refine fs_body (by decide +kernel) (Nat.le_of_ble_eq_true rfl) ?_
  intro p e s m args below meth c_ Q A hx hb hml hown hts hK hP hD hS hA hG hin hr hq hlocks ls hl
  replace hl : lv_has ls 1 [(0, .ref la)] := hl
  change s.vm.findClass RJx4a65c = some m.cls at hown
  have hcs9 : ∀ U : State, (va_Nw (.castable RX4 "java/lang/Object") U ∧ va_Nw (.castable RX0 "java/lang/Object") U) → va_Nw (.castable r9.1 "java/lang/Object") U := by
    intro U h
    rcases hr9 with e9 | e9
    · rw [e9]; exact h.1
    · rw [e9]; exact h.2
  refine lv_aload_n hx hb dJx4a65c_grow_d5877_0 rfl (lv_at hl 0 rfl) ?_
  refine lv_aload_n hx hb dJx4a65c_grow_d5877_1 rfl (lv_at hl 0 rfl) ?_
  refine va_get (D := D) (ci := 0) (v := .int (nI n)) (C := RJx4a65c) (T := TJx4a65c) (N := 3) hx hb hts inJx4a65c hown hK hP 0 rfl rfl 2 (by decide) (hts _ wd_1_135) (fun _ h9 => h9) rfl dJx4a65c_grow_d5877_2 ?_
  refine lv_iconst (v := 1) hx hb dJx4a65c_grow_d5877_5 (by decide) ?_
  refine lv_iadd hx hb dJx4a65c_grow_d5877_6 ?_
  refine rw_topi (y := nI (n + 1)) (nI_add _ _) ?_
  refine fs_Vf ([]) ([]) (rest := []) (As := [.int (nI (n + 1))]) ⟨hx, hb, hml, hown, hts⟩ GdL hG hS hA hK (by rw [List.append_nil]; exact hP) (by rw [List.append_nil]; exact hD) (c_grow1_n l D k dz mi la md qa n ci pl fs r9 h1 h2 hc9 hr9) mi_Jx4a65c_grow_92f84 wd_3_141 wp_2_5 wd_3_139 ⟨Nat.le_of_ble_eq_true rfl, Nat.le_of_ble_eq_true rfl⟩ 0 rfl rfl rfl hl.1 rfl (Nat.le_of_ble_eq_true rfl) ⟨Nat.le_of_ble_eq_true rfl, by show 0 + (n + n / 2) ≤ n + n / 2; omega⟩ dJx4a65c_grow_d5877_7 (fun u_1 H locs hu_2 hP hD hS => ?_)
  replace hP : va_P D vwCl ([(la, .inr (0, [.int md, .ref u_1, .int (nI n)])), (u_1, .inl (k 2, n + n / 2, .inr (.inr (.inr (.inr (els n pl))))))] ++ sg (n + 1) (fun i => [(pl i, .inr (ci, fs i))])) H := hP.prm (by intro x; simp only [cn_app, cn_cons, cn_nil]; omega)
  replace hD : va_D A ([(la, .inr (0, [.int md, .ref u_1, .int (nI n)])), (u_1, .inl (k 2, n + n / 2, .inr (.inr (.inr (.inr (els n pl))))))] ++ sg (n + 1) (fun i => [(pl i, .inr (ci, fs i))])) := hD.prm (by intro x; simp only [cn_app, cn_cons, cn_nil]; omega)
  refine W.widen (k := 1) (n := n + n / 2) (by omega) (by omega) ?_
  refine W.eq (g2 := F0 m 10 ls [.ref u_1]) rfl ?_
  exact fs_a hx hb hr (Or.inr ⟨_, rfl⟩) hlocks hq (u_1) trivial hP hD hS (Or.inr ⟨_, rfl⟩) dJx4a65c_grow_d5877_10 rfl
set_option maxHeartbeats 4000000 in
set_option maxRecDepth 100000 in
theorem c_add3_0 (l : Launch) (D : va_G) (k : Nat → ClassId) (dz mi la : Nat) (md : Int32) (ci : Nat) (pl : Nat → Nat) (fs : Nat → List Value) (r9 : vw_C) (hc9 : vwCl[ci]? = some r9) (hr9 : r9.1 = RX4 ∨ r9.1 = RX0) : Fs (S := Nat) l yJx4a65c_add_72be8 cJx4a65c_add_72be8 4 none 5 1 10 D (TY k) (GL dz mi) [.ref la, .ref (pl 0), .ref dz, .int 0] ([(la, .inr (0, [.int md, .ref dz, .int 0]))] ++ sg (0 + 1) (fun i => [(pl i, .inr (ci, fs i))])) (fun _ => none) (fun _ => True) (fun u => [(la, .inr (0, [.int md, .ref u, .int 1])), (u, .inl (k 2, 10, .inr (.inr (.inr (.inr (els 1 pl))))))] ++ sg (0 + 1) (fun i => [(pl i, .inr (ci, fs i))])) := by
  refine fs_body (by decide +kernel) (Nat.le_of_ble_eq_true rfl) ?_
  intro p e s m args below meth c_ Q A hx hb hml hown hts hK hP hD hS hA hG hin hr hq hlocks ls hl
  replace hl : lv_has ls 4 [(0, .ref la), (1, .ref (pl 0)), (2, .ref dz), (3, .int 0)] := hl
  change s.vm.findClass RJx4a65c = some m.cls at hown
  have hcs9 : ∀ U : State, (va_Nw (.castable RX4 "java/lang/Object") U ∧ va_Nw (.castable RX0 "java/lang/Object") U) → va_Nw (.castable r9.1 "java/lang/Object") U := by
    intro U h
    rcases hr9 with e9 | e9
    · rw [e9]; exact h.1
    · rw [e9]; exact h.2
  refine lv_iload_n hx hb dJx4a65c_add_72be8_0 rfl (lv_at hl 3 rfl) ?_
  refine lv_aload_n hx hb dJx4a65c_add_72be8_1 rfl (lv_at hl 2 rfl) ?_
  refine va_tlen (v := 0) hx hb hG.2.1 hS rfl dJx4a65c_add_72be8_2 ?_
  refine lv_icmp_ne (tgt := 11) hx hb dJx4a65c_add_72be8_3 (by decide) (fun c3 => absurd (by decide) c3) (fun c3 => ?_)
  refine lv_aload_n hx hb dJx4a65c_add_72be8_6 rfl (lv_at hl 0 rfl) ?_
  refine fs_Vf ([]) (sg (0 + 1) (fun i => [(pl i, .inr (ci, fs i))])) (rest := []) (As := []) ⟨hx, hb, hml, hown, hts⟩ GdL hG hS hA hK (hP) (hD) (c_grow0_0 l D k dz mi la md) mi_Jx4a65c_grow_d5877 wd_3_137 wp_2_4 wd_3_135 ⟨Nat.le_of_ble_eq_true rfl, Nat.le_of_ble_eq_true rfl⟩ 0 rfl rfl rfl hl.1 rfl (Nat.le_of_ble_eq_true rfl) ⟨Nat.le_of_ble_eq_true rfl, Nat.le_of_ble_eq_true rfl⟩ dJx4a65c_add_72be8_7 (fun u_1 H locs hu_2 hP hD hS => ?_)
  replace hP : va_P D vwCl ([(la, .inr (0, [.int md, .ref u_1, .int 0])), (u_1, .inl (k 2, 10, .inr (.inr (.inr (.inr (fun _ => none))))))] ++ sg (0 + 1) (fun i => [(pl i, .inr (ci, fs i))])) H := hP.prm (by intro x; simp only [cn_app, cn_cons, cn_nil]; omega)
  replace hD : va_D A ([(la, .inr (0, [.int md, .ref u_1, .int 0])), (u_1, .inl (k 2, 10, .inr (.inr (.inr (.inr (fun _ => none))))))] ++ sg (0 + 1) (fun i => [(pl i, .inr (ci, fs i))])) := hD.prm (by intro x; simp only [cn_app, cn_cons, cn_nil]; omega)
  refine W.widen (k := 1) (n := 10) (by omega) (by omega) ?_
  refine W.eq (g2 := F0 m 10 ls [.ref u_1]) rfl ?_
  refine lv_astore_n (lv' := [(2, .ref u_1), (0, .ref la), (1, .ref (pl 0)), (3, .int 0)]) hx hb dJx4a65c_add_72be8_10 rfl hl (by decide) rfl (fun ls hl => ?_)
  refine lv_aload_n hx hb dJx4a65c_add_72be8_11 rfl (lv_at hl 0 rfl) ?_
  refine lv_iload_n hx hb dJx4a65c_add_72be8_12 rfl (lv_at hl 3 rfl) ?_
  refine lv_aload_n hx hb dJx4a65c_add_72be8_13 rfl (lv_at hl 2 rfl) ?_
  refine vb_astq (C := r9.1) (E := "java/lang/Object") hx hb hK hP hD hS 1 2 rfl rfl (va_recv hK (hP.mem (c := (pl 0, .inr (ci, fs 0))) (List.mem_append_right _ (mem_sg (by omega) List.mem_cons_self))) (q0 := 0) hc9 rfl) (vb_asgC (hcs9 s hG.2.2.2.2.2)) (pk_in 0 10 (by decide)) dJx4a65c_add_72be8_14 (fun H locs hP hD hS => ?_)
  rw [show va_up (fun _ => none) (0 : Int32).toNatClampNeg (some (pl 0)) = els 1 pl from els_push0 pl] at hP hD
  replace hP : va_P D vwCl ([(la, .inr (0, [.int md, .ref u_1, .int 0])), (u_1, .inl (k 2, 10, .inr (.inr (.inr (.inr (els 1 pl))))))] ++ sg (0 + 1) (fun i => [(pl i, .inr (ci, fs i))])) H := hP
  replace hD : va_D A ([(la, .inr (0, [.int md, .ref u_1, .int 0])), (u_1, .inl (k 2, 10, .inr (.inr (.inr (.inr (els 1 pl))))))] ++ sg (0 + 1) (fun i => [(pl i, .inr (ci, fs i))])) := hD
  refine lv_aload_n hx hb dJx4a65c_add_72be8_15 rfl (lv_at hl 1 rfl) ?_
  refine lv_iload_n hx hb dJx4a65c_add_72be8_16 rfl (lv_at hl 3 rfl) ?_
  refine lv_iconst (v := 1) hx hb dJx4a65c_add_72be8_17 (by decide) ?_
  refine lv_iadd hx hb dJx4a65c_add_72be8_18 ?_
  refine rw_topi (y := 1) (by decide) ?_
  refine va_put (D := D) (ci := 0) (v := .int 1) (C := RJx4a65c) (T := TJx4a65c) (N := 3) hx hb hts inJx4a65c tyJx4a65c tyJx4a65c_ok nmJx4a65c hown hK hP hD hS 0 rfl rfl 2 (by decide) (hts _ wd_1_135) (fun _ h9 => h9) rfl (tyJx4a65c_ok 2 (by decide)) rfl rfl (Nat.le_of_ble_eq_true rfl) dJx4a65c_add_72be8_19 (fun H locs hP hD hS => ?_)
  replace hP : va_P D vwCl ([(la, .inr (0, [.int md, .ref u_1, .int 1])), (u_1, .inl (k 2, 10, .inr (.inr (.inr (.inr (els 1 pl))))))] ++ sg (0 + 1) (fun i => [(pl i, .inr (ci, fs i))])) H := hP
  replace hD : va_D A ([(la, .inr (0, [.int md, .ref u_1, .int 1])), (u_1, .inl (k 2, 10, .inr (.inr (.inr (.inr (els 1 pl))))))] ++ sg (0 + 1) (fun i => [(pl i, .inr (ci, fs i))])) := hD
  exact fs_v hx hb hr hlocks hq (u_1) trivial hP hD hS dJx4a65c_add_72be8_22 rfl
set_option maxHeartbeats 4000000 in
set_option maxRecDepth 100000 in
theorem c_add3_n (l : Launch) (D : va_G) (k : Nat → ClassId) (dz mi la : Nat) (md : Int32) (qa n : Nat) (ci : Nat) (pl : Nat → Nat) (fs : Nat → List Value) (r9 : vw_C) (h1 : 10 ≤ n) (h2 : n ≤ 1000) (hc9 : vwCl[ci]? = some r9) (hr9 : r9.1 = RX4 ∨ r9.1 = RX0) : Fs (S := Nat) l yJx4a65c_add_72be8 cJx4a65c_add_72be8 4 none 5 1 (n + n / 2) D (TY k) (GL dz mi) [.ref la, .ref (pl n), .ref qa, .int (nI n)] ([(la, .inr (0, [.int md, .ref qa, .int (nI n)])), (qa, .inl (k 2, n, .inr (.inr (.inr (.inr (els n pl))))))] ++ sg (n + 1) (fun i => [(pl i, .inr (ci, fs i))])) (fun _ => none) (fun _ => True) (fun u => [(la, .inr (0, [.int md, .ref u, .int (nI (n + 1))])), (u, .inl (k 2, n + n / 2, .inr (.inr (.inr (.inr (els (n + 1) pl))))))] ++ sg (n + 1) (fun i => [(pl i, .inr (ci, fs i))])) := by
  refine fs_body (by decide +kernel) (Nat.le_of_ble_eq_true rfl) ?_
  intro p e s m args below meth c_ Q A hx hb hml hown hts hK hP hD hS hA hG hin hr hq hlocks ls hl
  replace hl : lv_has ls 4 [(0, .ref la), (1, .ref (pl n)), (2, .ref qa), (3, .int (nI n))] := hl
  change s.vm.findClass RJx4a65c = some m.cls at hown
  have hcs9 : ∀ U : State, (va_Nw (.castable RX4 "java/lang/Object") U ∧ va_Nw (.castable RX0 "java/lang/Object") U) → va_Nw (.castable r9.1 "java/lang/Object") U := by
    intro U h
    rcases hr9 with e9 | e9
    · rw [e9]; exact h.1
    · rw [e9]; exact h.2
  refine lv_iload_n hx hb dJx4a65c_add_72be8_0 rfl (lv_at hl 3 rfl) ?_
  refine lv_aload_n hx hb dJx4a65c_add_72be8_1 rfl (lv_at hl 2 rfl) ?_
  refine va_alen (v := nI n) hx hb hK hP 1 2 rfl rfl (rfl) dJx4a65c_add_72be8_2 ?_
  refine lv_icmp_ne (tgt := 11) hx hb dJx4a65c_add_72be8_3 (by decide) (fun c3 => absurd (rfl) c3) (fun c3 => ?_)
  refine lv_aload_n hx hb dJx4a65c_add_72be8_6 rfl (lv_at hl 0 rfl) ?_
  refine fs_Vf ([]) ([]) (rest := []) (As := []) ⟨hx, hb, hml, hown, hts⟩ GdL hG hS hA hK (by rw [List.append_nil]; exact hP) (by rw [List.append_nil]; exact hD) (c_grow0_n l D k dz mi la md qa n ci pl fs r9 h1 h2 hc9 hr9) mi_Jx4a65c_grow_d5877 wd_3_137 wp_2_4 wd_3_135 ⟨Nat.le_of_ble_eq_true rfl, Nat.le_of_ble_eq_true rfl⟩ 0 rfl rfl rfl hl.1 rfl (Nat.le_of_ble_eq_true rfl) ⟨Nat.le_of_ble_eq_true rfl, by show 0 + (n + n / 2) ≤ n + n / 2; omega⟩ dJx4a65c_add_72be8_7 (fun u_1 H locs hu_2 hP hD hS => ?_)
  replace hP : va_P D vwCl ([(la, .inr (0, [.int md, .ref u_1, .int (nI n)])), (u_1, .inl (k 2, n + n / 2, .inr (.inr (.inr (.inr (els n pl))))))] ++ sg (n + 1) (fun i => [(pl i, .inr (ci, fs i))])) H := hP.prm (by intro x; simp only [cn_app, cn_cons, cn_nil]; omega)
  replace hD : va_D A ([(la, .inr (0, [.int md, .ref u_1, .int (nI n)])), (u_1, .inl (k 2, n + n / 2, .inr (.inr (.inr (.inr (els n pl))))))] ++ sg (n + 1) (fun i => [(pl i, .inr (ci, fs i))])) := hD.prm (by intro x; simp only [cn_app, cn_cons, cn_nil]; omega)
  refine W.widen (k := 1) (n := n + n / 2) (by omega) (by omega) ?_
  refine W.eq (g2 := F0 m 10 ls [.ref u_1]) rfl ?_
  refine lv_astore_n (lv' := [(2, .ref u_1), (0, .ref la), (1, .ref (pl n)), (3, .int (nI n))]) hx hb dJx4a65c_add_72be8_10 rfl hl (by decide) rfl (fun ls hl => ?_)
  refine lv_aload_n hx hb dJx4a65c_add_72be8_11 rfl (lv_at hl 0 rfl) ?_
  refine lv_iload_n hx hb dJx4a65c_add_72be8_12 rfl (lv_at hl 3 rfl) ?_
  refine lv_aload_n hx hb dJx4a65c_add_72be8_13 rfl (lv_at hl 2 rfl) ?_
  refine vb_astq (C := r9.1) (E := "java/lang/Object") hx hb hK hP hD hS 1 2 rfl rfl (va_recv hK (hP.mem (c := (pl n, .inr (ci, fs n))) (List.mem_append_right _ (mem_sg (by omega) List.mem_cons_self))) (q0 := 0) hc9 rfl) (vb_asgC (hcs9 s hG.2.2.2.2.2)) (vp_in_nI (by omega) (by omega)) dJx4a65c_add_72be8_14 (fun H locs hP hD hS => ?_)
  rw [show va_up (els n pl) (nI n).toNatClampNeg (some (pl n)) = els (n + 1) pl by rw [nI_clamp (by omega)]; exact els_push n pl] at hP hD
  replace hP : va_P D vwCl ([(la, .inr (0, [.int md, .ref u_1, .int (nI n)])), (u_1, .inl (k 2, n + n / 2, .inr (.inr (.inr (.inr (els (n + 1) pl))))))] ++ sg (n + 1) (fun i => [(pl i, .inr (ci, fs i))])) H := hP
  replace hD : va_D A ([(la, .inr (0, [.int md, .ref u_1, .int (nI n)])), (u_1, .inl (k 2, n + n / 2, .inr (.inr (.inr (.inr (els (n + 1) pl))))))] ++ sg (n + 1) (fun i => [(pl i, .inr (ci, fs i))])) := hD
  refine lv_aload_n hx hb dJx4a65c_add_72be8_15 rfl (lv_at hl 1 rfl) ?_
  refine lv_iload_n hx hb dJx4a65c_add_72be8_16 rfl (lv_at hl 3 rfl) ?_
  refine lv_iconst (v := 1) hx hb dJx4a65c_add_72be8_17 (by decide) ?_
  refine lv_iadd hx hb dJx4a65c_add_72be8_18 ?_
  refine rw_topi (y := nI (n + 1)) (nI_add _ _) ?_
  refine va_put (D := D) (ci := 0) (v := .int (nI (n + 1))) (C := RJx4a65c) (T := TJx4a65c) (N := 3) hx hb hts inJx4a65c tyJx4a65c tyJx4a65c_ok nmJx4a65c hown hK hP hD hS 0 rfl rfl 2 (by decide) (hts _ wd_1_135) (fun _ h9 => h9) rfl (tyJx4a65c_ok 2 (by decide)) rfl rfl (Nat.le_of_ble_eq_true rfl) dJx4a65c_add_72be8_19 (fun H locs hP hD hS => ?_)
  replace hP : va_P D vwCl ([(la, .inr (0, [.int md, .ref u_1, .int (nI (n + 1))])), (u_1, .inl (k 2, n + n / 2, .inr (.inr (.inr (.inr (els (n + 1) pl))))))] ++ sg (n + 1) (fun i => [(pl i, .inr (ci, fs i))])) H := hP
  replace hD : va_D A ([(la, .inr (0, [.int md, .ref u_1, .int (nI (n + 1))])), (u_1, .inl (k 2, n + n / 2, .inr (.inr (.inr (.inr (els (n + 1) pl))))))] ++ sg (n + 1) (fun i => [(pl i, .inr (ci, fs i))])) := hD
  exact fs_v hx hb hr hlocks hq (u_1) trivial hP hD hS dJx4a65c_add_72be8_22 rfl
set_option maxHeartbeats 4000000 in
set_option maxRecDepth 100000 in
theorem c_add3_c (l : Launch) (D : va_G) (k : Nat → ClassId) (dz mi la : Nat) (md : Int32) (qa n cp : Nat) (ci : Nat) (pl : Nat → Nat) (fs : Nat → List Value) (r9 : vw_C) (h1 : n < cp) (h2 : cp ≤ 3000) (hc9 : vwCl[ci]? = some r9) (hr9 : r9.1 = RX4 ∨ r9.1 = RX0) : Fs (S := Unit) l yJx4a65c_add_72be8 cJx4a65c_add_72be8 4 none 5 0 0 D (TY k) (GL dz mi) [.ref la, .ref (pl n), .ref qa, .int (nI n)] ([(la, .inr (0, [.int md, .ref qa, .int (nI n)])), (qa, .inl (k 2, cp, .inr (.inr (.inr (.inr (els n pl))))))] ++ sg (n + 1) (fun i => [(pl i, .inr (ci, fs i))])) (fun _ => none) (fun _ => True) (fun _ => [(la, .inr (0, [.int md, .ref qa, .int (nI (n + 1))])), (qa, .inl (k 2, cp, .inr (.inr (.inr (.inr (els (n + 1) pl))))))] ++ sg (n + 1) (fun i => [(pl i, .inr (ci, fs i))])) := by
  refine fs_body (by decide +kernel) (Nat.le_of_ble_eq_true rfl) ?_
  intro p e s m args below meth c_ Q A hx hb hml hown hts hK hP hD hS hA hG hin hr hq hlocks ls hl
  replace hl : lv_has ls 4 [(0, .ref la), (1, .ref (pl n)), (2, .ref qa), (3, .int (nI n))] := hl
  change s.vm.findClass RJx4a65c = some m.cls at hown
  have hcs9 : ∀ U : State, (va_Nw (.castable RX4 "java/lang/Object") U ∧ va_Nw (.castable RX0 "java/lang/Object") U) → va_Nw (.castable r9.1 "java/lang/Object") U := by
    intro U h
    rcases hr9 with e9 | e9
    · rw [e9]; exact h.1
    · rw [e9]; exact h.2
  refine lv_iload_n hx hb dJx4a65c_add_72be8_0 rfl (lv_at hl 3 rfl) ?_
  refine lv_aload_n hx hb dJx4a65c_add_72be8_1 rfl (lv_at hl 2 rfl) ?_
  refine va_alen (v := nI cp) hx hb hK hP 1 2 rfl rfl (rfl) dJx4a65c_add_72be8_2 ?_
  refine lv_icmp_ne (tgt := 11) hx hb dJx4a65c_add_72be8_3 (by decide) (fun c3 => ?_) (fun c3 => absurd c3 (fun z => absurd ((nI_eq (by omega) (by omega)).mp z) (by omega)))
  refine lv_aload_n hx hb dJx4a65c_add_72be8_11 rfl (lv_at hl 2 rfl) ?_
  refine lv_iload_n hx hb dJx4a65c_add_72be8_12 rfl (lv_at hl 3 rfl) ?_
  refine lv_aload_n hx hb dJx4a65c_add_72be8_13 rfl (lv_at hl 1 rfl) ?_
  refine vb_astq (C := r9.1) (E := "java/lang/Object") hx hb hK hP hD hS 1 2 rfl rfl (va_recv hK (hP.mem (c := (pl n, .inr (ci, fs n))) (List.mem_append_right _ (mem_sg (by omega) List.mem_cons_self))) (q0 := 0) hc9 rfl) (vb_asgC (hcs9 s hG.2.2.2.2.2)) (vp_in_nI (by omega) (by omega)) dJx4a65c_add_72be8_14 (fun H locs hP hD hS => ?_)
  rw [show va_up (els n pl) (nI n).toNatClampNeg (some (pl n)) = els (n + 1) pl by rw [nI_clamp (by omega)]; exact els_push n pl] at hP hD
  replace hP : va_P D vwCl ([(la, .inr (0, [.int md, .ref qa, .int (nI n)])), (qa, .inl (k 2, cp, .inr (.inr (.inr (.inr (els (n + 1) pl))))))] ++ sg (n + 1) (fun i => [(pl i, .inr (ci, fs i))])) H := hP
  replace hD : va_D A ([(la, .inr (0, [.int md, .ref qa, .int (nI n)])), (qa, .inl (k 2, cp, .inr (.inr (.inr (.inr (els (n + 1) pl))))))] ++ sg (n + 1) (fun i => [(pl i, .inr (ci, fs i))])) := hD
  refine lv_aload_n hx hb dJx4a65c_add_72be8_15 rfl (lv_at hl 0 rfl) ?_
  refine lv_iload_n hx hb dJx4a65c_add_72be8_16 rfl (lv_at hl 3 rfl) ?_
  refine lv_iconst (v := 1) hx hb dJx4a65c_add_72be8_17 (by decide) ?_
  refine lv_iadd hx hb dJx4a65c_add_72be8_18 ?_
  refine rw_topi (y := nI (n + 1)) (nI_add _ _) ?_
  refine va_put (D := D) (ci := 0) (v := .int (nI (n + 1))) (C := RJx4a65c) (T := TJx4a65c) (N := 3) hx hb hts inJx4a65c tyJx4a65c tyJx4a65c_ok nmJx4a65c hown hK hP hD hS 0 rfl rfl 2 (by decide) (hts _ wd_1_135) (fun _ h9 => h9) rfl (tyJx4a65c_ok 2 (by decide)) rfl rfl (Nat.le_of_ble_eq_true rfl) dJx4a65c_add_72be8_19 (fun H locs hP hD hS => ?_)
  replace hP : va_P D vwCl ([(la, .inr (0, [.int md, .ref qa, .int (nI (n + 1))])), (qa, .inl (k 2, cp, .inr (.inr (.inr (.inr (els (n + 1) pl))))))] ++ sg (n + 1) (fun i => [(pl i, .inr (ci, fs i))])) H := hP
  replace hD : va_D A ([(la, .inr (0, [.int md, .ref qa, .int (nI (n + 1))])), (qa, .inl (k 2, cp, .inr (.inr (.inr (.inr (els (n + 1) pl))))))] ++ sg (n + 1) (fun i => [(pl i, .inr (ci, fs i))])) := hD
  exact fs_v hx hb hr hlocks hq (()) trivial hP hD hS dJx4a65c_add_72be8_22 rfl
set_option maxHeartbeats 4000000 in
set_option maxRecDepth 100000 in
theorem c_add1_0 (l : Launch) (D : va_G) (k : Nat → ClassId) (dz mi la : Nat) (md : Int32) (ci : Nat) (pl : Nat → Nat) (fs : Nat → List Value) (r9 : vw_C) (hc9 : vwCl[ci]? = some r9) (hr9 : r9.1 = RX4 ∨ r9.1 = RX0) : Fs (S := Nat) l yJx4a65c_add_9ea2d cJx4a65c_add_9ea2d 2 (some .boolean) 6 1 10 D (TY k) (GL dz mi) [.ref la, .ref (pl 0)] ([(la, .inr (0, [.int md, .ref dz, .int 0]))] ++ sg (0 + 1) (fun i => [(pl i, .inr (ci, fs i))])) (fun _ => some (.int 1)) (fun _ => True) (fun u => [(la, .inr (0, [.int (md + 1), .ref u, .int 1])), (u, .inl (k 2, 10, .inr (.inr (.inr (.inr (els 1 pl))))))] ++ sg (0 + 1) (fun i => [(pl i, .inr (ci, fs i))])) := by
  refine fs_body (by decide +kernel) (Nat.le_of_ble_eq_true rfl) ?_
  intro p e s m args below meth c_ Q A hx hb hml hown hts hK hP hD hS hA hG hin hr hq hlocks ls hl
  replace hl : lv_has ls 2 [(0, .ref la), (1, .ref (pl 0))] := hl
  change s.vm.findClass RJx4a65c = some m.cls at hown
  have hcs9 : ∀ U : State, (va_Nw (.castable RX4 "java/lang/Object") U ∧ va_Nw (.castable RX0 "java/lang/Object") U) → va_Nw (.castable r9.1 "java/lang/Object") U := by
    intro U h
    rcases hr9 with e9 | e9
    · rw [e9]; exact h.1
    · rw [e9]; exact h.2
  refine lv_aload_n hx hb dJx4a65c_add_9ea2d_0 rfl (lv_at hl 0 rfl) ?_
  refine lv_dup hx hb dJx4a65c_add_9ea2d_1 rfl ?_
  refine va_get (D := D) (ci := 0) (v := .int md) (C := RJx4a65c) (T := TJx4a65c) (N := 3) hx hb hts inJx4a65c hown hK hP 0 rfl rfl 0 (by decide) (hts _ wd_1_137) (u_same (hts _ wd_1_138)) rfl dJx4a65c_add_9ea2d_2 ?_
  refine lv_iconst (v := 1) hx hb dJx4a65c_add_9ea2d_5 (by decide) ?_
  refine lv_iadd hx hb dJx4a65c_add_9ea2d_6 ?_
  refine va_put (D := D) (ci := 0) (v := .int (md + 1)) (C := RJx4a65c) (T := TJx4a65c) (N := 3) hx hb hts inJx4a65c tyJx4a65c tyJx4a65c_ok nmJx4a65c hown hK hP hD hS 0 rfl rfl 0 (by decide) (hts _ wd_1_137) (u_same (hts _ wd_1_138)) rfl (tyJx4a65c_ok 0 (by decide)) rfl rfl (Nat.le_of_ble_eq_true rfl) dJx4a65c_add_9ea2d_7 (fun H locs hP hD hS => ?_)
  replace hP : va_P D vwCl ([(la, .inr (0, [.int (md + 1), .ref dz, .int 0]))] ++ sg (0 + 1) (fun i => [(pl i, .inr (ci, fs i))])) H := hP
  replace hD : va_D A ([(la, .inr (0, [.int (md + 1), .ref dz, .int 0]))] ++ sg (0 + 1) (fun i => [(pl i, .inr (ci, fs i))])) := hD
  refine lv_aload_n hx hb dJx4a65c_add_9ea2d_10 rfl (lv_at hl 0 rfl) ?_
  refine lv_aload_n hx hb dJx4a65c_add_9ea2d_11 rfl (lv_at hl 1 rfl) ?_
  refine lv_aload_n hx hb dJx4a65c_add_9ea2d_12 rfl (lv_at hl 0 rfl) ?_
  refine va_get (D := D) (ci := 0) (v := .ref dz) (C := RJx4a65c) (T := TJx4a65c) (N := 3) hx hb hts inJx4a65c hown hK hP 0 rfl rfl 1 (by decide) (hts _ wd_1_134) (fun _ h9 => h9) rfl dJx4a65c_add_9ea2d_13 ?_
  refine lv_aload_n hx hb dJx4a65c_add_9ea2d_16 rfl (lv_at hl 0 rfl) ?_
  refine va_get (D := D) (ci := 0) (v := .int 0) (C := RJx4a65c) (T := TJx4a65c) (N := 3) hx hb hts inJx4a65c hown hK hP 0 rfl rfl 2 (by decide) (hts _ wd_1_135) (fun _ h9 => h9) rfl dJx4a65c_add_9ea2d_17 ?_
  refine fs_Vf ([]) ([]) (rest := []) (As := [.ref (pl 0), .ref dz, .int 0]) ⟨hx, hb, hml, hown, hts⟩ GdL hG hS hA hK (by rw [List.append_nil]; exact hP) (by rw [List.append_nil]; exact hD) (c_add3_0 l D k dz mi la (md + 1) ci pl fs r9 hc9 hr9) mi_Jx4a65c_add_72be8 wd_3_133 wp_2_3 wd_3_131 ⟨Nat.le_of_ble_eq_true rfl, Nat.le_of_ble_eq_true rfl⟩ 0 rfl rfl rfl hl.1 rfl (Nat.le_of_ble_eq_true rfl) ⟨Nat.le_of_ble_eq_true rfl, Nat.le_of_ble_eq_true rfl⟩ dJx4a65c_add_9ea2d_20 (fun u_1 H locs hu_2 hP hD hS => ?_)
  replace hP : va_P D vwCl ([(la, .inr (0, [.int (md + 1), .ref u_1, .int 1])), (u_1, .inl (k 2, 10, .inr (.inr (.inr (.inr (els 1 pl))))))] ++ sg (0 + 1) (fun i => [(pl i, .inr (ci, fs i))])) H := hP.prm (by intro x; simp only [cn_app, cn_cons, cn_nil]; omega)
  replace hD : va_D A ([(la, .inr (0, [.int (md + 1), .ref u_1, .int 1])), (u_1, .inl (k 2, 10, .inr (.inr (.inr (.inr (els 1 pl))))))] ++ sg (0 + 1) (fun i => [(pl i, .inr (ci, fs i))])) := hD.prm (by intro x; simp only [cn_app, cn_cons, cn_nil]; omega)
  refine W.widen (k := 1) (n := 10) (by omega) (by omega) ?_
  refine W.eq (g2 := F0 m 23 ls []) rfl ?_
  refine lv_iconst (v := 1) hx hb dJx4a65c_add_9ea2d_23 (by decide) ?_
  exact fs_z hx hb hr hlocks hq (u_1) trivial hP hD hS rfl dJx4a65c_add_9ea2d_24 rfl
set_option maxHeartbeats 4000000 in
set_option maxRecDepth 100000 in
theorem c_add1_n (l : Launch) (D : va_G) (k : Nat → ClassId) (dz mi la : Nat) (md : Int32) (qa n : Nat) (ci : Nat) (pl : Nat → Nat) (fs : Nat → List Value) (r9 : vw_C) (h1 : 10 ≤ n) (h2 : n ≤ 1000) (hc9 : vwCl[ci]? = some r9) (hr9 : r9.1 = RX4 ∨ r9.1 = RX0) : Fs (S := Nat) l yJx4a65c_add_9ea2d cJx4a65c_add_9ea2d 2 (some .boolean) 6 1 (n + n / 2) D (TY k) (GL dz mi) [.ref la, .ref (pl n)] ([(la, .inr (0, [.int md, .ref qa, .int (nI n)])), (qa, .inl (k 2, n, .inr (.inr (.inr (.inr (els n pl))))))] ++ sg (n + 1) (fun i => [(pl i, .inr (ci, fs i))])) (fun _ => some (.int 1)) (fun _ => True) (fun u => [(la, .inr (0, [.int (md + 1), .ref u, .int (nI (n + 1))])), (u, .inl (k 2, n + n / 2, .inr (.inr (.inr (.inr (els (n + 1) pl))))))] ++ sg (n + 1) (fun i => [(pl i, .inr (ci, fs i))])) := by
  refine fs_body (by decide +kernel) (Nat.le_of_ble_eq_true rfl) ?_
  intro p e s m args below meth c_ Q A hx hb hml hown hts hK hP hD hS hA hG hin hr hq hlocks ls hl
  replace hl : lv_has ls 2 [(0, .ref la), (1, .ref (pl n))] := hl
  change s.vm.findClass RJx4a65c = some m.cls at hown
  have hcs9 : ∀ U : State, (va_Nw (.castable RX4 "java/lang/Object") U ∧ va_Nw (.castable RX0 "java/lang/Object") U) → va_Nw (.castable r9.1 "java/lang/Object") U := by
    intro U h
    rcases hr9 with e9 | e9
    · rw [e9]; exact h.1
    · rw [e9]; exact h.2
  refine lv_aload_n hx hb dJx4a65c_add_9ea2d_0 rfl (lv_at hl 0 rfl) ?_
  refine lv_dup hx hb dJx4a65c_add_9ea2d_1 rfl ?_
  refine va_get (D := D) (ci := 0) (v := .int md) (C := RJx4a65c) (T := TJx4a65c) (N := 3) hx hb hts inJx4a65c hown hK hP 0 rfl rfl 0 (by decide) (hts _ wd_1_137) (u_same (hts _ wd_1_138)) rfl dJx4a65c_add_9ea2d_2 ?_
  refine lv_iconst (v := 1) hx hb dJx4a65c_add_9ea2d_5 (by decide) ?_
  refine lv_iadd hx hb dJx4a65c_add_9ea2d_6 ?_
  refine va_put (D := D) (ci := 0) (v := .int (md + 1)) (C := RJx4a65c) (T := TJx4a65c) (N := 3) hx hb hts inJx4a65c tyJx4a65c tyJx4a65c_ok nmJx4a65c hown hK hP hD hS 0 rfl rfl 0 (by decide) (hts _ wd_1_137) (u_same (hts _ wd_1_138)) rfl (tyJx4a65c_ok 0 (by decide)) rfl rfl (Nat.le_of_ble_eq_true rfl) dJx4a65c_add_9ea2d_7 (fun H locs hP hD hS => ?_)
  replace hP : va_P D vwCl ([(la, .inr (0, [.int (md + 1), .ref qa, .int (nI n)])), (qa, .inl (k 2, n, .inr (.inr (.inr (.inr (els n pl))))))] ++ sg (n + 1) (fun i => [(pl i, .inr (ci, fs i))])) H := hP
  replace hD : va_D A ([(la, .inr (0, [.int (md + 1), .ref qa, .int (nI n)])), (qa, .inl (k 2, n, .inr (.inr (.inr (.inr (els n pl))))))] ++ sg (n + 1) (fun i => [(pl i, .inr (ci, fs i))])) := hD
  refine lv_aload_n hx hb dJx4a65c_add_9ea2d_10 rfl (lv_at hl 0 rfl) ?_
  refine lv_aload_n hx hb dJx4a65c_add_9ea2d_11 rfl (lv_at hl 1 rfl) ?_
  refine lv_aload_n hx hb dJx4a65c_add_9ea2d_12 rfl (lv_at hl 0 rfl) ?_
  refine va_get (D := D) (ci := 0) (v := .ref qa) (C := RJx4a65c) (T := TJx4a65c) (N := 3) hx hb hts inJx4a65c hown hK hP 0 rfl rfl 1 (by decide) (hts _ wd_1_134) (fun _ h9 => h9) rfl dJx4a65c_add_9ea2d_13 ?_
  refine lv_aload_n hx hb dJx4a65c_add_9ea2d_16 rfl (lv_at hl 0 rfl) ?_
  refine va_get (D := D) (ci := 0) (v := .int (nI n)) (C := RJx4a65c) (T := TJx4a65c) (N := 3) hx hb hts inJx4a65c hown hK hP 0 rfl rfl 2 (by decide) (hts _ wd_1_135) (fun _ h9 => h9) rfl dJx4a65c_add_9ea2d_17 ?_
  refine fs_Vf ([]) ([]) (rest := []) (As := [.ref (pl n), .ref qa, .int (nI n)]) ⟨hx, hb, hml, hown, hts⟩ GdL hG hS hA hK (by rw [List.append_nil]; exact hP) (by rw [List.append_nil]; exact hD) (c_add3_n l D k dz mi la (md + 1) qa n ci pl fs r9 h1 h2 hc9 hr9) mi_Jx4a65c_add_72be8 wd_3_133 wp_2_3 wd_3_131 ⟨Nat.le_of_ble_eq_true rfl, Nat.le_of_ble_eq_true rfl⟩ 0 rfl rfl rfl hl.1 rfl (Nat.le_of_ble_eq_true rfl) ⟨Nat.le_of_ble_eq_true rfl, by show 0 + (n + n / 2) ≤ n + n / 2; omega⟩ dJx4a65c_add_9ea2d_20 (fun u_1 H locs hu_2 hP hD hS => ?_)
  replace hP : va_P D vwCl ([(la, .inr (0, [.int (md + 1), .ref u_1, .int (nI (n + 1))])), (u_1, .inl (k 2, n + n / 2, .inr (.inr (.inr (.inr (els (n + 1) pl))))))] ++ sg (n + 1) (fun i => [(pl i, .inr (ci, fs i))])) H := hP.prm (by intro x; simp only [cn_app, cn_cons, cn_nil]; omega)
  replace hD : va_D A ([(la, .inr (0, [.int (md + 1), .ref u_1, .int (nI (n + 1))])), (u_1, .inl (k 2, n + n / 2, .inr (.inr (.inr (.inr (els (n + 1) pl))))))] ++ sg (n + 1) (fun i => [(pl i, .inr (ci, fs i))])) := hD.prm (by intro x; simp only [cn_app, cn_cons, cn_nil]; omega)
  refine W.widen (k := 1) (n := n + n / 2) (by omega) (by omega) ?_
  refine W.eq (g2 := F0 m 23 ls []) rfl ?_
  refine lv_iconst (v := 1) hx hb dJx4a65c_add_9ea2d_23 (by decide) ?_
  exact fs_z hx hb hr hlocks hq (u_1) trivial hP hD hS rfl dJx4a65c_add_9ea2d_24 rfl
set_option maxHeartbeats 4000000 in
set_option maxRecDepth 100000 in
theorem c_add1_c (l : Launch) (D : va_G) (k : Nat → ClassId) (dz mi la : Nat) (md : Int32) (qa n cp : Nat) (ci : Nat) (pl : Nat → Nat) (fs : Nat → List Value) (r9 : vw_C) (h1 : n < cp) (h2 : cp ≤ 3000) (hc9 : vwCl[ci]? = some r9) (hr9 : r9.1 = RX4 ∨ r9.1 = RX0) : Fs (S := Nat) l yJx4a65c_add_9ea2d cJx4a65c_add_9ea2d 2 (some .boolean) 6 1 0 D (TY k) (GL dz mi) [.ref la, .ref (pl n)] ([(la, .inr (0, [.int md, .ref qa, .int (nI n)])), (qa, .inl (k 2, cp, .inr (.inr (.inr (.inr (els n pl))))))] ++ sg (n + 1) (fun i => [(pl i, .inr (ci, fs i))])) (fun _ => some (.int 1)) (fun _ => True) (fun u => [(la, .inr (0, [.int (md + 1), .ref u, .int (nI (n + 1))])), (u, .inl (k 2, cp, .inr (.inr (.inr (.inr (els (n + 1) pl))))))] ++ sg (n + 1) (fun i => [(pl i, .inr (ci, fs i))])) := by
  refine fs_body (by decide +kernel) (Nat.le_of_ble_eq_true rfl) ?_
  intro p e s m args below meth c_ Q A hx hb hml hown hts hK hP hD hS hA hG hin hr hq hlocks ls hl
  replace hl : lv_has ls 2 [(0, .ref la), (1, .ref (pl n))] := hl
  change s.vm.findClass RJx4a65c = some m.cls at hown
  have hcs9 : ∀ U : State, (va_Nw (.castable RX4 "java/lang/Object") U ∧ va_Nw (.castable RX0 "java/lang/Object") U) → va_Nw (.castable r9.1 "java/lang/Object") U := by
    intro U h
    rcases hr9 with e9 | e9
    · rw [e9]; exact h.1
    · rw [e9]; exact h.2
  refine lv_aload_n hx hb dJx4a65c_add_9ea2d_0 rfl (lv_at hl 0 rfl) ?_
  refine lv_dup hx hb dJx4a65c_add_9ea2d_1 rfl ?_
  refine va_get (D := D) (ci := 0) (v := .int md) (C := RJx4a65c) (T := TJx4a65c) (N := 3) hx hb hts inJx4a65c hown hK hP 0 rfl rfl 0 (by decide) (hts _ wd_1_137) (u_same (hts _ wd_1_138)) rfl dJx4a65c_add_9ea2d_2 ?_
  refine lv_iconst (v := 1) hx hb dJx4a65c_add_9ea2d_5 (by decide) ?_
  refine lv_iadd hx hb dJx4a65c_add_9ea2d_6 ?_
  refine va_put (D := D) (ci := 0) (v := .int (md + 1)) (C := RJx4a65c) (T := TJx4a65c) (N := 3) hx hb hts inJx4a65c tyJx4a65c tyJx4a65c_ok nmJx4a65c hown hK hP hD hS 0 rfl rfl 0 (by decide) (hts _ wd_1_137) (u_same (hts _ wd_1_138)) rfl (tyJx4a65c_ok 0 (by decide)) rfl rfl (Nat.le_of_ble_eq_true rfl) dJx4a65c_add_9ea2d_7 (fun H locs hP hD hS => ?_)
  replace hP : va_P D vwCl ([(la, .inr (0, [.int (md + 1), .ref qa, .int (nI n)])), (qa, .inl (k 2, cp, .inr (.inr (.inr (.inr (els n pl))))))] ++ sg (n + 1) (fun i => [(pl i, .inr (ci, fs i))])) H := hP
  replace hD : va_D A ([(la, .inr (0, [.int (md + 1), .ref qa, .int (nI n)])), (qa, .inl (k 2, cp, .inr (.inr (.inr (.inr (els n pl))))))] ++ sg (n + 1) (fun i => [(pl i, .inr (ci, fs i))])) := hD
  refine lv_aload_n hx hb dJx4a65c_add_9ea2d_10 rfl (lv_at hl 0 rfl) ?_
  refine lv_aload_n hx hb dJx4a65c_add_9ea2d_11 rfl (lv_at hl 1 rfl) ?_
  refine lv_aload_n hx hb dJx4a65c_add_9ea2d_12 rfl (lv_at hl 0 rfl) ?_
  refine va_get (D := D) (ci := 0) (v := .ref qa) (C := RJx4a65c) (T := TJx4a65c) (N := 3) hx hb hts inJx4a65c hown hK hP 0 rfl rfl 1 (by decide) (hts _ wd_1_134) (fun _ h9 => h9) rfl dJx4a65c_add_9ea2d_13 ?_
  refine lv_aload_n hx hb dJx4a65c_add_9ea2d_16 rfl (lv_at hl 0 rfl) ?_
  refine va_get (D := D) (ci := 0) (v := .int (nI n)) (C := RJx4a65c) (T := TJx4a65c) (N := 3) hx hb hts inJx4a65c hown hK hP 0 rfl rfl 2 (by decide) (hts _ wd_1_135) (fun _ h9 => h9) rfl dJx4a65c_add_9ea2d_17 ?_
  refine fs_Vf ([]) ([]) (rest := []) (As := [.ref (pl n), .ref qa, .int (nI n)]) ⟨hx, hb, hml, hown, hts⟩ GdL hG hS hA hK (by rw [List.append_nil]; exact hP) (by rw [List.append_nil]; exact hD) (c_add3_c l D k dz mi la (md + 1) qa n cp ci pl fs r9 h1 h2 hc9 hr9) mi_Jx4a65c_add_72be8 wd_3_133 wp_2_3 wd_3_131 ⟨Nat.le_of_ble_eq_true rfl, Nat.le_of_ble_eq_true rfl⟩ 0 rfl rfl rfl hl.1 rfl (Nat.le_of_ble_eq_true rfl) ⟨Nat.le_of_ble_eq_true rfl, Nat.le_of_ble_eq_true rfl⟩ dJx4a65c_add_9ea2d_20 (fun u_1 H locs hu_2 hP hD hS => ?_)
  replace hP : va_P D vwCl ([(la, .inr (0, [.int (md + 1), .ref qa, .int (nI (n + 1))])), (qa, .inl (k 2, cp, .inr (.inr (.inr (.inr (els (n + 1) pl))))))] ++ sg (n + 1) (fun i => [(pl i, .inr (ci, fs i))])) H := hP.prm (by intro x; simp only [cn_app, cn_cons, cn_nil]; omega)
  replace hD : va_D A ([(la, .inr (0, [.int (md + 1), .ref qa, .int (nI (n + 1))])), (qa, .inl (k 2, cp, .inr (.inr (.inr (.inr (els (n + 1) pl))))))] ++ sg (n + 1) (fun i => [(pl i, .inr (ci, fs i))])) := hD.prm (by intro x; simp only [cn_app, cn_cons, cn_nil]; omega)
  refine W.widen (k := 1) (n := 0) (by omega) (by omega) ?_
  refine W.eq (g2 := F0 m 23 ls []) rfl ?_
  refine lv_iconst (v := 1) hx hb dJx4a65c_add_9ea2d_23 (by decide) ?_
  exact fs_z hx hb hr hlocks hq (qa) trivial hP hD hS rfl dJx4a65c_add_9ea2d_24 rfl
theorem c_Jx4a65c_add_9ea2d (l : Launch) (D : va_G) (k : Nat → ClassId) (dz mi la : Nat) (md : Int32) (qa n : Nat) (ci : Nat) (pl : Nat → Nat) (fs : Nat → List Value) (r9 : vw_C) (h2 : n ≤ 1000) (hc9 : vwCl[ci]? = some r9) (hr9 : r9.1 = RX4 ∨ r9.1 = RX0) : Fs (S := Nat) l yJx4a65c_add_9ea2d cJx4a65c_add_9ea2d 2 (some .boolean) 6 1 (gSl n) D (TY k) (GL dz mi) [.ref la, .ref (pl n)] (bA la qa dz md k n pl ++ sg (n + 1) (fun i => [(pl i, .inr (ci, fs i))])) (fun _ => some (.int 1)) (fun _ => True) (fun u => bA la u dz (md + 1) k (n + 1) pl ++ sg (n + 1) (fun i => [(pl i, .inr (ci, fs i))])) := by
  have hB : (fun u => bA la u dz (md + 1) k (n + 1) pl ++ sg (n + 1) (fun i => [(pl i, .inr (ci, fs i))])) = (fun u => [(la, .inr (0, [.int (md + 1), .ref u, .int (nI (n + 1))])), (u, .inl (k 2, capOf (n + 1), .inr (.inr (.inr (.inr (els (n + 1) pl))))))] ++ sg (n + 1) (fun i => [(pl i, .inr (ci, fs i))])) := by
    funext u
    unfold bA lO lA
    rw [if_neg (by omega), if_neg (by omega)]
  rw [hB]
  by_cases h0 : n = 0
  · subst h0
    exact c_add1_0 l D k dz mi la md ci pl fs r9 hc9 hr9
  · have hA : bA la qa dz md k n pl = [(la, .inr (0, [.int md, .ref qa, .int (nI n)])), (qa, .inl (k 2, capOf n, .inr (.inr (.inr (.inr (els n pl))))))] := by
      unfold bA lO lA
      rw [if_neg h0, if_neg h0]
    rw [hA]
    have hk := capOf_ok n
    by_cases h3 : capOf n = n
    · rw [show capOf (n + 1) = n + n / 2 by rw [capOf, if_neg h0, if_pos h3], show gSl n = n + n / 2 by unfold gSl; rw [if_neg h0, if_pos h3], h3]
      have h1 : 10 ≤ n := by have := hk.2.2 (by omega); omega
      exact c_add1_n l D k dz mi la md qa n ci pl fs r9 h1 h2 hc9 hr9
    · rw [show capOf (n + 1) = capOf n by rw [capOf, if_neg h0, if_neg h3], show gSl n = 0 by unfold gSl; rw [if_neg h0, if_neg h3]]
      exact c_add1_c l D k dz mi la md qa n (capOf n) ci pl fs r9 (by omega) (by omega) hc9 hr9
set_option maxHeartbeats 4000000 in
set_option maxRecDepth 100000 in
theorem c_Jxa1e45_init_da8c8 (l : Launch) (D : va_G) (k : Nat → ClassId) (la : Nat) : Fs (S := Unit) l yJxa1e45_init_da8c8 cJxa1e45_init_da8c8 1 none 1 0 0 D (TY k) G0 [.ref la] ([]) (fun _ => none) (fun _ => True) (fun _ => []) := by
  refine fs_body (by decide +kernel) (Nat.le_of_ble_eq_true rfl) ?_
  intro p e s m args below meth c_ Q A hx hb hml hown hts hK hP hD hS hA hG hin hr hq hlocks ls hl
  replace hl : lv_has ls 1 [(0, .ref la)] := hl
  change s.vm.findClass RJxa1e45 = some m.cls at hown
  refine lv_aload_n hx hb dJxa1e45_init_da8c8_0 rfl (lv_at hl 0 rfl) ?_
  refine W.objInit hx hb hown (hts _ wd_1_131) (hts _ wd_1_34) (hts _ wd_1_35) rfl (by rw [hml]; exact hl.1) rfl dJxa1e45_init_da8c8_1 (Nat.le_of_ble_eq_true rfl) (Nat.le_of_ble_eq_true rfl) ?_
  refine W.eq (g2 := F0 m 4 ls []) rfl ?_
  exact fs_v hx hb hr hlocks hq () trivial hP hD hS dJxa1e45_init_da8c8_4 rfl
set_option maxHeartbeats 4000000 in
set_option maxRecDepth 100000 in
theorem c_Jxc12de_init_da8c8 (l : Launch) (D : va_G) (k : Nat → ClassId) (la : Nat) : Fs (S := Unit) l yJxc12de_init_da8c8 cJxc12de_init_da8c8 1 none 2 0 0 D (TY k) G0 [.ref la] ([(la, .inr (0, [.int 0, .null, .int 0]))]) (fun _ => none) (fun _ => True) (fun _ => [(la, .inr (0, [.int 0, .null, .int 0]))]) := by
  refine fs_body (by decide +kernel) (Nat.le_of_ble_eq_true rfl) ?_
  intro p e s m args below meth c_ Q A hx hb hml hown hts hK hP hD hS hA hG hin hr hq hlocks ls hl
  replace hl : lv_has ls 1 [(0, .ref la)] := hl
  change s.vm.findClass RJxc12de = some m.cls at hown
  refine lv_aload_n hx hb dJxc12de_init_da8c8_0 rfl (lv_at hl 0 rfl) ?_
  refine fs_If ([]) ([(la, .inr (0, [.int 0, .null, .int 0]))]) (rest := []) (As := []) ⟨hx, hb, hml, hown, hts⟩ Gd0 trivial hS hA hK (hP) (hD) (c_Jxa1e45_init_da8c8 l D k la) mi_Jxa1e45_init_da8c8 wd_1_129 wd_1_128 rfl ⟨Nat.le_of_ble_eq_true rfl, Nat.le_of_ble_eq_true rfl⟩ rfl hl.1 rfl (Nat.le_of_ble_eq_true rfl) ⟨Nat.le_of_ble_eq_true rfl, Nat.le_of_ble_eq_true rfl⟩ dJxc12de_init_da8c8_1 (fun u_1 H locs hu_2 hP hD hS => ?_)
  replace hP : va_P D vwCl ([(la, .inr (0, [.int 0, .null, .int 0]))]) H := hP.prm (by intro x; simp only [cn_app, cn_cons, cn_nil]; omega)
  replace hD : va_D A ([(la, .inr (0, [.int 0, .null, .int 0]))]) := hD.prm (by intro x; simp only [cn_app, cn_cons, cn_nil]; omega)
  refine W.eq (g2 := F0 m 4 ls []) rfl ?_
  refine lv_aload_n hx hb dJxc12de_init_da8c8_4 rfl (lv_at hl 0 rfl) ?_
  refine lv_iconst (v := 0) hx hb dJxc12de_init_da8c8_5 (by decide) ?_
  refine va_put (D := D) (ci := 0) (v := .int 0) (C := RJx4a65c) (T := TJx4a65c) (N := 3) hx hb hts inJx4a65c tyJx4a65c tyJx4a65c_ok nmJx4a65c hown hK hP hD hS 0 rfl rfl 0 (by decide) (hts _ wd_1_136) (fun _ h9 => h9) rfl (tyJx4a65c_ok 0 (by decide)) rfl rfl (Nat.le_of_ble_eq_true rfl) dJxc12de_init_da8c8_6 (fun H locs hP hD hS => ?_)
  replace hP : va_P D vwCl ([(la, .inr (0, [.int 0, .null, .int 0]))]) H := hP
  replace hD : va_D A ([(la, .inr (0, [.int 0, .null, .int 0]))]) := hD
  exact fs_v hx hb hr hlocks hq () trivial hP hD hS dJxc12de_init_da8c8_9 rfl
set_option maxHeartbeats 4000000 in
set_option maxRecDepth 100000 in
theorem c_Jx4a65c_init_da8c8 (l : Launch) (D : va_G) (k : Nat → ClassId) (dz mi la : Nat) : Fs (S := Unit) l yJx4a65c_init_da8c8 cJx4a65c_init_da8c8 1 none 3 0 0 D (TY k) (GL dz mi) [.ref la] ([(la, .inr (0, [.int 0, .null, .int 0]))]) (fun _ => none) (fun _ => True) (fun _ => [lO la 0 dz 0 0]) := by
  refine fs_body (by decide +kernel) (Nat.le_of_ble_eq_true rfl) ?_
  intro p e s m args below meth c_ Q A hx hb hml hown hts hK hP hD hS hA hG hin hr hq hlocks ls hl
  replace hl : lv_has ls 1 [(0, .ref la)] := hl
  change s.vm.findClass RJx4a65c = some m.cls at hown
  refine lv_aload_n hx hb dJx4a65c_init_da8c8_0 rfl (lv_at hl 0 rfl) ?_
  refine fs_If ([]) ([]) (rest := []) (As := []) ⟨hx, hb, hml, hown, hts⟩ Gd0 trivial hS hA hK (hP) (hD) (c_Jxc12de_init_da8c8 l D k la) mi_Jxc12de_init_da8c8 wd_1_126 wd_1_125 rfl ⟨Nat.le_of_ble_eq_true rfl, Nat.le_of_ble_eq_true rfl⟩ rfl hl.1 rfl (Nat.le_of_ble_eq_true rfl) ⟨Nat.le_of_ble_eq_true rfl, Nat.le_of_ble_eq_true rfl⟩ dJx4a65c_init_da8c8_1 (fun u_1 H locs hu_2 hP hD hS => ?_)
  replace hP : va_P D vwCl ([(la, .inr (0, [.int 0, .null, .int 0]))]) H := hP.prm (by intro x; simp only [cn_app, cn_cons, cn_nil]; omega)
  replace hD : va_D A ([(la, .inr (0, [.int 0, .null, .int 0]))]) := hD.prm (by intro x; simp only [cn_app, cn_cons, cn_nil]; omega)
  refine W.eq (g2 := F0 m 4 ls []) rfl ?_
  refine lv_aload_n hx hb dJx4a65c_init_da8c8_4 rfl (lv_at hl 0 rfl) ?_
  refine va_gets hx hb hG.1 hS hown (hts _ wd_1_132) (fun _ h9 => h9) dJx4a65c_init_da8c8_5 ?_
  refine va_put (D := D) (ci := 0) (v := .ref dz) (C := RJx4a65c) (T := TJx4a65c) (N := 3) hx hb hts inJx4a65c tyJx4a65c tyJx4a65c_ok nmJx4a65c hown hK hP hD hS 0 rfl rfl 1 (by decide) (hts _ wd_1_134) (fun _ h9 => h9) rfl (tyJx4a65c_ok 1 (by decide)) rfl rfl (Nat.le_of_ble_eq_true rfl) dJx4a65c_init_da8c8_8 (fun H locs hP hD hS => ?_)
  replace hP : va_P D vwCl ([(la, .inr (0, [.int 0, .ref dz, .int 0]))]) H := hP
  replace hD : va_D A ([(la, .inr (0, [.int 0, .ref dz, .int 0]))]) := hD
  exact fs_v hx hb hr hlocks hq () trivial hP hD hS dJx4a65c_init_da8c8_11 rfl
