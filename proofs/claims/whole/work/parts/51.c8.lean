theorem mi_J0_coder_7d493 : MI RJ0 yJ0_coder_7d493 cJ0_coder_7d493 1 (some .byte) 0 := ⟨⟨wd_1_12, wd_2_21⟩, rfl, by decide +kernel, by decide +kernel, by decide +kernel⟩
theorem mi_J0_isLatin1_aae02 : MI RJ0 yJ0_isLatin1_aae02 cJ0_isLatin1_aae02 1 (some .boolean) 0 := ⟨⟨wd_1_12, wd_2_31⟩, rfl, by decide +kernel, by decide +kernel, by decide +kernel⟩
theorem mi_J0_length_8abf5 : MI RJ0 yJ0_length_8abf5 cJ0_length_8abf5 1 (some .int) 0 := ⟨⟨wd_1_12, wd_2_17⟩, rfl, by decide +kernel, by decide +kernel, by decide +kernel⟩
theorem mi_J3_checkIndex_8e157 : MI RJ3 yJ3_checkIndex_8e157 cJ3_checkIndex_8e157 3 (some .int) 3 := ⟨⟨wd_1_14, wd_2_42⟩, rfl, by decide +kernel, by decide +kernel, by decide +kernel⟩
theorem mi_J0_charAt_5068e : MI RJ0 yJ0_charAt_5068e cJ0_charAt_5068e 2 (some .char) 1 := ⟨⟨wd_1_12, wd_2_27⟩, rfl, by decide +kernel, by decide +kernel, by decide +kernel⟩
theorem mi_J1_charAt_3b067 : MI RJ1 yJ1_charAt_3b067 cJ1_charAt_3b067 2 (some .char) 2 := ⟨⟨wd_1_13, wd_2_34⟩, rfl, by decide +kernel, by decide +kernel, by decide +kernel⟩
theorem mi_J15_checkIndex_7cf53 : MI RJ15 yJ15_checkIndex_7cf53 cJ15_checkIndex_7cf53 2 (some .int) 2 := ⟨⟨wd_1_18, wd_2_160⟩, rfl, by decide +kernel, by decide +kernel, by decide +kernel⟩
set_option maxHeartbeats 4000000 in
set_option maxRecDepth 100000 in
theorem c_J0_coder_7d493 (l : Launch) (D : va_G) (k : Nat → ClassId) (kz : Nat) (ke sK sV : Nat → Nat) (i : Nat) (hi : i < 9) : Ro l yJ0_coder_7d493 cJ0_coder_7d493 1 (some .byte) 0 D (TY k) (GK kz ke sK sV) [.ref (sK i)] ([]) (some (.int 0)) := by
  refine ro_body (by decide +kernel) (Nat.le_of_ble_eq_true rfl) ?_
  intro p e s m args below meth c_ Q hx hb hml hown hts hK hP hS hG hr hq hlocks ls hl
  replace hl : lv_has ls 1 [(0, .ref (sK i))] := hl
  change s.vm.findClass RJ0 = some m.cls at hown
  refine va_gets hx hb hG.2.2.2.2.2.2.2.2.2.1 hS hown (hts _ wd_2_22) (fun _ h9 => h9) dJ0_coder_7d493_0 ?_
  refine lv_if_eq (tgt := 13) hx hb dJ0_coder_7d493_3 (by decide) (fun c3 => absurd c3 (by decide)) (fun c3 => ?_)
  refine lv_aload_n hx hb dJ0_coder_7d493_6 rfl (lv_at hl 0 rfl) ?_
  refine vk_getf hx hb (hG.2.2.2.2.2.2.2.1.1 i (by omega)).2.1 hS hown (hts _ wd_6_79) (fun _ h9 => h9) dJ0_coder_7d493_7 ?_
  refine lv_goto (tgt := 14) hx hb dJ0_coder_7d493_10 (by decide) ?_
  exact ro_t hx hb hr hlocks hq (rfl) dJ0_coder_7d493_14 (rfl)
set_option maxHeartbeats 4000000 in
set_option maxRecDepth 100000 in
theorem c_J0_isLatin1_aae02 (l : Launch) (D : va_G) (k : Nat → ClassId) (kz : Nat) (ke sK sV : Nat → Nat) (i : Nat) (hi : i < 9) : Ro l yJ0_isLatin1_aae02 cJ0_isLatin1_aae02 1 (some .boolean) 0 D (TY k) (GK kz ke sK sV) [.ref (sK i)] ([]) (some (.int 1)) := by
  refine ro_body (by decide +kernel) (Nat.le_of_ble_eq_true rfl) ?_
  intro p e s m args below meth c_ Q hx hb hml hown hts hK hP hS hG hr hq hlocks ls hl
  replace hl : lv_has ls 1 [(0, .ref (sK i))] := hl
  change s.vm.findClass RJ0 = some m.cls at hown
  refine va_gets hx hb hG.2.2.2.2.2.2.2.2.2.1 hS hown (hts _ wd_2_22) (fun _ h9 => h9) dJ0_isLatin1_aae02_0 ?_
  refine lv_if_eq (tgt := 17) hx hb dJ0_isLatin1_aae02_3 (by decide) (fun c3 => absurd c3 (by decide)) (fun c3 => ?_)
  refine lv_aload_n hx hb dJ0_isLatin1_aae02_6 rfl (lv_at hl 0 rfl) ?_
  refine vk_getf hx hb (hG.2.2.2.2.2.2.2.1.1 i (by omega)).2.1 hS hown (hts _ wd_6_79) (fun _ h9 => h9) dJ0_isLatin1_aae02_7 ?_
  refine lv_if_ne (tgt := 17) hx hb dJ0_isLatin1_aae02_10 (by decide) (fun c10 => absurd (by decide) c10) (fun c10 => ?_)
  refine lv_iconst (v := 1) hx hb dJ0_isLatin1_aae02_13 (by decide) ?_
  refine lv_goto (tgt := 18) hx hb dJ0_isLatin1_aae02_14 (by decide) ?_
  exact ro_z hx hb hr hlocks hq (rfl) dJ0_isLatin1_aae02_18 (rfl)
set_option maxHeartbeats 4000000 in
set_option maxRecDepth 100000 in
theorem c_J0_length_8abf5 (l : Launch) (D : va_G) (k : Nat → ClassId) (kz : Nat) (ke sK sV : Nat → Nat) (i : Nat) (hi : i < 9) : Ro l yJ0_length_8abf5 cJ0_length_8abf5 1 (some .int) 1 D (TY k) (GK kz ke sK sV) [.ref (sK i)] ([]) (some (.int (nI (kL i)))) := by
  refine ro_body (by decide +kernel) (Nat.le_of_ble_eq_true rfl) ?_
  intro p e s m args below meth c_ Q hx hb hml hown hts hK hP hS hG hr hq hlocks ls hl
  replace hl : lv_has ls 1 [(0, .ref (sK i))] := hl
  change s.vm.findClass RJ0 = some m.cls at hown
  refine lv_aload_n hx hb dJ0_length_8abf5_0 rfl (lv_at hl 0 rfl) ?_
  refine vk_getf hx hb (hG.2.2.2.2.2.2.2.1.1 i (by omega)).2.2.1 hS hown (hts _ wd_6_78) (fun _ h9 => h9) dJ0_length_8abf5_1 ?_
  refine va_tlen (v := nI (kL i)) hx hb (hG.2.2.2.2.2.2.2.1.1 i (by omega)).2.2.2 hS rfl dJ0_length_8abf5_4 ?_
  refine lv_aload_n hx hb dJ0_length_8abf5_5 rfl (lv_at hl 0 rfl) ?_
  refine ro_Vr (vk_recv hG.2.2.2.2.2.2.2.1 (by omega) hS) (rest := [.int (nI (kL i))]) (st1 := [.int 0, .int (nI (kL i))]) (As := []) ⟨hx, hb, hml, hown, hts⟩ GdK hG hS hK (c_J0_coder_7d493 l D k kz ke sK sV i (by omega)) mi_J0_coder_7d493 wd_2_19 wd_2_20 wd_2_18 ⟨Nat.le_of_ble_eq_true rfl, Nat.le_of_ble_eq_true rfl⟩ (fun k9 q9 h9 => by simp at h9) rfl hl.1 rfl (Nat.le_of_ble_eq_true rfl) rfl ⟨Nat.le_of_ble_eq_true rfl, Nat.le_of_ble_eq_true rfl⟩ dJ0_length_8abf5_6 ?_
  refine lv_ishr hx hb dJ0_length_8abf5_9 ?_
  refine rw_topi (y := nI (kL i)) (sb_shr0 _) ?_
  exact ro_i hx hb hr hlocks hq dJ0_length_8abf5_10 (rfl)
set_option maxHeartbeats 4000000 in
set_option maxRecDepth 100000 in
theorem c_J3_check_n (l : Launch) (D : va_G) (k : Nat → ClassId) (x y : Int32) (h0 : ¬ x < 0) (h1 : x < y) : Ro l yJ3_checkIndex_8e157 cJ3_checkIndex_8e157 3 (some .int) 0 D (TY k) G0 [.int x, .int y, .null] ([]) (some (.int x)) := by
  refine ro_body (by decide +kernel) (Nat.le_of_ble_eq_true rfl) ?_
  intro p e s m args below meth c_ Q hx hb hml hown hts hK hP hS hG hr hq hlocks ls hl
  replace hl : lv_has ls 3 [(0, .int x), (1, .int y), (2, .null)] := hl
  change s.vm.findClass RJ3 = some m.cls at hown
  refine lv_iload_n hx hb dJ3_checkIndex_8e157_0 rfl (lv_at hl 0 rfl) ?_
  refine lv_if_lt (tgt := 9) hx hb dJ3_checkIndex_8e157_1 (by decide) (fun c1 => absurd c1 (h0)) (fun c1 => ?_)
  refine lv_iload_n hx hb dJ3_checkIndex_8e157_4 rfl (lv_at hl 0 rfl) ?_
  refine lv_iload_n hx hb dJ3_checkIndex_8e157_5 rfl (lv_at hl 1 rfl) ?_
  refine lv_icmp_lt (tgt := 16) hx hb dJ3_checkIndex_8e157_6 (by decide) (fun c6 => ?_) (fun c6 => absurd (h1) c6)
  refine lv_iload_n hx hb dJ3_checkIndex_8e157_16 rfl (lv_at hl 0 rfl) ?_
  exact ro_i hx hb hr hlocks hq dJ3_checkIndex_8e157_17 (rfl)
set_option maxHeartbeats 4000000 in
set_option maxRecDepth 100000 in
theorem c_J3_check_r (l : Launch) (D : va_G) (k : Nat → ClassId) (x y : Int32) (z : Nat) (h0 : ¬ x < 0) (h1 : x < y) : Ro l yJ3_checkIndex_8e157 cJ3_checkIndex_8e157 3 (some .int) 0 D (TY k) G0 [.int x, .int y, .ref z] ([]) (some (.int x)) := by
  refine ro_body (by decide +kernel) (Nat.le_of_ble_eq_true rfl) ?_
  intro p e s m args below meth c_ Q hx hb hml hown hts hK hP hS hG hr hq hlocks ls hl
  replace hl : lv_has ls 3 [(0, .int x), (1, .int y), (2, .ref z)] := hl
  change s.vm.findClass RJ3 = some m.cls at hown
  refine lv_iload_n hx hb dJ3_checkIndex_8e157_0 rfl (lv_at hl 0 rfl) ?_
  refine lv_if_lt (tgt := 9) hx hb dJ3_checkIndex_8e157_1 (by decide) (fun c1 => absurd c1 (h0)) (fun c1 => ?_)
  refine lv_iload_n hx hb dJ3_checkIndex_8e157_4 rfl (lv_at hl 0 rfl) ?_
  refine lv_iload_n hx hb dJ3_checkIndex_8e157_5 rfl (lv_at hl 1 rfl) ?_
  refine lv_icmp_lt (tgt := 16) hx hb dJ3_checkIndex_8e157_6 (by decide) (fun c6 => ?_) (fun c6 => absurd (h1) c6)
  refine lv_iload_n hx hb dJ3_checkIndex_8e157_16 rfl (lv_at hl 0 rfl) ?_
  exact ro_i hx hb hr hlocks hq dJ3_checkIndex_8e157_17 (rfl)
set_option maxHeartbeats 4000000 in
set_option maxRecDepth 100000 in
theorem c_J15_checkIndex_7cf53 (l : Launch) (D : va_G) (k : Nat → ClassId) (a b : Nat) (hab : a < b) (hb31 : b < 2 ^ 31) : Ro l yJ15_checkIndex_7cf53 cJ15_checkIndex_7cf53 2 (some .int) 1 D (TY k) G0 [.int (nI a), .int (nI b)] ([]) (some (.int (nI a))) := by
  refine ro_body (by decide +kernel) (Nat.le_of_ble_eq_true rfl) ?_
  intro p e s m args below meth c_ Q hx hb hml hown hts hK hP hS hG hr hq hlocks ls hl
  replace hl : lv_has ls 2 [(0, .int (nI a)), (1, .int (nI b))] := hl
  change s.vm.findClass RJ15 = some m.cls at hown
  refine lv_iload_n hx hb dJ15_checkIndex_7cf53_0 rfl (lv_at hl 0 rfl) ?_
  refine lv_iload_n hx hb dJ15_checkIndex_7cf53_1 rfl (lv_at hl 1 rfl) ?_
  refine lv_null hx hb dJ15_checkIndex_7cf53_2 ?_
  refine ro_S (rest := []) (st1 := [.int (nI a)]) (As := [.int (nI a), .int (nI b), .null]) ⟨hx, hb, hml, hown, hts⟩ Gd0 trivial hS hK (c_J3_check_n l D k (nI a) (nI b) (nI_pos (by omega)) (nI_lt (by omega) (by omega))) mi_J3_checkIndex_8e157 wd_2_41 wd_2_161 ⟨Nat.le_of_ble_eq_true rfl, Nat.le_of_ble_eq_true rfl⟩ (fun k9 q9 h9 => by simp at h9) rfl hl.1 rfl (Nat.le_of_ble_eq_true rfl) rfl ⟨Nat.le_of_ble_eq_true rfl, Nat.le_of_ble_eq_true rfl⟩ dJ15_checkIndex_7cf53_3 ?_
  exact ro_i hx hb hr hlocks hq dJ15_checkIndex_7cf53_6 (rfl)
theorem mi_J0_checkIndex_df160 : MI RJ0 yJ0_checkIndex_df160 cJ0_checkIndex_df160 2 none 2 := ⟨⟨wd_1_12, wd_2_37⟩, rfl, by decide +kernel, by decide +kernel, by decide +kernel⟩
set_option maxHeartbeats 4000000 in
set_option maxRecDepth 100000 in
theorem c_J0_checkIndex_df160 (l : Launch) (D : va_G) (k : Nat → ClassId) (kz : Nat) (ke sK sV : Nat → Nat) (a b : Nat) (hab : a < b) (hb31 : b < 2 ^ 31) : Ro l yJ0_checkIndex_df160 cJ0_checkIndex_df160 2 none 1 D (TY k) (GK kz ke sK sV) [.int (nI a), .int (nI b)] ([]) none := by
  refine ro_body (by decide +kernel) (Nat.le_of_ble_eq_true rfl) ?_
  intro p e s m args below meth c_ Q hx hb hml hown hts hK hP hS hG hr hq hlocks ls hl
  replace hl : lv_has ls 2 [(0, .int (nI a)), (1, .int (nI b))] := hl
  change s.vm.findClass RJ0 = some m.cls at hown
  refine lv_iload_n hx hb dJ0_checkIndex_df160_0 rfl (lv_at hl 0 rfl) ?_
  refine lv_iload_n hx hb dJ0_checkIndex_df160_1 rfl (lv_at hl 1 rfl) ?_
  rcases hG.2.2.2.2.2.2.2.2.2.2.2.2.2.2.2.2.2.2 with hz | ⟨z9, hz⟩
  · refine va_gets hx hb hz hS hown (hts _ wd_2_38) (fun _ h9 => h9) dJ0_checkIndex_df160_2 ?_
    refine ro_S (rest := []) (st1 := [.int (nI a)]) (As := [.int (nI a), .int (nI b), .null]) ⟨hx, hb, hml, hown, hts⟩ Gd0 trivial hS hK (c_J3_check_n l D k (nI a) (nI b) (nI_pos (by omega)) (nI_lt (by omega) (by omega))) mi_J3_checkIndex_8e157 wd_2_41 wd_2_40 ⟨Nat.le_of_ble_eq_true rfl, Nat.le_of_ble_eq_true rfl⟩ (fun k9 q9 h9 => by simp at h9) rfl hl.1 rfl (Nat.le_of_ble_eq_true rfl) rfl ⟨Nat.le_of_ble_eq_true rfl, Nat.le_of_ble_eq_true rfl⟩ dJ0_checkIndex_df160_5 ?_
    refine lv_pop hx hb dJ0_checkIndex_df160_8 rfl ?_
    exact ro_v hx hb hr hlocks hq dJ0_checkIndex_df160_9 (rfl)
  · refine va_gets hx hb hz hS hown (hts _ wd_2_38) (fun _ h9 => h9) dJ0_checkIndex_df160_2 ?_
    refine ro_S (rest := []) (st1 := [.int (nI a)]) (As := [.int (nI a), .int (nI b), .ref z9]) ⟨hx, hb, hml, hown, hts⟩ Gd0 trivial hS hK (c_J3_check_r l D k (nI a) (nI b) z9 (nI_pos (by omega)) (nI_lt (by omega) (by omega))) mi_J3_checkIndex_8e157 wd_2_41 wd_2_40 ⟨Nat.le_of_ble_eq_true rfl, Nat.le_of_ble_eq_true rfl⟩ (fun k9 q9 h9 => by simp at h9) rfl hl.1 rfl (Nat.le_of_ble_eq_true rfl) rfl ⟨Nat.le_of_ble_eq_true rfl, Nat.le_of_ble_eq_true rfl⟩ dJ0_checkIndex_df160_5 ?_
    refine lv_pop hx hb dJ0_checkIndex_df160_8 rfl ?_
    exact ro_v hx hb hr hlocks hq dJ0_checkIndex_df160_9 (rfl)
set_option maxHeartbeats 4000000 in
set_option maxRecDepth 100000 in
theorem c_J1_charAt_3b067 (l : Launch) (D : va_G) (k : Nat → ClassId) (kz : Nat) (ke sK sV : Nat → Nat) (i j : Nat) (hi : i < 9) (hj : j < kL i) : Ro l yJ1_charAt_3b067 cJ1_charAt_3b067 2 (some .char) 2 D (TY k) (GK kz ke sK sV) [.ref (sV i), .int (nI j)] ([]) (some (.int (kB i j))) := by
  refine ro_body (by decide +kernel) (Nat.le_of_ble_eq_true rfl) ?_
  intro p e s m args below meth c_ Q hx hb hml hown hts hK hP hS hG hr hq hlocks ls hl
  replace hl : lv_has ls 2 [(0, .ref (sV i)), (1, .int (nI j))] := hl
  change s.vm.findClass RJ1 = some m.cls at hown
  refine lv_iload_n hx hb dJ1_charAt_3b067_0 rfl (lv_at hl 1 rfl) ?_
  refine lv_aload_n hx hb dJ1_charAt_3b067_1 rfl (lv_at hl 0 rfl) ?_
  refine va_tlen (v := nI (kL i)) hx hb (hG.2.2.2.2.2.2.2.1.1 i (by omega)).2.2.2 hS rfl dJ1_charAt_3b067_2 ?_
  refine ro_S (rest := []) (st1 := []) (As := [.int (nI j), .int (nI (kL i))]) ⟨hx, hb, hml, hown, hts⟩ GdK hG hS hK (c_J0_checkIndex_df160 l D k kz ke sK sV j (kL i) (by omega) (by have := kL_le i (by omega); omega)) mi_J0_checkIndex_df160 wd_2_36 wd_2_35 ⟨Nat.le_of_ble_eq_true rfl, Nat.le_of_ble_eq_true rfl⟩ (fun k9 q9 h9 => by simp at h9) rfl hl.1 rfl (Nat.le_of_ble_eq_true rfl) rfl ⟨Nat.le_of_ble_eq_true rfl, Nat.le_of_ble_eq_true rfl⟩ dJ1_charAt_3b067_3 ?_
  refine lv_aload_n hx hb dJ1_charAt_3b067_6 rfl (lv_at hl 0 rfl) ?_
  refine lv_iload_n hx hb dJ1_charAt_3b067_7 rfl (lv_at hl 1 rfl) ?_
  refine va_tb (v := .int (kB i j)) hx hb (hG.2.2.2.2.2.2.2.1.1 i (by omega)).2.2.2 hS (vp_in_nI (show j < kL i by omega) (by have := kL_le i (by omega); show kL i < 2 ^ 31; omega)) (by show Value.int (kB i (nI j).toNatClampNeg) = _; rw [nI_clamp (by have := kL_le i (by omega); omega)]) dJ1_charAt_3b067_8 ?_
  refine lv_sipush (v := 255) hx hb dJ1_charAt_3b067_9 (by decide) ?_
  refine lv_iand hx hb dJ1_charAt_3b067_12 ?_
  refine lv_i2c (v := (((kB i j) &&& 255).toUInt32 % 65536).toInt32) hx hb dJ1_charAt_3b067_13 rfl ?_
  refine rw_topi (y := kB i j) ((kB_ok i (by omega) j hj).2.1) ?_
  exact ro_t hx hb hr hlocks hq ((kB_ok i (by omega) j hj).2.2) dJ1_charAt_3b067_14 (rfl)
set_option maxHeartbeats 4000000 in
set_option maxRecDepth 100000 in
theorem c_J0_charAt_5068e (l : Launch) (D : va_G) (k : Nat → ClassId) (kz : Nat) (ke sK sV : Nat → Nat) (i j : Nat) (hi : i < 9) (hj : j < kL i) : Ro l yJ0_charAt_5068e cJ0_charAt_5068e 2 (some .char) 3 D (TY k) (GK kz ke sK sV) [.ref (sK i), .int (nI j)] ([]) (some (.int (kB i j))) := by
  refine ro_body (by decide +kernel) (Nat.le_of_ble_eq_true rfl) ?_
  intro p e s m args below meth c_ Q hx hb hml hown hts hK hP hS hG hr hq hlocks ls hl
  replace hl : lv_has ls 2 [(0, .ref (sK i)), (1, .int (nI j))] := hl
  change s.vm.findClass RJ0 = some m.cls at hown
  refine lv_aload_n hx hb dJ0_charAt_5068e_0 rfl (lv_at hl 0 rfl) ?_
  refine ro_Vr (vk_recv hG.2.2.2.2.2.2.2.1 (by omega) hS) (rest := []) (st1 := [.int 1]) (As := []) ⟨hx, hb, hml, hown, hts⟩ GdK hG hS hK (c_J0_isLatin1_aae02 l D k kz ke sK sV i (by omega)) mi_J0_isLatin1_aae02 wd_2_29 wd_2_30 wd_2_28 ⟨Nat.le_of_ble_eq_true rfl, Nat.le_of_ble_eq_true rfl⟩ (fun k9 q9 h9 => by simp at h9) rfl hl.1 rfl (Nat.le_of_ble_eq_true rfl) rfl ⟨Nat.le_of_ble_eq_true rfl, Nat.le_of_ble_eq_true rfl⟩ dJ0_charAt_5068e_1 ?_
  refine lv_if_eq (tgt := 16) hx hb dJ0_charAt_5068e_4 (by decide) (fun c4 => absurd c4 (by decide)) (fun c4 => ?_)
  refine lv_aload_n hx hb dJ0_charAt_5068e_7 rfl (lv_at hl 0 rfl) ?_
  refine vk_getf hx hb (hG.2.2.2.2.2.2.2.1.1 i (by omega)).2.2.1 hS hown (hts _ wd_6_78) (fun _ h9 => h9) dJ0_charAt_5068e_8 ?_
  refine lv_iload_n hx hb dJ0_charAt_5068e_11 rfl (lv_at hl 1 rfl) ?_
  refine ro_S (rest := []) (st1 := [.int (kB i j)]) (As := [.ref (sV i), .int (nI j)]) ⟨hx, hb, hml, hown, hts⟩ GdK hG hS hK (c_J1_charAt_3b067 l D k kz ke sK sV i j (by omega) (by omega)) mi_J1_charAt_3b067 wd_2_33 wd_2_32 ⟨Nat.le_of_ble_eq_true rfl, Nat.le_of_ble_eq_true rfl⟩ (fun k9 q9 h9 => by simp at h9) rfl hl.1 rfl (Nat.le_of_ble_eq_true rfl) rfl ⟨Nat.le_of_ble_eq_true rfl, Nat.le_of_ble_eq_true rfl⟩ dJ0_charAt_5068e_12 ?_
  exact ro_t hx hb hr hlocks hq ((kB_ok i (by omega) j hj).2.2) dJ0_charAt_5068e_15 (rfl)
