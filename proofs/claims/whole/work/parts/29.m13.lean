set_option maxHeartbeats 4000000 in
set_option maxRecDepth 100000 in
theorem c_X9_readRules (l : Launch) (D : va_G) (h : Nat) (q : Nat → Nat) (k : Nat → ClassId) (c : Nat → Nat) (v : Nat → Int32) (nm : Int64) (a : Nat → Nat → Int32) (hs : c 10 ≤ 320) : Fs (S := Int32 × MSt) l yX9_readRules cX9_readRules 3 (some .boolean) 2 0 0 D (TY k) G0 [.ref h] (Mw h q k c v nm a) (fun u => some (.int u.1)) (fun u => u = mRead (c, v, nm, a)) (fun u => MwU h q k u.2) := by
  refine fs_body (by decide +kernel) (Nat.le_of_ble_eq_true rfl) ?_
  intro p e s m args below meth c_ Q A hx hb hml hown hts hK hP hD hS hA hG hin hr hq hlocks ls hl
  replace hl : lv_has ls 3 [(0, .ref h)] := hl
  change s.vm.findClass RX9 = some m.cls at hown
  have L : ∀ (r : Nat) (w : Int32) (c1 : Nat → Nat) (v1 : Nat → Int32) (nm1 : Int64) (a1 : Nat → Nat → Int32) (H : Heap) (locs : List Loc), c1 10 = c 10 → c1 11 ≤ c 10 → c 10 - c1 11 < r → rdLoop r w (c1, v1, nm1, a1) = mRead (c, v, nm, a) → va_P D vwCl (Mw h q k c1 v1 nm1 a1) H → va_D A (Mw h q k c1 v1 nm1 a1) → va_S A s.heap H locs → ∀ (ls : Array Slot), lv_has ls 3 [(0, .ref h), (1, .int w)] → W p l e (rmd 2 0 0) s m args below meth c_ H locs 0 0 Q (F0 m 42 ls []) := by
    intro r
    induction r with
    | zero =>
      intro w c1 v1 nm1 a1 H locs h1 h2 h3
      exact absurd h3 (Nat.not_lt_zero _)
    | succ r ih =>
      intro w c1 v1 nm1 a1 H locs h1 h2 h3 he hP hD hS ls hl
      refine lv_aload_n hx hb dX9_readRules_42 rfl (lv_at hl 0 rfl) ?_
      refine mg_13 (x := v1 13) hx hb hts hown hK hP rfl dX9_readRules_43 ?_
      refine lv_if_eq (tgt := 181) hx hb dX9_readRules_46 (by decide) (fun c46 => ?_) (fun c46 => ?_)
      · refine lv_iconst (v := 1) hx hb dX9_readRules_181 (by decide) ?_
        exact fs_z hx hb hr hlocks hq (1, (c1, v1, nm1, a1)) (by
                have e9 : rdStep w (c1, v1, nm1, a1) = .inl (1, (c1, v1, nm1, a1)) := by
                  rw [rdStep, if_pos c46]
                rw [← he]; exact (rdLoop_l e9).symm) hP hD hS (rfl) dX9_readRules_182 rfl
      · refine lv_aload_n hx hb dX9_readRules_49 rfl (lv_at hl 0 rfl) ?_
        refine ro_V (rest := []) (st1 := [.int (oI (ruleAt (c1, v1, nm1, a1)))]) (As := []) ⟨hx, hb, hml, hown, hts⟩ Gd0 trivial hS hK (c_X9_ruleAtHand l D h q k c1 v1 nm1 a1  ) mi_X9_ruleAtHand wd_5_141 wp_2_14 wd_5_139 ⟨Nat.le_of_ble_eq_true rfl, Nat.le_of_ble_eq_true rfl⟩ (hP) 0 rfl rfl rfl hl.1 rfl (Nat.le_of_ble_eq_true rfl) rfl ⟨Nat.le_of_ble_eq_true rfl, Nat.le_of_ble_eq_true rfl⟩ dX9_readRules_50 ?_
        refine lv_istore_n (lv' := [(2, .int (oI (ruleAt (c1, v1, nm1, a1)))), (0, .ref h), (1, .int w)]) hx hb dX9_readRules_53 rfl hl (by decide) rfl (fun ls hl => ?_)
        refine lv_iload_n hx hb dX9_readRules_54 rfl (lv_at hl 0 rfl) ?_
        refine lv_iconst (v := (-1)) hx hb dX9_readRules_55 (by decide) ?_
        refine lv_icmp_ne (tgt := 65) hx hb dX9_readRules_56 (by decide) (fun c56 => ?_) (fun c56 => ?_)
        · obtain ⟨j, ej, eo⟩ := oI_some c56
          have hj9 := ruleAt_lt ej
          refine lv_iload_n hx hb dX9_readRules_65 rfl (lv_at hl 2 rfl) ?_
          refine lv_iload_n hx hb dX9_readRules_66 rfl (lv_at hl 0 rfl) ?_
          refine rw_topi (y := nI j) (eo) ?_
          refine lv_ishr hx hb dX9_readRules_67 ?_
          refine lv_iconst (v := 1) hx hb dX9_readRules_68 (by decide) ?_
          refine lv_iand hx hb dX9_readRules_69 ?_
          refine lv_iconst (v := 1) hx hb dX9_readRules_70 (by decide) ?_
          refine lv_icmp_ne (tgt := 80) hx hb dX9_readRules_71 (by decide) (fun c71 => ?_) (fun c71 => ?_)
          · refine lv_aload_n hx hb dX9_readRules_80 rfl (lv_at hl 1 rfl) ?_
            refine fs_Vw (rest := []) (As := []) ⟨hx, hb, hml, hown, hts⟩ Gd0 trivial hS hA hK (hP) (hD) (c_X9_go l D h q k c1 v1 nm1 a1 (by show c1 10 ≤ 320; omega) (by show c1 11 ≤ c1 10; omega)) mi_X9_go wd_5_124 wp_2_12 wd_5_122 ⟨Nat.le_of_ble_eq_true rfl, Nat.le_of_ble_eq_true rfl⟩ 0 rfl rfl rfl hl.1 rfl (Nat.le_of_ble_eq_true rfl) ⟨Nat.le_of_ble_eq_true rfl, Nat.le_of_ble_eq_true rfl⟩ dX9_readRules_81 (fun u_1 H locs hu_2 hP hD hS => ?_)
            obtain ⟨c2, v2, nm2, a2⟩ := u_1
            replace hu_2 : (c2, v2, nm2, a2) = mGo (c1, v1, nm1, a1) := hu_2
            have hb2 := mGo_bd (u := (c1, v1, nm1, a1)) (by show c1 11 ≤ c1 10; omega)
            rw [← hu_2] at hb2
            replace hb2 : c2 10 = c1 10 ∧ c1 11 ≤ c2 11 ∧ c2 11 ≤ c1 10 ∧ (v2 13 = 4 → c1 11 < c2 11) ∧ a2 = a1 := hb2
            obtain ⟨hx2, hy2, hz2, hq2, ha2⟩ := hb2
            replace hP : va_P D vwCl (Mw h q k c2 v2 nm2 a2) H := hP
            replace hD : va_D A (Mw h q k c2 v2 nm2 a2) := hD
            refine W.eq (g2 := F0 m 84 ls []) rfl ?_
            refine lv_aload_n hx hb dX9_readRules_84 rfl (lv_at hl 1 rfl) ?_
            refine mg_13 (x := v2 13) hx hb hts hown hK hP rfl dX9_readRules_85 ?_
            refine lv_iconst (v := 3) hx hb dX9_readRules_88 (by decide) ?_
            refine lv_icmp_eq (tgt := 98) hx hb dX9_readRules_89 (by decide) (fun c89 => ?_) (fun c89 => ?_)
            · refine lv_aload_n hx hb dX9_readRules_98 rfl (lv_at hl 1 rfl) ?_
              refine mg_14 (x := v2 14) hx hb hts hown hK hP rfl dX9_readRules_99 ?_
              refine lv_aload_n hx hb dX9_readRules_102 rfl (lv_at hl 1 rfl) ?_
              refine mg_5 hx hb hts hown hK hP dX9_readRules_103 ?_
              refine lv_iload_n hx hb dX9_readRules_106 rfl (lv_at hl 0 rfl) ?_
              refine rw_topi (y := nI j) (eo) ?_
              refine ml_5 (x := (a2 5) j) hx hb hK hP j rfl (by omega) rfl dX9_readRules_107 ?_
              refine lv_icmp_lt (tgt := 124) hx hb dX9_readRules_108 (by decide) (fun c108 => ?_) (fun c108 => ?_)
              · refine lv_aload_n hx hb dX9_readRules_124 rfl (lv_at hl 1 rfl) ?_
                refine lv_iconst (v := 2) hx hb dX9_readRules_125 (by decide) ?_
                refine fs_Vw (rest := []) (As := [.int 2]) ⟨hx, hb, hml, hown, hts⟩ Gd0 trivial hS hA hK (hP) (hD) (c_X9_bad l D h q k c2 v2 nm2 a2 2 ) mi_X9_bad wd_5_151 wp_2_15 wd_5_149 ⟨Nat.le_of_ble_eq_true rfl, Nat.le_of_ble_eq_true rfl⟩ 0 rfl rfl rfl hl.1 rfl (Nat.le_of_ble_eq_true rfl) ⟨Nat.le_of_ble_eq_true rfl, Nat.le_of_ble_eq_true rfl⟩ dX9_readRules_126 (fun u_3 H locs hu_4 hP hD hS => ?_)
                subst hu_4
                replace hP : va_P D vwCl (Mw h q k (up c2 9 (c2 12)) (up v2 8 (if v2 13 = 1 then 1 else 2)) nm2 a2) H := hP
                replace hD : va_D A (Mw h q k (up c2 9 (c2 12)) (up v2 8 (if v2 13 = 1 then 1 else 2)) nm2 a2) := hD
                refine W.eq (g2 := F0 m 129 ls [.int 0]) rfl ?_
                exact fs_z hx hb hr hlocks hq (0, (up c2 9 (c2 12), up v2 8 (if v2 13 = 1 then 1 else 2), nm2, a2)) (by
                have e9 : rdStep w (c1, v1, nm1, a1) = .inl (0, (up c2 9 (c2 12), up v2 8 (if v2 13 = 1 then 1 else 2), nm2, a2)) := by
                  rw [rdStep, if_neg c46]
                  simp only [ej]
                  rw [if_neg c71, ← hu_2, rd2, if_pos c89]
                  rw [if_pos c108]
                  try rfl
                rw [← he]; exact (rdLoop_l e9).symm) hP hD hS (rfl) dX9_readRules_129 rfl
              · refine lv_aload_n hx hb dX9_readRules_111 rfl (lv_at hl 1 rfl) ?_
                refine mg_14 (x := v2 14) hx hb hts hown hK hP rfl dX9_readRules_112 ?_
                refine lv_aload_n hx hb dX9_readRules_115 rfl (lv_at hl 1 rfl) ?_
                refine mg_6 hx hb hts hown hK hP dX9_readRules_116 ?_
                refine lv_iload_n hx hb dX9_readRules_119 rfl (lv_at hl 0 rfl) ?_
                refine rw_topi (y := nI j) (eo) ?_
                refine ml_6 (x := (a2 6) j) hx hb hK hP j rfl (by omega) rfl dX9_readRules_120 ?_
                refine lv_icmp_le (tgt := 130) hx hb dX9_readRules_121 (by decide) (fun c121 => ?_) (fun c121 => ?_)
                · refine lv_aload_n hx hb dX9_readRules_130 rfl (lv_at hl 1 rfl) ?_
                  refine mg_7 hx hb hts hown hK hP dX9_readRules_131 ?_
                  refine lv_iload_n hx hb dX9_readRules_134 rfl (lv_at hl 0 rfl) ?_
                  refine rw_topi (y := nI j) (eo) ?_
                  refine lv_aload_n hx hb dX9_readRules_135 rfl (lv_at hl 1 rfl) ?_
                  refine mg_14 (x := v2 14) hx hb hts hown hK hP rfl dX9_readRules_136 ?_
                  refine mt_7 (f := a2 7) hx hb hK hP hD hS j rfl (by omega) rfl dX9_readRules_139 (fun H locs hP hD hS => ?_)
                  refine lv_aload_n hx hb dX9_readRules_140 rfl (lv_at hl 1 rfl) ?_
                  refine fs_Vw (rest := []) (As := []) ⟨hx, hb, hml, hown, hts⟩ Gd0 trivial hS hA hK (hP) (hD) (c_X9_go l D h q k c2 v2 nm2 (up a2 7 (upd (a2 7) j (v2 14))) (by show c2 10 ≤ 320; omega) (by show c2 11 ≤ c2 10; omega)) mi_X9_go wd_5_124 wp_2_12 wd_5_122 ⟨Nat.le_of_ble_eq_true rfl, Nat.le_of_ble_eq_true rfl⟩ 0 rfl rfl rfl hl.1 rfl (Nat.le_of_ble_eq_true rfl) ⟨Nat.le_of_ble_eq_true rfl, Nat.le_of_ble_eq_true rfl⟩ dX9_readRules_141 (fun u_5 H locs hu_6 hP hD hS => ?_)
                  obtain ⟨c3, v3, nm3, a3⟩ := u_5
                  replace hu_6 : (c3, v3, nm3, a3) = mGo (c2, v2, nm2, up a2 7 (upd (a2 7) j (v2 14))) := hu_6
                  have hb3 := mGo_bd (u := (c2, v2, nm2, up a2 7 (upd (a2 7) j (v2 14)))) (by show c2 11 ≤ c2 10; omega)
                  rw [← hu_6] at hb3
                  replace hb3 : c3 10 = c2 10 ∧ c2 11 ≤ c3 11 ∧ c3 11 ≤ c2 10 ∧ (v3 13 = 4 → c2 11 < c3 11) ∧ a3 = (up a2 7 (upd (a2 7) j (v2 14))) := hb3
                  obtain ⟨hx3, hy3, hz3, hq3, ha3⟩ := hb3
                  replace hP : va_P D vwCl (Mw h q k c3 v3 nm3 a3) H := hP
                  replace hD : va_D A (Mw h q k c3 v3 nm3 a3) := hD
                  refine W.eq (g2 := F0 m 144 ls []) rfl ?_
                  refine lv_aload_n hx hb dX9_readRules_144 rfl (lv_at hl 1 rfl) ?_
                  refine mg_13 (x := v3 13) hx hb hts hown hK hP rfl dX9_readRules_145 ?_
                  refine lv_iconst (v := 4) hx hb dX9_readRules_148 (by decide) ?_
                  refine lv_icmp_eq (tgt := 158) hx hb dX9_readRules_149 (by decide) (fun c149 => ?_) (fun c149 => ?_)
                  · refine lv_iload_n hx hb dX9_readRules_158 rfl (lv_at hl 2 rfl) ?_
                    refine lv_iconst (v := 1) hx hb dX9_readRules_159 (by decide) ?_
                    refine lv_iload_n hx hb dX9_readRules_160 rfl (lv_at hl 0 rfl) ?_
                    refine rw_topi (y := nI j) (eo) ?_
                    refine lv_ishl hx hb dX9_readRules_161 ?_
                    refine lv_ior hx hb dX9_readRules_162 ?_
                    refine lv_istore_n (lv' := [(1, .int (w ||| (1 <<< ((nI j) &&& 31)))), (2, .int (oI (ruleAt (c1, v1, nm1, a1)))), (0, .ref h)]) hx hb dX9_readRules_163 rfl hl (by decide) rfl (fun ls hl => ?_)
                    refine lv_aload_n hx hb dX9_readRules_164 rfl (lv_at hl 2 rfl) ?_
                    refine lv_dup hx hb dX9_readRules_165 rfl ?_
                    refine mg_16 (x := nI (c3 16)) hx hb hts hown hK hP rfl dX9_readRules_166 ?_
                    refine lv_iconst (v := 1) hx hb dX9_readRules_169 (by decide) ?_
                    refine lv_iadd hx hb dX9_readRules_170 ?_
                    refine rw_topi (y := nI ((c3 16) + 1)) (nI_add _ _) ?_
                    refine mp_16 hx hb hts hown hK hP hD hS ((c3 16) + 1) rfl dX9_readRules_171 (fun H locs hP hD hS => ?_)
                    refine lv_aload_n hx hb dX9_readRules_174 rfl (lv_at hl 2 rfl) ?_
                    refine fs_Vw (rest := []) (As := []) ⟨hx, hb, hml, hown, hts⟩ Gd0 trivial hS hA hK (hP) (hD) (c_X9_go l D h q k (up c3 16 ((c3 16) + 1)) v3 nm3 a3 (by show c3 10 ≤ 320; omega) (by show c3 11 ≤ c3 10; omega)) mi_X9_go wd_5_124 wp_2_12 wd_5_122 ⟨Nat.le_of_ble_eq_true rfl, Nat.le_of_ble_eq_true rfl⟩ 0 rfl rfl rfl hl.1 rfl (Nat.le_of_ble_eq_true rfl) ⟨Nat.le_of_ble_eq_true rfl, Nat.le_of_ble_eq_true rfl⟩ dX9_readRules_175 (fun u_7 H locs hu_8 hP hD hS => ?_)
                    obtain ⟨c4, v4, nm4, a4⟩ := u_7
                    replace hu_8 : (c4, v4, nm4, a4) = mGo (up c3 16 ((c3 16) + 1), v3, nm3, a3) := hu_8
                    have hb4 := mGo_bd (u := (up c3 16 ((c3 16) + 1), v3, nm3, a3)) (by show c3 11 ≤ c3 10; omega)
                    rw [← hu_8] at hb4
                    replace hb4 : c4 10 = c3 10 ∧ c3 11 ≤ c4 11 ∧ c4 11 ≤ c3 10 ∧ (v4 13 = 4 → c3 11 < c4 11) ∧ a4 = a3 := hb4
                    obtain ⟨hx4, hy4, hz4, hq4, ha4⟩ := hb4
                    replace hP : va_P D vwCl (Mw h q k c4 v4 nm4 a4) H := hP
                    replace hD : va_D A (Mw h q k c4 v4 nm4 a4) := hD
                    refine W.eq (g2 := F0 m 178 ls []) rfl ?_
                    refine lv_goto (tgt := 42) hx hb dX9_readRules_178 (by decide) ?_
                    have e9 : rdStep w (c1, v1, nm1, a1) = .inr (w ||| (1 <<< ((nI j) &&& 31)), (c4, v4, nm4, a4)) := by
                      rw [rdStep, if_neg c46]
                      simp only [ej]
                      rw [if_neg c71, ← hu_2, rd2, if_pos c89]
                      rw [if_neg c108, if_pos c121]
                      rw [← hu_6, rd3, if_pos c149]
                      rw [← hu_8]
                    exact ih (w ||| (1 <<< ((nI j) &&& 31))) c4 v4 nm4 a4 H locs (by omega) (by omega) (by have := hq3 c149; omega) (by rw [← he]; exact (rdLoop_r e9).symm) hP hD hS ls (lv_sub hl [2, 0] rfl)
                  · refine lv_aload_n hx hb dX9_readRules_152 rfl (lv_at hl 1 rfl) ?_
                    refine lv_iconst (v := 1) hx hb dX9_readRules_153 (by decide) ?_
                    refine fs_Vw (rest := []) (As := [.int 1]) ⟨hx, hb, hml, hown, hts⟩ Gd0 trivial hS hA hK (hP) (hD) (c_X9_bad l D h q k c3 v3 nm3 a3 1 ) mi_X9_bad wd_5_151 wp_2_15 wd_5_149 ⟨Nat.le_of_ble_eq_true rfl, Nat.le_of_ble_eq_true rfl⟩ 0 rfl rfl rfl hl.1 rfl (Nat.le_of_ble_eq_true rfl) ⟨Nat.le_of_ble_eq_true rfl, Nat.le_of_ble_eq_true rfl⟩ dX9_readRules_154 (fun u_9 H locs hu_10 hP hD hS => ?_)
                    subst hu_10
                    replace hP : va_P D vwCl (Mw h q k (up c3 9 (c3 12)) (up v3 8 (if v3 13 = 1 then 1 else 1)) nm3 a3) H := hP
                    replace hD : va_D A (Mw h q k (up c3 9 (c3 12)) (up v3 8 (if v3 13 = 1 then 1 else 1)) nm3 a3) := hD
                    refine W.eq (g2 := F0 m 157 ls [.int 0]) rfl ?_
                    exact fs_z hx hb hr hlocks hq (0, (up c3 9 (c3 12), up v3 8 (if v3 13 = 1 then 1 else 1), nm3, a3)) (by
                have e9 : rdStep w (c1, v1, nm1, a1) = .inl (0, (up c3 9 (c3 12), up v3 8 (if v3 13 = 1 then 1 else 1), nm3, a3)) := by
                  rw [rdStep, if_neg c46]
                  simp only [ej]
                  rw [if_neg c71, ← hu_2, rd2, if_pos c89]
                  rw [if_neg c108, if_pos c121]
                  rw [← hu_6, rd3, if_neg c149]
                  try rfl
                rw [← he]; exact (rdLoop_l e9).symm) hP hD hS (rfl) dX9_readRules_157 rfl
                · refine lv_aload_n hx hb dX9_readRules_124 rfl (lv_at hl 1 rfl) ?_
                  refine lv_iconst (v := 2) hx hb dX9_readRules_125 (by decide) ?_
                  refine fs_Vw (rest := []) (As := [.int 2]) ⟨hx, hb, hml, hown, hts⟩ Gd0 trivial hS hA hK (hP) (hD) (c_X9_bad l D h q k c2 v2 nm2 a2 2 ) mi_X9_bad wd_5_151 wp_2_15 wd_5_149 ⟨Nat.le_of_ble_eq_true rfl, Nat.le_of_ble_eq_true rfl⟩ 0 rfl rfl rfl hl.1 rfl (Nat.le_of_ble_eq_true rfl) ⟨Nat.le_of_ble_eq_true rfl, Nat.le_of_ble_eq_true rfl⟩ dX9_readRules_126 (fun u_11 H locs hu_12 hP hD hS => ?_)
                  subst hu_12
                  replace hP : va_P D vwCl (Mw h q k (up c2 9 (c2 12)) (up v2 8 (if v2 13 = 1 then 1 else 2)) nm2 a2) H := hP
                  replace hD : va_D A (Mw h q k (up c2 9 (c2 12)) (up v2 8 (if v2 13 = 1 then 1 else 2)) nm2 a2) := hD
                  refine W.eq (g2 := F0 m 129 ls [.int 0]) rfl ?_
                  exact fs_z hx hb hr hlocks hq (0, (up c2 9 (c2 12), up v2 8 (if v2 13 = 1 then 1 else 2), nm2, a2)) (by
                have e9 : rdStep w (c1, v1, nm1, a1) = .inl (0, (up c2 9 (c2 12), up v2 8 (if v2 13 = 1 then 1 else 2), nm2, a2)) := by
                  rw [rdStep, if_neg c46]
                  simp only [ej]
                  rw [if_neg c71, ← hu_2, rd2, if_pos c89]
                  rw [if_neg c108, if_neg c121]
                  try rfl
                rw [← he]; exact (rdLoop_l e9).symm) hP hD hS (rfl) dX9_readRules_129 rfl
            · refine lv_aload_n hx hb dX9_readRules_92 rfl (lv_at hl 1 rfl) ?_
              refine lv_iconst (v := 1) hx hb dX9_readRules_93 (by decide) ?_
              refine fs_Vw (rest := []) (As := [.int 1]) ⟨hx, hb, hml, hown, hts⟩ Gd0 trivial hS hA hK (hP) (hD) (c_X9_bad l D h q k c2 v2 nm2 a2 1 ) mi_X9_bad wd_5_151 wp_2_15 wd_5_149 ⟨Nat.le_of_ble_eq_true rfl, Nat.le_of_ble_eq_true rfl⟩ 0 rfl rfl rfl hl.1 rfl (Nat.le_of_ble_eq_true rfl) ⟨Nat.le_of_ble_eq_true rfl, Nat.le_of_ble_eq_true rfl⟩ dX9_readRules_94 (fun u_13 H locs hu_14 hP hD hS => ?_)
              subst hu_14
              replace hP : va_P D vwCl (Mw h q k (up c2 9 (c2 12)) (up v2 8 (if v2 13 = 1 then 1 else 1)) nm2 a2) H := hP
              replace hD : va_D A (Mw h q k (up c2 9 (c2 12)) (up v2 8 (if v2 13 = 1 then 1 else 1)) nm2 a2) := hD
              refine W.eq (g2 := F0 m 97 ls [.int 0]) rfl ?_
              exact fs_z hx hb hr hlocks hq (0, (up c2 9 (c2 12), up v2 8 (if v2 13 = 1 then 1 else 1), nm2, a2)) (by
                have e9 : rdStep w (c1, v1, nm1, a1) = .inl (0, (up c2 9 (c2 12), up v2 8 (if v2 13 = 1 then 1 else 1), nm2, a2)) := by
                  rw [rdStep, if_neg c46]
                  simp only [ej]
                  rw [if_neg c71, ← hu_2, rd2, if_neg c89]
                  try rfl
                rw [← he]; exact (rdLoop_l e9).symm) hP hD hS (rfl) dX9_readRules_97 rfl
          · refine lv_aload_n hx hb dX9_readRules_74 rfl (lv_at hl 1 rfl) ?_
            refine lv_iconst (v := 3) hx hb dX9_readRules_75 (by decide) ?_
            refine fs_Vw (rest := []) (As := [.int 3]) ⟨hx, hb, hml, hown, hts⟩ Gd0 trivial hS hA hK (hP) (hD) (c_X9_bad l D h q k c1 v1 nm1 a1 3 ) mi_X9_bad wd_5_151 wp_2_15 wd_5_149 ⟨Nat.le_of_ble_eq_true rfl, Nat.le_of_ble_eq_true rfl⟩ 0 rfl rfl rfl hl.1 rfl (Nat.le_of_ble_eq_true rfl) ⟨Nat.le_of_ble_eq_true rfl, Nat.le_of_ble_eq_true rfl⟩ dX9_readRules_76 (fun u_15 H locs hu_16 hP hD hS => ?_)
            subst hu_16
            replace hP : va_P D vwCl (Mw h q k (up c1 9 (c1 12)) (up v1 8 (if v1 13 = 1 then 1 else 3)) nm1 a1) H := hP
            replace hD : va_D A (Mw h q k (up c1 9 (c1 12)) (up v1 8 (if v1 13 = 1 then 1 else 3)) nm1 a1) := hD
            refine W.eq (g2 := F0 m 79 ls [.int 0]) rfl ?_
            exact fs_z hx hb hr hlocks hq (0, (up c1 9 (c1 12), up v1 8 (if v1 13 = 1 then 1 else 3), nm1, a1)) (by
                have e9 : rdStep w (c1, v1, nm1, a1) = .inl (0, (up c1 9 (c1 12), up v1 8 (if v1 13 = 1 then 1 else 3), nm1, a1)) := by
                  rw [rdStep, if_neg c46]
                  simp only [ej]
                  rw [if_pos c71]
                  try rfl
                rw [← he]; exact (rdLoop_l e9).symm) hP hD hS (rfl) dX9_readRules_79 rfl
        · have en := oI_none c56 (fun j hj => by have := ruleAt_lt hj; omega)
          refine lv_aload_n hx hb dX9_readRules_59 rfl (lv_at hl 1 rfl) ?_
          refine lv_iconst (v := 1) hx hb dX9_readRules_60 (by decide) ?_
          refine fs_Vw (rest := []) (As := [.int 1]) ⟨hx, hb, hml, hown, hts⟩ Gd0 trivial hS hA hK (hP) (hD) (c_X9_bad l D h q k c1 v1 nm1 a1 1 ) mi_X9_bad wd_5_151 wp_2_15 wd_5_149 ⟨Nat.le_of_ble_eq_true rfl, Nat.le_of_ble_eq_true rfl⟩ 0 rfl rfl rfl hl.1 rfl (Nat.le_of_ble_eq_true rfl) ⟨Nat.le_of_ble_eq_true rfl, Nat.le_of_ble_eq_true rfl⟩ dX9_readRules_61 (fun u_17 H locs hu_18 hP hD hS => ?_)
          subst hu_18
          replace hP : va_P D vwCl (Mw h q k (up c1 9 (c1 12)) (up v1 8 (if v1 13 = 1 then 1 else 1)) nm1 a1) H := hP
          replace hD : va_D A (Mw h q k (up c1 9 (c1 12)) (up v1 8 (if v1 13 = 1 then 1 else 1)) nm1 a1) := hD
          refine W.eq (g2 := F0 m 64 ls [.int 0]) rfl ?_
          exact fs_z hx hb hr hlocks hq (0, (up c1 9 (c1 12), up v1 8 (if v1 13 = 1 then 1 else 1), nm1, a1)) (by
                have e9 : rdStep w (c1, v1, nm1, a1) = .inl (0, (up c1 9 (c1 12), up v1 8 (if v1 13 = 1 then 1 else 1), nm1, a1)) := by
                  rw [rdStep, if_neg c46]
                  simp only [en]
                  try rfl
                rw [← he]; exact (rdLoop_l e9).symm) hP hD hS (rfl) dX9_readRules_64 rfl
  have LU : ∀ (r i : Nat) (f : Nat → Int32) (H : Heap) (locs : List Loc), i + r = 9 → lp (fun k f => upd f k (a 4 k)) r i f = rdUsual (a 4) (a 7) → va_P D vwCl (Mw h q k (up c 16 0) v nm (up a 7 f)) H → va_D A (Mw h q k (up c 16 0) v nm (up a 7 f)) → va_S A s.heap H locs → ∀ (ls : Array Slot), lv_has ls 3 [(0, .ref h), (1, .int 0), (2, .int (nI i))] → W p l e (rmd 2 0 0) s m args below meth c_ H locs 0 0 Q (F0 m 9 ls []) := by
    intro r
    induction r with
    | zero =>
      intro i f H locs hi he hP hD hS ls hl
      refine lv_iload_n hx hb dX9_readRules_9 rfl (lv_at hl 2 rfl) ?_
      refine lv_bipush (v := 9) hx hb dX9_readRules_10 (by decide) ?_
      refine lv_icmp_ge (tgt := 33) hx hb dX9_readRules_12 (by decide) (fun c12 => ?_) (fun c12 => absurd (nI_le (a := 9) (by omega) (by omega)) c12)
      rw [show f = rdUsual (a 4) (a 7) from he] at hP hD
      refine lv_aload_n hx hb dX9_readRules_33 rfl (lv_at hl 0 rfl) ?_
      refine lv_iconst (v := 0) hx hb dX9_readRules_34 (by decide) ?_
      refine mp_11 hx hb hts hown hK hP hD hS 0 rfl dX9_readRules_35 (fun H locs hP hD hS => ?_)
      refine lv_aload_n hx hb dX9_readRules_38 rfl (lv_at hl 0 rfl) ?_
      refine fs_Vw (rest := []) (As := []) ⟨hx, hb, hml, hown, hts⟩ Gd0 trivial hS hA hK (hP) (hD) (c_X9_go l D h q k (up (up c 16 0) 11 0) v nm (up a 7 (rdUsual (a 4) (a 7))) (by show c 10 ≤ 320; omega) (by show 0 ≤ c 10; omega)) mi_X9_go wd_5_124 wp_2_12 wd_5_122 ⟨Nat.le_of_ble_eq_true rfl, Nat.le_of_ble_eq_true rfl⟩ 0 rfl rfl rfl hl.1 rfl (Nat.le_of_ble_eq_true rfl) ⟨Nat.le_of_ble_eq_true rfl, Nat.le_of_ble_eq_true rfl⟩ dX9_readRules_39 (fun u_1 H locs hu_2 hP hD hS => ?_)
      obtain ⟨c2, v2, nm2, a2⟩ := u_1
      replace hu_2 : (c2, v2, nm2, a2) = mGo (up (up c 16 0) 11 0, v, nm, up a 7 (rdUsual (a 4) (a 7))) := hu_2
      have hb2 := mGo_bd (u := (up (up c 16 0) 11 0, v, nm, up a 7 (rdUsual (a 4) (a 7)))) (by show 0 ≤ c 10; omega)
      rw [← hu_2] at hb2
      replace hb2 : c2 10 = c 10 ∧ 0 ≤ c2 11 ∧ c2 11 ≤ c 10 ∧ (v2 13 = 4 → 0 < c2 11) ∧ a2 = (up a 7 (rdUsual (a 4) (a 7))) := hb2
      obtain ⟨hx2, hy2, hz2, hq2, ha2⟩ := hb2
      replace hP : va_P D vwCl (Mw h q k c2 v2 nm2 a2) H := hP
      replace hD : va_D A (Mw h q k c2 v2 nm2 a2) := hD
      refine W.eq (g2 := F0 m 42 ls []) rfl ?_
      exact L (c 10 + 1) 0 c2 v2 nm2 a2 H locs (by omega) (by omega) (by omega) (by rw [hu_2]; rfl) hP hD hS ls (lv_sub hl [0, 1] rfl)
    | succ r ih =>
      intro i f H locs hi he hP hD hS ls hl
      refine lv_iload_n hx hb dX9_readRules_9 rfl (lv_at hl 2 rfl) ?_
      refine lv_bipush (v := 9) hx hb dX9_readRules_10 (by decide) ?_
      refine lv_icmp_ge (tgt := 33) hx hb dX9_readRules_12 (by decide) (fun c12 => absurd c12 (nI_ge (b := 9) (by omega) (by omega))) (fun c12 => ?_)
      refine lv_aload_n hx hb dX9_readRules_15 rfl (lv_at hl 0 rfl) ?_
      refine mg_7 hx hb hts hown hK hP dX9_readRules_16 ?_
      refine lv_iload_n hx hb dX9_readRules_19 rfl (lv_at hl 2 rfl) ?_
      refine lv_aload_n hx hb dX9_readRules_20 rfl (lv_at hl 0 rfl) ?_
      refine mg_4 hx hb hts hown hK hP dX9_readRules_21 ?_
      refine lv_iload_n hx hb dX9_readRules_24 rfl (lv_at hl 2 rfl) ?_
      refine ml_4 (x := (a 4) i) hx hb hK hP i rfl (by omega) rfl dX9_readRules_25 ?_
      refine mt_7 (f := f) hx hb hK hP hD hS i rfl (by omega) rfl dX9_readRules_26 (fun H locs hP hD hS => ?_)
      rw [up_up] at hP hD
      refine lv_iinc (v := nI (i + 1)) (lv' := [(2, .int (nI (i + 1))), (0, .ref h), (1, .int 0)]) hx hb dX9_readRules_27 hl (k := 2) rfl (nI_1 _) (by decide) rfl (fun ls hl => ?_)
      refine lv_goto (tgt := 9) hx hb dX9_readRules_30 (by decide) ?_
      exact ih (i + 1) (upd f i ((a 4) i)) H locs (by omega) (by rw [← he]; rfl) hP hD hS ls (lv_sub hl [1, 2, 0] rfl)
  refine lv_iconst (v := 0) hx hb dX9_readRules_0 (by decide) ?_
  refine lv_istore_n (lv' := [(1, .int 0), (0, .ref h)]) hx hb dX9_readRules_1 rfl hl (by decide) rfl (fun ls hl => ?_)
  refine lv_aload_n hx hb dX9_readRules_2 rfl (lv_at hl 1 rfl) ?_
  refine lv_iconst (v := 0) hx hb dX9_readRules_3 (by decide) ?_
  refine mp_16 hx hb hts hown hK hP hD hS 0 rfl dX9_readRules_4 (fun H locs hP hD hS => ?_)
  refine lv_iconst (v := 0) hx hb dX9_readRules_7 (by decide) ?_
  refine lv_istore_n (lv' := [(2, .int 0), (1, .int 0), (0, .ref h)]) hx hb dX9_readRules_8 rfl hl (by decide) rfl (fun ls hl => ?_)
  exact LU 9 0 (a 7) H locs (by omega) (rfl) hP hD hS ls (lv_sub hl [2, 1, 0] rfl)
