set_option maxHeartbeats 4000000 in
set_option maxRecDepth 100000 in
theorem c_X9_next (l : Launch) (D : va_G) (h : Nat) (q : Nat → Nat) (k : Nat → ClassId) (c : Nat → Nat) (v : Nat → Int32) (nm : Int64) (a : Nat → Nat → Int32) (hn : c 42 ≤ 100) (hwk : c 23 ≤ 400) (sn : Nat → Nat) (hNI : NI (c 42) (c 23) sn (c, v, nm, a)) : Fs (S := Int32 × MSt) l yX9_next cX9_next 4 (some .int) 1 0 0 D (TY k) G0 [.ref h] (Mw h q k c v nm a) (fun u => some (.int u.1)) (fun u => u = mNext sn (c, v, nm, a)) (fun u => MwU h q k u.2) := by
  refine fs_body (by decide +kernel) (Nat.le_of_ble_eq_true rfl) ?_
  intro p e s m args below meth c_ Q A hx hb hml hown hts hK hP hD hS hA hG hin hr hq hlocks ls hl
  replace hl : lv_has ls 4 [(0, .ref h)] := hl
  change s.vm.findClass RX9 = some m.cls at hown
  refine lv_aload_n hx hb dX9_next_0 rfl (lv_at hl 0 rfl) ?_
  refine lv_iconst (v := 0) hx hb dX9_next_1 (by decide) ?_
  refine mp_0 hx hb hts hown hK hP hD hS 0 dX9_next_2 (fun H locs hP hD hS => ?_)
  refine lv_aload_n hx hb dX9_next_5 rfl (lv_at hl 0 rfl) ?_
  refine mg_23 (x := nI (c 23)) hx hb hts hown hK hP rfl dX9_next_6 ?_
  refine lv_sipush (v := 400) hx hb dX9_next_9 (by decide) ?_
  refine lv_icmp_ne (tgt := 17) hx hb dX9_next_12 (by decide) (fun c12 => ?_) (fun c12 => ?_)
  · replace c12 : ¬ ((c 23) = 400) := fun z => c12 ((nI_eq (a := c 23) (b := 400) (by omega) (by omega)).mpr z)
    have L : ∀ (r i : Nat) (c1 : Nat → Nat) (v1 : Nat → Int32) (nm1 : Int64) (a1 : Nat → Nat → Int32) (H : Heap) (locs : List Loc), i + r = c 42 → NI (c 42) (c 23) sn (c1, v1, nm1, a1) → lp (nextStep sn) r i (c1, v1, nm1, a1) = lp (nextStep sn) (c 42) 0 (mT0 (c, v, nm, a)) → va_P D vwCl (Mw h q k c1 v1 nm1 a1) H → va_D A (Mw h q k c1 v1 nm1 a1) → va_S A s.heap H locs → ∀ (ls : Array Slot), lv_has ls 4 [(0, .ref h), (1, .int (nI i))] → W p l e (rmd 1 0 0) s m args below meth c_ H locs 0 0 Q (F0 m 19 ls []) := by
      intro r
      induction r with
      | zero =>
        intro i c1 v1 nm1 a1 H locs hi hNI he hP hD hS ls hl
        obtain ⟨g1, g2, g3, g4, g5, g6⟩ := id hNI
        replace g1 : c1 42 = c 42 := g1
        replace g2 : c1 23 = c 23 := g2
        replace g3 : c1 22 ≤ 6 := g3
        refine lv_iload_n hx hb dX9_next_19 rfl (lv_at hl 1 rfl) ?_
        refine lv_aload_n hx hb dX9_next_20 rfl (lv_at hl 0 rfl) ?_
        refine mg_42 (x := nI (c1 42)) hx hb hts hown hK hP rfl dX9_next_21 ?_
        refine lv_icmp_ge (tgt := 149) hx hb dX9_next_24 (by decide) (fun c24 => ?_) (fun c24 => absurd (nI_le (by omega) (by omega)) c24)
        have L2 : ∀ (r2 j : Nat) (f : Nat → Int32) (H : Heap) (locs : List Loc), j + r2 = 6 → lp (fun f b => upd b (6 * c1 23 + f) (if c1 22 ≤ f then -1 else a1 19 f)) r2 j f = fBook (c1 23) (c1 22) (a1 19) (a1 20) → va_P D vwCl (Mw h q k c1 v1 nm1 (up a1 20 f)) H → va_D A (Mw h q k c1 v1 nm1 (up a1 20 f)) → va_S A s.heap H locs → ∀ (ls : Array Slot), lv_has ls 4 [(0, .ref h), (1, .int (nI j))] → W p l e (rmd 1 0 0) s m args below meth c_ H locs 0 0 Q (F0 m 151 ls []) := by
          intro r2
          induction r2 with
          | zero =>
            intro j f H locs hi2 he2 hP hD hS ls hl
            refine lv_iload_n hx hb dX9_next_151 rfl (lv_at hl 1 rfl) ?_
            refine lv_bipush (v := 6) hx hb dX9_next_152 (by decide) ?_
            refine lv_icmp_ge (tgt := 195) hx hb dX9_next_154 (by decide) (fun c154 => ?_) (fun c154 => absurd (nI_le (a := 6) (by omega) (by omega)) c154)
            refine lv_aload_n hx hb dX9_next_195 rfl (lv_at hl 0 rfl) ?_
            refine lv_dup hx hb dX9_next_196 rfl ?_
            refine mg_23 (x := nI (c1 23)) hx hb hts hown hK hP rfl dX9_next_197 ?_
            refine lv_iconst (v := 1) hx hb dX9_next_200 (by decide) ?_
            refine lv_iadd hx hb dX9_next_201 ?_
            refine rw_topi (y := nI ((c1 23) + 1)) (nI_add _ _) ?_
            refine mp_23 hx hb hts hown hK hP hD hS ((c1 23) + 1) rfl dX9_next_202 (fun H locs hP hD hS => ?_)
            refine lv_aload_n hx hb dX9_next_205 rfl (lv_at hl 0 rfl) ?_
            refine mg_23 (x := nI ((c1 23) + 1)) hx hb hts hown hK hP rfl dX9_next_206 ?_
            exact fs_i hx hb hr hlocks hq (nI ((c1 23) + 1), (up c1 23 ((c1 23) + 1), v1, nm1, up a1 20 f)) (by rw [mNext, if_neg c12, mNextU, ← he, mNextB]; simp only [lp]; rw [← he2]; rfl) hP hD hS dX9_next_209 rfl
          | succ r2 ih2 =>
            intro j f H locs hi2 he2 hP hD hS ls hl
            refine lv_iload_n hx hb dX9_next_151 rfl (lv_at hl 1 rfl) ?_
            refine lv_bipush (v := 6) hx hb dX9_next_152 (by decide) ?_
            refine lv_icmp_ge (tgt := 195) hx hb dX9_next_154 (by decide) (fun c154 => absurd c154 (nI_ge (b := 6) (by omega) (by omega))) (fun c154 => ?_)
            refine lv_aload_n hx hb dX9_next_157 rfl (lv_at hl 0 rfl) ?_
            refine mg_20 hx hb hts hown hK hP dX9_next_158 ?_
            refine lv_bipush (v := 6) hx hb dX9_next_161 (by decide) ?_
            refine lv_aload_n hx hb dX9_next_163 rfl (lv_at hl 0 rfl) ?_
            refine mg_23 (x := nI (c1 23)) hx hb hts hown hK hP rfl dX9_next_164 ?_
            refine lv_imul hx hb dX9_next_167 ?_
            refine rw_topi (y := nI (6 * (c1 23))) (pk_mul _ _) ?_
            refine lv_iload_n hx hb dX9_next_168 rfl (lv_at hl 1 rfl) ?_
            refine lv_iadd hx hb dX9_next_169 ?_
            refine rw_topi (y := nI ((6 * (c1 23)) + j)) (nI_add _ _) ?_
            refine lv_iload_n hx hb dX9_next_170 rfl (lv_at hl 1 rfl) ?_
            refine lv_aload_n hx hb dX9_next_171 rfl (lv_at hl 0 rfl) ?_
            refine mg_22 (x := nI (c1 22)) hx hb hts hown hK hP rfl dX9_next_172 ?_
            refine lv_icmp_ge (tgt := 187) hx hb dX9_next_175 (by decide) (fun c175 => ?_) (fun c175 => ?_)
            · replace c175 : (c1 22) ≤ j := (nI_leI (a := c1 22) (b := j) (by omega) (by omega)).mp c175
              refine lv_iconst (v := (-1)) hx hb dX9_next_187 (by decide) ?_
              refine mt_20 (f := f) hx hb hK hP hD hS ((6 * (c1 23)) + j) rfl (by omega) rfl dX9_next_188 (fun H locs hP hD hS => ?_)
              rw [up_up] at hP hD
              refine lv_iinc (v := nI (j + 1)) (lv' := [(1, .int (nI (j + 1))), (0, .ref h)]) hx hb dX9_next_189 hl (k := 1) rfl (nI_1 _) (by decide) rfl (fun ls hl => ?_)
              refine lv_goto (tgt := 151) hx hb dX9_next_192 (by decide) ?_
              exact ih2 (j + 1) (upd f ((6 * (c1 23)) + j) (-1)) H locs (by omega) (by rw [← he2]; simp only [lp, if_pos c175]) hP hD hS ls (lv_sub hl [1, 0] rfl)
            · replace c175 : ¬ ((c1 22) ≤ j) := fun z => c175 ((nI_leI (a := c1 22) (b := j) (by omega) (by omega)).mpr z)
              refine lv_aload_n hx hb dX9_next_178 rfl (lv_at hl 0 rfl) ?_
              refine mg_19 hx hb hts hown hK hP dX9_next_179 ?_
              refine lv_iload_n hx hb dX9_next_182 rfl (lv_at hl 1 rfl) ?_
              refine ml_19 (x := (a1 19) j) hx hb hK hP j rfl (by omega) rfl dX9_next_183 ?_
              refine lv_goto (tgt := 188) hx hb dX9_next_184 (by decide) ?_
              refine mt_20 (f := f) hx hb hK hP hD hS ((6 * (c1 23)) + j) rfl (by omega) rfl dX9_next_188 (fun H locs hP hD hS => ?_)
              rw [up_up] at hP hD
              refine lv_iinc (v := nI (j + 1)) (lv' := [(1, .int (nI (j + 1))), (0, .ref h)]) hx hb dX9_next_189 hl (k := 1) rfl (nI_1 _) (by decide) rfl (fun ls hl => ?_)
              refine lv_goto (tgt := 151) hx hb dX9_next_192 (by decide) ?_
              exact ih2 (j + 1) (upd f ((6 * (c1 23)) + j) ((a1 19) j)) H locs (by omega) (by rw [← he2]; simp only [lp, if_neg c175]) hP hD hS ls (lv_sub hl [1, 0] rfl)
        refine lv_iconst (v := 0) hx hb dX9_next_149 (by decide) ?_
        refine lv_istore_n (lv' := [(1, .int 0), (0, .ref h)]) hx hb dX9_next_150 rfl hl (by decide) rfl (fun ls hl => ?_)
        exact L2 6 0 (a1 20) H locs (by omega) (rfl) hP hD hS ls (lv_sub hl [1, 0] rfl)
      | succ r ih =>
        intro i c1 v1 nm1 a1 H locs hi hNI he hP hD hS ls hl
        obtain ⟨g1, g2, g3, g4, g5, g6⟩ := id hNI
        replace g1 : c1 42 = c 42 := g1
        replace g2 : c1 23 = c 23 := g2
        replace g3 : c1 22 ≤ 6 := g3
        refine lv_iload_n hx hb dX9_next_19 rfl (lv_at hl 1 rfl) ?_
        refine lv_aload_n hx hb dX9_next_20 rfl (lv_at hl 0 rfl) ?_
        refine mg_42 (x := nI (c1 42)) hx hb hts hown hK hP rfl dX9_next_21 ?_
        refine lv_icmp_ge (tgt := 149) hx hb dX9_next_24 (by decide) (fun c24 => absurd c24 (nI_ge (by omega) (by omega))) (fun c24 => ?_)
        refine lv_aload_n hx hb dX9_next_27 rfl (lv_at hl 0 rfl) ?_
        refine mg_37 hx hb hts hown hK hP dX9_next_28 ?_
        refine lv_iload_n hx hb dX9_next_31 rfl (lv_at hl 1 rfl) ?_
        refine ml_37 (x := (a1 37) i) hx hb hK hP i rfl (by omega) rfl dX9_next_32 ?_
        refine lv_if_ne (tgt := 143) hx hb dX9_next_33 (by decide) (fun c33 => ?_) (fun c33 => ?_)
        · refine lv_iinc (v := nI (i + 1)) (lv' := [(1, .int (nI (i + 1))), (0, .ref h)]) hx hb dX9_next_143 hl (k := 1) rfl (nI_1 _) (by decide) rfl (fun ls hl => ?_)
          refine lv_goto (tgt := 19) hx hb dX9_next_146 (by decide) ?_
          have e9 : (c1, v1, nm1, a1) = nextStep sn i (c1, v1, nm1, a1) := by simp only [nextStep, fDue, if_neg c33] <;> rfl
          have hN9 := NI_step hNI (i := i) (by omega)
          rw [← e9] at hN9
          exact ih (i + 1) c1 v1 nm1 a1 H locs (by omega) hN9 (by rw [e9]; exact he) hP hD hS ls (lv_sub hl [1, 0] rfl)
        · refine lv_aload_n hx hb dX9_next_36 rfl (lv_at hl 0 rfl) ?_
          refine mg_28 hx hb hts hown hK hP dX9_next_37 ?_
          refine lv_iload_n hx hb dX9_next_40 rfl (lv_at hl 1 rfl) ?_
          refine ml_28 (x := (a1 28) i) hx hb hK hP i rfl (by omega) rfl dX9_next_41 ?_
          refine lv_aload_n hx hb dX9_next_42 rfl (lv_at hl 0 rfl) ?_
          refine mg_23 (x := nI (c1 23)) hx hb hts hown hK hP rfl dX9_next_43 ?_
          refine lv_icmp_lt (tgt := 52) hx hb dX9_next_46 (by decide) (fun c46 => ?_) (fun c46 => ?_)
          · refine lv_aload_n hx hb dX9_next_52 rfl (lv_at hl 0 rfl) ?_
            refine mg_23 (x := nI (c1 23)) hx hb hts hown hK hP rfl dX9_next_53 ?_
            refine lv_aload_n hx hb dX9_next_56 rfl (lv_at hl 0 rfl) ?_
            refine mg_28 hx hb hts hown hK hP dX9_next_57 ?_
            refine lv_iload_n hx hb dX9_next_60 rfl (lv_at hl 1 rfl) ?_
            refine ml_28 (x := (a1 28) i) hx hb hK hP i rfl (by omega) rfl dX9_next_61 ?_
            refine lv_isub hx hb dX9_next_62 ?_
            refine lv_aload_n hx hb dX9_next_63 rfl (lv_at hl 0 rfl) ?_
            refine mg_29 hx hb hts hown hK hP dX9_next_64 ?_
            refine lv_iload_n hx hb dX9_next_67 rfl (lv_at hl 1 rfl) ?_
            refine ml_29 (x := (a1 29) i) hx hb hK hP i rfl (by omega) rfl dX9_next_68 ?_
            refine lv_icmp_ge (tgt := 86) hx hb dX9_next_69 (by decide) (fun c69 => ?_) (fun c69 => ?_)
            · refine lv_aload_n hx hb dX9_next_86 rfl (lv_at hl 0 rfl) ?_
              refine mg_29 hx hb hts hown hK hP dX9_next_87 ?_
              refine lv_iload_n hx hb dX9_next_90 rfl (lv_at hl 1 rfl) ?_
              refine ml_29 (x := (a1 29) i) hx hb hK hP i rfl (by omega) rfl dX9_next_91 ?_
              refine lv_istore_n (lv' := [(2, .int ((a1 29) i)), (0, .ref h), (1, .int (nI i))]) hx hb dX9_next_92 rfl hl (by decide) rfl (fun ls hl => ?_)
              refine lv_aload_n hx hb dX9_next_93 rfl (lv_at hl 1 rfl) ?_
              refine mg_27 hx hb hts hown hK hP dX9_next_94 ?_
              refine lv_iload_n hx hb dX9_next_97 rfl (lv_at hl 2 rfl) ?_
              refine ml_27 (x := (a1 27) i) hx hb hK hP i rfl (by omega) rfl dX9_next_98 ?_
              refine lv_iload_n hx hb dX9_next_99 rfl (lv_at hl 0 rfl) ?_
              refine lv_imul hx hb dX9_next_100 ?_
              refine lv_aload_n hx hb dX9_next_101 rfl (lv_at hl 1 rfl) ?_
              refine mg_29 hx hb hts hown hK hP dX9_next_102 ?_
              refine lv_iload_n hx hb dX9_next_105 rfl (lv_at hl 2 rfl) ?_
              refine ml_29 (x := (a1 29) i) hx hb hK hP i rfl (by omega) rfl dX9_next_106 ?_
              refine lv_iadd hx hb dX9_next_107 ?_
              refine lv_iconst (v := 1) hx hb dX9_next_108 (by decide) ?_
              refine lv_isub hx hb dX9_next_109 ?_
              refine lv_aload_n hx hb dX9_next_110 rfl (lv_at hl 1 rfl) ?_
              refine mg_29 hx hb hts hown hK hP dX9_next_111 ?_
              refine lv_iload_n hx hb dX9_next_114 rfl (lv_at hl 2 rfl) ?_
              refine ml_29 (x := (a1 29) i) hx hb hK hP i rfl (by omega) rfl dX9_next_115 ?_
              refine lv_idiv hx hb dX9_next_116 (g6 i (by omega)) ?_
              refine lv_istore_n (lv' := [(3, .int ((((((a1 27) i) * ((a1 29) i)) + ((a1 29) i)) - 1) / ((a1 29) i))), (2, .int ((a1 29) i)), (0, .ref h), (1, .int (nI i))]) hx hb dX9_next_117 rfl hl (by decide) rfl (fun ls hl => ?_)
              refine lv_aload_n hx hb dX9_next_118 rfl (lv_at hl 2 rfl) ?_
              refine mg_32 hx hb hts hown hK hP dX9_next_119 ?_
              refine lv_iload_n hx hb dX9_next_122 rfl (lv_at hl 3 rfl) ?_
              refine ml_32 (x := (a1 32) i) hx hb hK hP i rfl (by omega) rfl dX9_next_123 ?_
              refine lv_iload_n hx hb dX9_next_124 rfl (lv_at hl 0 rfl) ?_
              refine lv_icmp_ge (tgt := 136) hx hb dX9_next_125 (by decide) (fun c125 => ?_) (fun c125 => ?_)
              · refine lv_aload_n hx hb dX9_next_136 rfl (lv_at hl 2 rfl) ?_
                refine mg_36 hx hb hts hown hK hP dX9_next_137 ?_
                refine lv_iload_n hx hb dX9_next_140 rfl (lv_at hl 3 rfl) ?_
                refine lv_iconst (v := 0) hx hb dX9_next_141 (by decide) ?_
                refine mt_36 (f := a1 36) hx hb hK hP hD hS i rfl (by omega) rfl dX9_next_142 (fun H locs hP hD hS => ?_)
                refine lv_iinc (v := nI (i + 1)) (lv' := [(1, .int (nI (i + 1))), (3, .int ((((((a1 27) i) * ((a1 29) i)) + ((a1 29) i)) - 1) / ((a1 29) i))), (2, .int ((a1 29) i)), (0, .ref h)]) hx hb dX9_next_143 hl (k := 3) rfl (nI_1 _) (by decide) rfl (fun ls hl => ?_)
                refine lv_goto (tgt := 19) hx hb dX9_next_146 (by decide) ?_
                have e9 : (c1, v1, nm1, up a1 36 (upd (a1 36) i 0)) = nextStep sn i (c1, v1, nm1, a1) := by simp only [nextStep, fDue, if_pos c33, if_pos c46, if_pos c69, if_pos c125] <;> rfl
                have hN9 := NI_step hNI (i := i) (by omega)
                rw [← e9] at hN9
                exact ih (i + 1) c1 v1 nm1 (up a1 36 (upd (a1 36) i 0)) H locs (by omega) hN9 (by rw [e9]; exact he) hP hD hS ls (lv_sub hl [3, 0] rfl)
              · refine lv_aload_n hx hb dX9_next_128 rfl (lv_at hl 2 rfl) ?_
                refine lv_iload_n hx hb dX9_next_129 rfl (lv_at hl 3 rfl) ?_
                refine fs_Vw (rest := []) (As := [.int (nI i)]) ⟨hx, hb, hml, hown, hts⟩ Gd0 trivial hS hA hK (hP) (hD) (c_X9_isLate l D h q k c1 v1 nm1 a1 i (by omega) (sn i) (hNI.2.2.2.2.1 i (by omega)) (NI_room hNI (by omega) hn c33)) mi_X9_isLate wd_6_9 wp_3_13 wd_6_7 ⟨Nat.le_of_ble_eq_true rfl, Nat.le_of_ble_eq_true rfl⟩ 0 rfl rfl rfl hl.1 rfl (Nat.le_of_ble_eq_true rfl) ⟨Nat.le_of_ble_eq_true rfl, Nat.le_of_ble_eq_true rfl⟩ dX9_next_130 (fun u_1 H locs hu_2 hP hD hS => ?_)
                subst hu_2
                replace hP : va_P D vwCl (Mw h q k ((mLate i (sn i) (c1, v1, nm1, a1)).1) ((mLate i (sn i) (c1, v1, nm1, a1)).2.1) ((mLate i (sn i) (c1, v1, nm1, a1)).2.2.1) ((mLate i (sn i) (c1, v1, nm1, a1)).2.2.2)) H := hP
                replace hD : va_D A (Mw h q k ((mLate i (sn i) (c1, v1, nm1, a1)).1) ((mLate i (sn i) (c1, v1, nm1, a1)).2.1) ((mLate i (sn i) (c1, v1, nm1, a1)).2.2.1) ((mLate i (sn i) (c1, v1, nm1, a1)).2.2.2)) := hD
                refine W.eq (g2 := F0 m 133 ls []) rfl ?_
                refine lv_goto (tgt := 143) hx hb dX9_next_133 (by decide) ?_
                refine lv_iinc (v := nI (i + 1)) (lv' := [(1, .int (nI (i + 1))), (3, .int ((((((a1 27) i) * ((a1 29) i)) + ((a1 29) i)) - 1) / ((a1 29) i))), (2, .int ((a1 29) i)), (0, .ref h)]) hx hb dX9_next_143 hl (k := 3) rfl (nI_1 _) (by decide) rfl (fun ls hl => ?_)
                refine lv_goto (tgt := 19) hx hb dX9_next_146 (by decide) ?_
                have e9 : ((mLate i (sn i) (c1, v1, nm1, a1)).1, (mLate i (sn i) (c1, v1, nm1, a1)).2.1, (mLate i (sn i) (c1, v1, nm1, a1)).2.2.1, (mLate i (sn i) (c1, v1, nm1, a1)).2.2.2) = nextStep sn i (c1, v1, nm1, a1) := by simp only [nextStep, fDue, if_pos c33, if_pos c46, if_pos c69, if_neg c125] <;> rfl
                have hN9 := NI_step hNI (i := i) (by omega)
                rw [← e9] at hN9
                exact ih (i + 1) ((mLate i (sn i) (c1, v1, nm1, a1)).1) ((mLate i (sn i) (c1, v1, nm1, a1)).2.1) ((mLate i (sn i) (c1, v1, nm1, a1)).2.2.1) ((mLate i (sn i) (c1, v1, nm1, a1)).2.2.2) H locs (by omega) hN9 (by rw [e9]; exact he) hP hD hS ls (lv_sub hl [3, 0] rfl)
            · refine lv_aload_n hx hb dX9_next_72 rfl (lv_at hl 0 rfl) ?_
              refine mg_23 (x := nI (c1 23)) hx hb hts hown hK hP rfl dX9_next_73 ?_
              refine lv_aload_n hx hb dX9_next_76 rfl (lv_at hl 0 rfl) ?_
              refine mg_28 hx hb hts hown hK hP dX9_next_77 ?_
              refine lv_iload_n hx hb dX9_next_80 rfl (lv_at hl 1 rfl) ?_
              refine ml_28 (x := (a1 28) i) hx hb hK hP i rfl (by omega) rfl dX9_next_81 ?_
              refine lv_isub hx hb dX9_next_82 ?_
              refine lv_goto (tgt := 92) hx hb dX9_next_83 (by decide) ?_
              refine lv_istore_n (lv' := [(2, .int ((nI (c1 23)) - ((a1 28) i))), (0, .ref h), (1, .int (nI i))]) hx hb dX9_next_92 rfl hl (by decide) rfl (fun ls hl => ?_)
              refine lv_aload_n hx hb dX9_next_93 rfl (lv_at hl 1 rfl) ?_
              refine mg_27 hx hb hts hown hK hP dX9_next_94 ?_
              refine lv_iload_n hx hb dX9_next_97 rfl (lv_at hl 2 rfl) ?_
              refine ml_27 (x := (a1 27) i) hx hb hK hP i rfl (by omega) rfl dX9_next_98 ?_
              refine lv_iload_n hx hb dX9_next_99 rfl (lv_at hl 0 rfl) ?_
              refine lv_imul hx hb dX9_next_100 ?_
              refine lv_aload_n hx hb dX9_next_101 rfl (lv_at hl 1 rfl) ?_
              refine mg_29 hx hb hts hown hK hP dX9_next_102 ?_
              refine lv_iload_n hx hb dX9_next_105 rfl (lv_at hl 2 rfl) ?_
              refine ml_29 (x := (a1 29) i) hx hb hK hP i rfl (by omega) rfl dX9_next_106 ?_
              refine lv_iadd hx hb dX9_next_107 ?_
              refine lv_iconst (v := 1) hx hb dX9_next_108 (by decide) ?_
              refine lv_isub hx hb dX9_next_109 ?_
              refine lv_aload_n hx hb dX9_next_110 rfl (lv_at hl 1 rfl) ?_
              refine mg_29 hx hb hts hown hK hP dX9_next_111 ?_
              refine lv_iload_n hx hb dX9_next_114 rfl (lv_at hl 2 rfl) ?_
              refine ml_29 (x := (a1 29) i) hx hb hK hP i rfl (by omega) rfl dX9_next_115 ?_
              refine lv_idiv hx hb dX9_next_116 (g6 i (by omega)) ?_
              refine lv_istore_n (lv' := [(3, .int ((((((a1 27) i) * ((nI (c1 23)) - ((a1 28) i))) + ((a1 29) i)) - 1) / ((a1 29) i))), (2, .int ((nI (c1 23)) - ((a1 28) i))), (0, .ref h), (1, .int (nI i))]) hx hb dX9_next_117 rfl hl (by decide) rfl (fun ls hl => ?_)
              refine lv_aload_n hx hb dX9_next_118 rfl (lv_at hl 2 rfl) ?_
              refine mg_32 hx hb hts hown hK hP dX9_next_119 ?_
              refine lv_iload_n hx hb dX9_next_122 rfl (lv_at hl 3 rfl) ?_
              refine ml_32 (x := (a1 32) i) hx hb hK hP i rfl (by omega) rfl dX9_next_123 ?_
              refine lv_iload_n hx hb dX9_next_124 rfl (lv_at hl 0 rfl) ?_
              refine lv_icmp_ge (tgt := 136) hx hb dX9_next_125 (by decide) (fun c125 => ?_) (fun c125 => ?_)
              · refine lv_aload_n hx hb dX9_next_136 rfl (lv_at hl 2 rfl) ?_
                refine mg_36 hx hb hts hown hK hP dX9_next_137 ?_
                refine lv_iload_n hx hb dX9_next_140 rfl (lv_at hl 3 rfl) ?_
                refine lv_iconst (v := 0) hx hb dX9_next_141 (by decide) ?_
                refine mt_36 (f := a1 36) hx hb hK hP hD hS i rfl (by omega) rfl dX9_next_142 (fun H locs hP hD hS => ?_)
                refine lv_iinc (v := nI (i + 1)) (lv' := [(1, .int (nI (i + 1))), (3, .int ((((((a1 27) i) * ((nI (c1 23)) - ((a1 28) i))) + ((a1 29) i)) - 1) / ((a1 29) i))), (2, .int ((nI (c1 23)) - ((a1 28) i))), (0, .ref h)]) hx hb dX9_next_143 hl (k := 3) rfl (nI_1 _) (by decide) rfl (fun ls hl => ?_)
                refine lv_goto (tgt := 19) hx hb dX9_next_146 (by decide) ?_
                have e9 : (c1, v1, nm1, up a1 36 (upd (a1 36) i 0)) = nextStep sn i (c1, v1, nm1, a1) := by simp only [nextStep, fDue, if_pos c33, if_pos c46, if_neg c69, if_pos c125] <;> rfl
                have hN9 := NI_step hNI (i := i) (by omega)
                rw [← e9] at hN9
                exact ih (i + 1) c1 v1 nm1 (up a1 36 (upd (a1 36) i 0)) H locs (by omega) hN9 (by rw [e9]; exact he) hP hD hS ls (lv_sub hl [3, 0] rfl)
              · refine lv_aload_n hx hb dX9_next_128 rfl (lv_at hl 2 rfl) ?_
                refine lv_iload_n hx hb dX9_next_129 rfl (lv_at hl 3 rfl) ?_
                refine fs_Vw (rest := []) (As := [.int (nI i)]) ⟨hx, hb, hml, hown, hts⟩ Gd0 trivial hS hA hK (hP) (hD) (c_X9_isLate l D h q k c1 v1 nm1 a1 i (by omega) (sn i) (hNI.2.2.2.2.1 i (by omega)) (NI_room hNI (by omega) hn c33)) mi_X9_isLate wd_6_9 wp_3_13 wd_6_7 ⟨Nat.le_of_ble_eq_true rfl, Nat.le_of_ble_eq_true rfl⟩ 0 rfl rfl rfl hl.1 rfl (Nat.le_of_ble_eq_true rfl) ⟨Nat.le_of_ble_eq_true rfl, Nat.le_of_ble_eq_true rfl⟩ dX9_next_130 (fun u_3 H locs hu_4 hP hD hS => ?_)
                subst hu_4
                replace hP : va_P D vwCl (Mw h q k ((mLate i (sn i) (c1, v1, nm1, a1)).1) ((mLate i (sn i) (c1, v1, nm1, a1)).2.1) ((mLate i (sn i) (c1, v1, nm1, a1)).2.2.1) ((mLate i (sn i) (c1, v1, nm1, a1)).2.2.2)) H := hP
                replace hD : va_D A (Mw h q k ((mLate i (sn i) (c1, v1, nm1, a1)).1) ((mLate i (sn i) (c1, v1, nm1, a1)).2.1) ((mLate i (sn i) (c1, v1, nm1, a1)).2.2.1) ((mLate i (sn i) (c1, v1, nm1, a1)).2.2.2)) := hD
                refine W.eq (g2 := F0 m 133 ls []) rfl ?_
                refine lv_goto (tgt := 143) hx hb dX9_next_133 (by decide) ?_
                refine lv_iinc (v := nI (i + 1)) (lv' := [(1, .int (nI (i + 1))), (3, .int ((((((a1 27) i) * ((nI (c1 23)) - ((a1 28) i))) + ((a1 29) i)) - 1) / ((a1 29) i))), (2, .int ((nI (c1 23)) - ((a1 28) i))), (0, .ref h)]) hx hb dX9_next_143 hl (k := 3) rfl (nI_1 _) (by decide) rfl (fun ls hl => ?_)
                refine lv_goto (tgt := 19) hx hb dX9_next_146 (by decide) ?_
                have e9 : ((mLate i (sn i) (c1, v1, nm1, a1)).1, (mLate i (sn i) (c1, v1, nm1, a1)).2.1, (mLate i (sn i) (c1, v1, nm1, a1)).2.2.1, (mLate i (sn i) (c1, v1, nm1, a1)).2.2.2) = nextStep sn i (c1, v1, nm1, a1) := by simp only [nextStep, fDue, if_pos c33, if_pos c46, if_neg c69, if_neg c125] <;> rfl
                have hN9 := NI_step hNI (i := i) (by omega)
                rw [← e9] at hN9
                exact ih (i + 1) ((mLate i (sn i) (c1, v1, nm1, a1)).1) ((mLate i (sn i) (c1, v1, nm1, a1)).2.1) ((mLate i (sn i) (c1, v1, nm1, a1)).2.2.1) ((mLate i (sn i) (c1, v1, nm1, a1)).2.2.2) H locs (by omega) hN9 (by rw [e9]; exact he) hP hD hS ls (lv_sub hl [3, 0] rfl)
          · refine lv_goto (tgt := 143) hx hb dX9_next_49 (by decide) ?_
            refine lv_iinc (v := nI (i + 1)) (lv' := [(1, .int (nI (i + 1))), (0, .ref h)]) hx hb dX9_next_143 hl (k := 1) rfl (nI_1 _) (by decide) rfl (fun ls hl => ?_)
            refine lv_goto (tgt := 19) hx hb dX9_next_146 (by decide) ?_
            have e9 : (c1, v1, nm1, a1) = nextStep sn i (c1, v1, nm1, a1) := by simp only [nextStep, fDue, if_pos c33, if_neg c46] <;> rfl
            have hN9 := NI_step hNI (i := i) (by omega)
            rw [← e9] at hN9
            exact ih (i + 1) c1 v1 nm1 a1 H locs (by omega) hN9 (by rw [e9]; exact he) hP hD hS ls (lv_sub hl [1, 0] rfl)
    refine lv_iconst (v := 0) hx hb dX9_next_17 (by decide) ?_
    refine lv_istore_n (lv' := [(1, .int 0), (0, .ref h)]) hx hb dX9_next_18 rfl hl (by decide) rfl (fun ls hl => ?_)
    exact L (c 42) 0 c (up v 0 0) nm a H locs (by omega) hNI (rfl) hP hD hS ls (lv_sub hl [1, 0] rfl)
  · replace c12 : (c 23) = 400 := (nI_eq (a := c 23) (b := 400) (by omega) (by omega)).mp c12
    refine lv_iconst (v := (-1)) hx hb dX9_next_15 (by decide) ?_
    exact fs_i hx hb hr hlocks hq ((-1), (c, up v 0 0, nm, a)) (by rw [mNext, if_pos c12]; rfl) hP hD hS dX9_next_16 rfl
