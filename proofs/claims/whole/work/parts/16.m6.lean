def mBack (z : Nat) (y : Int32) (u : MSt) : MSt := (u.1, u.2.1, u.2.2.1, up (up u.2.2.2 38 (upd (u.2.2.2 38) z (u.2.2.2 38 z + y))) 19 (fBack (u.2.2.2 41) z (u.2.2.2 38 z) (u.2.2.2 38 z + y) (u.2.2.2 19)))
set_option maxHeartbeats 4000000 in
set_option maxRecDepth 100000 in
theorem c_X9_comesBack (l : Launch) (D : va_G) (h : Nat) (q : Nat → Nat) (k : Nat → ClassId) (c : Nat → Nat) (v : Nat → Int32) (nm : Int64) (a : Nat → Nat → Int32) (z : Nat) (y : Int32) (hz : z < 100) : Fs (S := MSt) l yX9_comesBack cX9_comesBack 11 none 0 0 0 D (TY k) G0 [.ref h, .int (nI z), .int y] (Mw h q k c v nm a) (fun _ => none) (fun u => u = mBack z y (c, v, nm, a)) (fun u => MwU h q k u) := by
  refine fs_body (by decide +kernel) (Nat.le_of_ble_eq_true rfl) ?_
  intro p e s m args below meth c_ Q A hx hb hml hown hts hK hP hD hS hA hG hin hr hq hlocks ls hl
  replace hl : lv_has ls 11 [(0, .ref h), (1, .int (nI z)), (2, .int y)] := hl
  change s.vm.findClass RX9 = some m.cls at hown
  have L : ∀ (r i : Nat) (f : Nat → Int32) (w : Int32) (H : Heap) (locs : List Loc), i + r = 6 → (lp (cbStep (a 41) z (a 38 z) (a 38 z + y)) r i (f, w)).1 = fBack (a 41) z (a 38 z) (a 38 z + y) (a 19) → va_P D vwCl (Mw h q k c v nm (up (up a 38 (upd (a 38) z (a 38 z + y))) 19 f)) H → va_D A (Mw h q k c v nm (up (up a 38 (upd (a 38) z (a 38 z + y))) 19 f)) → va_S A s.heap H locs → ∀ (ls : Array Slot), lv_has ls 11 [(0, .ref h), (1, .int (nI z)), (2, .int y), (3, .int (a 38 z)), (4, .int (a 38 z + y)), (5, .int w), (6, .int (nI i))] → W p l e (rmd 0 0 0) s m args below meth c_ H locs 0 0 Q (F0 m 26 ls []) := by
    intro r
    induction r with
    | zero =>
      intro i f w H locs hi he hP hD hS ls hl
      refine lv_iload hx hb dX9_comesBack_26 (lv_at hl 6 rfl) ?_
      refine lv_bipush (v := 6) hx hb dX9_comesBack_28 (by decide) ?_
      refine lv_icmp_ge (tgt := 134) hx hb dX9_comesBack_30 (by decide) (fun c30 => ?_) (fun c30 => absurd (nI_le (a := 6) (by omega) (by omega)) c30)
      exact fs_v hx hb hr hlocks hq (c, v, nm, up (up a 38 (upd (a 38) z (a 38 z + y))) 19 f) (by rw [mBack, ← he]; rfl) hP hD hS dX9_comesBack_134 rfl
    | succ r ih =>
      intro i f w H locs hi he hP hD hS ls hl
      refine lv_iload hx hb dX9_comesBack_26 (lv_at hl 6 rfl) ?_
      refine lv_bipush (v := 6) hx hb dX9_comesBack_28 (by decide) ?_
      refine lv_icmp_ge (tgt := 134) hx hb dX9_comesBack_30 (by decide) (fun c30 => absurd c30 (nI_ge (b := 6) (by omega) (by omega))) (fun c30 => ?_)
      refine lv_iload hx hb dX9_comesBack_33 (lv_at hl 6 rfl) ?_
      refine lv_if_ne (tgt := 42) hx hb dX9_comesBack_35 (by decide) (fun c35 => ?_) (fun c35 => ?_)
      · replace c35 : ¬ (i = 0) := fun z => c35 ((nI_eq (a := i) (b := 0) (by omega) (by omega)).mpr z)
        refine lv_bipush (v := 6) hx hb dX9_comesBack_42 (by decide) ?_
        refine lv_iload hx hb dX9_comesBack_44 (lv_at hl 6 rfl) ?_
        refine lv_isub hx hb dX9_comesBack_46 ?_
        refine rw_topi (y := nI (6 - i)) (pk_sub (a := 6) (by omega)) ?_
        refine lv_istore (lv' := [(7, .int (nI (6 - i))), (0, .ref h), (1, .int (nI z)), (2, .int y), (3, .int (a 38 z)), (4, .int (a 38 z + y)), (5, .int w), (6, .int (nI i))]) hx hb dX9_comesBack_47 hl (by decide) rfl (fun ls hl => ?_)
        refine lv_aload_n hx hb dX9_comesBack_49 rfl (lv_at hl 1 rfl) ?_
        refine mg_41 hx hb hts hown hK hP dX9_comesBack_50 ?_
        refine lv_bipush (v := 6) hx hb dX9_comesBack_53 (by decide) ?_
        refine lv_iload_n hx hb dX9_comesBack_55 rfl (lv_at hl 2 rfl) ?_
        refine lv_imul hx hb dX9_comesBack_56 ?_
        refine rw_topi (y := nI (6 * z)) (pk_mul _ _) ?_
        refine lv_iload hx hb dX9_comesBack_57 (lv_at hl 0 rfl) ?_
        refine lv_iadd hx hb dX9_comesBack_59 ?_
        refine rw_topi (y := nI ((6 * z) + (6 - i))) (nI_add _ _) ?_
        refine ml_41 (x := (a 41) ((6 * z) + (6 - i))) hx hb hK hP ((6 * z) + (6 - i)) rfl (by omega) rfl dX9_comesBack_60 ?_
        refine lv_istore (lv' := [(8, .int ((a 41) ((6 * z) + (6 - i)))), (7, .int (nI (6 - i))), (0, .ref h), (1, .int (nI z)), (2, .int y), (3, .int (a 38 z)), (4, .int (a 38 z + y)), (5, .int w), (6, .int (nI i))]) hx hb dX9_comesBack_61 hl (by decide) rfl (fun ls hl => ?_)
        refine lv_iload_n hx hb dX9_comesBack_63 rfl (lv_at hl 5 rfl) ?_
        refine lv_iload hx hb dX9_comesBack_64 (lv_at hl 7 rfl) ?_
        refine lv_icmp_le (tgt := 73) hx hb dX9_comesBack_66 (by decide) (fun c66 => ?_) (fun c66 => ?_)
        · refine lv_iload hx hb dX9_comesBack_73 (lv_at hl 7 rfl) ?_
          refine lv_istore (lv' := [(9, .int w), (8, .int ((a 41) ((6 * z) + (6 - i)))), (7, .int (nI (6 - i))), (0, .ref h), (1, .int (nI z)), (2, .int y), (3, .int (a 38 z)), (4, .int (a 38 z + y)), (5, .int w), (6, .int (nI i))]) hx hb dX9_comesBack_75 hl (by decide) rfl (fun ls hl => ?_)
          refine lv_iload hx hb dX9_comesBack_77 (lv_at hl 7 rfl) ?_
          refine lv_iload hx hb dX9_comesBack_79 (lv_at hl 8 rfl) ?_
          refine lv_iload hx hb dX9_comesBack_81 (lv_at hl 1 rfl) ?_
          refine lv_iadd hx hb dX9_comesBack_83 ?_
          refine lv_icmp_ge (tgt := 92) hx hb dX9_comesBack_84 (by decide) (fun c84 => ?_) (fun c84 => ?_)
          · refine lv_iload hx hb dX9_comesBack_92 (lv_at hl 8 rfl) ?_
            refine lv_iload hx hb dX9_comesBack_94 (lv_at hl 1 rfl) ?_
            refine lv_iadd hx hb dX9_comesBack_96 ?_
            refine lv_istore (lv' := [(10, .int (w + ((a 41) ((6 * z) + (6 - i))))), (9, .int w), (8, .int ((a 41) ((6 * z) + (6 - i)))), (7, .int (nI (6 - i))), (0, .ref h), (1, .int (nI z)), (2, .int y), (3, .int (a 38 z)), (4, .int (a 38 z + y)), (5, .int w), (6, .int (nI i))]) hx hb dX9_comesBack_97 hl (by decide) rfl (fun ls hl => ?_)
            refine lv_iload hx hb dX9_comesBack_99 (lv_at hl 0 rfl) ?_
            refine lv_iload hx hb dX9_comesBack_101 (lv_at hl 1 rfl) ?_
            refine lv_icmp_le (tgt := 121) hx hb dX9_comesBack_103 (by decide) (fun c103 => ?_) (fun c103 => ?_)
            · refine lv_iload hx hb dX9_comesBack_121 (lv_at hl 9 rfl) ?_
              refine lv_iload hx hb dX9_comesBack_123 (lv_at hl 2 rfl) ?_
              refine lv_iadd hx hb dX9_comesBack_125 ?_
              refine lv_istore (lv' := [(5, .int (w + ((a 41) ((6 * z) + (6 - i))))), (10, .int (w + ((a 41) ((6 * z) + (6 - i))))), (9, .int w), (8, .int ((a 41) ((6 * z) + (6 - i)))), (7, .int (nI (6 - i))), (0, .ref h), (1, .int (nI z)), (2, .int y), (3, .int (a 38 z)), (4, .int (a 38 z + y)), (6, .int (nI i))]) hx hb dX9_comesBack_126 hl (by decide) rfl (fun ls hl => ?_)
              refine lv_iinc (v := nI (i + 1)) (lv' := [(6, .int (nI (i + 1))), (5, .int (w + ((a 41) ((6 * z) + (6 - i))))), (10, .int (w + ((a 41) ((6 * z) + (6 - i))))), (9, .int w), (8, .int ((a 41) ((6 * z) + (6 - i)))), (7, .int (nI (6 - i))), (0, .ref h), (1, .int (nI z)), (2, .int y), (3, .int (a 38 z)), (4, .int (a 38 z + y))]) hx hb dX9_comesBack_128 hl (k := 10) rfl (nI_1 _) (by decide) rfl (fun ls hl => ?_)
              refine lv_goto (tgt := 26) hx hb dX9_comesBack_131 (by decide) ?_
              exact ih (i + 1) f (w + ((a 41) ((6 * z) + (6 - i)))) H locs (by omega) (by rw [← he]; simp only [lp, cbStep, fI, if_neg c35, if_pos c66, if_pos c84, if_pos c103]) hP hD hS ls (lv_sub hl [6, 7, 8, 9, 10, 1, 0] rfl)
            · refine lv_aload_n hx hb dX9_comesBack_106 rfl (lv_at hl 4 rfl) ?_
              refine mg_19 hx hb hts hown hK hP dX9_comesBack_107 ?_
              refine lv_iload hx hb dX9_comesBack_110 (lv_at hl 3 rfl) ?_
              refine lv_dup2_11 hx hb dX9_comesBack_112 rfl rfl ?_
              refine ml_19 (x := f (6 - i)) hx hb hK hP (6 - i) rfl (by omega) rfl dX9_comesBack_113 ?_
              refine lv_iload hx hb dX9_comesBack_114 (lv_at hl 0 rfl) ?_
              refine lv_iload hx hb dX9_comesBack_116 (lv_at hl 1 rfl) ?_
              refine lv_isub hx hb dX9_comesBack_118 ?_
              refine lv_iadd hx hb dX9_comesBack_119 ?_
              refine mt_19 (f := f) hx hb hK hP hD hS (6 - i) rfl (by omega) rfl dX9_comesBack_120 (fun H locs hP hD hS => ?_)
              rw [up_up] at hP hD
              refine lv_iload hx hb dX9_comesBack_121 (lv_at hl 9 rfl) ?_
              refine lv_iload hx hb dX9_comesBack_123 (lv_at hl 2 rfl) ?_
              refine lv_iadd hx hb dX9_comesBack_125 ?_
              refine lv_istore (lv' := [(5, .int (w + ((a 41) ((6 * z) + (6 - i))))), (10, .int (w + ((a 41) ((6 * z) + (6 - i))))), (9, .int w), (8, .int ((a 41) ((6 * z) + (6 - i)))), (7, .int (nI (6 - i))), (0, .ref h), (1, .int (nI z)), (2, .int y), (3, .int (a 38 z)), (4, .int (a 38 z + y)), (6, .int (nI i))]) hx hb dX9_comesBack_126 hl (by decide) rfl (fun ls hl => ?_)
              refine lv_iinc (v := nI (i + 1)) (lv' := [(6, .int (nI (i + 1))), (5, .int (w + ((a 41) ((6 * z) + (6 - i))))), (10, .int (w + ((a 41) ((6 * z) + (6 - i))))), (9, .int w), (8, .int ((a 41) ((6 * z) + (6 - i)))), (7, .int (nI (6 - i))), (0, .ref h), (1, .int (nI z)), (2, .int y), (3, .int (a 38 z)), (4, .int (a 38 z + y))]) hx hb dX9_comesBack_128 hl (k := 10) rfl (nI_1 _) (by decide) rfl (fun ls hl => ?_)
              refine lv_goto (tgt := 26) hx hb dX9_comesBack_131 (by decide) ?_
              exact ih (i + 1) (upd f (6 - i) ((f (6 - i)) + ((w + ((a 41) ((6 * z) + (6 - i)))) - w))) (w + ((a 41) ((6 * z) + (6 - i)))) H locs (by omega) (by rw [← he]; simp only [lp, cbStep, fI, if_neg c35, if_pos c66, if_pos c84, if_neg c103]) hP hD hS ls (lv_sub hl [6, 7, 8, 9, 10, 1, 0] rfl)
          · refine lv_iload hx hb dX9_comesBack_87 (lv_at hl 7 rfl) ?_
            refine lv_goto (tgt := 97) hx hb dX9_comesBack_89 (by decide) ?_
            refine lv_istore (lv' := [(10, .int (a 38 z + y)), (9, .int w), (8, .int ((a 41) ((6 * z) + (6 - i)))), (7, .int (nI (6 - i))), (0, .ref h), (1, .int (nI z)), (2, .int y), (3, .int (a 38 z)), (4, .int (a 38 z + y)), (5, .int w), (6, .int (nI i))]) hx hb dX9_comesBack_97 hl (by decide) rfl (fun ls hl => ?_)
            refine lv_iload hx hb dX9_comesBack_99 (lv_at hl 0 rfl) ?_
            refine lv_iload hx hb dX9_comesBack_101 (lv_at hl 1 rfl) ?_
            refine lv_icmp_le (tgt := 121) hx hb dX9_comesBack_103 (by decide) (fun c103 => ?_) (fun c103 => ?_)
            · refine lv_iload hx hb dX9_comesBack_121 (lv_at hl 9 rfl) ?_
              refine lv_iload hx hb dX9_comesBack_123 (lv_at hl 2 rfl) ?_
              refine lv_iadd hx hb dX9_comesBack_125 ?_
              refine lv_istore (lv' := [(5, .int (w + ((a 41) ((6 * z) + (6 - i))))), (10, .int (a 38 z + y)), (9, .int w), (8, .int ((a 41) ((6 * z) + (6 - i)))), (7, .int (nI (6 - i))), (0, .ref h), (1, .int (nI z)), (2, .int y), (3, .int (a 38 z)), (4, .int (a 38 z + y)), (6, .int (nI i))]) hx hb dX9_comesBack_126 hl (by decide) rfl (fun ls hl => ?_)
              refine lv_iinc (v := nI (i + 1)) (lv' := [(6, .int (nI (i + 1))), (5, .int (w + ((a 41) ((6 * z) + (6 - i))))), (10, .int (a 38 z + y)), (9, .int w), (8, .int ((a 41) ((6 * z) + (6 - i)))), (7, .int (nI (6 - i))), (0, .ref h), (1, .int (nI z)), (2, .int y), (3, .int (a 38 z)), (4, .int (a 38 z + y))]) hx hb dX9_comesBack_128 hl (k := 10) rfl (nI_1 _) (by decide) rfl (fun ls hl => ?_)
              refine lv_goto (tgt := 26) hx hb dX9_comesBack_131 (by decide) ?_
              exact ih (i + 1) f (w + ((a 41) ((6 * z) + (6 - i)))) H locs (by omega) (by rw [← he]; simp only [lp, cbStep, fI, if_neg c35, if_pos c66, if_neg c84, if_pos c103]) hP hD hS ls (lv_sub hl [6, 7, 8, 9, 10, 1, 0] rfl)
            · refine lv_aload_n hx hb dX9_comesBack_106 rfl (lv_at hl 4 rfl) ?_
              refine mg_19 hx hb hts hown hK hP dX9_comesBack_107 ?_
              refine lv_iload hx hb dX9_comesBack_110 (lv_at hl 3 rfl) ?_
              refine lv_dup2_11 hx hb dX9_comesBack_112 rfl rfl ?_
              refine ml_19 (x := f (6 - i)) hx hb hK hP (6 - i) rfl (by omega) rfl dX9_comesBack_113 ?_
              refine lv_iload hx hb dX9_comesBack_114 (lv_at hl 0 rfl) ?_
              refine lv_iload hx hb dX9_comesBack_116 (lv_at hl 1 rfl) ?_
              refine lv_isub hx hb dX9_comesBack_118 ?_
              refine lv_iadd hx hb dX9_comesBack_119 ?_
              refine mt_19 (f := f) hx hb hK hP hD hS (6 - i) rfl (by omega) rfl dX9_comesBack_120 (fun H locs hP hD hS => ?_)
              rw [up_up] at hP hD
              refine lv_iload hx hb dX9_comesBack_121 (lv_at hl 9 rfl) ?_
              refine lv_iload hx hb dX9_comesBack_123 (lv_at hl 2 rfl) ?_
              refine lv_iadd hx hb dX9_comesBack_125 ?_
              refine lv_istore (lv' := [(5, .int (w + ((a 41) ((6 * z) + (6 - i))))), (10, .int (a 38 z + y)), (9, .int w), (8, .int ((a 41) ((6 * z) + (6 - i)))), (7, .int (nI (6 - i))), (0, .ref h), (1, .int (nI z)), (2, .int y), (3, .int (a 38 z)), (4, .int (a 38 z + y)), (6, .int (nI i))]) hx hb dX9_comesBack_126 hl (by decide) rfl (fun ls hl => ?_)
              refine lv_iinc (v := nI (i + 1)) (lv' := [(6, .int (nI (i + 1))), (5, .int (w + ((a 41) ((6 * z) + (6 - i))))), (10, .int (a 38 z + y)), (9, .int w), (8, .int ((a 41) ((6 * z) + (6 - i)))), (7, .int (nI (6 - i))), (0, .ref h), (1, .int (nI z)), (2, .int y), (3, .int (a 38 z)), (4, .int (a 38 z + y))]) hx hb dX9_comesBack_128 hl (k := 10) rfl (nI_1 _) (by decide) rfl (fun ls hl => ?_)
              refine lv_goto (tgt := 26) hx hb dX9_comesBack_131 (by decide) ?_
              exact ih (i + 1) (upd f (6 - i) ((f (6 - i)) + ((a 38 z + y) - w))) (w + ((a 41) ((6 * z) + (6 - i)))) H locs (by omega) (by rw [← he]; simp only [lp, cbStep, fI, if_neg c35, if_pos c66, if_neg c84, if_neg c103]) hP hD hS ls (lv_sub hl [6, 7, 8, 9, 10, 1, 0] rfl)
        · refine lv_iload_n hx hb dX9_comesBack_69 rfl (lv_at hl 5 rfl) ?_
          refine lv_goto (tgt := 75) hx hb dX9_comesBack_70 (by decide) ?_
          refine lv_istore (lv' := [(9, .int (a 38 z)), (8, .int ((a 41) ((6 * z) + (6 - i)))), (7, .int (nI (6 - i))), (0, .ref h), (1, .int (nI z)), (2, .int y), (3, .int (a 38 z)), (4, .int (a 38 z + y)), (5, .int w), (6, .int (nI i))]) hx hb dX9_comesBack_75 hl (by decide) rfl (fun ls hl => ?_)
          refine lv_iload hx hb dX9_comesBack_77 (lv_at hl 7 rfl) ?_
          refine lv_iload hx hb dX9_comesBack_79 (lv_at hl 8 rfl) ?_
          refine lv_iload hx hb dX9_comesBack_81 (lv_at hl 1 rfl) ?_
          refine lv_iadd hx hb dX9_comesBack_83 ?_
          refine lv_icmp_ge (tgt := 92) hx hb dX9_comesBack_84 (by decide) (fun c84 => ?_) (fun c84 => ?_)
          · refine lv_iload hx hb dX9_comesBack_92 (lv_at hl 8 rfl) ?_
            refine lv_iload hx hb dX9_comesBack_94 (lv_at hl 1 rfl) ?_
            refine lv_iadd hx hb dX9_comesBack_96 ?_
            refine lv_istore (lv' := [(10, .int (w + ((a 41) ((6 * z) + (6 - i))))), (9, .int (a 38 z)), (8, .int ((a 41) ((6 * z) + (6 - i)))), (7, .int (nI (6 - i))), (0, .ref h), (1, .int (nI z)), (2, .int y), (3, .int (a 38 z)), (4, .int (a 38 z + y)), (5, .int w), (6, .int (nI i))]) hx hb dX9_comesBack_97 hl (by decide) rfl (fun ls hl => ?_)
            refine lv_iload hx hb dX9_comesBack_99 (lv_at hl 0 rfl) ?_
            refine lv_iload hx hb dX9_comesBack_101 (lv_at hl 1 rfl) ?_
            refine lv_icmp_le (tgt := 121) hx hb dX9_comesBack_103 (by decide) (fun c103 => ?_) (fun c103 => ?_)
            · refine lv_iload hx hb dX9_comesBack_121 (lv_at hl 9 rfl) ?_
              refine lv_iload hx hb dX9_comesBack_123 (lv_at hl 2 rfl) ?_
              refine lv_iadd hx hb dX9_comesBack_125 ?_
              refine lv_istore (lv' := [(5, .int (w + ((a 41) ((6 * z) + (6 - i))))), (10, .int (w + ((a 41) ((6 * z) + (6 - i))))), (9, .int (a 38 z)), (8, .int ((a 41) ((6 * z) + (6 - i)))), (7, .int (nI (6 - i))), (0, .ref h), (1, .int (nI z)), (2, .int y), (3, .int (a 38 z)), (4, .int (a 38 z + y)), (6, .int (nI i))]) hx hb dX9_comesBack_126 hl (by decide) rfl (fun ls hl => ?_)
              refine lv_iinc (v := nI (i + 1)) (lv' := [(6, .int (nI (i + 1))), (5, .int (w + ((a 41) ((6 * z) + (6 - i))))), (10, .int (w + ((a 41) ((6 * z) + (6 - i))))), (9, .int (a 38 z)), (8, .int ((a 41) ((6 * z) + (6 - i)))), (7, .int (nI (6 - i))), (0, .ref h), (1, .int (nI z)), (2, .int y), (3, .int (a 38 z)), (4, .int (a 38 z + y))]) hx hb dX9_comesBack_128 hl (k := 10) rfl (nI_1 _) (by decide) rfl (fun ls hl => ?_)
              refine lv_goto (tgt := 26) hx hb dX9_comesBack_131 (by decide) ?_
              exact ih (i + 1) f (w + ((a 41) ((6 * z) + (6 - i)))) H locs (by omega) (by rw [← he]; simp only [lp, cbStep, fI, if_neg c35, if_neg c66, if_pos c84, if_pos c103]) hP hD hS ls (lv_sub hl [6, 7, 8, 9, 10, 1, 0] rfl)
            · refine lv_aload_n hx hb dX9_comesBack_106 rfl (lv_at hl 4 rfl) ?_
              refine mg_19 hx hb hts hown hK hP dX9_comesBack_107 ?_
              refine lv_iload hx hb dX9_comesBack_110 (lv_at hl 3 rfl) ?_
              refine lv_dup2_11 hx hb dX9_comesBack_112 rfl rfl ?_
              refine ml_19 (x := f (6 - i)) hx hb hK hP (6 - i) rfl (by omega) rfl dX9_comesBack_113 ?_
              refine lv_iload hx hb dX9_comesBack_114 (lv_at hl 0 rfl) ?_
              refine lv_iload hx hb dX9_comesBack_116 (lv_at hl 1 rfl) ?_
              refine lv_isub hx hb dX9_comesBack_118 ?_
              refine lv_iadd hx hb dX9_comesBack_119 ?_
              refine mt_19 (f := f) hx hb hK hP hD hS (6 - i) rfl (by omega) rfl dX9_comesBack_120 (fun H locs hP hD hS => ?_)
              rw [up_up] at hP hD
              refine lv_iload hx hb dX9_comesBack_121 (lv_at hl 9 rfl) ?_
              refine lv_iload hx hb dX9_comesBack_123 (lv_at hl 2 rfl) ?_
              refine lv_iadd hx hb dX9_comesBack_125 ?_
              refine lv_istore (lv' := [(5, .int (w + ((a 41) ((6 * z) + (6 - i))))), (10, .int (w + ((a 41) ((6 * z) + (6 - i))))), (9, .int (a 38 z)), (8, .int ((a 41) ((6 * z) + (6 - i)))), (7, .int (nI (6 - i))), (0, .ref h), (1, .int (nI z)), (2, .int y), (3, .int (a 38 z)), (4, .int (a 38 z + y)), (6, .int (nI i))]) hx hb dX9_comesBack_126 hl (by decide) rfl (fun ls hl => ?_)
              refine lv_iinc (v := nI (i + 1)) (lv' := [(6, .int (nI (i + 1))), (5, .int (w + ((a 41) ((6 * z) + (6 - i))))), (10, .int (w + ((a 41) ((6 * z) + (6 - i))))), (9, .int (a 38 z)), (8, .int ((a 41) ((6 * z) + (6 - i)))), (7, .int (nI (6 - i))), (0, .ref h), (1, .int (nI z)), (2, .int y), (3, .int (a 38 z)), (4, .int (a 38 z + y))]) hx hb dX9_comesBack_128 hl (k := 10) rfl (nI_1 _) (by decide) rfl (fun ls hl => ?_)
              refine lv_goto (tgt := 26) hx hb dX9_comesBack_131 (by decide) ?_
              exact ih (i + 1) (upd f (6 - i) ((f (6 - i)) + ((w + ((a 41) ((6 * z) + (6 - i)))) - (a 38 z)))) (w + ((a 41) ((6 * z) + (6 - i)))) H locs (by omega) (by rw [← he]; simp only [lp, cbStep, fI, if_neg c35, if_neg c66, if_pos c84, if_neg c103]) hP hD hS ls (lv_sub hl [6, 7, 8, 9, 10, 1, 0] rfl)
          · refine lv_iload hx hb dX9_comesBack_87 (lv_at hl 7 rfl) ?_
            refine lv_goto (tgt := 97) hx hb dX9_comesBack_89 (by decide) ?_
            refine lv_istore (lv' := [(10, .int (a 38 z + y)), (9, .int (a 38 z)), (8, .int ((a 41) ((6 * z) + (6 - i)))), (7, .int (nI (6 - i))), (0, .ref h), (1, .int (nI z)), (2, .int y), (3, .int (a 38 z)), (4, .int (a 38 z + y)), (5, .int w), (6, .int (nI i))]) hx hb dX9_comesBack_97 hl (by decide) rfl (fun ls hl => ?_)
            refine lv_iload hx hb dX9_comesBack_99 (lv_at hl 0 rfl) ?_
            refine lv_iload hx hb dX9_comesBack_101 (lv_at hl 1 rfl) ?_
            refine lv_icmp_le (tgt := 121) hx hb dX9_comesBack_103 (by decide) (fun c103 => ?_) (fun c103 => ?_)
            · refine lv_iload hx hb dX9_comesBack_121 (lv_at hl 9 rfl) ?_
              refine lv_iload hx hb dX9_comesBack_123 (lv_at hl 2 rfl) ?_
              refine lv_iadd hx hb dX9_comesBack_125 ?_
              refine lv_istore (lv' := [(5, .int (w + ((a 41) ((6 * z) + (6 - i))))), (10, .int (a 38 z + y)), (9, .int (a 38 z)), (8, .int ((a 41) ((6 * z) + (6 - i)))), (7, .int (nI (6 - i))), (0, .ref h), (1, .int (nI z)), (2, .int y), (3, .int (a 38 z)), (4, .int (a 38 z + y)), (6, .int (nI i))]) hx hb dX9_comesBack_126 hl (by decide) rfl (fun ls hl => ?_)
              refine lv_iinc (v := nI (i + 1)) (lv' := [(6, .int (nI (i + 1))), (5, .int (w + ((a 41) ((6 * z) + (6 - i))))), (10, .int (a 38 z + y)), (9, .int (a 38 z)), (8, .int ((a 41) ((6 * z) + (6 - i)))), (7, .int (nI (6 - i))), (0, .ref h), (1, .int (nI z)), (2, .int y), (3, .int (a 38 z)), (4, .int (a 38 z + y))]) hx hb dX9_comesBack_128 hl (k := 10) rfl (nI_1 _) (by decide) rfl (fun ls hl => ?_)
              refine lv_goto (tgt := 26) hx hb dX9_comesBack_131 (by decide) ?_
              exact ih (i + 1) f (w + ((a 41) ((6 * z) + (6 - i)))) H locs (by omega) (by rw [← he]; simp only [lp, cbStep, fI, if_neg c35, if_neg c66, if_neg c84, if_pos c103]) hP hD hS ls (lv_sub hl [6, 7, 8, 9, 10, 1, 0] rfl)
            · refine lv_aload_n hx hb dX9_comesBack_106 rfl (lv_at hl 4 rfl) ?_
              refine mg_19 hx hb hts hown hK hP dX9_comesBack_107 ?_
              refine lv_iload hx hb dX9_comesBack_110 (lv_at hl 3 rfl) ?_
              refine lv_dup2_11 hx hb dX9_comesBack_112 rfl rfl ?_
              refine ml_19 (x := f (6 - i)) hx hb hK hP (6 - i) rfl (by omega) rfl dX9_comesBack_113 ?_
              refine lv_iload hx hb dX9_comesBack_114 (lv_at hl 0 rfl) ?_
              refine lv_iload hx hb dX9_comesBack_116 (lv_at hl 1 rfl) ?_
              refine lv_isub hx hb dX9_comesBack_118 ?_
              refine lv_iadd hx hb dX9_comesBack_119 ?_
              refine mt_19 (f := f) hx hb hK hP hD hS (6 - i) rfl (by omega) rfl dX9_comesBack_120 (fun H locs hP hD hS => ?_)
              rw [up_up] at hP hD
              refine lv_iload hx hb dX9_comesBack_121 (lv_at hl 9 rfl) ?_
              refine lv_iload hx hb dX9_comesBack_123 (lv_at hl 2 rfl) ?_
              refine lv_iadd hx hb dX9_comesBack_125 ?_
              refine lv_istore (lv' := [(5, .int (w + ((a 41) ((6 * z) + (6 - i))))), (10, .int (a 38 z + y)), (9, .int (a 38 z)), (8, .int ((a 41) ((6 * z) + (6 - i)))), (7, .int (nI (6 - i))), (0, .ref h), (1, .int (nI z)), (2, .int y), (3, .int (a 38 z)), (4, .int (a 38 z + y)), (6, .int (nI i))]) hx hb dX9_comesBack_126 hl (by decide) rfl (fun ls hl => ?_)
              refine lv_iinc (v := nI (i + 1)) (lv' := [(6, .int (nI (i + 1))), (5, .int (w + ((a 41) ((6 * z) + (6 - i))))), (10, .int (a 38 z + y)), (9, .int (a 38 z)), (8, .int ((a 41) ((6 * z) + (6 - i)))), (7, .int (nI (6 - i))), (0, .ref h), (1, .int (nI z)), (2, .int y), (3, .int (a 38 z)), (4, .int (a 38 z + y))]) hx hb dX9_comesBack_128 hl (k := 10) rfl (nI_1 _) (by decide) rfl (fun ls hl => ?_)
              refine lv_goto (tgt := 26) hx hb dX9_comesBack_131 (by decide) ?_
              exact ih (i + 1) (upd f (6 - i) ((f (6 - i)) + ((a 38 z + y) - (a 38 z)))) (w + ((a 41) ((6 * z) + (6 - i)))) H locs (by omega) (by rw [← he]; simp only [lp, cbStep, fI, if_neg c35, if_neg c66, if_neg c84, if_neg c103]) hP hD hS ls (lv_sub hl [6, 7, 8, 9, 10, 1, 0] rfl)
      · replace c35 : i = 0 := (nI_eq (a := i) (b := 0) (by omega) (by omega)).mp c35
        refine lv_iconst (v := 0) hx hb dX9_comesBack_38 (by decide) ?_
        refine lv_goto (tgt := 47) hx hb dX9_comesBack_39 (by decide) ?_
        refine lv_istore (lv' := [(7, .int 0), (0, .ref h), (1, .int (nI z)), (2, .int y), (3, .int (a 38 z)), (4, .int (a 38 z + y)), (5, .int w), (6, .int (nI i))]) hx hb dX9_comesBack_47 hl (by decide) rfl (fun ls hl => ?_)
        refine lv_aload_n hx hb dX9_comesBack_49 rfl (lv_at hl 1 rfl) ?_
        refine mg_41 hx hb hts hown hK hP dX9_comesBack_50 ?_
        refine lv_bipush (v := 6) hx hb dX9_comesBack_53 (by decide) ?_
        refine lv_iload_n hx hb dX9_comesBack_55 rfl (lv_at hl 2 rfl) ?_
        refine lv_imul hx hb dX9_comesBack_56 ?_
        refine rw_topi (y := nI (6 * z)) (pk_mul _ _) ?_
        refine lv_iload hx hb dX9_comesBack_57 (lv_at hl 0 rfl) ?_
        refine lv_iadd hx hb dX9_comesBack_59 ?_
        refine rw_topi (y := nI ((6 * z) + 0)) (nI_add _ _) ?_
        refine ml_41 (x := (a 41) ((6 * z) + 0)) hx hb hK hP ((6 * z) + 0) rfl (by omega) rfl dX9_comesBack_60 ?_
        refine lv_istore (lv' := [(8, .int ((a 41) ((6 * z) + 0))), (7, .int 0), (0, .ref h), (1, .int (nI z)), (2, .int y), (3, .int (a 38 z)), (4, .int (a 38 z + y)), (5, .int w), (6, .int (nI i))]) hx hb dX9_comesBack_61 hl (by decide) rfl (fun ls hl => ?_)
        refine lv_iload_n hx hb dX9_comesBack_63 rfl (lv_at hl 5 rfl) ?_
        refine lv_iload hx hb dX9_comesBack_64 (lv_at hl 7 rfl) ?_
        refine lv_icmp_le (tgt := 73) hx hb dX9_comesBack_66 (by decide) (fun c66 => ?_) (fun c66 => ?_)
        · refine lv_iload hx hb dX9_comesBack_73 (lv_at hl 7 rfl) ?_
          refine lv_istore (lv' := [(9, .int w), (8, .int ((a 41) ((6 * z) + 0))), (7, .int 0), (0, .ref h), (1, .int (nI z)), (2, .int y), (3, .int (a 38 z)), (4, .int (a 38 z + y)), (5, .int w), (6, .int (nI i))]) hx hb dX9_comesBack_75 hl (by decide) rfl (fun ls hl => ?_)
          refine lv_iload hx hb dX9_comesBack_77 (lv_at hl 7 rfl) ?_
          refine lv_iload hx hb dX9_comesBack_79 (lv_at hl 8 rfl) ?_
          refine lv_iload hx hb dX9_comesBack_81 (lv_at hl 1 rfl) ?_
          refine lv_iadd hx hb dX9_comesBack_83 ?_
          refine lv_icmp_ge (tgt := 92) hx hb dX9_comesBack_84 (by decide) (fun c84 => ?_) (fun c84 => ?_)
          · refine lv_iload hx hb dX9_comesBack_92 (lv_at hl 8 rfl) ?_
            refine lv_iload hx hb dX9_comesBack_94 (lv_at hl 1 rfl) ?_
            refine lv_iadd hx hb dX9_comesBack_96 ?_
            refine lv_istore (lv' := [(10, .int (w + ((a 41) ((6 * z) + 0)))), (9, .int w), (8, .int ((a 41) ((6 * z) + 0))), (7, .int 0), (0, .ref h), (1, .int (nI z)), (2, .int y), (3, .int (a 38 z)), (4, .int (a 38 z + y)), (5, .int w), (6, .int (nI i))]) hx hb dX9_comesBack_97 hl (by decide) rfl (fun ls hl => ?_)
            refine lv_iload hx hb dX9_comesBack_99 (lv_at hl 0 rfl) ?_
            refine lv_iload hx hb dX9_comesBack_101 (lv_at hl 1 rfl) ?_
            refine lv_icmp_le (tgt := 121) hx hb dX9_comesBack_103 (by decide) (fun c103 => ?_) (fun c103 => ?_)
            · refine lv_iload hx hb dX9_comesBack_121 (lv_at hl 9 rfl) ?_
              refine lv_iload hx hb dX9_comesBack_123 (lv_at hl 2 rfl) ?_
              refine lv_iadd hx hb dX9_comesBack_125 ?_
              refine lv_istore (lv' := [(5, .int (w + ((a 41) ((6 * z) + 0)))), (10, .int (w + ((a 41) ((6 * z) + 0)))), (9, .int w), (8, .int ((a 41) ((6 * z) + 0))), (7, .int 0), (0, .ref h), (1, .int (nI z)), (2, .int y), (3, .int (a 38 z)), (4, .int (a 38 z + y)), (6, .int (nI i))]) hx hb dX9_comesBack_126 hl (by decide) rfl (fun ls hl => ?_)
              refine lv_iinc (v := nI (i + 1)) (lv' := [(6, .int (nI (i + 1))), (5, .int (w + ((a 41) ((6 * z) + 0)))), (10, .int (w + ((a 41) ((6 * z) + 0)))), (9, .int w), (8, .int ((a 41) ((6 * z) + 0))), (7, .int 0), (0, .ref h), (1, .int (nI z)), (2, .int y), (3, .int (a 38 z)), (4, .int (a 38 z + y))]) hx hb dX9_comesBack_128 hl (k := 10) rfl (nI_1 _) (by decide) rfl (fun ls hl => ?_)
              refine lv_goto (tgt := 26) hx hb dX9_comesBack_131 (by decide) ?_
              exact ih (i + 1) f (w + ((a 41) ((6 * z) + 0))) H locs (by omega) (by rw [← he]; simp only [lp, cbStep, fI, if_pos c35, if_pos c66, if_pos c84, if_pos c103]) hP hD hS ls (lv_sub hl [6, 7, 8, 9, 10, 1, 0] rfl)
            · refine lv_aload_n hx hb dX9_comesBack_106 rfl (lv_at hl 4 rfl) ?_
              refine mg_19 hx hb hts hown hK hP dX9_comesBack_107 ?_
              refine lv_iload hx hb dX9_comesBack_110 (lv_at hl 3 rfl) ?_
              refine lv_dup2_11 hx hb dX9_comesBack_112 rfl rfl ?_
              refine ml_19 (x := f 0) hx hb hK hP 0 rfl (by omega) rfl dX9_comesBack_113 ?_
              refine lv_iload hx hb dX9_comesBack_114 (lv_at hl 0 rfl) ?_
              refine lv_iload hx hb dX9_comesBack_116 (lv_at hl 1 rfl) ?_
              refine lv_isub hx hb dX9_comesBack_118 ?_
              refine lv_iadd hx hb dX9_comesBack_119 ?_
              refine mt_19 (f := f) hx hb hK hP hD hS 0 rfl (by omega) rfl dX9_comesBack_120 (fun H locs hP hD hS => ?_)
              rw [up_up] at hP hD
              refine lv_iload hx hb dX9_comesBack_121 (lv_at hl 9 rfl) ?_
              refine lv_iload hx hb dX9_comesBack_123 (lv_at hl 2 rfl) ?_
              refine lv_iadd hx hb dX9_comesBack_125 ?_
              refine lv_istore (lv' := [(5, .int (w + ((a 41) ((6 * z) + 0)))), (10, .int (w + ((a 41) ((6 * z) + 0)))), (9, .int w), (8, .int ((a 41) ((6 * z) + 0))), (7, .int 0), (0, .ref h), (1, .int (nI z)), (2, .int y), (3, .int (a 38 z)), (4, .int (a 38 z + y)), (6, .int (nI i))]) hx hb dX9_comesBack_126 hl (by decide) rfl (fun ls hl => ?_)
              refine lv_iinc (v := nI (i + 1)) (lv' := [(6, .int (nI (i + 1))), (5, .int (w + ((a 41) ((6 * z) + 0)))), (10, .int (w + ((a 41) ((6 * z) + 0)))), (9, .int w), (8, .int ((a 41) ((6 * z) + 0))), (7, .int 0), (0, .ref h), (1, .int (nI z)), (2, .int y), (3, .int (a 38 z)), (4, .int (a 38 z + y))]) hx hb dX9_comesBack_128 hl (k := 10) rfl (nI_1 _) (by decide) rfl (fun ls hl => ?_)
              refine lv_goto (tgt := 26) hx hb dX9_comesBack_131 (by decide) ?_
              exact ih (i + 1) (upd f 0 ((f 0) + ((w + ((a 41) ((6 * z) + 0))) - w))) (w + ((a 41) ((6 * z) + 0))) H locs (by omega) (by rw [← he]; simp only [lp, cbStep, fI, if_pos c35, if_pos c66, if_pos c84, if_neg c103]) hP hD hS ls (lv_sub hl [6, 7, 8, 9, 10, 1, 0] rfl)
          · refine lv_iload hx hb dX9_comesBack_87 (lv_at hl 7 rfl) ?_
            refine lv_goto (tgt := 97) hx hb dX9_comesBack_89 (by decide) ?_
            refine lv_istore (lv' := [(10, .int (a 38 z + y)), (9, .int w), (8, .int ((a 41) ((6 * z) + 0))), (7, .int 0), (0, .ref h), (1, .int (nI z)), (2, .int y), (3, .int (a 38 z)), (4, .int (a 38 z + y)), (5, .int w), (6, .int (nI i))]) hx hb dX9_comesBack_97 hl (by decide) rfl (fun ls hl => ?_)
            refine lv_iload hx hb dX9_comesBack_99 (lv_at hl 0 rfl) ?_
            refine lv_iload hx hb dX9_comesBack_101 (lv_at hl 1 rfl) ?_
            refine lv_icmp_le (tgt := 121) hx hb dX9_comesBack_103 (by decide) (fun c103 => ?_) (fun c103 => ?_)
            · refine lv_iload hx hb dX9_comesBack_121 (lv_at hl 9 rfl) ?_
              refine lv_iload hx hb dX9_comesBack_123 (lv_at hl 2 rfl) ?_
              refine lv_iadd hx hb dX9_comesBack_125 ?_
              refine lv_istore (lv' := [(5, .int (w + ((a 41) ((6 * z) + 0)))), (10, .int (a 38 z + y)), (9, .int w), (8, .int ((a 41) ((6 * z) + 0))), (7, .int 0), (0, .ref h), (1, .int (nI z)), (2, .int y), (3, .int (a 38 z)), (4, .int (a 38 z + y)), (6, .int (nI i))]) hx hb dX9_comesBack_126 hl (by decide) rfl (fun ls hl => ?_)
              refine lv_iinc (v := nI (i + 1)) (lv' := [(6, .int (nI (i + 1))), (5, .int (w + ((a 41) ((6 * z) + 0)))), (10, .int (a 38 z + y)), (9, .int w), (8, .int ((a 41) ((6 * z) + 0))), (7, .int 0), (0, .ref h), (1, .int (nI z)), (2, .int y), (3, .int (a 38 z)), (4, .int (a 38 z + y))]) hx hb dX9_comesBack_128 hl (k := 10) rfl (nI_1 _) (by decide) rfl (fun ls hl => ?_)
              refine lv_goto (tgt := 26) hx hb dX9_comesBack_131 (by decide) ?_
              exact ih (i + 1) f (w + ((a 41) ((6 * z) + 0))) H locs (by omega) (by rw [← he]; simp only [lp, cbStep, fI, if_pos c35, if_pos c66, if_neg c84, if_pos c103]) hP hD hS ls (lv_sub hl [6, 7, 8, 9, 10, 1, 0] rfl)
            · refine lv_aload_n hx hb dX9_comesBack_106 rfl (lv_at hl 4 rfl) ?_
              refine mg_19 hx hb hts hown hK hP dX9_comesBack_107 ?_
              refine lv_iload hx hb dX9_comesBack_110 (lv_at hl 3 rfl) ?_
              refine lv_dup2_11 hx hb dX9_comesBack_112 rfl rfl ?_
              refine ml_19 (x := f 0) hx hb hK hP 0 rfl (by omega) rfl dX9_comesBack_113 ?_
              refine lv_iload hx hb dX9_comesBack_114 (lv_at hl 0 rfl) ?_
              refine lv_iload hx hb dX9_comesBack_116 (lv_at hl 1 rfl) ?_
              refine lv_isub hx hb dX9_comesBack_118 ?_
              refine lv_iadd hx hb dX9_comesBack_119 ?_
              refine mt_19 (f := f) hx hb hK hP hD hS 0 rfl (by omega) rfl dX9_comesBack_120 (fun H locs hP hD hS => ?_)
              rw [up_up] at hP hD
              refine lv_iload hx hb dX9_comesBack_121 (lv_at hl 9 rfl) ?_
              refine lv_iload hx hb dX9_comesBack_123 (lv_at hl 2 rfl) ?_
              refine lv_iadd hx hb dX9_comesBack_125 ?_
              refine lv_istore (lv' := [(5, .int (w + ((a 41) ((6 * z) + 0)))), (10, .int (a 38 z + y)), (9, .int w), (8, .int ((a 41) ((6 * z) + 0))), (7, .int 0), (0, .ref h), (1, .int (nI z)), (2, .int y), (3, .int (a 38 z)), (4, .int (a 38 z + y)), (6, .int (nI i))]) hx hb dX9_comesBack_126 hl (by decide) rfl (fun ls hl => ?_)
              refine lv_iinc (v := nI (i + 1)) (lv' := [(6, .int (nI (i + 1))), (5, .int (w + ((a 41) ((6 * z) + 0)))), (10, .int (a 38 z + y)), (9, .int w), (8, .int ((a 41) ((6 * z) + 0))), (7, .int 0), (0, .ref h), (1, .int (nI z)), (2, .int y), (3, .int (a 38 z)), (4, .int (a 38 z + y))]) hx hb dX9_comesBack_128 hl (k := 10) rfl (nI_1 _) (by decide) rfl (fun ls hl => ?_)
              refine lv_goto (tgt := 26) hx hb dX9_comesBack_131 (by decide) ?_
              exact ih (i + 1) (upd f 0 ((f 0) + ((a 38 z + y) - w))) (w + ((a 41) ((6 * z) + 0))) H locs (by omega) (by rw [← he]; simp only [lp, cbStep, fI, if_pos c35, if_pos c66, if_neg c84, if_neg c103]) hP hD hS ls (lv_sub hl [6, 7, 8, 9, 10, 1, 0] rfl)
        · refine lv_iload_n hx hb dX9_comesBack_69 rfl (lv_at hl 5 rfl) ?_
          refine lv_goto (tgt := 75) hx hb dX9_comesBack_70 (by decide) ?_
          refine lv_istore (lv' := [(9, .int (a 38 z)), (8, .int ((a 41) ((6 * z) + 0))), (7, .int 0), (0, .ref h), (1, .int (nI z)), (2, .int y), (3, .int (a 38 z)), (4, .int (a 38 z + y)), (5, .int w), (6, .int (nI i))]) hx hb dX9_comesBack_75 hl (by decide) rfl (fun ls hl => ?_)
          refine lv_iload hx hb dX9_comesBack_77 (lv_at hl 7 rfl) ?_
          refine lv_iload hx hb dX9_comesBack_79 (lv_at hl 8 rfl) ?_
          refine lv_iload hx hb dX9_comesBack_81 (lv_at hl 1 rfl) ?_
          refine lv_iadd hx hb dX9_comesBack_83 ?_
          refine lv_icmp_ge (tgt := 92) hx hb dX9_comesBack_84 (by decide) (fun c84 => ?_) (fun c84 => ?_)
          · refine lv_iload hx hb dX9_comesBack_92 (lv_at hl 8 rfl) ?_
            refine lv_iload hx hb dX9_comesBack_94 (lv_at hl 1 rfl) ?_
            refine lv_iadd hx hb dX9_comesBack_96 ?_
            refine lv_istore (lv' := [(10, .int (w + ((a 41) ((6 * z) + 0)))), (9, .int (a 38 z)), (8, .int ((a 41) ((6 * z) + 0))), (7, .int 0), (0, .ref h), (1, .int (nI z)), (2, .int y), (3, .int (a 38 z)), (4, .int (a 38 z + y)), (5, .int w), (6, .int (nI i))]) hx hb dX9_comesBack_97 hl (by decide) rfl (fun ls hl => ?_)
            refine lv_iload hx hb dX9_comesBack_99 (lv_at hl 0 rfl) ?_
            refine lv_iload hx hb dX9_comesBack_101 (lv_at hl 1 rfl) ?_
            refine lv_icmp_le (tgt := 121) hx hb dX9_comesBack_103 (by decide) (fun c103 => ?_) (fun c103 => ?_)
            · refine lv_iload hx hb dX9_comesBack_121 (lv_at hl 9 rfl) ?_
              refine lv_iload hx hb dX9_comesBack_123 (lv_at hl 2 rfl) ?_
              refine lv_iadd hx hb dX9_comesBack_125 ?_
              refine lv_istore (lv' := [(5, .int (w + ((a 41) ((6 * z) + 0)))), (10, .int (w + ((a 41) ((6 * z) + 0)))), (9, .int (a 38 z)), (8, .int ((a 41) ((6 * z) + 0))), (7, .int 0), (0, .ref h), (1, .int (nI z)), (2, .int y), (3, .int (a 38 z)), (4, .int (a 38 z + y)), (6, .int (nI i))]) hx hb dX9_comesBack_126 hl (by decide) rfl (fun ls hl => ?_)
              refine lv_iinc (v := nI (i + 1)) (lv' := [(6, .int (nI (i + 1))), (5, .int (w + ((a 41) ((6 * z) + 0)))), (10, .int (w + ((a 41) ((6 * z) + 0)))), (9, .int (a 38 z)), (8, .int ((a 41) ((6 * z) + 0))), (7, .int 0), (0, .ref h), (1, .int (nI z)), (2, .int y), (3, .int (a 38 z)), (4, .int (a 38 z + y))]) hx hb dX9_comesBack_128 hl (k := 10) rfl (nI_1 _) (by decide) rfl (fun ls hl => ?_)
              refine lv_goto (tgt := 26) hx hb dX9_comesBack_131 (by decide) ?_
              exact ih (i + 1) f (w + ((a 41) ((6 * z) + 0))) H locs (by omega) (by rw [← he]; simp only [lp, cbStep, fI, if_pos c35, if_neg c66, if_pos c84, if_pos c103]) hP hD hS ls (lv_sub hl [6, 7, 8, 9, 10, 1, 0] rfl)
            · refine lv_aload_n hx hb dX9_comesBack_106 rfl (lv_at hl 4 rfl) ?_
              refine mg_19 hx hb hts hown hK hP dX9_comesBack_107 ?_
              refine lv_iload hx hb dX9_comesBack_110 (lv_at hl 3 rfl) ?_
              refine lv_dup2_11 hx hb dX9_comesBack_112 rfl rfl ?_
              refine ml_19 (x := f 0) hx hb hK hP 0 rfl (by omega) rfl dX9_comesBack_113 ?_
              refine lv_iload hx hb dX9_comesBack_114 (lv_at hl 0 rfl) ?_
              refine lv_iload hx hb dX9_comesBack_116 (lv_at hl 1 rfl) ?_
              refine lv_isub hx hb dX9_comesBack_118 ?_
              refine lv_iadd hx hb dX9_comesBack_119 ?_
              refine mt_19 (f := f) hx hb hK hP hD hS 0 rfl (by omega) rfl dX9_comesBack_120 (fun H locs hP hD hS => ?_)
              rw [up_up] at hP hD
              refine lv_iload hx hb dX9_comesBack_121 (lv_at hl 9 rfl) ?_
              refine lv_iload hx hb dX9_comesBack_123 (lv_at hl 2 rfl) ?_
              refine lv_iadd hx hb dX9_comesBack_125 ?_
              refine lv_istore (lv' := [(5, .int (w + ((a 41) ((6 * z) + 0)))), (10, .int (w + ((a 41) ((6 * z) + 0)))), (9, .int (a 38 z)), (8, .int ((a 41) ((6 * z) + 0))), (7, .int 0), (0, .ref h), (1, .int (nI z)), (2, .int y), (3, .int (a 38 z)), (4, .int (a 38 z + y)), (6, .int (nI i))]) hx hb dX9_comesBack_126 hl (by decide) rfl (fun ls hl => ?_)
              refine lv_iinc (v := nI (i + 1)) (lv' := [(6, .int (nI (i + 1))), (5, .int (w + ((a 41) ((6 * z) + 0)))), (10, .int (w + ((a 41) ((6 * z) + 0)))), (9, .int (a 38 z)), (8, .int ((a 41) ((6 * z) + 0))), (7, .int 0), (0, .ref h), (1, .int (nI z)), (2, .int y), (3, .int (a 38 z)), (4, .int (a 38 z + y))]) hx hb dX9_comesBack_128 hl (k := 10) rfl (nI_1 _) (by decide) rfl (fun ls hl => ?_)
              refine lv_goto (tgt := 26) hx hb dX9_comesBack_131 (by decide) ?_
              exact ih (i + 1) (upd f 0 ((f 0) + ((w + ((a 41) ((6 * z) + 0))) - (a 38 z)))) (w + ((a 41) ((6 * z) + 0))) H locs (by omega) (by rw [← he]; simp only [lp, cbStep, fI, if_pos c35, if_neg c66, if_pos c84, if_neg c103]) hP hD hS ls (lv_sub hl [6, 7, 8, 9, 10, 1, 0] rfl)
          · refine lv_iload hx hb dX9_comesBack_87 (lv_at hl 7 rfl) ?_
            refine lv_goto (tgt := 97) hx hb dX9_comesBack_89 (by decide) ?_
            refine lv_istore (lv' := [(10, .int (a 38 z + y)), (9, .int (a 38 z)), (8, .int ((a 41) ((6 * z) + 0))), (7, .int 0), (0, .ref h), (1, .int (nI z)), (2, .int y), (3, .int (a 38 z)), (4, .int (a 38 z + y)), (5, .int w), (6, .int (nI i))]) hx hb dX9_comesBack_97 hl (by decide) rfl (fun ls hl => ?_)
            refine lv_iload hx hb dX9_comesBack_99 (lv_at hl 0 rfl) ?_
            refine lv_iload hx hb dX9_comesBack_101 (lv_at hl 1 rfl) ?_
            refine lv_icmp_le (tgt := 121) hx hb dX9_comesBack_103 (by decide) (fun c103 => ?_) (fun c103 => ?_)
            · refine lv_iload hx hb dX9_comesBack_121 (lv_at hl 9 rfl) ?_
              refine lv_iload hx hb dX9_comesBack_123 (lv_at hl 2 rfl) ?_
              refine lv_iadd hx hb dX9_comesBack_125 ?_
              refine lv_istore (lv' := [(5, .int (w + ((a 41) ((6 * z) + 0)))), (10, .int (a 38 z + y)), (9, .int (a 38 z)), (8, .int ((a 41) ((6 * z) + 0))), (7, .int 0), (0, .ref h), (1, .int (nI z)), (2, .int y), (3, .int (a 38 z)), (4, .int (a 38 z + y)), (6, .int (nI i))]) hx hb dX9_comesBack_126 hl (by decide) rfl (fun ls hl => ?_)
              refine lv_iinc (v := nI (i + 1)) (lv' := [(6, .int (nI (i + 1))), (5, .int (w + ((a 41) ((6 * z) + 0)))), (10, .int (a 38 z + y)), (9, .int (a 38 z)), (8, .int ((a 41) ((6 * z) + 0))), (7, .int 0), (0, .ref h), (1, .int (nI z)), (2, .int y), (3, .int (a 38 z)), (4, .int (a 38 z + y))]) hx hb dX9_comesBack_128 hl (k := 10) rfl (nI_1 _) (by decide) rfl (fun ls hl => ?_)
              refine lv_goto (tgt := 26) hx hb dX9_comesBack_131 (by decide) ?_
              exact ih (i + 1) f (w + ((a 41) ((6 * z) + 0))) H locs (by omega) (by rw [← he]; simp only [lp, cbStep, fI, if_pos c35, if_neg c66, if_neg c84, if_pos c103]) hP hD hS ls (lv_sub hl [6, 7, 8, 9, 10, 1, 0] rfl)
            · refine lv_aload_n hx hb dX9_comesBack_106 rfl (lv_at hl 4 rfl) ?_
              refine mg_19 hx hb hts hown hK hP dX9_comesBack_107 ?_
              refine lv_iload hx hb dX9_comesBack_110 (lv_at hl 3 rfl) ?_
              refine lv_dup2_11 hx hb dX9_comesBack_112 rfl rfl ?_
              refine ml_19 (x := f 0) hx hb hK hP 0 rfl (by omega) rfl dX9_comesBack_113 ?_
              refine lv_iload hx hb dX9_comesBack_114 (lv_at hl 0 rfl) ?_
              refine lv_iload hx hb dX9_comesBack_116 (lv_at hl 1 rfl) ?_
              refine lv_isub hx hb dX9_comesBack_118 ?_
              refine lv_iadd hx hb dX9_comesBack_119 ?_
              refine mt_19 (f := f) hx hb hK hP hD hS 0 rfl (by omega) rfl dX9_comesBack_120 (fun H locs hP hD hS => ?_)
              rw [up_up] at hP hD
              refine lv_iload hx hb dX9_comesBack_121 (lv_at hl 9 rfl) ?_
              refine lv_iload hx hb dX9_comesBack_123 (lv_at hl 2 rfl) ?_
              refine lv_iadd hx hb dX9_comesBack_125 ?_
              refine lv_istore (lv' := [(5, .int (w + ((a 41) ((6 * z) + 0)))), (10, .int (a 38 z + y)), (9, .int (a 38 z)), (8, .int ((a 41) ((6 * z) + 0))), (7, .int 0), (0, .ref h), (1, .int (nI z)), (2, .int y), (3, .int (a 38 z)), (4, .int (a 38 z + y)), (6, .int (nI i))]) hx hb dX9_comesBack_126 hl (by decide) rfl (fun ls hl => ?_)
              refine lv_iinc (v := nI (i + 1)) (lv' := [(6, .int (nI (i + 1))), (5, .int (w + ((a 41) ((6 * z) + 0)))), (10, .int (a 38 z + y)), (9, .int (a 38 z)), (8, .int ((a 41) ((6 * z) + 0))), (7, .int 0), (0, .ref h), (1, .int (nI z)), (2, .int y), (3, .int (a 38 z)), (4, .int (a 38 z + y))]) hx hb dX9_comesBack_128 hl (k := 10) rfl (nI_1 _) (by decide) rfl (fun ls hl => ?_)
              refine lv_goto (tgt := 26) hx hb dX9_comesBack_131 (by decide) ?_
              exact ih (i + 1) (upd f 0 ((f 0) + ((a 38 z + y) - (a 38 z)))) (w + ((a 41) ((6 * z) + 0))) H locs (by omega) (by rw [← he]; simp only [lp, cbStep, fI, if_pos c35, if_neg c66, if_neg c84, if_neg c103]) hP hD hS ls (lv_sub hl [6, 7, 8, 9, 10, 1, 0] rfl)
  refine lv_aload_n hx hb dX9_comesBack_0 rfl (lv_at hl 0 rfl) ?_
  refine mg_38 hx hb hts hown hK hP dX9_comesBack_1 ?_
  refine lv_iload_n hx hb dX9_comesBack_4 rfl (lv_at hl 1 rfl) ?_
  refine ml_38 (x := (a 38) z) hx hb hK hP z rfl (by omega) rfl dX9_comesBack_5 ?_
  refine lv_istore_n (lv' := [(3, .int ((a 38) z)), (0, .ref h), (1, .int (nI z)), (2, .int y)]) hx hb dX9_comesBack_6 rfl hl (by decide) rfl (fun ls hl => ?_)
  refine lv_iload_n hx hb dX9_comesBack_7 rfl (lv_at hl 0 rfl) ?_
  refine lv_iload_n hx hb dX9_comesBack_8 rfl (lv_at hl 3 rfl) ?_
  refine lv_iadd hx hb dX9_comesBack_9 ?_
  refine lv_istore (lv' := [(4, .int (((a 38) z) + y)), (3, .int ((a 38) z)), (0, .ref h), (1, .int (nI z)), (2, .int y)]) hx hb dX9_comesBack_10 hl (by decide) rfl (fun ls hl => ?_)
  refine lv_aload_n hx hb dX9_comesBack_12 rfl (lv_at hl 2 rfl) ?_
  refine mg_38 hx hb hts hown hK hP dX9_comesBack_13 ?_
  refine lv_iload_n hx hb dX9_comesBack_16 rfl (lv_at hl 3 rfl) ?_
  refine lv_iload hx hb dX9_comesBack_17 (lv_at hl 0 rfl) ?_
  refine mt_38 (f := a 38) hx hb hK hP hD hS z rfl (by omega) rfl dX9_comesBack_19 (fun H locs hP hD hS => ?_)
  refine lv_iconst (v := 0) hx hb dX9_comesBack_20 (by decide) ?_
  refine lv_istore (lv' := [(5, .int 0), (4, .int (((a 38) z) + y)), (3, .int ((a 38) z)), (0, .ref h), (1, .int (nI z)), (2, .int y)]) hx hb dX9_comesBack_21 hl (by decide) rfl (fun ls hl => ?_)
  refine lv_iconst (v := 0) hx hb dX9_comesBack_23 (by decide) ?_
  refine lv_istore (lv' := [(6, .int 0), (5, .int 0), (4, .int (((a 38) z) + y)), (3, .int ((a 38) z)), (0, .ref h), (1, .int (nI z)), (2, .int y)]) hx hb dX9_comesBack_24 hl (by decide) rfl (fun ls hl => ?_)
  exact L 6 0 (a 19) 0 H locs (by omega) (rfl) hP hD hS ls (lv_sub hl [4, 5, 6, 3, 2, 1, 0] rfl)
