def mBack (z : Nat) (y : Int32) (u : MSt) : MSt := (u.1, u.2.1, u.2.2.1, up (up u.2.2.2 38 (upd (u.2.2.2 38) z (u.2.2.2 38 z + y))) 19 (fBack (u.2.2.2 41) z (u.2.2.2 38 z) (u.2.2.2 38 z + y) (u.2.2.2 19)))
set_option maxHeartbeats 4000000 in
set_option maxRecDepth 100000 in
theorem c_X9_comesBack (l : Launch) (D : va_G) (h : Nat) (q : Nat → Nat) (k : Nat → ClassId) (c : Nat → Nat) (v : Nat → Int32) (nm : Int64) (a : Nat → Nat → Int32) (z : Nat) (y : Int32) (hz : z < 100) : Fs (S := MSt) l yX9_comesBack cX9_comesBack 11 none 0 0 0 D (TY k) G0 [.ref h, .int (nI z), .int y] (Mw h q k c v nm a) (fun _ => none) (fun u => u = mBack z y (c, v, nm, a)) (fun u => MwU h q k u) := by
  refine fs_body (by decide +kernel) (Nat.le_of_ble_eq_true rfl) ?_
  intro p e s m args below meth c_ Q A hx hb hml hown hts hK hP hD hS hA hG hin hr hq hlocks ls hl
  replace hl : lv_has ls 11 [(0, .ref h), (1, .int (nI z)), (2, .int y)] := hl
  change s.vm.findClass RX9 = some m.cls at hown
  have L : ∀ (r i : Nat) (f : Nat → Int32) (w : Int32) (H : Heap) (locs : List Loc), i + r = 6 → (lp (cbStep (a 41) z (a 38 z) (a 38 z + y)) r i (f, w)).1 = fBack (a 41) z (a 38 z) (a 38 z + y) (a 19) → va_P D vwCl (Mw h q k c v nm (up (up a 38 (upd (a 38) z (a 38 z + y))) 19 f)) H → va_D A (Mw h q k c v nm (up (up a 38 (upd (a 38) z (a 38 z + y))) 19 f)) → va_S A s.heap H locs → ∀ (ls : Array Slot), lv_has ls 11 [(0, .ref h), (1, .int (nI z)), (2, .int y), (3, .int (a 38 z)), (4, .int (a 38 z + y)), (5, .int w), (6, .int (nI i))] → W p l e (rmd 0 0 0) s m args below meth c_ H locs 0 0 Q (F0 m 26 ls []) := by
    intro r
    induction r with
    | zero =>
      intro i f w H locs hi he hP hD hS ls hl
      refine lv_iload hx hb dX9_comesBack_26 (lv_at hl 6 rfl) ?_
      refine lv_bipush (v := 6) hx hb dX9_comesBack_28 (by decide) ?_
      refine lv_icmp_ge (tgt := 134) hx hb dX9_comesBack_30 (by decide) (fun c30 => ?_) (fun c30 => absurd (nI_le (a := 6) (by omega) (by omega)) c30)
      exact fs_v hx hb hr hlocks hq (c, v, nm, up (up a 38 (upd (a 38) z (a 38 z + y))) 19 f) (by rw [mBack, ← he]; rfl) hP hD hS dX9_comesBack_134 rfl
    | succ r ih =>
      intro i f w H locs hi he hP hD hS ls hl
      refine lv_iload hx hb dX9_comesBack_26 (lv_at hl 6 rfl) ?_
      refine lv_bipush (v := 6) hx hb dX9_comesBack_28 (by decide) ?_
      refine lv_icmp_ge (tgt := 134) hx hb dX9_comesBack_30 (by decide) (fun c30 => absurd c30 (nI_ge (b := 6) (by omega) (by omega))) (fun c30 => ?_)
      refine lv_iload hx hb dX9_comesBack_33 (lv_at hl 6 rfl) ?_
      refine lv_if_ne (tgt := 42) hx hb dX9_comesBack_35 (by decide) (fun c35 => ?_) (fun c35 => ?_)
      · replace c35 : ¬ (i = 0) := fun z => c35 ((nI_eq (a := i) (b := 0) (by omega) (by omega)).mpr z)
        refine lv_bipush (v := 6) hx hb dX9_comesBack_42 (by decide) ?_
        refine lv_iload hx hb dX9_comesBack_44 (lv_at hl 6 rfl) ?_
        refine lv_isub hx hb dX9_comesBack_46 ?_
        refine rw_topi (y := nI (6 - i)) (pk_sub (a := 6) (by omega)) ?_
        refine lv_istore (lv' := [(7, .int (nI (6 - i))), (0, .ref h), (1, .int (nI z)), (2, .int y), (3, .int (a 38 z)), (4, .int (a 38 z + y)), (5, .int w), (6, .int (nI i))]) hx hb dX9_comesBack_47 hl (by decide) rfl (fun ls hl => ?_)
        refine lv_aload_n hx hb dX9_comesBack_49 rfl (lv_at hl 1 rfl) ?_
        refine mg_41 hx hb hts hown hK hP dX9_comesBack_50 ?_
        refine lv_bipush (v := 6) hx hb dX9_comesBack_53 (by decide) ?_
        refine lv_iload_n hx hb dX9_comesBack_55 rfl (lv_at hl 2 rfl) ?_
        refine lv_imul hx hb dX9_comesBack_56 ?_
        refine rw_topi (y := nI (6 * z)) (pk_mul _ _) ?_
        refine lv_iload hx hb dX9_comesBack_57 (lv_at hl 0 rfl) ?_
        refine lv_iadd hx hb dX9_comesBack_59 ?_
        refine rw_topi (y := nI ((6 * z) + (6 - i))) (nI_add _ _) ?_
        refine ml_41 (x := (a 41) ((6 * z) + (6 - i))) hx hb hK hP ((6 * z) + (6 - i)) rfl (by omega) rfl dX9_comesBack_60 ?_
        refine lv_istore (lv' := [(8, .int ((a 41) ((6 * z) + (6 - i)))), (7, .int (nI (6 - i))), (0, .ref h), (1, .int (nI z)), (2, .int y), (3, .int (a 38 z)), (4, .int (a 38 z + y)), (5, .int w), (6, .int (nI i))]) hx hb dX9_comesBack_61 hl (by decide) rfl (fun ls hl => ?_)
        refine lv_iload_n hx hb dX9_comesBack_63 rfl (lv_at hl 5 rfl) ?_
        refine lv_iload hx hb dX9_comesBack_64 (lv_at hl 7 rfl) ?_
        refine lv_icmp_le (tgt := 73) hx hb dX9_comesBack_66 (by decide) (fun c66 => ?_) (fun c66 => ?_)
        · refine lv_iload hx hb dX9_comesBack_73 (lv_at hl 7 rfl) ?_
          refine lv_istore (lv' := [(9, .int w), (8, .int ((a 41) ((6 * z) + (6 - i)))), (7, .int (nI (6 - i))), (0, .ref h), (1, .int (nI z)), (2, .int y), (3, .int (a 38 z)), (4, .int (a 38 z + y)), (5, .int w), (6, .int (nI i))]) hx hb dX9_comesBack_75 hl (by decide) rfl (fun ls hl => ?_)
          refine lv_iload hx hb dX9_comesBack_77 (lv_at hl 7 rfl) ?_
          refine lv_iload hx hb dX9_comesBack_79 (lv_at hl 8 rfl) ?_
          refine lv_iload hx hb dX9_comesBack_81 (lv_at hl 1 rfl) ?_
          refine lv_iadd hx hb dX9_comesBack_83 ?_
          refine lv_icmp_ge (tgt := 92) hx hb dX9_comesBack_84 (by decide) (fun c84 => ?_) (fun c84 => ?_)
          · refine lv_iload hx hb dX9_comesBack_92 (lv_at hl 8 rfl) ?_
            refine lv_iload hx hb dX9_comesBack_94 (lv_at hl 1 rfl) ?_
            refine lv_iadd hx hb dX9_comesBack_96 ?_
            refine lv_istore (lv' := [(10, .int (w + ((a 41) ((6 * z) + (6 - i))))), (9, .int w), (8, .int ((a 41) ((6 * z) + (6 - i)))), (7, .int (nI (6 - i))), (0, .ref h), (1, .int (nI z)), (2, .int y), (3, .int (a 38 z)), (4, .int (a 38 z + y)), (5, .int w), (6, .int (nI i))]) hx hb dX9_comesBack_97 hl (by decide) rfl (fun ls hl => ?_)
            refine lv_iload hx hb dX9_comesBack_99 (lv_at hl 0 rfl) ?_
            refine lv_iload hx hb dX9_comesBack_101 (lv_at hl 1 rfl) ?_
            refine lv_icmp_le (tgt := 121) hx hb dX9_comesBack_103 (by decide) (fun c103 => ?_) (fun c103 => ?_)
            · refine lv_iload hx hb dX9_comesBack_121 (lv_at hl 9 rfl) ?_
              refine lv_iload hx hb dX9_comesBack_123 (lv_at hl 2 rfl) ?_
              refine lv_iadd hx hb dX9_comesBack_125 ?_
              refine lv_istore (lv' := [(5, .int (w + ((a 41) ((6 * z) + (6 - i))))), (10, .int (w + ((a 41) ((6 * z) + (6 - i))))), (9, .int w), (8, .int ((a 41) ((6 * z) + (6 - i)))), (7, .int (nI (6 - i))), (0, .ref h), (1, .int (nI z)), (2, .int y), (3, .int (a 38 z)), (4, .int (a 38 z + y)), (6, .int (nI i))]) hx hb dX9_comesBack_126 hl (by decide) rfl (fun ls hl => ?_)
              refine lv_iinc (v := nI (i + 1)) (lv' := [(6, .int (nI (i + 1))), (5, .int (w + ((a 41) ((6 * z) + (6 - i))))), (10, .int (w + ((a 41) ((6 * z) + (6 - i))))), (9, .int w), (8, .int ((a 41) ((6 * z) + (6 - i)))), (7, .int (nI (6 - i))), (0, .ref h), (1, .int (nI z)), (2, .int y), (3, .int (a 38 z)), (4, .int (a 38 z + y))]) hx hb dX9_comesBack_128 hl (k := 10) rfl (nI_1 _) (by decide) rfl (fun ls hl => ?_)
              refine lv_goto (tgt := 26) hx hb dX9_comesBack_131 (by decide) ?_
              exact ih (i + 1) f (w + ((a 41) ((6 * z) + (6 - i)))) H locs (by omega) (by rw [← he]; simp only [lp, cbStep, fI, if_neg c35, if_pos c66, if_pos c84, if_pos c103]) hP hD hS ls (lv_sub hl [6, 7, 8, 9, 10, 1, 0] rfl)
            · refine lv_aload_n hx hb dX9_comesBack_106 rfl (lv_at hl 4 rfl) ?_
              refine mg_19 hx hb hts hown hK hP dX9_comesBack_107 ?_
              refine lv_iload hx hb dX9_comesBack_110 (lv_at hl 3 rfl) ?_
              refine lv_dup2_11 hx hb dX9_comesBack_112 rfl rfl ?_
              refine ml_19 (x := f (6 - i)) hx hb hK hP (6 - i) rfl (by omega) rfl dX9_comesBack_113 ?_
              refine lv_iload hx hb dX9_comesBack_114 (lv_at hl 0 rfl) ?_
              refine lv_iload hx hb dX9_comesBack_116 (lv_at hl 1 rfl) ?_
              refine lv_isub hx hb dX9_comesBack_118 ?_
              refine lv_iadd hx hb dX9_comesBack_119 ?_
              refine mt_19 (f := f) hx hb hK hP hD hS (6 - i) rfl (by omega) rfl dX9_comesBack_120 (fun H locs hP hD hS => ?_)
              rw [up_up] at hP hD
              refine lv_iload hx hb dX9_comesBack_121 (lv_at hl 9 rfl) ?_
              refine lv_iload hx hb dX9_comesBack_123 (lv_at hl 2 rfl) ?_
              refine lv_iadd hx hb dX9_comesBack_125 ?_
              refine lv_istore (lv' := [(5, .int (w + ((a 41) ((6 * z) + (6 - i))))), (10, .int (w + ((a 41) ((6 * z) + (6 - i))))), (9, .int w), (8, .int ((a 41) ((6 * z) + (6 - i)))), (7, .int (nI (6 - i))), (0, .ref h), (1, .int (nI z)), (2, .int y), (3, .int (a 38 z)), (4, .int (a 38 z + y)), (6, .int (nI i))]) hx hb dX9_comesBack_126 hl (by decide) rfl (fun ls hl => ?_)
              refine lv_iinc (v := nI (i + 1)) (lv' := [(6, .int (nI (i + 1))), (5, .int (w + ((a 41) ((6 * z) + (6 - i))))), (10, .int (w + ((a 41) ((6 * z) + (6 - i))))), (9, .int w), (8, .int ((a 41) ((6 * z) + (6 - i)))), (7, .int (nI (6 - i))), (0, .ref h), (1, .int (nI z)), (2, .int y), (3, .int (a 38 z)), (4, .int (a 38 z + y))]) hx hb dX9_comesBack_128 hl (k := 10) rfl (nI_1 _) (by decide) rfl (fun ls hl => ?_)
              refine lv_goto (tgt := 26) hx hb dX9_comesBack_131 (by decide) ?_
              exact ih (i + 1) (upd f (6 - i) ((f (6 - i)) + ((w + ((a 41) ((6 * z) + (6 - i)))) - w))) (w + ((a 41) ((6 * z) + (6 - i)))) H locs (by omega) (by rw [← he]; simp only [lp, cbStep, fI, if_neg c35, if_pos c66, if_pos c84, if_neg c103]) hP hD hS ls (lv_sub hl [6, 7, 8, 9, 10, 1, 0] rfl)
          · refine lv_iload hx hb dX9_comesBack_87 (lv_at hl 7 rfl) ?_
            refine lv_goto (tgt := 97) hx hb dX9_comesBack_89 (by decide) ?_
            refine lv_istore (lv' := [(10, .int (a 38 z + y)), (9, .int w), (8, .int ((a 41) ((6 * z) + (6 - i)))), (7, .int (nI (6 - i))), (0, .ref h), (1, .int (nI z)), (2, .int y), (3, .int (a 38 z)), (4, .int (a 38 z + y)), (5, .int w), (6, .int (nI i))]) hx hb dX9_comesBack_97 hl (by decide) rfl (fun ls hl => ?_)
            refine lv_iload hx hb dX9_comesBack_99 (lv_at hl 0 rfl) ?_
            refine lv_iload hx hb dX9_comesBack_101 (lv_at hl 1 rfl) ?_
            refine lv_icmp_le (tgt := 121) hx hb dX9_comesBack_103 (by decide) (fun c103 => ?_) (fun c103 => ?_)
            · refine lv_iload hx hb dX9_comesBack_121 (lv_at hl 9 rfl) ?_
              refine lv_iload hx hb dX9_comesBack_123 (lv_at hl 2 rfl) ?_
              refine lv_iadd hx hb dX9_comesBack_125 ?_
              refine lv_istore (lv' := [(5, .int (w + ((a 41) ((6 * z) + (6 - i))))), (10, .int (a 38 z + y)), (9, .int w), (8, .int ((a 41) ((6 * z) + (6 - i)))), (7, .int (nI (6 - i))), (0, .ref h), (1, .int (nI z)), (2, .int y), (3, .int (a 38 z)), (4, .int (a 38 z + y)), (6, .int (nI i))]) hx hb dX9_comesBack_126 hl (by decide) rfl (fun ls hl => ?_)
              refine lv_iinc (v := nI (i + 1)) (lv' := [(6, .int (nI (i + 1))), (5, .int (w + ((a 41) ((6 * z) + (6 - i))))), (10, .int (a 38 z + y)), (9, .int w), (8, .int ((a 41) ((6 * z) + (6 - i)))), (7, .int (nI (6 - i))), (0, .ref h), (1, .int (nI z)), (2, .int y), (3, .int (a 38 z)), (4, .int (a 38 z + y))]) hx hb dX9_comesBack_128 hl (k := 10) rfl (nI_1 _) (by decide) rfl (fun ls hl => ?_)
              refine lv_goto (tgt := 26) hx hb dX9_comesBack_131 (by decide) ?_
              exact ih (i + 1) f (w + ((a 41) ((6 * z) + (6 - i)))) H locs (by omega) (by rw [← he]; simp only [lp, cbStep, fI, if_neg c35, if_pos c66, if_neg c84, if_pos c103]) hP hD hS ls (lv_sub hl [6, 7, 8, 9, 10, 1, 0] rfl)
            · refine lv_aload_n hx hb dX9_comesBack_106 rfl (lv_at hl 4 rfl) ?_
              refine mg_19 hx hb hts hown hK hP dX9_comesBack_107 ?_
              refine lv_iload hx hb dX9_comesBack_110 (lv_at hl 3 rfl) ?_
              refine lv_dup2_11 hx hb dX9_comesBack_112 rfl rfl ?_
              refine ml_19 (x := f (6 - i)) hx hb hK hP (6 - i) rfl (by omega) rfl dX9_comesBack_113 ?_
              refine lv_iload hx hb dX9_comesBack_114 (lv_at hl 0 rfl) ?_
              refine lv_iload hx hb dX9_comesBack_116 (lv_at hl 1 rfl) ?_
              refine lv_isub hx hb dX9_comesBack_118 ?_
              refine lv_iadd hx hb dX9_comesBack_119 ?_
              refine mt_19 (f := f) hx hb hK hP hD hS (6 - i) rfl (by omega) rfl dX9_comesBack_120 (fun H locs hP hD hS => ?_)
              rw [up_up] at hP hD
              refine lv_iload hx hb dX9_comesBack_121 (lv_at hl 9 rfl) ?_
              refine lv_iload hx hb dX9_comesBack_123 (lv_at hl 2 rfl) ?_
              refine lv_iadd hx hb dX9_comesBack_125 ?_
              refine lv_istore (lv' := [(5, .int (w + ((a 41) ((6 * z) + (6 - i))))), (10, .int (a 38 z + y)), (9, .int w), (8, .int ((a 41) ((6 * z) + (6 - i)))), (7, .int (nI (6 - i))), (0, .ref h), (1, .int (nI z)), (2, .int y), (3, .int (a 38 z)), (4, .int (a 38 z + y)), (6, .int (nI i))]) hx hb dX9_comesBack_126 hl (by decide) rfl (fun ls hl => ?_)
              refine lv_iinc (v := nI (i + 1)) (lv' := [(6, .int (nI (i + 1))), (5, .int (w + ((a 41) ((6 * z) + (6 - i))))), (10, .int (a 38 z + y)), (9, .int w), (8, .int ((a 41) ((6 * z) + (6 - i)))), (7, .int (nI (6 - i))), (0, .ref h), (1, .int (nI z)), (2, .int y), (3, .int (a 38 z)), (4, .int (a 38 z + y))]) hx hb dX9_comesBack_128 hl (k := 10) rfl (nI_1 _) (by decide) rfl (fun ls hl => ?_)
              refine lv_goto (tgt := 26) hx hb dX9_comesBack_131 (by decide) ?_
              exact ih (i + 1) (upd f (6 - i) ((f (6 - i)) + ((a 38 z + y) - w))) (w + ((a 41) ((6 * z) + (6 - i)))) H locs (by omega) (by rw [← he]; simp only [lp, cbStep, fI, if_neg c35, if_pos c66, if_neg c84, if_neg c103]) hP hD hS ls (lv_sub hl [6, 7, 8, 9, 10, 1, 0] rfl)
        · refine lv_iload_n hx hb dX9_comesBack_69 rfl (lv_at hl 5 rfl) ?_
          refine lv_goto (tgt := 75) hx hb dX9_comesBack_70 (by decide) ?_
          refine lv_istore (lv' := [(9, .int (a 38 z)), (8, .int ((a 41) ((6 * z) + (6 - i)))), (7, .int (nI (6 - i))), (0, .ref h), (1, .int (nI z)), (2, .int y), (3, .int (a 38 z)), (4, .int (a 38 z + y)), (5, .int w), (6, .int (nI i))]) hx hb dX9_comesBack_75 hl (by decide) rfl (fun ls hl => ?_)
          refine lv_iload hx hb dX9_comesBack_77 (lv_at hl 7 rfl) ?_
          refine lv_iload hx hb dX9_comesBack_79 (lv_at hl 8 rfl) ?_
          refine lv_iload hx hb dX9_comesBack_81 (lv_at hl 1 rfl) ?_
          refine lv_iadd hx hb dX9_comesBack_83 ?_
          refine lv_icmp_ge (tgt := 92) hx hb dX9_comesBack_84 (by decide) (fun c84 => ?_) (fun c84 => ?_)
          · refine lv_iload hx hb dX9_comesBack_92 (lv_at hl 8 rfl) ?_
            refine lv_iload hx hb dX9_comesBack_94 (lv_at hl 1 rfl) ?_
            refine lv_iadd hx hb dX9_comesBack_96 ?_
            refine lv_istore (lv' := [(10, .int (w + ((a 41) ((6 * z) + (6 - i))))), (9, .int (a 38 z)), (8, .int ((a 41) ((6 * z) + (6 - i)))), (7, .int (nI (6 - i))), (0, .ref h), (1, .int (nI z)), (2, .int y), (3, .int (a 38 z)), (4, .int (a 38 z + y)), (5, .int w), (6, .int (nI i))]) hx hb dX9_comesBack_97 hl (by decide) rfl (fun ls hl => ?_)
            refine lv_iload hx hb dX9_comesBack_99 (lv_at hl 0 rfl) ?_
            refine lv_iload hx hb dX9_comesBack_101 (lv_at hl 1 rfl) ?_
            refine lv_icmp_le (tgt := 121) hx hb dX9_comesBack_103 (by decide) (fun c103 => ?_) (fun c103 => ?_)
            · refine lv_iload hx hb dX9_comesBack_121 (lv_at hl 9 rfl) ?_
              refine lv_iload hx hb dX9_comesBack_123 (lv_at hl 2 rfl) ?_
              refine lv_iadd hx hb dX9_comesBack_125 ?_
              refine lv_istore (lv' := [(5, .int (w + ((a 41) ((6 * z) + (6 - i))))), (10, .int (w + ((a 41) ((6 * z) + (6 - i))))), (9, .int (a 38 z)), (8, .int ((a 41) ((6 * z) + (6 - i)))), (7, .int (nI (6 - i))), (0, .ref h), (1, .int (nI z)), (2, .int y), (3, .int (a 38 z)), (4, .int (a 38 z + y)), (6, .int (nI i))]) hx hb dX9_comesBack_126 hl (by decide) rfl (fun ls hl => ?_)
              refine lv_iinc (v := nI (i + 1)) (lv' := [(6, .int (nI (i + 1))), (5, .int (w + ((a 41) ((6 * z) + (6 - i))))), (10, .int (w + ((a 41) ((6 * z) + (6 - i))))), (9, .int (a 38 z)), (8, .int ((a 41) ((6 * z) + (6 - i)))), (7, .int (nI (6 - i))), (0, .ref h), (1, .int (nI z)), (2, .int y), (3, .int (a 38 z)), (4, .int (a 38 z + y))]) hx hb dX9_comesBack_128 hl (k := 10) rfl (nI_1 _) (by decide) rfl (fun ls hl => ?_)
              refine lv_goto (tgt := 26) hx hb dX9_comesBack_131 (by decide) ?_
              exact ih (i + 1) f (w + ((a 41) ((6 * z) + (6 - i)))) H locs (by omega) (by rw [← he]; simp only [lp, cbStep, fI, if_neg c35, if_neg c66, if_pos c84, if_pos c103]) hP hD hS ls (lv_sub hl [6, 7, 8, 9, 10, 1, 0] rfl)
            · refine lv_aload_n hx hb dX9_comesBack_106 rfl (lv_at hl 4 rfl) ?_
              refine mg_19 hx hb hts hown hK hP dX9_comesBack_107 ?_
              refine lv_iload hx hb dX9_comesBack_110 (lv_at hl 3 rfl) ?_
              refine lv_dup2_11 hx hb dX9_comesBack_112 rfl rfl ?_
              refine ml_19 (x := f (6 - i)) hx hb hK hP (6 - i) rfl (by omega) rfl dX9_comesBack_113 ?_
              refine lv_iload hx hb dX9_comesBack_114 (lv_at hl 0 rfl) ?_
              refine lv_iload hx hb dX9_comesBack_116 (lv_at hl 1 rfl) ?_
              refine lv_isub hx hb dX9_comesBack_118 ?_
              refine lv_iadd hx hb dX9_comesBack_119 ?_
              refine mt_19 (f := f) hx hb hK hP hD hS (6 - i) rfl (by omega) rfl dX9_comesBack_120 (fun H locs hP hD hS => ?_)
              rw [up_up] at hP hD
              refine lv_iload hx hb dX9_comesBack_121 (lv_at hl 9 rfl) ?_
              refine lv_iload hx hb dX9_comesBack_123 (lv_at hl 2 rfl) ?_
              refine lv_iadd hx hb dX9_comesBack_125 ?_
              refine lv_istore (lv' := [(5, .int (w + ((a 41) ((6 * z) + (6 - i))))), (10, .int (w + ((a 41) ((6 * z) + (6 - i))))), (9, .int (a 38 z)), (8, .int ((a 41) ((6 * z) + (6 - i)))), (7, .int (nI (6 - i))), (0, .ref h), (1, .int (nI z)), (2, .int y), (3, .int (a 38 z)), (4, .int (a 38 z + y)), (6, .int (nI i))]) hx hb dX9_comesBack_126 hl (by decide) rfl (fun ls hl => ?_)
              refine lv_iinc (v := nI (i + 1)) (lv' := [(6, .int (nI (i + 1))), (5, .int (w + ((a 41) ((6 * z) + (6 - i))))), (10, .int (w + ((a 41) ((6 * z) + (6 - i))))), (9, .int (a 38 z)), (8, .int ((a 41) ((6 * z) + (6 - i)))), (7, .int (nI (6 - i))), (0, .ref h), (1, .int (nI z)), (2, .int y), (3, .int (a 38 z)), (4, .int (a 38 z + y))]) hx hb dX9_comesBack_128 hl (k := 10) rfl (nI_1 _) (by decide) rfl (fun ls hl => ?_)
              refine lv_goto (tgt := 26) hx hb dX9_comesBack_131 (by decide) ?_
              exact ih (i + 1) (upd f (6 - i) ((f (6 - i)) + ((w + ((a 41) ((6 * z) + (6 - i)))) - (a 38 z)))) (w + ((a 41) ((6 * z) + (6 - i)))) H locs (by omega) (by rw [← he]; simp only [lp, cbStep, fI, if_neg c35, if_neg c66, if_pos c84, if_neg c103]) hP hD hS ls (lv_sub hl [6, 7, 8, 9, 10, 1, 0] rfl)
          · refine lv_iload hx hb dX9_comesBack_87 (lv_at hl 7 rfl) ?_
            refine lv_goto (tgt := 97) hx hb dX9_comesBack_89 (by decide) ?_
            refine lv_istore (lv' := [(10, .int (a 38 z + y)), (9, .int (a 38 z)), (8, .int ((a 41) ((6 * z) + (6 - i)))), (7, .int (nI (6 - i))), (0, .ref h), (1, .int (nI z)), (2, .int y), (3, .int (a 38 z)), (4, .int (a 38 z + y)), (5, .int w), (6, .int (nI i))]) hx hb dX9_comesBack_97 hl (by decide) rfl (fun ls hl => ?_)
            refine lv_iload hx hb dX9_comesBack_99 (lv_at hl 0 rfl) ?_
            refine lv_iload hx hb dX9_comesBack_101 (lv_at hl 1 rfl) ?_
            refine lv_icmp_le (tgt := 121) hx hb dX9_comesBack_103 (by decide) (fun c103 => ?_) (fun c103 => ?_)
            · refine lv_iload hx hb dX9_comesBack_121 (lv_at hl 9 rfl) ?_
              refine lv_iload hx hb dX9_comesBack_123 (lv_at hl 2 rfl) ?_
              refine lv_iadd hx hb dX9_comesBack_125 ?_
              refine lv_istore (lv' := [(5, .int (w + ((a 41) ((6 * z) + (6 - i))))), (10, .int (a 38 z + y)), (9, .int (a 38 z)), (8, .int ((a 41) ((6 * z) + (6 - i)))), (7, .int (nI (6 - i))), (0, .ref h), (1, .int (nI z)), (2, .int y), (3, .int (a 38 z)), (4, .int (a 38 z + y)), (6, .int (nI i))]) hx hb dX9_comesBack_126 hl (by decide) rfl (fun ls hl => ?_)
              refine lv_iinc (v := nI (i + 1)) (lv' := [(6, .int (nI (i + 1))), (5, .int (w + ((a 41) ((6 * z) + (6 - i))))), (10, .int (a 38 z + y)), (9, .int (a 38 z)), (8, .int ((a 41) ((6 * z) + (6 - i)))), (7, .int (nI (6 - i))), (0, .ref h), (1, .int (nI z)), (2, .int y), (3, .int (a 38 z)), (4, .int (a 38 z + y))]) hx hb dX9_comesBack_128 hl (k := 10) rfl (nI_1 _) (by decide) rfl (fun ls hl => ?_)
              refine lv_goto (tgt := 26) hx hb dX9_comesBack_131 (by decide) ?_
              exact ih (i + 1) f (w + ((a 41) ((6 * z) + (6 - i)))) H locs (by omega) (by rw [← he]; simp only [lp, cbStep, fI, if_neg c35, if_neg c66, if_neg c84, if_pos c103]) hP hD hS ls (lv_sub hl [6, 7, 8, 9, 10, 1, 0] rfl)
            · refine lv_aload_n hx hb dX9_comesBack_106 rfl (lv_at hl 4 rfl) ?_
              refine mg_19 hx hb hts hown hK hP dX9_comesBack_107 ?_
              refine lv_iload hx hb dX9_comesBack_110 (lv_at hl 3 rfl) ?_
              refine lv_dup2_11 hx hb dX9_comesBack_112 rfl rfl ?_
              refine ml_19 (x := f (6 - i)) hx hb hK hP (6 - i) rfl (by omega) rfl dX9_comesBack_113 ?_
              refine lv_iload hx hb dX9_comesBack_114 (lv_at hl 0 rfl) ?_
              refine lv_iload hx hb dX9_comesBack_116 (lv_at hl 1 rfl) ?_
              refine lv_isub hx hb dX9_comesBack_118 ?_
              refine lv_iadd hx hb dX9_comesBack_119 ?_
              refine mt_19 (f := f) hx hb hK hP hD hS (6 - i) rfl (by omega) rfl dX9_comesBack_120 (fun H locs hP hD hS => ?_)
              rw [up_up] at hP hD
              refine lv_iload hx hb dX9_comesBack_121 (lv_at hl 9 rfl) ?_
              refine lv_iload hx hb dX9_comesBack_123 (lv_at hl 2 rfl) ?_
              refine lv_iadd hx hb dX9_comesBack_125 ?_
              refine lv_istore (lv' := [(5, .int (w + ((a 41) ((6 * z) + (6 - i))))), (10, .int (a 38 z + y)), (9, .int (a 38 z)), (8, .int ((a 41) ((6 * z) + (6 - i)))), (7, .int (nI (6 - i))), (0, .ref h), (1, .int (nI z)), (2, .int y), (3, .int (a 38 z)), (4, .int (a 38 z + y)), (6, .int (nI i))]) hx hb dX9_comesBack_126 hl (by decide) rfl (fun ls hl => ?_)
              refine lv_iinc (v := nI (i + 1)) (lv' := [(6, .int (nI (i + 1))), (5, .int (w + ((a 41) ((6 * z) + (6 - i))))), (10, .int (a 38 z + y)), (9, .int (a 38 z)), (8, .int ((a 41) ((6 * z) + (6 - i)))), (7, .int (nI (6 - i))), (0, .ref h), (1, .int (nI z)), (2, .int y), (3, .int (a 38 z)), (4, .int (a 38 z + y))]) hx hb dX9_comesBack_128 hl (k := 10) rfl (nI_1 _) (by decide) rfl (fun ls hl => ?_)
              refine lv_goto (tgt := 26) hx hb dX9_comesBack_131 (by decide) ?_
              exact ih (i + 1) (upd f (6 - i) ((f (6 - i)) + ((a 38 z + y) - (a 38 z)))) (w + ((a 41) ((6 * z) + (6 - i)))) H locs (by omega) (by rw [← he]; simp only [lp, cbStep, fI, if_neg c35, if_neg c66, if_neg c84, if_neg c103]) hP hD hS ls (lv_sub hl [6, 7, 8, 9, 10, 1, 0] rfl)
      · replace c35 : i = 0 := (nI_eq (a := i) (b := 0) (by omega) (by omega)).mp c35
        refine lv_iconst (v := 0) hx hb dX9_comesBack_38 (by decide) ?_
        refine lv_goto (tgt := 47) hx hb dX9_comesBack_39 (by decide) ?_
        refine lv_istore (lv' := [(7, .int 0), (0, .ref h), (1, .int (nI z)), (2, .int y), (3, .int (a 38 z)), (4, .int (a 38 z + y)), (5, .int w), (6, .int (nI i))]) hx hb dX9_comesBack_47 hl (by decide) rfl (fun ls hl => ?_)
        refine lv_aload_n hx hb dX9_comesBack_49 rfl (lv_at hl 1 rfl) ?_
        refine mg_41 hx hb hts hown hK hP dX9_comesBack_50 ?_
        refine lv_bipush (v := 6) hx hb dX9_comesBack_53 (by decide) ?_
        refine lv_iload_n hx hb dX9_comesBack_55 rfl (lv_at hl 2 rfl) ?_
        refine lv_imul hx hb dX9_comesBack_56 ?_
        refine rw_topi (y := nI (6 * z)) (pk_mul _ _) ?_
        refine lv_iload hx hb dX9_comesBack_57 (lv_at hl 0 rfl) ?_
        refine lv_iadd hx hb dX9_comesBack_59 ?_
        refine rw_topi (y := nI ((6 * z) + 0)) (nI_add _ _) ?_
        refine ml_41 (x := (a 41) ((6 * z) + 0)) hx hb hK hP ((6 * z) + 0) rfl (by omega) rfl dX9_comesBack_60 ?_
        refine lv_istore (lv' := [(8, .int ((a 41) ((6 * z) + 0))), (7, .int 0), (0, .ref h), (1, .int (nI z)), (2, .int y), (3, .int (a 38 z)), (4, .int (a 38 z + y)), (5, .int w), (6, .int (nI i))]) hx hb dX9_comesBack_61 hl (by decide) rfl (fun ls hl => ?_)
        refine lv_iload_n hx hb dX9_comesBack_63 rfl (lv_at hl 5 rfl) ?_
        refine lv_iload hx hb dX9_comesBack_64 (lv_at hl 7 rfl) ?_
        refine lv_icmp_le (tgt := 73) hx hb dX9_comesBack_66 (by decide) (fun c66 => ?_) (fun c66 => ?_)
        · refine lv_iload hx hb dX9_comesBack_73 (lv_at hl 7 rfl) ?_
          refine lv_istore (lv' := [(9, .int w), (8, .int ((a 41) ((6 * z) + 0))), (7, .int 0), (0, .ref h), (1, .int (nI z)), (2, .int y), (3, .int (a 38 z)), (4, .int (a 38 z + y)), (5, .int w), (6, .int (nI i))]) hx hb dX9_comesBack_75 hl (by decide) rfl (fun ls hl => ?_)
          refine lv_iload hx hb dX9_comesBack_77 (lv_at hl 7 rfl) ?_
          refine lv_iload hx hb dX9_comesBack_79 (lv_at hl 8 rfl) ?_
          refine lv_iload hx hb dX9_comesBack_81 (lv_at hl 1 rfl) ?_
          refine lv_iadd hx hb dX9_comesBack_83 ?_
          refine lv_icmp_ge (tgt := 92) hx hb dX9_comesBack_84 (by decide) (fun c84 => ?_) (fun c84 => ?_)
          · refine lv_iload hx hb dX9_comesBack_92 (lv_at hl 8 rfl) ?_
            refine lv_iload hx hb dX9_comesBack_94 (lv_at hl 1 rfl) ?_
            refine lv_iadd hx hb dX9_comesBack_96 ?_
            refine lv_istore (lv' := [(10, .int (w + ((a 41) ((6 * z) + 0)))), (9, .int w), (8, .int ((a 41) ((6 * z) + 0))), (7, .int 0), (0, .ref h), (1, .int (nI z)), (2, .int y), (3, .int (a 38 z)), (4, .int (a 38 z + y)), (5, .int w), (6, .int (nI i))]) hx hb dX9_comesBack_97 hl (by decide) rfl (fun ls hl => ?_)
            refine lv_iload hx hb dX9_comesBack_99 (lv_at hl 0 rfl) ?_
            refine lv_iload hx hb dX9_comesBack_101 (lv_at hl 1 rfl) ?_
            refine lv_icmp_le (tgt := 121) hx hb dX9_comesBack_103 (by decide) (fun c103 => ?_) (fun c103 => ?_)
            · refine lv_iload hx hb dX9_comesBack_121 (lv_at hl 9 rfl) ?_
              refine lv_iload hx hb dX9_comesBack_123 (lv_at hl 2 rfl) ?_
              refine lv_iadd hx hb dX9_comesBack_125 ?_
              refine lv_istore (lv' := [(5, .int (w + ((a 41) ((6 * z) + 0)))), (10, .int (w + ((a 41) ((6 * z) + 0)))), (9, .int w), (8, .int ((a 41) ((6 * z) + 0))), (7, .int 0), (0, .ref h), (1, .int (nI z)), (2, .int y), (3, .int (a 38 z)), (4, .int (a 38 z + y)), (6, .int (nI i))]) hx hb dX9_comesBack_126 hl (by decide) rfl (fun ls hl => ?_)
              refine lv_iinc (v := nI (i + 1)) (lv' := [(6, .int (nI (i + 1))), (5, .int (w + ((a 41) ((6 * z) + 0)))), (10, .int (w + ((a 41) ((6 * z) + 0)))), (9, .int w), (8, .int ((a 41) ((6 * z) + 0))), (7, .int 0), (0, .ref h), (1, .int (nI z)), (2, .int y), (3, .int (a 38 z)), (4, .int (a 38 z + y))]) hx hb dX9_comesBack_128 hl (k := 10) rfl (nI_1 _) (by decide) rfl (fun ls hl => ?_)
              refine lv_goto (tgt := 26) hx hb dX9_comesBack_131 (by decide) ?_
              exact ih (i + 1) f (w + ((a 41) ((6 * z) + 0))) H locs (by omega) (by rw [← he]; simp only [lp, cbStep, fI, if_pos c35, if_pos c66, if_pos c84, if_pos c103]) hP hD hS ls (lv_sub hl [6, 7, 8, 9, 10, 1, 0] rfl)
            · refine lv_aload_n hx hb dX9_comesBack_106 rfl (lv_at hl 4 rfl) ?_
              refine mg_19 hx hb hts hown hK hP dX9_comesBack_107 ?_
              refine lv_iload hx hb dX9_comesBack_110 (lv_at hl 3 rfl) ?_
              refine lv_dup2_11 hx hb dX9_comesBack_112 rfl rfl ?_
              refine ml_19 (x := f 0) hx hb hK hP 0 rfl (by omega) rfl dX9_comesBack_113 ?_
              refine lv_iload hx hb dX9_comesBack_114 (lv_at hl 0 rfl) ?_
              refine lv_iload hx hb dX9_comesBack_116 (lv_at hl 1 rfl) ?_
              refine lv_isub hx hb dX9_comesBack_118 ?_
              refine lv_iadd hx hb dX9_comesBack_119 ?_
              refine mt_19 (f := f) hx hb hK hP hD hS 0 rfl (by omega) rfl dX9_comesBack_120 (fun H locs hP hD hS => ?_)
              rw [up_up] at hP hD
              refine lv_iload hx hb dX9_comesBack_121 (lv_at hl 9 rfl) ?_
              refine lv_iload hx hb dX9_comesBack_123 (lv_at hl 2 rfl) ?_
              refine lv_iadd hx hb dX9_comesBack_125 ?_
              refine lv_istore (lv' := [(5, .int (w + ((a 41) ((6 * z) + 0)))), (10, .int (w + ((a 41) ((6 * z) + 0)))), (9, .int w), (8, .int ((a 41) ((6 * z) + 0))), (7, .int 0), (0, .ref h), (1, .int (nI z)), (2, .int y), (3, .int (a 38 z)), (4, .int (a 38 z + y)), (6, .int (nI i))]) hx hb dX9_comesBack_126 hl (by decide) rfl (fun ls hl => ?_)
              refine lv_iinc (v := nI (i + 1)) (lv' := [(6, .int (nI (i + 1))), (5, .int (w + ((a 41) ((6 * z) + 0)))), (10, .int (w + ((a 41) ((6 * z) + 0)))), (9, .int w), (8, .int ((a 41) ((6 * z) + 0))), (7, .int 0), (0, .ref h), (1, .int (nI z)), (2, .int y), (3, .int (a 38 z)), (4, .int (a 38 z + y))]) hx hb dX9_comesBack_128 hl (k := 10) rfl (nI_1 _) (by decide) rfl (fun ls hl => ?_)
              refine lv_goto (tgt := 26) hx hb dX9_comesBack_131 (by decide) ?_
              exact ih (i + 1) (upd f 0 ((f 0) + ((w + ((a 41) ((6 * z) + 0))) - w))) (w + ((a 41) ((6 * z) + 0))) H locs (by omega) (by rw [← he]; simp only [lp, cbStep, fI, if_pos c35, if_pos c66, if_pos c84, if_neg c103]) hP hD hS ls (lv_sub hl [6, 7, 8, 9, 10, 1, 0] rfl)
          · refine lv_iload hx hb dX9_comesBack_87 (lv_at hl 7 rfl) ?_
            refine lv_goto (tgt := 97) hx hb dX9_comesBack_89 (by decide) ?_
            refine lv_istore (lv' := [(10, .int (a 38 z + y)), (9, .int w), (8, .int ((a 41) ((6 * z) + 0))), (7, .int 0), (0, .ref h), (1, .int (nI z)), (2, .int y), (3, .int (a 38 z)), (4, .int (a 38 z + y)), (5, .int w), (6, .int (nI i))]) hx hb dX9_comesBack_97 hl (by decide) rfl (fun ls hl => ?_)
            refine lv_iload hx hb dX9_comesBack_99 (lv_at hl 0 rfl) ?_
            refine lv_iload hx hb dX9_comesBack_101 (lv_at hl 1 rfl) ?_
            refine lv_icmp_le (tgt := 121) hx hb dX9_comesBack_103 (by decide) (fun c103 => ?_) (fun c103 => ?_)
            · refine lv_iload hx hb dX9_comesBack_121 (lv_at hl 9 rfl) ?_
              refine lv_iload hx hb dX9_comesBack_123 (lv_at hl 2 rfl) ?_
              refine lv_iadd hx hb dX9_comesBack_125 ?_
              refine lv_istore (lv' := [(5, .int (w + ((a 41) ((6 * z) + 0)))), (10, .int (a 38 z + y)), (9, .int w), (8, .int ((a 41) ((6 * z) + 0))), (7, .int 0), (0, .ref h), (1, .int (nI z)), (2, .int y), (3, .int (a 38 z)), (4, .int (a 38 z + y)), (6, .int (nI i))]) hx hb dX9_comesBack_126 hl (by decide) rfl (fun ls hl => ?_)
              refine lv_iinc (v := nI (i + 1)) (lv' := [(6, .int (nI (i + 1))), (5, .int (w + ((a 41) ((6 * z) + 0)))), (10, .int (a 38 z + y)), (9, .int w), (8, .int ((a 41) ((6 * z) + 0))), (7, .int 0), (0, .ref h), (1, .int (nI z)), (2, .int y), (3, .int (a 38 z)), (4, .int (a 38 z + y))]) hx hb dX9_comesBack_128 hl (k := 10) rfl (nI_1 _) (by decide) rfl (fun ls hl => ?_)
              refine lv_goto (tgt := 26) hx hb dX9_comesBack_131 (by decide) ?_
              exact ih (i + 1) f (w + ((a 41) ((6 * z) + 0))) H locs (by omega) (by rw [← he]; simp only [lp, cbStep, fI, if_pos c35, if_pos c66, if_neg c84, if_pos c103]) hP hD hS ls (lv_sub hl [6, 7, 8, 9, 10, 1, 0] rfl)
            · refine lv_aload_n hx hb dX9_comesBack_106 rfl (lv_at hl 4 rfl) ?_
              refine mg_19 hx hb hts hown hK hP dX9_comesBack_107 ?_
              refine lv_iload hx hb dX9_comesBack_110 (lv_at hl 3 rfl) ?_
              refine lv_dup2_11 hx hb dX9_comesBack_112 rfl rfl ?_
              refine ml_19 (x := f 0) hx hb hK hP 0 rfl (by omega) rfl dX9_comesBack_113 ?_
              refine lv_iload hx hb dX9_comesBack_114 (lv_at hl 0 rfl) ?_
              refine lv_iload hx hb dX9_comesBack_116 (lv_at hl 1 rfl) ?_
              refine lv_isub hx hb dX9_comesBack_118 ?_
              refine lv_iadd hx hb dX9_comesBack_119 ?_
              refine mt_19 (f := f) hx hb hK hP hD hS 0 rfl (by omega) rfl dX9_comesBack_120 (fun H locs hP hD hS => ?_)
              rw [up_up] at hP hD
              refine lv_iload hx hb dX9_comesBack_121 (lv_at hl 9 rfl) ?_
              refine lv_iload hx hb dX9_comesBack_123 (lv_at hl 2 rfl) ?_
              refine lv_iadd hx hb dX9_comesBack_125 ?_
              refine lv_istore (lv' := [(5, .int (w + ((a 41) ((6 * z) + 0)))), (10, .int (a 38 z + y)), (9, .int w), (8, .int ((a 41) ((6 * z) + 0))), (7, .int 0), (0, .ref h), (1, .int (nI z)), (2, .int y), (3, .int (a 38 z)), (4, .int (a 38 z + y)), (6, .int (nI i))]) hx hb dX9_comesBack_126 hl (by decide) rfl (fun ls hl => ?_)
              refine lv_iinc (v := nI (i + 1)) (lv' := [(6, .int (nI (i + 1))), (5, .int (w + ((a 41) ((6 * z) + 0)))), (10, .int (a 38 z + y)), (9, .int w), (8, .int ((a 41) ((6 * z) + 0))), (7, .int 0), (0, .ref h), (1, .int (nI z)), (2, .int y), (3, .int (a 38 z)), (4, .int (a 38 z + y))]) hx hb dX9_comesBack_128 hl (k := 10) rfl (nI_1 _) (by decide) rfl (fun ls hl => ?_)
              refine lv_goto (tgt := 26) hx hb dX9_comesBack_131 (by decide) ?_
              exact ih (i + 1) (upd f 0 ((f 0) + ((a 38 z + y) - w))) (w + ((a 41) ((6 * z) + 0))) H locs (by omega) (by rw [← he]; simp only [lp, cbStep, fI, if_pos c35, if_pos c66, if_neg c84, if_neg c103]) hP hD hS ls (lv_sub hl [6, 7, 8, 9, 10, 1, 0] rfl)
        · refine lv_iload_n hx hb dX9_comesBack_69 rfl (lv_at hl 5 rfl) ?_
          refine lv_goto (tgt := 75) hx hb dX9_comesBack_70 (by decide) ?_
          refine lv_istore (lv' := [(9, .int (a 38 z)), (8, .int ((a 41) ((6 * z) + 0))), (7, .int 0), (0, .ref h), (1, .int (nI z)), (2, .int y), (3, .int (a 38 z)), (4, .int (a 38 z + y)), (5, .int w), (6, .int (nI i))]) hx hb dX9_comesBack_75 hl (by decide) rfl (fun ls hl => ?_)
          refine lv_iload hx hb dX9_comesBack_77 (lv_at hl 7 rfl) ?_
          refine lv_iload hx hb dX9_comesBack_79 (lv_at hl 8 rfl) ?_
          refine lv_iload hx hb dX9_comesBack_81 (lv_at hl 1 rfl) ?_
          refine lv_iadd hx hb dX9_comesBack_83 ?_
          refine lv_icmp_ge (tgt := 92) hx hb dX9_comesBack_84 (by decide) (fun c84 => ?_) (fun c84 => ?_)
          · refine lv_iload hx hb dX9_comesBack_92 (lv_at hl 8 rfl) ?_
            refine lv_iload hx hb dX9_comesBack_94 (lv_at hl 1 rfl) ?_
            refine lv_iadd hx hb dX9_comesBack_96 ?_
            refine lv_istore (lv' := [(10, .int (w + ((a 41) ((6 * z) + 0)))), (9, .int (a 38 z)), (8, .int ((a 41) ((6 * z) + 0))), (7, .int 0), (0, .ref h), (1, .int (nI z)), (2, .int y), (3, .int (a 38 z)), (4, .int (a 38 z + y)), (5, .int w), (6, .int (nI i))]) hx hb dX9_comesBack_97 hl (by decide) rfl (fun ls hl => ?_)
            refine lv_iload hx hb dX9_comesBack_99 (lv_at hl 0 rfl) ?_
            refine lv_iload hx hb dX9_comesBack_101 (lv_at hl 1 rfl) ?_
            refine lv_icmp_le (tgt := 121) hx hb dX9_comesBack_103 (by decide) (fun c103 => ?_) (fun c103 => ?_)
            · refine lv_iload hx hb dX9_comesBack_121 (lv_at hl 9 rfl) ?_
              refine lv_iload hx hb dX9_comesBack_123 (lv_at hl 2 rfl) ?_
              refine lv_iadd hx hb dX9_comesBack_125 ?_
              refine lv_istore (lv' := [(5, .int (w + ((a 41) ((6 * z) + 0)))), (10, .int (w + ((a 41) ((6 * z) + 0)))), (9, .int (a 38 z)), (8, .int ((a 41) ((6 * z) + 0))), (7, .int 0), (0, .ref h), (1, .int (nI z)), (2, .int y), (3, .int (a 38 z)), (4, .int (a 38 z + y)), (6, .int (nI i))]) hx hb dX9_comesBack_126 hl (by decide) rfl (fun ls hl => ?_)
              refine lv_iinc (v := nI (i + 1)) (lv' := [(6, .int (nI (i + 1))), (5, .int (w + ((a 41) ((6 * z) + 0)))), (10, .int (w + ((a 41) ((6 * z) + 0)))), (9, .int (a 38 z)), (8, .int ((a 41) ((6 * z) + 0))), (7, .int 0), (0, .ref h), (1, .int (nI z)), (2, .int y), (3, .int (a 38 z)), (4, .int (a 38 z + y))]) hx hb dX9_comesBack_128 hl (k := 10) rfl (nI_1 _) (by decide) rfl (fun ls hl => ?_)
              refine lv_goto (tgt := 26) hx hb dX9_comesBack_131 (by decide) ?_
              exact ih (i + 1) f (w + ((a 41) ((6 * z) + 0))) H locs (by omega) (by rw [← he]; simp only [lp, cbStep, fI, if_pos c35, if_neg c66, if_pos c84, if_pos c103]) hP hD hS ls (lv_sub hl [6, 7, 8, 9, 10, 1, 0] rfl)
            · refine lv_aload_n hx hb dX9_comesBack_106 rfl (lv_at hl 4 rfl) ?_
              refine mg_19 hx hb hts hown hK hP dX9_comesBack_107 ?_
              refine lv_iload hx hb dX9_comesBack_110 (lv_at hl 3 rfl) ?_
              refine lv_dup2_11 hx hb dX9_comesBack_112 rfl rfl ?_
              refine ml_19 (x := f 0) hx hb hK hP 0 rfl (by omega) rfl dX9_comesBack_113 ?_
              refine lv_iload hx hb dX9_comesBack_114 (lv_at hl 0 rfl) ?_
              refine lv_iload hx hb dX9_comesBack_116 (lv_at hl 1 rfl) ?_
              refine lv_isub hx hb dX9_comesBack_118 ?_
              refine lv_iadd hx hb dX9_comesBack_119 ?_
              refine mt_19 (f := f) hx hb hK hP hD hS 0 rfl (by omega) rfl dX9_comesBack_120 (fun H locs hP hD hS => ?_)
              rw [up_up] at hP hD
              refine lv_iload hx hb dX9_comesBack_121 (lv_at hl 9 rfl) ?_
              refine lv_iload hx hb dX9_comesBack_123 (lv_at hl 2 rfl) ?_
              refine lv_iadd hx hb dX9_comesBack_125 ?_
              refine lv_istore (lv' := [(5, .int (w + ((a 41) ((6 * z) + 0)))), (10, .int (w + ((a 41) ((6 * z) + 0)))), (9, .int (a 38 z)), (8, .int ((a 41) ((6 * z) + 0))), (7, .int 0), (0, .ref h), (1, .int (nI z)), (2, .int y), (3, .int (a 38 z)), (4, .int (a 38 z + y)), (6, .int (nI i))]) hx hb dX9_comesBack_126 hl (by decide) rfl (fun ls hl => ?_)
              refine lv_iinc (v := nI (i + 1)) (lv' := [(6, .int (nI (i + 1))), (5, .int (w + ((a 41) ((6 * z) + 0)))), (10, .int (w + ((a 41) ((6 * z) + 0)))), (9, .int (a 38 z)), (8, .int ((a 41) ((6 * z) + 0))), (7, .int 0), (0, .ref h), (1, .int (nI z)), (2, .int y), (3, .int (a 38 z)), (4, .int (a 38 z + y))]) hx hb dX9_comesBack_128 hl (k := 10) rfl (nI_1 _) (by decide) rfl (fun ls hl => ?_)
              refine lv_goto (tgt := 26) hx hb dX9_comesBack_131 (by decide) ?_
              exact ih (i + 1) (upd f 0 ((f 0) + ((w + ((a 41) ((6 * z) + 0))) - (a 38 z)))) (w + ((a 41) ((6 * z) + 0))) H locs (by omega) (by rw [← he]; simp only [lp, cbStep, fI, if_pos c35, if_neg c66, if_pos c84, if_neg c103]) hP hD hS ls (lv_sub hl [6, 7, 8, 9, 10, 1, 0] rfl)
          · refine lv_iload hx hb dX9_comesBack_87 (lv_at hl 7 rfl) ?_
            refine lv_goto (tgt := 97) hx hb dX9_comesBack_89 (by decide) ?_
            refine lv_istore (lv' := [(10, .int (a 38 z + y)), (9, .int (a 38 z)), (8, .int ((a 41) ((6 * z) + 0))), (7, .int 0), (0, .ref h), (1, .int (nI z)), (2, .int y), (3, .int (a 38 z)), (4, .int (a 38 z + y)), (5, .int w), (6, .int (nI i))]) hx hb dX9_comesBack_97 hl (by decide) rfl (fun ls hl => ?_)
            refine lv_iload hx hb dX9_comesBack_99 (lv_at hl 0 rfl) ?_
            refine lv_iload hx hb dX9_comesBack_101 (lv_at hl 1 rfl) ?_
            refine lv_icmp_le (tgt := 121) hx hb dX9_comesBack_103 (by decide) (fun c103 => ?_) (fun c103 => ?_)
            · refine lv_iload hx hb dX9_comesBack_121 (lv_at hl 9 rfl) ?_
              refine lv_iload hx hb dX9_comesBack_123 (lv_at hl 2 rfl) ?_
              refine lv_iadd hx hb dX9_comesBack_125 ?_
              refine lv_istore (lv' := [(5, .int (w + ((a 41) ((6 * z) + 0)))), (10, .int (a 38 z + y)), (9, .int (a 38 z)), (8, .int ((a 41) ((6 * z) + 0))), (7, .int 0), (0, .ref h), (1, .int (nI z)), (2, .int y), (3, .int (a 38 z)), (4, .int (a 38 z + y)), (6, .int (nI i))]) hx hb dX9_comesBack_126 hl (by decide) rfl (fun ls hl => ?_)
              refine lv_iinc (v := nI (i + 1)) (lv' := [(6, .int (nI (i + 1))), (5, .int (w + ((a 41) ((6 * z) + 0)))), (10, .int (a 38 z + y)), (9, .int (a 38 z)), (8, .int ((a 41) ((6 * z) + 0))), (7, .int 0), (0, .ref h), (1, .int (nI z)), (2, .int y), (3, .int (a 38 z)), (4, .int (a 38 z + y))]) hx hb dX9_comesBack_128 hl (k := 10) rfl (nI_1 _) (by decide) rfl (fun ls hl => ?_)
              refine lv_goto (tgt := 26) hx hb dX9_comesBack_131 (by decide) ?_
              exact ih (i + 1) f (w + ((a 41) ((6 * z) + 0))) H locs (by omega) (by rw [← he]; simp only [lp, cbStep, fI, if_pos c35, if_neg c66, if_neg c84, if_pos c103]) hP hD hS ls (lv_sub hl [6, 7, 8, 9, 10, 1, 0] rfl)
            · refine lv_aload_n hx hb dX9_comesBack_106 rfl (lv_at hl 4 rfl) ?_
              refine mg_19 hx hb hts hown hK hP dX9_comesBack_107 ?_
              refine lv_iload hx hb dX9_comesBack_110 (lv_at hl 3 rfl) ?_
              refine lv_dup2_11 hx hb dX9_comesBack_112 rfl rfl ?_
              refine ml_19 (x := f 0) hx hb hK hP 0 rfl (by omega) rfl dX9_comesBack_113 ?_
              refine lv_iload hx hb dX9_comesBack_114 (lv_at hl 0 rfl) ?_
              refine lv_iload hx hb dX9_comesBack_116 (lv_at hl 1 rfl) ?_
              refine lv_isub hx hb dX9_comesBack_118 ?_
              refine lv_iadd hx hb dX9_comesBack_119 ?_
              refine mt_19 (f := f) hx hb hK hP hD hS 0 rfl (by omega) rfl dX9_comesBack_120 (fun H locs hP hD hS => ?_)
              rw [up_up] at hP hD
              refine lv_iload hx hb dX9_comesBack_121 (lv_at hl 9 rfl) ?_
              refine lv_iload hx hb dX9_comesBack_123 (lv_at hl 2 rfl) ?_
              refine lv_iadd hx hb dX9_comesBack_125 ?_
              refine lv_istore (lv' := [(5, .int (w + ((a 41) ((6 * z) + 0)))), (10, .int (a 38 z + y)), (9, .int (a 38 z)), (8, .int ((a 41) ((6 * z) + 0))), (7, .int 0), (0, .ref h), (1, .int (nI z)), (2, .int y), (3, .int (a 38 z)), (4, .int (a 38 z + y)), (6, .int (nI i))]) hx hb dX9_comesBack_126 hl (by decide) rfl (fun ls hl => ?_)
              refine lv_iinc (v := nI (i + 1)) (lv' := [(6, .int (nI (i + 1))), (5, .int (w + ((a 41) ((6 * z) + 0)))), (10, .int (a 38 z + y)), (9, .int (a 38 z)), (8, .int ((a 41) ((6 * z) + 0))), (7, .int 0), (0, .ref h), (1, .int (nI z)), (2, .int y), (3, .int (a 38 z)), (4, .int (a 38 z + y))]) hx hb dX9_comesBack_128 hl (k := 10) rfl (nI_1 _) (by decide) rfl (fun ls hl => ?_)
              refine lv_goto (tgt := 26) hx hb dX9_comesBack_131 (by decide) ?_
              exact ih (i + 1) (upd f 0 ((f 0) + ((a 38 z + y) - (a 38 z)))) (w + ((a 41) ((6 * z) + 0))) H locs (by omega) (by rw [← he]; simp only [lp, cbStep, fI, if_pos c35, if_neg c66, if_neg c84, if_neg c103]) hP hD hS ls (lv_sub hl [6, 7, 8, 9, 10, 1, 0] rfl)
  refine lv_aload_n hx hb dX9_comesBack_0 rfl (lv_at hl 0 rfl) ?_
  refine mg_38 hx hb hts hown hK hP dX9_comesBack_1 ?_
  refine lv_iload_n hx hb dX9_comesBack_4 rfl (lv_at hl 1 rfl) ?_
  refine ml_38 (x := (a 38) z) hx hb hK hP z rfl (by omega) rfl dX9_comesBack_5 ?_
  refine lv_istore_n (lv' := [(3, .int ((a 38) z)), (0, .ref h), (1, .int (nI z)), (2, .int y)]) hx hb dX9_comesBack_6 rfl hl (by decide) rfl (fun ls hl => ?_)
  refine lv_iload_n hx hb dX9_comesBack_7 rfl (lv_at hl 0 rfl) ?_
  refine lv_iload_n hx hb dX9_comesBack_8 rfl (lv_at hl 3 rfl) ?_
  refine lv_iadd hx hb dX9_comesBack_9 ?_
  refine lv_istore (lv' := [(4, .int (((a 38) z) + y)), (3, .int ((a 38) z)), (0, .ref h), (1, .int (nI z)), (2, .int y)]) hx hb dX9_comesBack_10 hl (by decide) rfl (fun ls hl => ?_)
  refine lv_aload_n hx hb dX9_comesBack_12 rfl (lv_at hl 2 rfl) ?_
  refine mg_38 hx hb hts hown hK hP dX9_comesBack_13 ?_
  refine lv_iload_n hx hb dX9_comesBack_16 rfl (lv_at hl 3 rfl) ?_
  refine lv_iload hx hb dX9_comesBack_17 (lv_at hl 0 rfl) ?_
  refine mt_38 (f := a 38) hx hb hK hP hD hS z rfl (by omega) rfl dX9_comesBack_19 (fun H locs hP hD hS => ?_)
  refine lv_iconst (v := 0) hx hb dX9_comesBack_20 (by decide) ?_
  refine lv_istore (lv' := [(5, .int 0), (4, .int (((a 38) z) + y)), (3, .int ((a 38) z)), (0, .ref h), (1, .int (nI z)), (2, .int y)]) hx hb dX9_comesBack_21 hl (by decide) rfl (fun ls hl => ?_)
  refine lv_iconst (v := 0) hx hb dX9_comesBack_23 (by decide) ?_
  refine lv_istore (lv' := [(6, .int 0), (5, .int 0), (4, .int (((a 38) z) + y)), (3, .int ((a 38) z)), (0, .ref h), (1, .int (nI z)), (2, .int y)]) hx hb dX9_comesBack_24 hl (by decide) rfl (fun ls hl => ?_)
  exact L 6 0 (a 19) 0 H locs (by omega) (rfl) hP hD hS ls (lv_sub hl [4, 5, 6, 3, 2, 1, 0] rfl)
def fRest (z : Nat) (u : MSt) : Int32 := u.2.2.2 27 z - u.2.2.2 32 z + (u.2.2.2 33 z + u.2.2.2 30 z) - u.2.2.2 34 z
def mLateA (z : Nat) (u : MSt) : Nat → Nat → Int32 := up (up (up u.2.2.2 35 (upd (u.2.2.2 35) z (u.2.2.2 35 z + 1))) 36 (upd (u.2.2.2 36) z (u.2.2.2 36 z + 1))) 33 (upd (u.2.2.2 33) z (u.2.2.2 33 z + u.2.2.2 30 z))
def mLateP (z n : Nat) (u : MSt) : Nat × (Nat → Int32) × (Nat → Int32) × (Nat → Int32) := lp (lateStep (u.2.2.2 40) z n (fRest z u)) n 0 (u.1 46, u.2.2.2 43, u.2.2.2 44, u.2.2.2 45)
def mLate (z n : Nat) (u : MSt) : MSt := if u.2.2.2 31 z ≤ u.2.2.2 36 z + 1 then (up u.1 46 (mLateP z n u).1, if n = 0 then up u.2.1 25 (u.2.1 25 + fRest z u) else u.2.1, u.2.2.1, up (up (up (up (mLateA z u) 37 (upd (u.2.2.2 37) z 2)) 43 (mLateP z n u).2.1) 44 (mLateP z n u).2.2.1) 45 (mLateP z n u).2.2.2) else (u.1, u.2.1, u.2.2.1, mLateA z u)
set_option maxHeartbeats 4000000 in
set_option maxRecDepth 100000 in
theorem c_X9_isLate (l : Launch) (D : va_G) (h : Nat) (q : Nat → Nat) (k : Nat → ClassId) (c : Nat → Nat) (v : Nat → Int32) (nm : Int64) (a : Nat → Nat → Int32) (z : Nat) (hz : z < 100) (n : Nat) (hsz : a 39 z = nI n ∧ n ≤ 3) (hc3 : c 46 + 3 ≤ 300) : Fs (S := MSt) l yX9_isLate cX9_isLate 5 none 0 0 0 D (TY k) G0 [.ref h, .int (nI z)] (Mw h q k c v nm a) (fun _ => none) (fun u => u = mLate z n (c, v, nm, a)) (fun u => MwU h q k u) := by
  refine fs_body (by decide +kernel) (Nat.le_of_ble_eq_true rfl) ?_
  intro p e s m args below meth c_ Q A hx hb hml hown hts hK hP hD hS hA hG hin hr hq hlocks ls hl
  replace hl : lv_has ls 5 [(0, .ref h), (1, .int (nI z))] := hl
  change s.vm.findClass RX9 = some m.cls at hown
  refine lv_aload_n hx hb dX9_isLate_0 rfl (lv_at hl 0 rfl) ?_
  refine mg_35 hx hb hts hown hK hP dX9_isLate_1 ?_
  refine lv_iload_n hx hb dX9_isLate_4 rfl (lv_at hl 1 rfl) ?_
  refine lv_dup2_11 hx hb dX9_isLate_5 rfl rfl ?_
  refine ml_35 (x := (a 35) z) hx hb hK hP z rfl (by omega) rfl dX9_isLate_6 ?_
  refine lv_iconst (v := 1) hx hb dX9_isLate_7 (by decide) ?_
  refine lv_iadd hx hb dX9_isLate_8 ?_
  refine mt_35 (f := a 35) hx hb hK hP hD hS z rfl (by omega) rfl dX9_isLate_9 (fun H locs hP hD hS => ?_)
  refine lv_aload_n hx hb dX9_isLate_10 rfl (lv_at hl 0 rfl) ?_
  refine mg_36 hx hb hts hown hK hP dX9_isLate_11 ?_
  refine lv_iload_n hx hb dX9_isLate_14 rfl (lv_at hl 1 rfl) ?_
  refine lv_dup2_11 hx hb dX9_isLate_15 rfl rfl ?_
  refine ml_36 (x := (a 36) z) hx hb hK hP z rfl (by omega) rfl dX9_isLate_16 ?_
  refine lv_iconst (v := 1) hx hb dX9_isLate_17 (by decide) ?_
  refine lv_iadd hx hb dX9_isLate_18 ?_
  refine mt_36 (f := a 36) hx hb hK hP hD hS z rfl (by omega) rfl dX9_isLate_19 (fun H locs hP hD hS => ?_)
  refine lv_aload_n hx hb dX9_isLate_20 rfl (lv_at hl 0 rfl) ?_
  refine mg_33 hx hb hts hown hK hP dX9_isLate_21 ?_
  refine lv_iload_n hx hb dX9_isLate_24 rfl (lv_at hl 1 rfl) ?_
  refine lv_dup2_11 hx hb dX9_isLate_25 rfl rfl ?_
  refine ml_33 (x := (a 33) z) hx hb hK hP z rfl (by omega) rfl dX9_isLate_26 ?_
  refine lv_aload_n hx hb dX9_isLate_27 rfl (lv_at hl 0 rfl) ?_
  refine mg_30 hx hb hts hown hK hP dX9_isLate_28 ?_
  refine lv_iload_n hx hb dX9_isLate_31 rfl (lv_at hl 1 rfl) ?_
  refine ml_30 (x := (a 30) z) hx hb hK hP z rfl (by omega) rfl dX9_isLate_32 ?_
  refine lv_iadd hx hb dX9_isLate_33 ?_
  refine mt_33 (f := a 33) hx hb hK hP hD hS z rfl (by omega) rfl dX9_isLate_34 (fun H locs hP hD hS => ?_)
  refine lv_aload_n hx hb dX9_isLate_35 rfl (lv_at hl 0 rfl) ?_
  refine mg_36 hx hb hts hown hK hP dX9_isLate_36 ?_
  refine lv_iload_n hx hb dX9_isLate_39 rfl (lv_at hl 1 rfl) ?_
  refine ml_36 (x := (upd (a 36) z (((a 36) z) + 1)) z) hx hb hK hP z rfl (by omega) rfl dX9_isLate_40 ?_
  refine rw_topi (y := a 36 z + 1) (upd_eq _ _ _) ?_
  refine lv_aload_n hx hb dX9_isLate_41 rfl (lv_at hl 0 rfl) ?_
  refine mg_31 hx hb hts hown hK hP dX9_isLate_42 ?_
  refine lv_iload_n hx hb dX9_isLate_45 rfl (lv_at hl 1 rfl) ?_
  refine ml_31 (x := (a 31) z) hx hb hK hP z rfl (by omega) rfl dX9_isLate_46 ?_
  refine lv_icmp_ge (tgt := 51) hx hb dX9_isLate_47 (by decide) (fun c47 => ?_) (fun c47 => ?_)
  · refine lv_aload_n hx hb dX9_isLate_51 rfl (lv_at hl 0 rfl) ?_
    refine mg_37 hx hb hts hown hK hP dX9_isLate_52 ?_
    refine lv_iload_n hx hb dX9_isLate_55 rfl (lv_at hl 1 rfl) ?_
    refine lv_iconst (v := 2) hx hb dX9_isLate_56 (by decide) ?_
    refine mt_37 (f := a 37) hx hb hK hP hD hS z rfl (by omega) rfl dX9_isLate_57 (fun H locs hP hD hS => ?_)
    refine lv_aload_n hx hb dX9_isLate_58 rfl (lv_at hl 0 rfl) ?_
    refine mg_27 hx hb hts hown hK hP dX9_isLate_59 ?_
    refine lv_iload_n hx hb dX9_isLate_62 rfl (lv_at hl 1 rfl) ?_
    refine ml_27 (x := (a 27) z) hx hb hK hP z rfl (by omega) rfl dX9_isLate_63 ?_
    refine lv_aload_n hx hb dX9_isLate_64 rfl (lv_at hl 0 rfl) ?_
    refine mg_32 hx hb hts hown hK hP dX9_isLate_65 ?_
    refine lv_iload_n hx hb dX9_isLate_68 rfl (lv_at hl 1 rfl) ?_
    refine ml_32 (x := (a 32) z) hx hb hK hP z rfl (by omega) rfl dX9_isLate_69 ?_
    refine lv_isub hx hb dX9_isLate_70 ?_
    refine lv_aload_n hx hb dX9_isLate_71 rfl (lv_at hl 0 rfl) ?_
    refine mg_33 hx hb hts hown hK hP dX9_isLate_72 ?_
    refine lv_iload_n hx hb dX9_isLate_75 rfl (lv_at hl 1 rfl) ?_
    refine ml_33 (x := (upd (a 33) z (((a 33) z) + ((a 30) z))) z) hx hb hK hP z rfl (by omega) rfl dX9_isLate_76 ?_
    refine rw_topi (y := a 33 z + a 30 z) (upd_eq _ _ _) ?_
    refine lv_iadd hx hb dX9_isLate_77 ?_
    refine lv_aload_n hx hb dX9_isLate_78 rfl (lv_at hl 0 rfl) ?_
    refine mg_34 hx hb hts hown hK hP dX9_isLate_79 ?_
    refine lv_iload_n hx hb dX9_isLate_82 rfl (lv_at hl 1 rfl) ?_
    refine ml_34 (x := (a 34) z) hx hb hK hP z rfl (by omega) rfl dX9_isLate_83 ?_
    refine lv_isub hx hb dX9_isLate_84 ?_
    refine lv_istore_n (lv' := [(2, .int (((((a 27) z) - ((a 32) z)) + (a 33 z + a 30 z)) - ((a 34) z))), (0, .ref h), (1, .int (nI z))]) hx hb dX9_isLate_85 rfl hl (by decide) rfl (fun ls hl => ?_)
    refine lv_aload_n hx hb dX9_isLate_86 rfl (lv_at hl 1 rfl) ?_
    refine mg_39 hx hb hts hown hK hP dX9_isLate_87 ?_
    refine lv_iload_n hx hb dX9_isLate_90 rfl (lv_at hl 2 rfl) ?_
    refine ml_39 (x := (a 39) z) hx hb hK hP z rfl (by omega) rfl dX9_isLate_91 ?_
    refine rw_topi (y := nI n) (hsz.1) ?_
    refine lv_if_ne (tgt := 105) hx hb dX9_isLate_92 (by decide) (fun c92 => ?_) (fun c92 => ?_)
    · replace c92 : ¬ (n = 0) := fun z => c92 ((nI_eq (a := n) (b := 0) (by omega) (by omega)).mpr z)
      have L : ∀ (r i : Nat) (m_ : Nat) (f3 : Nat → Int32) (f4 : Nat → Int32) (f5 : Nat → Int32) (H : Heap) (locs : List Loc), i + r = n → m_ ≤ c 46 + i → lp (lateStep (a 40) z n (a 27 z - a 32 z + (a 33 z + a 30 z) - a 34 z)) r i (m_, f3, f4, f5) = lp (lateStep (a 40) z n (a 27 z - a 32 z + (a 33 z + a 30 z) - a 34 z)) n 0 (c 46, a 43, a 44, a 45) → va_P D vwCl (Mw h q k (up c 46 m_) v nm (up (up (up (up (up (up (up a 35 (upd (a 35) z (((a 35) z) + 1))) 36 (upd (a 36) z (((a 36) z) + 1))) 33 (upd (a 33) z (((a 33) z) + ((a 30) z)))) 37 (upd (a 37) z 2)) 43 f3) 44 f4) 45 f5)) H → va_D A (Mw h q k (up c 46 m_) v nm (up (up (up (up (up (up (up a 35 (upd (a 35) z (((a 35) z) + 1))) 36 (upd (a 36) z (((a 36) z) + 1))) 33 (upd (a 33) z (((a 33) z) + ((a 30) z)))) 37 (upd (a 37) z 2)) 43 f3) 44 f4) 45 f5)) → va_S A s.heap H locs → ∀ (ls : Array Slot), lv_has ls 5 [(0, .ref h), (1, .int (nI z)), (2, .int (a 27 z - a 32 z + (a 33 z + a 30 z) - a 34 z)), (3, .int (nI i))] → W p l e (rmd 0 0 0) s m args below meth c_ H locs 0 0 Q (F0 m 107 ls []) := by
        intro r
        induction r with
        | zero =>
          intro i m_ f3 f4 f5 H locs hi hm he hP hD hS ls hl
          refine lv_iload_n hx hb dX9_isLate_107 rfl (lv_at hl 3 rfl) ?_
          refine lv_aload_n hx hb dX9_isLate_108 rfl (lv_at hl 0 rfl) ?_
          refine mg_39 hx hb hts hown hK hP dX9_isLate_109 ?_
          refine lv_iload_n hx hb dX9_isLate_112 rfl (lv_at hl 1 rfl) ?_
          refine ml_39 (x := (a 39) z) hx hb hK hP z rfl (by omega) rfl dX9_isLate_113 ?_
          refine rw_topi (y := nI n) (hsz.1) ?_
          refine lv_icmp_ge (tgt := 209) hx hb dX9_isLate_114 (by decide) (fun c114 => ?_) (fun c114 => absurd (nI_le (by omega) (by omega)) c114)
          exact fs_v hx hb hr hlocks hq (up c 46 m_, v, nm, up (up (up (up (up (up (up a 35 (upd (a 35) z (((a 35) z) + 1))) 36 (upd (a 36) z (((a 36) z) + 1))) 33 (upd (a 33) z (((a 33) z) + ((a 30) z)))) 37 (upd (a 37) z 2)) 43 f3) 44 f4) 45 f5) (by simp only [mLate, if_pos c47, if_neg c92]; simp only [mLateP, fRest]; rw [← he]; rfl) hP hD hS dX9_isLate_209 rfl
        | succ r ih =>
          intro i m_ f3 f4 f5 H locs hi hm he hP hD hS ls hl
          refine lv_iload_n hx hb dX9_isLate_107 rfl (lv_at hl 3 rfl) ?_
          refine lv_aload_n hx hb dX9_isLate_108 rfl (lv_at hl 0 rfl) ?_
          refine mg_39 hx hb hts hown hK hP dX9_isLate_109 ?_
          refine lv_iload_n hx hb dX9_isLate_112 rfl (lv_at hl 1 rfl) ?_
          refine ml_39 (x := (a 39) z) hx hb hK hP z rfl (by omega) rfl dX9_isLate_113 ?_
          refine rw_topi (y := nI n) (hsz.1) ?_
          refine lv_icmp_ge (tgt := 209) hx hb dX9_isLate_114 (by decide) (fun c114 => absurd c114 (nI_ge (by omega) (by omega))) (fun c114 => ?_)
          refine lv_iload_n hx hb dX9_isLate_117 rfl (lv_at hl 2 rfl) ?_
          refine lv_aload_n hx hb dX9_isLate_118 rfl (lv_at hl 0 rfl) ?_
          refine mg_39 hx hb hts hown hK hP dX9_isLate_119 ?_
          refine lv_iload_n hx hb dX9_isLate_122 rfl (lv_at hl 1 rfl) ?_
          refine ml_39 (x := (a 39) z) hx hb hK hP z rfl (by omega) rfl dX9_isLate_123 ?_
          refine rw_topi (y := nI n) (hsz.1) ?_
          refine lv_idiv hx hb dX9_isLate_124 (nI_ne0 (by omega) (by omega)) ?_
          refine lv_iload_n hx hb dX9_isLate_125 rfl (lv_at hl 3 rfl) ?_
          refine lv_iload_n hx hb dX9_isLate_126 rfl (lv_at hl 2 rfl) ?_
          refine lv_aload_n hx hb dX9_isLate_127 rfl (lv_at hl 0 rfl) ?_
          refine mg_39 hx hb hts hown hK hP dX9_isLate_128 ?_
          refine lv_iload_n hx hb dX9_isLate_131 rfl (lv_at hl 1 rfl) ?_
          refine ml_39 (x := (a 39) z) hx hb hK hP z rfl (by omega) rfl dX9_isLate_132 ?_
          refine rw_topi (y := nI n) (hsz.1) ?_
          refine lv_irem hx hb dX9_isLate_133 (nI_ne0 (by omega) (by omega)) ?_
          refine lv_icmp_ge (tgt := 141) hx hb dX9_isLate_134 (by decide) (fun c134 => ?_) (fun c134 => ?_)
          · refine lv_iconst (v := 0) hx hb dX9_isLate_141 (by decide) ?_
            refine lv_iadd hx hb dX9_isLate_142 ?_
            refine lv_istore (lv' := [(4, .int (((a 27 z - a 32 z + (a 33 z + a 30 z) - a 34 z) / (nI n)) + 0)), (0, .ref h), (1, .int (nI z)), (2, .int (a 27 z - a 32 z + (a 33 z + a 30 z) - a 34 z)), (3, .int (nI i))]) hx hb dX9_isLate_143 hl (by decide) rfl (fun ls hl => ?_)
            refine lv_iload hx hb dX9_isLate_145 (lv_at hl 0 rfl) ?_
            refine lv_if_ne (tgt := 153) hx hb dX9_isLate_147 (by decide) (fun c147 => ?_) (fun c147 => ?_)
            · refine lv_aload_n hx hb dX9_isLate_153 rfl (lv_at hl 1 rfl) ?_
              refine mg_43 hx hb hts hown hK hP dX9_isLate_154 ?_
              refine lv_aload_n hx hb dX9_isLate_157 rfl (lv_at hl 1 rfl) ?_
              refine mg_46 (x := nI m_) hx hb hts hown hK hP rfl dX9_isLate_158 ?_
              refine lv_aload_n hx hb dX9_isLate_161 rfl (lv_at hl 1 rfl) ?_
              refine mg_40 hx hb hts hown hK hP dX9_isLate_162 ?_
              refine lv_iconst (v := 3) hx hb dX9_isLate_165 (by decide) ?_
              refine lv_iload_n hx hb dX9_isLate_166 rfl (lv_at hl 2 rfl) ?_
              refine lv_imul hx hb dX9_isLate_167 ?_
              refine rw_topi (y := nI (3 * z)) (pk_mul _ _) ?_
              refine lv_iload_n hx hb dX9_isLate_168 rfl (lv_at hl 4 rfl) ?_
              refine lv_iadd hx hb dX9_isLate_169 ?_
              refine rw_topi (y := nI ((3 * z) + i)) (nI_add _ _) ?_
              refine ml_40 (x := (a 40) ((3 * z) + i)) hx hb hK hP ((3 * z) + i) rfl (by omega) rfl dX9_isLate_170 ?_
              refine mt_43 (f := f3) hx hb hK hP hD hS m_ rfl (by omega) rfl dX9_isLate_171 (fun H locs hP hD hS => ?_)
              refine lv_aload_n hx hb dX9_isLate_172 rfl (lv_at hl 1 rfl) ?_
              refine mg_44 hx hb hts hown hK hP dX9_isLate_173 ?_
              refine lv_aload_n hx hb dX9_isLate_176 rfl (lv_at hl 1 rfl) ?_
              refine mg_46 (x := nI m_) hx hb hts hown hK hP rfl dX9_isLate_177 ?_
              refine lv_iload_n hx hb dX9_isLate_180 rfl (lv_at hl 2 rfl) ?_
              refine mt_44 (f := f4) hx hb hK hP hD hS m_ rfl (by omega) rfl dX9_isLate_181 (fun H locs hP hD hS => ?_)
              refine lv_aload_n hx hb dX9_isLate_182 rfl (lv_at hl 1 rfl) ?_
              refine mg_45 hx hb hts hown hK hP dX9_isLate_183 ?_
              refine lv_aload_n hx hb dX9_isLate_186 rfl (lv_at hl 1 rfl) ?_
              refine mg_46 (x := nI m_) hx hb hts hown hK hP rfl dX9_isLate_187 ?_
              refine lv_iload hx hb dX9_isLate_190 (lv_at hl 0 rfl) ?_
              refine mt_45 (f := f5) hx hb hK hP hD hS m_ rfl (by omega) rfl dX9_isLate_192 (fun H locs hP hD hS => ?_)
              refine lv_aload_n hx hb dX9_isLate_193 rfl (lv_at hl 1 rfl) ?_
              refine lv_dup hx hb dX9_isLate_194 rfl ?_
              refine mg_46 (x := nI m_) hx hb hts hown hK hP rfl dX9_isLate_195 ?_
              refine lv_iconst (v := 1) hx hb dX9_isLate_198 (by decide) ?_
              refine lv_iadd hx hb dX9_isLate_199 ?_
              refine rw_topi (y := nI (m_ + 1)) (nI_add _ _) ?_
              refine mp_46 hx hb hts hown hK hP hD hS (m_ + 1) rfl dX9_isLate_200 (fun H locs hP hD hS => ?_)
              rw [up_up] at hP hD
              refine lv_iinc (v := nI (i + 1)) (lv' := [(3, .int (nI (i + 1))), (4, .int (((a 27 z - a 32 z + (a 33 z + a 30 z) - a 34 z) / (nI n)) + 0)), (0, .ref h), (1, .int (nI z)), (2, .int (a 27 z - a 32 z + (a 33 z + a 30 z) - a 34 z))]) hx hb dX9_isLate_203 hl (k := 4) rfl (nI_1 _) (by decide) rfl (fun ls hl => ?_)
              refine lv_goto (tgt := 107) hx hb dX9_isLate_206 (by decide) ?_
              exact ih (i + 1) (m_ + 1) (upd f3 m_ ((a 40) ((3 * z) + i))) (upd f4 m_ (nI z)) (upd f5 m_ (((a 27 z - a 32 z + (a 33 z + a 30 z) - a 34 z) / (nI n)) + 0)) H locs (by omega) (by omega) (by rw [← he]; simp only [lp, lateStep, lateV, if_pos c134, if_neg c147]) hP hD hS ls (lv_sub hl [2, 3, 4, 0] rfl)
            · refine lv_goto (tgt := 203) hx hb dX9_isLate_150 (by decide) ?_
              refine lv_iinc (v := nI (i + 1)) (lv' := [(3, .int (nI (i + 1))), (4, .int (((a 27 z - a 32 z + (a 33 z + a 30 z) - a 34 z) / (nI n)) + 0)), (0, .ref h), (1, .int (nI z)), (2, .int (a 27 z - a 32 z + (a 33 z + a 30 z) - a 34 z))]) hx hb dX9_isLate_203 hl (k := 4) rfl (nI_1 _) (by decide) rfl (fun ls hl => ?_)
              refine lv_goto (tgt := 107) hx hb dX9_isLate_206 (by decide) ?_
              exact ih (i + 1) m_ f3 f4 f5 H locs (by omega) (by omega) (by rw [← he]; simp only [lp, lateStep, lateV, if_pos c134, if_pos c147]) hP hD hS ls (lv_sub hl [2, 3, 4, 0] rfl)
          · refine lv_iconst (v := 1) hx hb dX9_isLate_137 (by decide) ?_
            refine lv_goto (tgt := 142) hx hb dX9_isLate_138 (by decide) ?_
            refine lv_iadd hx hb dX9_isLate_142 ?_
            refine lv_istore (lv' := [(4, .int (((a 27 z - a 32 z + (a 33 z + a 30 z) - a 34 z) / (nI n)) + 1)), (0, .ref h), (1, .int (nI z)), (2, .int (a 27 z - a 32 z + (a 33 z + a 30 z) - a 34 z)), (3, .int (nI i))]) hx hb dX9_isLate_143 hl (by decide) rfl (fun ls hl => ?_)
            refine lv_iload hx hb dX9_isLate_145 (lv_at hl 0 rfl) ?_
            refine lv_if_ne (tgt := 153) hx hb dX9_isLate_147 (by decide) (fun c147 => ?_) (fun c147 => ?_)
            · refine lv_aload_n hx hb dX9_isLate_153 rfl (lv_at hl 1 rfl) ?_
              refine mg_43 hx hb hts hown hK hP dX9_isLate_154 ?_
              refine lv_aload_n hx hb dX9_isLate_157 rfl (lv_at hl 1 rfl) ?_
              refine mg_46 (x := nI m_) hx hb hts hown hK hP rfl dX9_isLate_158 ?_
              refine lv_aload_n hx hb dX9_isLate_161 rfl (lv_at hl 1 rfl) ?_
              refine mg_40 hx hb hts hown hK hP dX9_isLate_162 ?_
              refine lv_iconst (v := 3) hx hb dX9_isLate_165 (by decide) ?_
              refine lv_iload_n hx hb dX9_isLate_166 rfl (lv_at hl 2 rfl) ?_
              refine lv_imul hx hb dX9_isLate_167 ?_
              refine rw_topi (y := nI (3 * z)) (pk_mul _ _) ?_
              refine lv_iload_n hx hb dX9_isLate_168 rfl (lv_at hl 4 rfl) ?_
              refine lv_iadd hx hb dX9_isLate_169 ?_
              refine rw_topi (y := nI ((3 * z) + i)) (nI_add _ _) ?_
              refine ml_40 (x := (a 40) ((3 * z) + i)) hx hb hK hP ((3 * z) + i) rfl (by omega) rfl dX9_isLate_170 ?_
              refine mt_43 (f := f3) hx hb hK hP hD hS m_ rfl (by omega) rfl dX9_isLate_171 (fun H locs hP hD hS => ?_)
              refine lv_aload_n hx hb dX9_isLate_172 rfl (lv_at hl 1 rfl) ?_
              refine mg_44 hx hb hts hown hK hP dX9_isLate_173 ?_
              refine lv_aload_n hx hb dX9_isLate_176 rfl (lv_at hl 1 rfl) ?_
              refine mg_46 (x := nI m_) hx hb hts hown hK hP rfl dX9_isLate_177 ?_
              refine lv_iload_n hx hb dX9_isLate_180 rfl (lv_at hl 2 rfl) ?_
              refine mt_44 (f := f4) hx hb hK hP hD hS m_ rfl (by omega) rfl dX9_isLate_181 (fun H locs hP hD hS => ?_)
              refine lv_aload_n hx hb dX9_isLate_182 rfl (lv_at hl 1 rfl) ?_
              refine mg_45 hx hb hts hown hK hP dX9_isLate_183 ?_
              refine lv_aload_n hx hb dX9_isLate_186 rfl (lv_at hl 1 rfl) ?_
              refine mg_46 (x := nI m_) hx hb hts hown hK hP rfl dX9_isLate_187 ?_
              refine lv_iload hx hb dX9_isLate_190 (lv_at hl 0 rfl) ?_
              refine mt_45 (f := f5) hx hb hK hP hD hS m_ rfl (by omega) rfl dX9_isLate_192 (fun H locs hP hD hS => ?_)
              refine lv_aload_n hx hb dX9_isLate_193 rfl (lv_at hl 1 rfl) ?_
              refine lv_dup hx hb dX9_isLate_194 rfl ?_
              refine mg_46 (x := nI m_) hx hb hts hown hK hP rfl dX9_isLate_195 ?_
              refine lv_iconst (v := 1) hx hb dX9_isLate_198 (by decide) ?_
              refine lv_iadd hx hb dX9_isLate_199 ?_
              refine rw_topi (y := nI (m_ + 1)) (nI_add _ _) ?_
              refine mp_46 hx hb hts hown hK hP hD hS (m_ + 1) rfl dX9_isLate_200 (fun H locs hP hD hS => ?_)
              rw [up_up] at hP hD
              refine lv_iinc (v := nI (i + 1)) (lv' := [(3, .int (nI (i + 1))), (4, .int (((a 27 z - a 32 z + (a 33 z + a 30 z) - a 34 z) / (nI n)) + 1)), (0, .ref h), (1, .int (nI z)), (2, .int (a 27 z - a 32 z + (a 33 z + a 30 z) - a 34 z))]) hx hb dX9_isLate_203 hl (k := 4) rfl (nI_1 _) (by decide) rfl (fun ls hl => ?_)
              refine lv_goto (tgt := 107) hx hb dX9_isLate_206 (by decide) ?_
              exact ih (i + 1) (m_ + 1) (upd f3 m_ ((a 40) ((3 * z) + i))) (upd f4 m_ (nI z)) (upd f5 m_ (((a 27 z - a 32 z + (a 33 z + a 30 z) - a 34 z) / (nI n)) + 1)) H locs (by omega) (by omega) (by rw [← he]; simp only [lp, lateStep, lateV, if_neg c134, if_neg c147]) hP hD hS ls (lv_sub hl [2, 3, 4, 0] rfl)
            · refine lv_goto (tgt := 203) hx hb dX9_isLate_150 (by decide) ?_
              refine lv_iinc (v := nI (i + 1)) (lv' := [(3, .int (nI (i + 1))), (4, .int (((a 27 z - a 32 z + (a 33 z + a 30 z) - a 34 z) / (nI n)) + 1)), (0, .ref h), (1, .int (nI z)), (2, .int (a 27 z - a 32 z + (a 33 z + a 30 z) - a 34 z))]) hx hb dX9_isLate_203 hl (k := 4) rfl (nI_1 _) (by decide) rfl (fun ls hl => ?_)
              refine lv_goto (tgt := 107) hx hb dX9_isLate_206 (by decide) ?_
              exact ih (i + 1) m_ f3 f4 f5 H locs (by omega) (by omega) (by rw [← he]; simp only [lp, lateStep, lateV, if_neg c134, if_pos c147]) hP hD hS ls (lv_sub hl [2, 3, 4, 0] rfl)
      refine lv_iconst (v := 0) hx hb dX9_isLate_105 (by decide) ?_
      refine lv_istore_n (lv' := [(3, .int 0), (2, .int (((((a 27) z) - ((a 32) z)) + (a 33 z + a 30 z)) - ((a 34) z))), (0, .ref h), (1, .int (nI z))]) hx hb dX9_isLate_106 rfl hl (by decide) rfl (fun ls hl => ?_)
      exact L n 0 (c 46) (a 43) (a 44) (a 45) H locs (by omega) (by omega) (rfl) hP hD hS ls (lv_sub hl [2, 3, 1, 0] rfl)
    · replace c92 : n = 0 := (nI_eq (a := n) (b := 0) (by omega) (by omega)).mp c92
      refine lv_aload_n hx hb dX9_isLate_95 rfl (lv_at hl 1 rfl) ?_
      refine lv_dup hx hb dX9_isLate_96 rfl ?_
      refine mg_25 (x := v 25) hx hb hts hown hK hP rfl dX9_isLate_97 ?_
      refine lv_iload_n hx hb dX9_isLate_100 rfl (lv_at hl 0 rfl) ?_
      refine lv_iadd hx hb dX9_isLate_101 ?_
      refine mp_25 hx hb hts hown hK hP hD hS ((v 25) + (((((a 27) z) - ((a 32) z)) + (a 33 z + a 30 z)) - ((a 34) z))) dX9_isLate_102 (fun H locs hP hD hS => ?_)
      have L : ∀ (r i : Nat) (m_ : Nat) (f3 : Nat → Int32) (f4 : Nat → Int32) (f5 : Nat → Int32) (H : Heap) (locs : List Loc), i + r = n → m_ ≤ c 46 + i → lp (lateStep (a 40) z n (a 27 z - a 32 z + (a 33 z + a 30 z) - a 34 z)) r i (m_, f3, f4, f5) = lp (lateStep (a 40) z n (a 27 z - a 32 z + (a 33 z + a 30 z) - a 34 z)) n 0 (c 46, a 43, a 44, a 45) → va_P D vwCl (Mw h q k (up c 46 m_) (up v 25 ((v 25) + (((((a 27) z) - ((a 32) z)) + (a 33 z + a 30 z)) - ((a 34) z)))) nm (up (up (up (up (up (up (up a 35 (upd (a 35) z (((a 35) z) + 1))) 36 (upd (a 36) z (((a 36) z) + 1))) 33 (upd (a 33) z (((a 33) z) + ((a 30) z)))) 37 (upd (a 37) z 2)) 43 f3) 44 f4) 45 f5)) H → va_D A (Mw h q k (up c 46 m_) (up v 25 ((v 25) + (((((a 27) z) - ((a 32) z)) + (a 33 z + a 30 z)) - ((a 34) z)))) nm (up (up (up (up (up (up (up a 35 (upd (a 35) z (((a 35) z) + 1))) 36 (upd (a 36) z (((a 36) z) + 1))) 33 (upd (a 33) z (((a 33) z) + ((a 30) z)))) 37 (upd (a 37) z 2)) 43 f3) 44 f4) 45 f5)) → va_S A s.heap H locs → ∀ (ls : Array Slot), lv_has ls 5 [(0, .ref h), (1, .int (nI z)), (2, .int (a 27 z - a 32 z + (a 33 z + a 30 z) - a 34 z)), (3, .int (nI i))] → W p l e (rmd 0 0 0) s m args below meth c_ H locs 0 0 Q (F0 m 107 ls []) := by
        intro r
        induction r with
        | zero =>
          intro i m_ f3 f4 f5 H locs hi hm he hP hD hS ls hl
          refine lv_iload_n hx hb dX9_isLate_107 rfl (lv_at hl 3 rfl) ?_
          refine lv_aload_n hx hb dX9_isLate_108 rfl (lv_at hl 0 rfl) ?_
          refine mg_39 hx hb hts hown hK hP dX9_isLate_109 ?_
          refine lv_iload_n hx hb dX9_isLate_112 rfl (lv_at hl 1 rfl) ?_
          refine ml_39 (x := (a 39) z) hx hb hK hP z rfl (by omega) rfl dX9_isLate_113 ?_
          refine rw_topi (y := nI n) (hsz.1) ?_
          refine lv_icmp_ge (tgt := 209) hx hb dX9_isLate_114 (by decide) (fun c114 => ?_) (fun c114 => absurd (nI_le (by omega) (by omega)) c114)
          exact fs_v hx hb hr hlocks hq (up c 46 m_, up v 25 ((v 25) + (((((a 27) z) - ((a 32) z)) + (a 33 z + a 30 z)) - ((a 34) z))), nm, up (up (up (up (up (up (up a 35 (upd (a 35) z (((a 35) z) + 1))) 36 (upd (a 36) z (((a 36) z) + 1))) 33 (upd (a 33) z (((a 33) z) + ((a 30) z)))) 37 (upd (a 37) z 2)) 43 f3) 44 f4) 45 f5) (by simp only [mLate, if_pos c47, if_pos c92]; simp only [mLateP, fRest]; rw [← he]; rfl) hP hD hS dX9_isLate_209 rfl
        | succ r ih =>
          intro i m_ f3 f4 f5 H locs hi hm he hP hD hS ls hl
          refine lv_iload_n hx hb dX9_isLate_107 rfl (lv_at hl 3 rfl) ?_
          refine lv_aload_n hx hb dX9_isLate_108 rfl (lv_at hl 0 rfl) ?_
          refine mg_39 hx hb hts hown hK hP dX9_isLate_109 ?_
          refine lv_iload_n hx hb dX9_isLate_112 rfl (lv_at hl 1 rfl) ?_
          refine ml_39 (x := (a 39) z) hx hb hK hP z rfl (by omega) rfl dX9_isLate_113 ?_
          refine rw_topi (y := nI n) (hsz.1) ?_
          refine lv_icmp_ge (tgt := 209) hx hb dX9_isLate_114 (by decide) (fun c114 => absurd c114 (nI_ge (by omega) (by omega))) (fun c114 => ?_)
          refine lv_iload_n hx hb dX9_isLate_117 rfl (lv_at hl 2 rfl) ?_
          refine lv_aload_n hx hb dX9_isLate_118 rfl (lv_at hl 0 rfl) ?_
          refine mg_39 hx hb hts hown hK hP dX9_isLate_119 ?_
          refine lv_iload_n hx hb dX9_isLate_122 rfl (lv_at hl 1 rfl) ?_
          refine ml_39 (x := (a 39) z) hx hb hK hP z rfl (by omega) rfl dX9_isLate_123 ?_
          refine rw_topi (y := nI n) (hsz.1) ?_
          refine lv_idiv hx hb dX9_isLate_124 (nI_ne0 (by omega) (by omega)) ?_
          refine lv_iload_n hx hb dX9_isLate_125 rfl (lv_at hl 3 rfl) ?_
          refine lv_iload_n hx hb dX9_isLate_126 rfl (lv_at hl 2 rfl) ?_
          refine lv_aload_n hx hb dX9_isLate_127 rfl (lv_at hl 0 rfl) ?_
          refine mg_39 hx hb hts hown hK hP dX9_isLate_128 ?_
          refine lv_iload_n hx hb dX9_isLate_131 rfl (lv_at hl 1 rfl) ?_
          refine ml_39 (x := (a 39) z) hx hb hK hP z rfl (by omega) rfl dX9_isLate_132 ?_
          refine rw_topi (y := nI n) (hsz.1) ?_
          refine lv_irem hx hb dX9_isLate_133 (nI_ne0 (by omega) (by omega)) ?_
          refine lv_icmp_ge (tgt := 141) hx hb dX9_isLate_134 (by decide) (fun c134 => ?_) (fun c134 => ?_)
          · refine lv_iconst (v := 0) hx hb dX9_isLate_141 (by decide) ?_
            refine lv_iadd hx hb dX9_isLate_142 ?_
            refine lv_istore (lv' := [(4, .int (((a 27 z - a 32 z + (a 33 z + a 30 z) - a 34 z) / (nI n)) + 0)), (0, .ref h), (1, .int (nI z)), (2, .int (a 27 z - a 32 z + (a 33 z + a 30 z) - a 34 z)), (3, .int (nI i))]) hx hb dX9_isLate_143 hl (by decide) rfl (fun ls hl => ?_)
            refine lv_iload hx hb dX9_isLate_145 (lv_at hl 0 rfl) ?_
            refine lv_if_ne (tgt := 153) hx hb dX9_isLate_147 (by decide) (fun c147 => ?_) (fun c147 => ?_)
            · refine lv_aload_n hx hb dX9_isLate_153 rfl (lv_at hl 1 rfl) ?_
              refine mg_43 hx hb hts hown hK hP dX9_isLate_154 ?_
              refine lv_aload_n hx hb dX9_isLate_157 rfl (lv_at hl 1 rfl) ?_
              refine mg_46 (x := nI m_) hx hb hts hown hK hP rfl dX9_isLate_158 ?_
              refine lv_aload_n hx hb dX9_isLate_161 rfl (lv_at hl 1 rfl) ?_
              refine mg_40 hx hb hts hown hK hP dX9_isLate_162 ?_
              refine lv_iconst (v := 3) hx hb dX9_isLate_165 (by decide) ?_
              refine lv_iload_n hx hb dX9_isLate_166 rfl (lv_at hl 2 rfl) ?_
              refine lv_imul hx hb dX9_isLate_167 ?_
              refine rw_topi (y := nI (3 * z)) (pk_mul _ _) ?_
              refine lv_iload_n hx hb dX9_isLate_168 rfl (lv_at hl 4 rfl) ?_
              refine lv_iadd hx hb dX9_isLate_169 ?_
              refine rw_topi (y := nI ((3 * z) + i)) (nI_add _ _) ?_
              refine ml_40 (x := (a 40) ((3 * z) + i)) hx hb hK hP ((3 * z) + i) rfl (by omega) rfl dX9_isLate_170 ?_
              refine mt_43 (f := f3) hx hb hK hP hD hS m_ rfl (by omega) rfl dX9_isLate_171 (fun H locs hP hD hS => ?_)
              refine lv_aload_n hx hb dX9_isLate_172 rfl (lv_at hl 1 rfl) ?_
              refine mg_44 hx hb hts hown hK hP dX9_isLate_173 ?_
              refine lv_aload_n hx hb dX9_isLate_176 rfl (lv_at hl 1 rfl) ?_
              refine mg_46 (x := nI m_) hx hb hts hown hK hP rfl dX9_isLate_177 ?_
              refine lv_iload_n hx hb dX9_isLate_180 rfl (lv_at hl 2 rfl) ?_
              refine mt_44 (f := f4) hx hb hK hP hD hS m_ rfl (by omega) rfl dX9_isLate_181 (fun H locs hP hD hS => ?_)
              refine lv_aload_n hx hb dX9_isLate_182 rfl (lv_at hl 1 rfl) ?_
              refine mg_45 hx hb hts hown hK hP dX9_isLate_183 ?_
              refine lv_aload_n hx hb dX9_isLate_186 rfl (lv_at hl 1 rfl) ?_
              refine mg_46 (x := nI m_) hx hb hts hown hK hP rfl dX9_isLate_187 ?_
              refine lv_iload hx hb dX9_isLate_190 (lv_at hl 0 rfl) ?_
              refine mt_45 (f := f5) hx hb hK hP hD hS m_ rfl (by omega) rfl dX9_isLate_192 (fun H locs hP hD hS => ?_)
              refine lv_aload_n hx hb dX9_isLate_193 rfl (lv_at hl 1 rfl) ?_
              refine lv_dup hx hb dX9_isLate_194 rfl ?_
              refine mg_46 (x := nI m_) hx hb hts hown hK hP rfl dX9_isLate_195 ?_
              refine lv_iconst (v := 1) hx hb dX9_isLate_198 (by decide) ?_
              refine lv_iadd hx hb dX9_isLate_199 ?_
              refine rw_topi (y := nI (m_ + 1)) (nI_add _ _) ?_
              refine mp_46 hx hb hts hown hK hP hD hS (m_ + 1) rfl dX9_isLate_200 (fun H locs hP hD hS => ?_)
              rw [up_up] at hP hD
              refine lv_iinc (v := nI (i + 1)) (lv' := [(3, .int (nI (i + 1))), (4, .int (((a 27 z - a 32 z + (a 33 z + a 30 z) - a 34 z) / (nI n)) + 0)), (0, .ref h), (1, .int (nI z)), (2, .int (a 27 z - a 32 z + (a 33 z + a 30 z) - a 34 z))]) hx hb dX9_isLate_203 hl (k := 4) rfl (nI_1 _) (by decide) rfl (fun ls hl => ?_)
              refine lv_goto (tgt := 107) hx hb dX9_isLate_206 (by decide) ?_
              exact ih (i + 1) (m_ + 1) (upd f3 m_ ((a 40) ((3 * z) + i))) (upd f4 m_ (nI z)) (upd f5 m_ (((a 27 z - a 32 z + (a 33 z + a 30 z) - a 34 z) / (nI n)) + 0)) H locs (by omega) (by omega) (by rw [← he]; simp only [lp, lateStep, lateV, if_pos c134, if_neg c147]) hP hD hS ls (lv_sub hl [2, 3, 4, 0] rfl)
            · refine lv_goto (tgt := 203) hx hb dX9_isLate_150 (by decide) ?_
              refine lv_iinc (v := nI (i + 1)) (lv' := [(3, .int (nI (i + 1))), (4, .int (((a 27 z - a 32 z + (a 33 z + a 30 z) - a 34 z) / (nI n)) + 0)), (0, .ref h), (1, .int (nI z)), (2, .int (a 27 z - a 32 z + (a 33 z + a 30 z) - a 34 z))]) hx hb dX9_isLate_203 hl (k := 4) rfl (nI_1 _) (by decide) rfl (fun ls hl => ?_)
              refine lv_goto (tgt := 107) hx hb dX9_isLate_206 (by decide) ?_
              exact ih (i + 1) m_ f3 f4 f5 H locs (by omega) (by omega) (by rw [← he]; simp only [lp, lateStep, lateV, if_pos c134, if_pos c147]) hP hD hS ls (lv_sub hl [2, 3, 4, 0] rfl)
          · refine lv_iconst (v := 1) hx hb dX9_isLate_137 (by decide) ?_
            refine lv_goto (tgt := 142) hx hb dX9_isLate_138 (by decide) ?_
            refine lv_iadd hx hb dX9_isLate_142 ?_
            refine lv_istore (lv' := [(4, .int (((a 27 z - a 32 z + (a 33 z + a 30 z) - a 34 z) / (nI n)) + 1)), (0, .ref h), (1, .int (nI z)), (2, .int (a 27 z - a 32 z + (a 33 z + a 30 z) - a 34 z)), (3, .int (nI i))]) hx hb dX9_isLate_143 hl (by decide) rfl (fun ls hl => ?_)
            refine lv_iload hx hb dX9_isLate_145 (lv_at hl 0 rfl) ?_
            refine lv_if_ne (tgt := 153) hx hb dX9_isLate_147 (by decide) (fun c147 => ?_) (fun c147 => ?_)
            · refine lv_aload_n hx hb dX9_isLate_153 rfl (lv_at hl 1 rfl) ?_
              refine mg_43 hx hb hts hown hK hP dX9_isLate_154 ?_
              refine lv_aload_n hx hb dX9_isLate_157 rfl (lv_at hl 1 rfl) ?_
              refine mg_46 (x := nI m_) hx hb hts hown hK hP rfl dX9_isLate_158 ?_
              refine lv_aload_n hx hb dX9_isLate_161 rfl (lv_at hl 1 rfl) ?_
              refine mg_40 hx hb hts hown hK hP dX9_isLate_162 ?_
              refine lv_iconst (v := 3) hx hb dX9_isLate_165 (by decide) ?_
              refine lv_iload_n hx hb dX9_isLate_166 rfl (lv_at hl 2 rfl) ?_
              refine lv_imul hx hb dX9_isLate_167 ?_
              refine rw_topi (y := nI (3 * z)) (pk_mul _ _) ?_
              refine lv_iload_n hx hb dX9_isLate_168 rfl (lv_at hl 4 rfl) ?_
              refine lv_iadd hx hb dX9_isLate_169 ?_
              refine rw_topi (y := nI ((3 * z) + i)) (nI_add _ _) ?_
              refine ml_40 (x := (a 40) ((3 * z) + i)) hx hb hK hP ((3 * z) + i) rfl (by omega) rfl dX9_isLate_170 ?_
              refine mt_43 (f := f3) hx hb hK hP hD hS m_ rfl (by omega) rfl dX9_isLate_171 (fun H locs hP hD hS => ?_)
              refine lv_aload_n hx hb dX9_isLate_172 rfl (lv_at hl 1 rfl) ?_
              refine mg_44 hx hb hts hown hK hP dX9_isLate_173 ?_
              refine lv_aload_n hx hb dX9_isLate_176 rfl (lv_at hl 1 rfl) ?_
              refine mg_46 (x := nI m_) hx hb hts hown hK hP rfl dX9_isLate_177 ?_
              refine lv_iload_n hx hb dX9_isLate_180 rfl (lv_at hl 2 rfl) ?_
              refine mt_44 (f := f4) hx hb hK hP hD hS m_ rfl (by omega) rfl dX9_isLate_181 (fun H locs hP hD hS => ?_)
              refine lv_aload_n hx hb dX9_isLate_182 rfl (lv_at hl 1 rfl) ?_
              refine mg_45 hx hb hts hown hK hP dX9_isLate_183 ?_
              refine lv_aload_n hx hb dX9_isLate_186 rfl (lv_at hl 1 rfl) ?_
              refine mg_46 (x := nI m_) hx hb hts hown hK hP rfl dX9_isLate_187 ?_
              refine lv_iload hx hb dX9_isLate_190 (lv_at hl 0 rfl) ?_
              refine mt_45 (f := f5) hx hb hK hP hD hS m_ rfl (by omega) rfl dX9_isLate_192 (fun H locs hP hD hS => ?_)
              refine lv_aload_n hx hb dX9_isLate_193 rfl (lv_at hl 1 rfl) ?_
              refine lv_dup hx hb dX9_isLate_194 rfl ?_
              refine mg_46 (x := nI m_) hx hb hts hown hK hP rfl dX9_isLate_195 ?_
              refine lv_iconst (v := 1) hx hb dX9_isLate_198 (by decide) ?_
              refine lv_iadd hx hb dX9_isLate_199 ?_
              refine rw_topi (y := nI (m_ + 1)) (nI_add _ _) ?_
              refine mp_46 hx hb hts hown hK hP hD hS (m_ + 1) rfl dX9_isLate_200 (fun H locs hP hD hS => ?_)
              rw [up_up] at hP hD
              refine lv_iinc (v := nI (i + 1)) (lv' := [(3, .int (nI (i + 1))), (4, .int (((a 27 z - a 32 z + (a 33 z + a 30 z) - a 34 z) / (nI n)) + 1)), (0, .ref h), (1, .int (nI z)), (2, .int (a 27 z - a 32 z + (a 33 z + a 30 z) - a 34 z))]) hx hb dX9_isLate_203 hl (k := 4) rfl (nI_1 _) (by decide) rfl (fun ls hl => ?_)
              refine lv_goto (tgt := 107) hx hb dX9_isLate_206 (by decide) ?_
              exact ih (i + 1) (m_ + 1) (upd f3 m_ ((a 40) ((3 * z) + i))) (upd f4 m_ (nI z)) (upd f5 m_ (((a 27 z - a 32 z + (a 33 z + a 30 z) - a 34 z) / (nI n)) + 1)) H locs (by omega) (by omega) (by rw [← he]; simp only [lp, lateStep, lateV, if_neg c134, if_neg c147]) hP hD hS ls (lv_sub hl [2, 3, 4, 0] rfl)
            · refine lv_goto (tgt := 203) hx hb dX9_isLate_150 (by decide) ?_
              refine lv_iinc (v := nI (i + 1)) (lv' := [(3, .int (nI (i + 1))), (4, .int (((a 27 z - a 32 z + (a 33 z + a 30 z) - a 34 z) / (nI n)) + 1)), (0, .ref h), (1, .int (nI z)), (2, .int (a 27 z - a 32 z + (a 33 z + a 30 z) - a 34 z))]) hx hb dX9_isLate_203 hl (k := 4) rfl (nI_1 _) (by decide) rfl (fun ls hl => ?_)
              refine lv_goto (tgt := 107) hx hb dX9_isLate_206 (by decide) ?_
              exact ih (i + 1) m_ f3 f4 f5 H locs (by omega) (by omega) (by rw [← he]; simp only [lp, lateStep, lateV, if_neg c134, if_pos c147]) hP hD hS ls (lv_sub hl [2, 3, 4, 0] rfl)
      refine lv_iconst (v := 0) hx hb dX9_isLate_105 (by decide) ?_
      refine lv_istore_n (lv' := [(3, .int 0), (2, .int (((((a 27) z) - ((a 32) z)) + (a 33 z + a 30 z)) - ((a 34) z))), (0, .ref h), (1, .int (nI z))]) hx hb dX9_isLate_106 rfl hl (by decide) rfl (fun ls hl => ?_)
      exact L n 0 (c 46) (a 43) (a 44) (a 45) H locs (by omega) (by omega) (rfl) hP hD hS ls (lv_sub hl [2, 3, 1, 0] rfl)
  · exact fs_v hx hb hr hlocks hq (c, v, nm, up (up (up a 35 (upd (a 35) z (((a 35) z) + 1))) 36 (upd (a 36) z (((a 36) z) + 1))) 33 (upd (a 33) z (((a 33) z) + ((a 30) z)))) (by simp only [mLate, if_neg c47]; rfl) hP hD hS dX9_isLate_50 rfl
