def fClear (f : Nat → Int32) : Nat → Int32 := lp (fun i f => upd f i (-1)) 40 0 f
def mClear (u : MSt) : MSt := (u.1, u.2.1, u.2.2.1, up u.2.2.2 47 (fClear (u.2.2.2 47)))
set_option maxHeartbeats 4000000 in
set_option maxRecDepth 100000 in
theorem c_X9_clear (l : Launch) (D : va_G) (h : Nat) (q : Nat → Nat) (k : Nat → ClassId) (c : Nat → Nat) (v : Nat → Int32) (nm : Int64) (a : Nat → Nat → Int32) : Fs (S := MSt) l yX9_clear cX9_clear 2 none 0 0 0 D (TY k) G0 [.ref h] (Mw h q k c v nm a) (fun _ => none) (fun u => u = mClear (c, v, nm, a)) (fun u => MwU h q k u) := by
  refine fs_body (by decide +kernel) (Nat.le_of_ble_eq_true rfl) ?_
  intro p e s m args below meth c_ Q A hx hb hml hown hts hK hP hD hS hA hG hin hr hq hlocks ls hl
  replace hl : lv_has ls 2 [(0, .ref h)] := hl
  change s.vm.findClass RX9 = some m.cls at hown
  have L : ∀ (r i : Nat) (f : Nat → Int32) (H : Heap) (locs : List Loc), i + r = 40 → lp (fun i f => upd f i (-1)) r i f = fClear (a 47) → va_P D vwCl (Mw h q k c v nm (up a 47 f)) H → va_D A (Mw h q k c v nm (up a 47 f)) → va_S A s.heap H locs → ∀ (ls : Array Slot), lv_has ls 2 [(0, .ref h), (1, .int (nI i))] → W p l e (rmd 0 0 0) s m args below meth c_ H locs 0 0 Q (F0 m 2 ls []) := by
    intro r
    induction r with
    | zero =>
      intro i f H locs hi he hP hD hS ls hl
      refine lv_iload_n hx hb dX9_clear_2 rfl (lv_at hl 1 rfl) ?_
      refine lv_bipush (v := 40) hx hb dX9_clear_3 (by decide) ?_
      refine lv_icmp_ge (tgt := 21) hx hb dX9_clear_5 (by decide) (fun c5 => ?_) (fun c5 => absurd (nI_le (a := 40) (by omega) (by omega)) c5)
      exact fs_v hx hb hr hlocks hq (c, v, nm, up a 47 f) (by rw [mClear, ← he]; rfl) hP hD hS dX9_clear_21 rfl
    | succ r ih =>
      intro i f H locs hi he hP hD hS ls hl
      refine lv_iload_n hx hb dX9_clear_2 rfl (lv_at hl 1 rfl) ?_
      refine lv_bipush (v := 40) hx hb dX9_clear_3 (by decide) ?_
      refine lv_icmp_ge (tgt := 21) hx hb dX9_clear_5 (by decide) (fun c5 => absurd c5 (nI_ge (b := 40) (by omega) (by omega))) (fun c5 => ?_)
      refine lv_aload_n hx hb dX9_clear_8 rfl (lv_at hl 0 rfl) ?_
      refine mg_47 hx hb hts hown hK hP dX9_clear_9 ?_
      refine lv_iload_n hx hb dX9_clear_12 rfl (lv_at hl 1 rfl) ?_
      refine lv_iconst (v := (-1)) hx hb dX9_clear_13 (by decide) ?_
      refine mt_47 (f := f) hx hb hK hP hD hS i rfl (by omega) rfl dX9_clear_14 (fun H locs hP hD hS => ?_)
      rw [up_up] at hP hD
      refine lv_iinc (v := nI (i + 1)) (lv' := [(1, .int (nI (i + 1))), (0, .ref h)]) hx hb dX9_clear_15 hl (k := 1) rfl (nI_1 _) (by decide) rfl (fun ls hl => ?_)
      refine lv_goto (tgt := 2) hx hb dX9_clear_18 (by decide) ?_
      exact ih (i + 1) (upd f i (-1)) H locs (by omega) (by rw [← he]; rfl) hP hD hS ls (lv_sub hl [1, 0] rfl)
  refine lv_iconst (v := 0) hx hb dX9_clear_0 (by decide) ?_
  refine lv_istore_n (lv' := [(1, .int 0), (0, .ref h)]) hx hb dX9_clear_1 rfl hl (by decide) rfl (fun ls hl => ?_)
  exact L 40 0 (a 47) _ _ (by omega) (rfl) hP hD hS ls (lv_sub hl [1, 0] rfl)
def mSteps (x : Int32) (sn : Nat → Nat) (u : MSt) : Int32 × MSt := (bI (fSteps (u.2.2.2 26) (u.2.2.2 37) (u.2.2.2 40) sn (u.1 42) x (u.2.2.2 47)).2, (u.1, u.2.1, u.2.2.1, up u.2.2.2 47 (fSteps (u.2.2.2 26) (u.2.2.2 37) (u.2.2.2 40) sn (u.1 42) x (u.2.2.2 47)).1))
def mSpread (sn : Nat → Nat) (u : MSt) : MSt := (u.1, u.2.1, u.2.2.1, up u.2.2.2 47 (fSpread (u.2.2.2 26) (u.2.2.2 37) (u.2.2.2 40) sn (u.1 42) 41 1 (u.2.2.2 47)))
set_option maxHeartbeats 4000000 in
set_option maxRecDepth 100000 in
theorem c_X9_steps (l : Launch) (D : va_G) (h : Nat) (q : Nat → Nat) (k : Nat → ClassId) (c : Nat → Nat) (v : Nat → Int32) (nm : Int64) (a : Nat → Nat → Int32) (x : Int32) (hn : c 42 ≤ 100) (sn : Nat → Nat) (hs : ∀ k, k < c 42 → a 39 k = nI (sn k) ∧ sn k ≤ 3) (hw : ∀ k, k < c 42 → isIn (a 26 k) 40 = true) (hu : ∀ k i, k < c 42 → i < sn k → isIn (a 40 (3 * k + i)) 40 = true) : Fs (S := Int32 × MSt) l yX9_steps cX9_steps 6 (some .boolean) 0 0 0 D (TY k) G0 [.ref h, .int x] (Mw h q k c v nm a) (fun u => some (.int u.1)) (fun u => u = mSteps x sn (c, v, nm, a)) (fun u => MwU h q k u.2) := by
  refine fs_body (by decide +kernel) (Nat.le_of_ble_eq_true rfl) ?_
  intro p e s m args below meth c_ Q A hx hb hml hown hts hK hP hD hS hA hG hin hr hq hlocks ls hl
  replace hl : lv_has ls 6 [(0, .ref h), (1, .int x)] := hl
  change s.vm.findClass RX9 = some m.cls at hown
  have L : ∀ (r i : Nat) (f : Nat → Int32) (b : Bool) (H : Heap) (locs : List Loc), i + r = c 42 → lp (fStepO (a 26) (a 37) (a 40) sn x) r i (f, b) = fSteps (a 26) (a 37) (a 40) sn (c 42) x (a 47) → va_P D vwCl (Mw h q k c v nm (up a 47 f)) H → va_D A (Mw h q k c v nm (up a 47 f)) → va_S A s.heap H locs → ∀ (ls : Array Slot), lv_has ls 6 [(0, .ref h), (1, .int x), (2, .int (bI b)), (3, .int (nI i))] → W p l e (rmd 0 0 0) s m args below meth c_ H locs 0 0 Q (F0 m 4 ls []) := by
    intro r
    induction r with
    | zero =>
      intro i f b H locs hi he hP hD hS ls hl
      refine lv_iload_n hx hb dX9_steps_4 rfl (lv_at hl 3 rfl) ?_
      refine lv_aload_n hx hb dX9_steps_5 rfl (lv_at hl 0 rfl) ?_
      refine mg_42 (x := nI (c 42)) hx hb hts hown hK hP rfl dX9_steps_6 ?_
      refine lv_icmp_ge (tgt := 104) hx hb dX9_steps_9 (by decide) (fun c9 => ?_) (fun c9 => absurd (nI_le (by omega) (by omega)) c9)
      refine lv_iload_n hx hb dX9_steps_104 rfl (lv_at hl 2 rfl) ?_
      exact fs_z hx hb hr hlocks hq (bI b, (c, v, nm, up a 47 f)) (by rw [mSteps, ← he]; rfl) hP hD hS (bI_nar b) dX9_steps_105 rfl
    | succ r ih =>
      intro i f b H locs hi he hP hD hS ls hl
      refine lv_iload_n hx hb dX9_steps_4 rfl (lv_at hl 3 rfl) ?_
      refine lv_aload_n hx hb dX9_steps_5 rfl (lv_at hl 0 rfl) ?_
      refine mg_42 (x := nI (c 42)) hx hb hts hown hK hP rfl dX9_steps_6 ?_
      refine lv_icmp_ge (tgt := 104) hx hb dX9_steps_9 (by decide) (fun c9 => absurd c9 (nI_ge (by omega) (by omega))) (fun c9 => ?_)
      refine lv_aload_n hx hb dX9_steps_12 rfl (lv_at hl 0 rfl) ?_
      refine mg_37 hx hb hts hown hK hP dX9_steps_13 ?_
      refine lv_iload_n hx hb dX9_steps_16 rfl (lv_at hl 3 rfl) ?_
      refine ml_37 (x := (a 37) i) hx hb hK hP i rfl (by omega) rfl dX9_steps_17 ?_
      refine lv_if_ne (tgt := 98) hx hb dX9_steps_18 (by decide) (fun c18 => ?_) (fun c18 => ?_)
      · refine lv_iinc (v := nI (i + 1)) (lv' := [(3, .int (nI (i + 1))), (0, .ref h), (1, .int x), (2, .int (bI b))]) hx hb dX9_steps_98 hl (k := 3) rfl (nI_1 _) (by decide) rfl (fun ls hl => ?_)
        refine lv_goto (tgt := 4) hx hb dX9_steps_101 (by decide) ?_
        exact ih (i + 1) f b H locs (by omega) (by rw [← he]; simp only [lp, fStepO, if_neg c18]) hP hD hS ls (lv_sub hl [1, 2, 3, 0] rfl)
      · refine lv_aload_n hx hb dX9_steps_21 rfl (lv_at hl 0 rfl) ?_
        refine mg_47 hx hb hts hown hK hP dX9_steps_22 ?_
        refine lv_aload_n hx hb dX9_steps_25 rfl (lv_at hl 0 rfl) ?_
        refine mg_26 hx hb hts hown hK hP dX9_steps_26 ?_
        refine lv_iload_n hx hb dX9_steps_29 rfl (lv_at hl 3 rfl) ?_
        refine ml_26 (x := (a 26) i) hx hb hK hP i rfl (by omega) rfl dX9_steps_30 ?_
        refine ml_47 (x := f ((a 26 i).toNatClampNeg)) hx hb hK hP ((a 26 i).toNatClampNeg) ((isIn_spec (hw i (by omega)) (by decide)).1) ((isIn_spec (hw i (by omega)) (by decide)).2) rfl dX9_steps_31 ?_
        refine lv_iload_n hx hb dX9_steps_32 rfl (lv_at hl 1 rfl) ?_
        refine lv_icmp_eq (tgt := 39) hx hb dX9_steps_33 (by decide) (fun c33 => ?_) (fun c33 => ?_)
        · have hsk := (hs i (by omega)).2
          have L2 : ∀ (r2 j : Nat) (f2 : Nat → Int32) (b2 : Bool) (H : Heap) (locs : List Loc), j + r2 = sn i → lp (fStepO (a 26) (a 37) (a 40) sn x) r (i + 1) (lp (fStepI (a 40) x i) r2 j (f2, b2)) = fSteps (a 26) (a 37) (a 40) sn (c 42) x (a 47) → va_P D vwCl (Mw h q k c v nm (up a 47 f2)) H → va_D A (Mw h q k c v nm (up a 47 f2)) → va_S A s.heap H locs → ∀ (ls : Array Slot), lv_has ls 6 [(0, .ref h), (1, .int x), (2, .int (bI b2)), (3, .int (nI i)), (4, .int (nI j))] → W p l e (rmd 0 0 0) s m args below meth c_ H locs 0 0 Q (F0 m 42 ls []) := by
            intro r2
            induction r2 with
            | zero =>
              intro j f2 b2 H locs hi2 he2 hP hD hS ls hl
              refine lv_iload hx hb dX9_steps_42 (lv_at hl 4 rfl) ?_
              refine lv_aload_n hx hb dX9_steps_44 rfl (lv_at hl 0 rfl) ?_
              refine mg_39 hx hb hts hown hK hP dX9_steps_45 ?_
              refine lv_iload_n hx hb dX9_steps_48 rfl (lv_at hl 3 rfl) ?_
              refine ml_39 (x := (a 39) i) hx hb hK hP i rfl (by omega) rfl dX9_steps_49 ?_
              refine rw_topi (y := nI (sn i)) ((hs i (by omega)).1) ?_
              refine lv_icmp_ge (tgt := 98) hx hb dX9_steps_50 (by decide) (fun c50 => ?_) (fun c50 => absurd (nI_le (by omega) (by omega)) c50)
              refine lv_iinc (v := nI (i + 1)) (lv' := [(3, .int (nI (i + 1))), (0, .ref h), (1, .int x), (2, .int (bI b2)), (4, .int (nI j))]) hx hb dX9_steps_98 hl (k := 3) rfl (nI_1 _) (by decide) rfl (fun ls hl => ?_)
              refine lv_goto (tgt := 4) hx hb dX9_steps_101 (by decide) ?_
              exact ih (i + 1) f2 b2 H locs (by omega) (by rw [← he2]; rfl) hP hD hS ls (lv_sub hl [1, 2, 3, 0] rfl)
            | succ r2 ih2 =>
              intro j f2 b2 H locs hi2 he2 hP hD hS ls hl
              refine lv_iload hx hb dX9_steps_42 (lv_at hl 4 rfl) ?_
              refine lv_aload_n hx hb dX9_steps_44 rfl (lv_at hl 0 rfl) ?_
              refine mg_39 hx hb hts hown hK hP dX9_steps_45 ?_
              refine lv_iload_n hx hb dX9_steps_48 rfl (lv_at hl 3 rfl) ?_
              refine ml_39 (x := (a 39) i) hx hb hK hP i rfl (by omega) rfl dX9_steps_49 ?_
              refine rw_topi (y := nI (sn i)) ((hs i (by omega)).1) ?_
              refine lv_icmp_ge (tgt := 98) hx hb dX9_steps_50 (by decide) (fun c50 => absurd c50 (nI_ge (by omega) (by omega))) (fun c50 => ?_)
              refine lv_aload_n hx hb dX9_steps_53 rfl (lv_at hl 0 rfl) ?_
              refine mg_40 hx hb hts hown hK hP dX9_steps_54 ?_
              refine lv_iconst (v := 3) hx hb dX9_steps_57 (by decide) ?_
              refine lv_iload_n hx hb dX9_steps_58 rfl (lv_at hl 3 rfl) ?_
              refine lv_imul hx hb dX9_steps_59 ?_
              refine rw_topi (y := nI (3 * i)) (pk_mul _ _) ?_
              refine lv_iload hx hb dX9_steps_60 (lv_at hl 4 rfl) ?_
              refine lv_iadd hx hb dX9_steps_62 ?_
              refine rw_topi (y := nI ((3 * i) + j)) (nI_add _ _) ?_
              refine ml_40 (x := (a 40) ((3 * i) + j)) hx hb hK hP ((3 * i) + j) rfl (by omega) rfl dX9_steps_63 ?_
              refine lv_istore (lv' := [(5, .int ((a 40) ((3 * i) + j))), (0, .ref h), (1, .int x), (2, .int (bI b2)), (3, .int (nI i)), (4, .int (nI j))]) hx hb dX9_steps_64 hl (by decide) rfl (fun ls hl => ?_)
              refine lv_aload_n hx hb dX9_steps_66 rfl (lv_at hl 1 rfl) ?_
              refine mg_47 hx hb hts hown hK hP dX9_steps_67 ?_
              refine lv_iload hx hb dX9_steps_70 (lv_at hl 0 rfl) ?_
              refine ml_47 (x := f2 ((a 40 (3 * i + j)).toNatClampNeg)) hx hb hK hP ((a 40 (3 * i + j)).toNatClampNeg) ((isIn_spec (hu i j (by omega) (by omega)) (by decide)).1) ((isIn_spec (hu i j (by omega) (by omega)) (by decide)).2) rfl dX9_steps_72 ?_
              refine lv_iconst (v := (-1)) hx hb dX9_steps_73 (by decide) ?_
              refine lv_icmp_eq (tgt := 80) hx hb dX9_steps_74 (by decide) (fun c74 => ?_) (fun c74 => ?_)
              · refine lv_aload_n hx hb dX9_steps_80 rfl (lv_at hl 1 rfl) ?_
                refine mg_47 hx hb hts hown hK hP dX9_steps_81 ?_
                refine lv_iload hx hb dX9_steps_84 (lv_at hl 0 rfl) ?_
                refine lv_iload_n hx hb dX9_steps_86 rfl (lv_at hl 2 rfl) ?_
                refine lv_iconst (v := 1) hx hb dX9_steps_87 (by decide) ?_
                refine lv_iadd hx hb dX9_steps_88 ?_
                refine mt_47 (f := f2) hx hb hK hP hD hS ((a 40 (3 * i + j)).toNatClampNeg) ((isIn_spec (hu i j (by omega) (by omega)) (by decide)).1) ((isIn_spec (hu i j (by omega) (by omega)) (by decide)).2) rfl dX9_steps_89 (fun H locs hP hD hS => ?_)
                rw [up_up] at hP hD
                refine lv_iconst (v := 1) hx hb dX9_steps_90 (by decide) ?_
                refine lv_istore_n (lv' := [(2, .int 1), (5, .int ((a 40) ((3 * i) + j))), (0, .ref h), (1, .int x), (3, .int (nI i)), (4, .int (nI j))]) hx hb dX9_steps_91 rfl hl (by decide) rfl (fun ls hl => ?_)
                refine lv_iinc (v := nI (j + 1)) (lv' := [(4, .int (nI (j + 1))), (2, .int 1), (5, .int ((a 40) ((3 * i) + j))), (0, .ref h), (1, .int x), (3, .int (nI i))]) hx hb dX9_steps_92 hl (k := 5) rfl (nI_1 _) (by decide) rfl (fun ls hl => ?_)
                refine lv_goto (tgt := 42) hx hb dX9_steps_95 (by decide) ?_
                exact ih2 (j + 1) (upd f2 ((a 40 (3 * i + j)).toNatClampNeg) (x + 1)) true H locs (by omega) (by rw [← he2]; simp only [lp, fStepI, if_pos c74]) hP hD hS ls (lv_sub hl [3, 4, 1, 5, 0] rfl)
              · refine lv_goto (tgt := 92) hx hb dX9_steps_77 (by decide) ?_
                refine lv_iinc (v := nI (j + 1)) (lv' := [(4, .int (nI (j + 1))), (5, .int ((a 40) ((3 * i) + j))), (0, .ref h), (1, .int x), (2, .int (bI b2)), (3, .int (nI i))]) hx hb dX9_steps_92 hl (k := 5) rfl (nI_1 _) (by decide) rfl (fun ls hl => ?_)
                refine lv_goto (tgt := 42) hx hb dX9_steps_95 (by decide) ?_
                exact ih2 (j + 1) f2 b2 H locs (by omega) (by rw [← he2]; simp only [lp, fStepI, if_neg c74]) hP hD hS ls (lv_sub hl [2, 3, 4, 5, 0] rfl)
          refine lv_iconst (v := 0) hx hb dX9_steps_39 (by decide) ?_
          refine lv_istore (lv' := [(4, .int 0), (0, .ref h), (1, .int x), (2, .int (bI b)), (3, .int (nI i))]) hx hb dX9_steps_40 hl (by decide) rfl (fun ls hl => ?_)
          exact L2 (sn i) 0 f b H locs (by omega) (by rw [← he]; simp only [lp, fStepO, if_pos c18, if_pos c33]) hP hD hS ls (lv_sub hl [1, 2, 3, 4, 0] rfl)
        · refine lv_goto (tgt := 98) hx hb dX9_steps_36 (by decide) ?_
          refine lv_iinc (v := nI (i + 1)) (lv' := [(3, .int (nI (i + 1))), (0, .ref h), (1, .int x), (2, .int (bI b))]) hx hb dX9_steps_98 hl (k := 3) rfl (nI_1 _) (by decide) rfl (fun ls hl => ?_)
          refine lv_goto (tgt := 4) hx hb dX9_steps_101 (by decide) ?_
          exact ih (i + 1) f b H locs (by omega) (by rw [← he]; simp only [lp, fStepO, if_pos c18, if_neg c33]) hP hD hS ls (lv_sub hl [1, 2, 3, 0] rfl)
  refine lv_iconst (v := 0) hx hb dX9_steps_0 (by decide) ?_
  refine lv_istore_n (lv' := [(2, .int 0), (0, .ref h), (1, .int x)]) hx hb dX9_steps_1 rfl hl (by decide) rfl (fun ls hl => ?_)
  refine lv_iconst (v := 0) hx hb dX9_steps_2 (by decide) ?_
  refine lv_istore_n (lv' := [(3, .int 0), (2, .int 0), (0, .ref h), (1, .int x)]) hx hb dX9_steps_3 rfl hl (by decide) rfl (fun ls hl => ?_)
  exact L (c 42) 0 (a 47) false _ _ (by omega) (rfl) hP hD hS ls (lv_sub hl [2, 3, 1, 0] rfl)
set_option maxHeartbeats 4000000 in
set_option maxRecDepth 100000 in
theorem c_X9_spread (l : Launch) (D : va_G) (h : Nat) (q : Nat → Nat) (k : Nat → ClassId) (c : Nat → Nat) (v : Nat → Int32) (nm : Int64) (a : Nat → Nat → Int32) (hn : c 42 ≤ 100) (sn : Nat → Nat) (hs : ∀ k, k < c 42 → a 39 k = nI (sn k) ∧ sn k ≤ 3) (hw : ∀ k, k < c 42 → isIn (a 26 k) 40 = true) (hu : ∀ k i, k < c 42 → i < sn k → isIn (a 40 (3 * k + i)) 40 = true) : Fs (S := MSt) l yX9_spread cX9_spread 2 none 1 0 0 D (TY k) G0 [.ref h] (Mw h q k c v nm a) (fun _ => none) (fun u => u = mSpread sn (c, v, nm, a)) (fun u => MwU h q k u) := by
  refine fs_body (by decide +kernel) (Nat.le_of_ble_eq_true rfl) ?_
  intro p e s m args below meth c_ Q A hx hb hml hown hts hK hP hD hS hA hG hin hr hq hlocks ls hl
  replace hl : lv_has ls 2 [(0, .ref h)] := hl
  change s.vm.findClass RX9 = some m.cls at hown
  have L : ∀ (r i : Nat) (f : Nat → Int32) (H : Heap) (locs : List Loc), i + r = 42 → cnt f 40 < r → fSpread (a 26) (a 37) (a 40) sn (c 42) r i f = fSpread (a 26) (a 37) (a 40) sn (c 42) 41 1 (a 47) → va_P D vwCl (Mw h q k c v nm (up a 47 f)) H → va_D A (Mw h q k c v nm (up a 47 f)) → va_S A s.heap H locs → ∀ (ls : Array Slot), lv_has ls 2 [(0, .ref h), (1, .int (nI i))] → W p l e (rmd 1 0 0) s m args below meth c_ H locs 0 0 Q (F0 m 2 ls []) := by
    intro r
    induction r with
    | zero =>
      intro i f H locs hi hm he hP hD hS ls hl
      exact absurd hm (Nat.not_lt_zero _)
    | succ r ih =>
      intro i f H locs hi hm he hP hD hS ls hl
      refine lv_aload_n hx hb dX9_spread_2 rfl (lv_at hl 0 rfl) ?_
      refine lv_iload_n hx hb dX9_spread_3 rfl (lv_at hl 1 rfl) ?_
      refine fs_Vw (rest := []) (As := [.int (nI i)]) ⟨hx, hb, hml, hown, hts⟩ Gd0 trivial hS hA hK (hP) (hD) (c_X9_steps l D h q k c v nm (up a 47 f) (nI i) hn sn hs hw hu) mi_X9_steps wd_5_221 wp_3_9 wd_5_219 ⟨Nat.le_of_ble_eq_true rfl, Nat.le_of_ble_eq_true rfl⟩ 0 rfl rfl rfl hl.1 rfl (Nat.le_of_ble_eq_true rfl) ⟨Nat.le_of_ble_eq_true rfl, Nat.le_of_ble_eq_true rfl⟩ dX9_spread_4 (fun u_1 H locs hu_2 hP hD hS => ?_)
      subst hu_2
      replace hP : va_P D vwCl (Mw h q k c v nm (up a 47 ((fSteps (a 26) (a 37) (a 40) sn (c 42) (nI i) f).1))) H := hP
      replace hD : va_D A (Mw h q k c v nm (up a 47 ((fSteps (a 26) (a 37) (a 40) sn (c 42) (nI i) f).1))) := hD
      refine W.eq (g2 := F0 m 7 ls [.int (bI (fSteps (a 26) (a 37) (a 40) sn (c 42) (nI i) f).2)]) rfl ?_
      refine lv_if_eq (tgt := 16) hx hb dX9_spread_7 (by decide) (fun c7 => ?_) (fun c7 => ?_)
      · replace c7 : ((fSteps (a 26) (a 37) (a 40) sn (c 42) (nI i) f).2) = false := bI_0.mp c7
        exact fs_v hx hb hr hlocks hq (c, v, nm, up a 47 ((fSteps (a 26) (a 37) (a 40) sn (c 42) (nI i) f).1)) (by rw [mSpread, ← he]; simp only [fSpread, c7, if_pos]) hP hD hS dX9_spread_16 rfl
      · replace c7 : ((fSteps (a 26) (a 37) (a 40) sn (c 42) (nI i) f).2) = true := bI_n.mp c7
        refine lv_iinc (v := nI (i + 1)) (lv' := [(1, .int (nI (i + 1))), (0, .ref h)]) hx hb dX9_spread_10 hl (k := 1) rfl (nI_1 _) (by decide) rfl (fun ls hl => ?_)
        refine lv_goto (tgt := 2) hx hb dX9_spread_13 (by decide) ?_
        exact ih (i + 1) ((fSteps (a 26) (a 37) (a 40) sn (c 42) (nI i) f).1) H locs (by omega) (by have := (fSteps_cnt (N := 40) (by decide) (d := nI i) (f := f) (nI_nem1 (by omega)) hu).2 c7; omega) (by rw [← he]; simp only [fSpread, c7]; rfl) hP hD hS ls (lv_sub hl [1, 0] rfl)
  refine lv_iconst (v := 1) hx hb dX9_spread_0 (by decide) ?_
  refine lv_istore_n (lv' := [(1, .int 1), (0, .ref h)]) hx hb dX9_spread_1 rfl hl (by decide) rfl (fun ls hl => ?_)
  exact L 41 1 (a 47) _ _ (by omega) (by have := cnt_le (a 47) 40; omega) (rfl) hP hD hS ls (lv_sub hl [1, 0] rfl)
def fRingF (j : Nat) (sn : Nat → Nat) (u : MSt) : Nat → Int32 := fSpread (u.2.2.2 26) (u.2.2.2 37) (u.2.2.2 40) sn (u.1 42) 41 1 (fSeed (u.2.2.2 40) j (sn j) (fClear (u.2.2.2 47)))
def mRing (x : Int32) (sn : Nat → Nat) (u : MSt) : Int32 × MSt := if isIn x (u.1 21) = false then (-1, mT0 u) else match fOpen (u.2.2.2 26) (u.2.2.2 37) x (u.1 42) with
  | none => (-1, mT0 u)
  | some j => (fRingF j sn u x.toNatClampNeg, (u.1, up u.2.1 0 0, u.2.2.1, up u.2.2.2 47 (fRingF j sn u)))
set_option maxHeartbeats 4000000 in
set_option maxRecDepth 100000 in
theorem c_X9_ring (l : Launch) (D : va_G) (h : Nat) (q : Nat → Nat) (k : Nat → ClassId) (c : Nat → Nat) (v : Nat → Int32) (nm : Int64) (a : Nat → Nat → Int32) (x : Int32) (hp : c 21 ≤ 40) (hn : c 42 ≤ 100) (sn : Nat → Nat) (hs : ∀ k, k < c 42 → a 39 k = nI (sn k) ∧ sn k ≤ 3) (hw : ∀ k, k < c 42 → isIn (a 26 k) 40 = true) (hu : ∀ k i, k < c 42 → i < sn k → isIn (a 40 (3 * k + i)) 40 = true) : Fs (S := Int32 × MSt) l yX9_ring cX9_ring 4 (some .int) 2 0 0 D (TY k) G0 [.ref h, .int x] (Mw h q k c v nm a) (fun u => some (.int u.1)) (fun u => u = mRing x sn (c, v, nm, a)) (fun u => MwU h q k u.2) := by
  refine fs_body (by decide +kernel) (Nat.le_of_ble_eq_true rfl) ?_
  intro p e s m args below meth c_ Q A hx hb hml hown hts hK hP hD hS hA hG hin hr hq hlocks ls hl
  replace hl : lv_has ls 4 [(0, .ref h), (1, .int x)] := hl
  change s.vm.findClass RX9 = some m.cls at hown
  refine lv_aload_n hx hb dX9_ring_0 rfl (lv_at hl 0 rfl) ?_
  refine lv_iconst (v := 0) hx hb dX9_ring_1 (by decide) ?_
  refine mp_0 hx hb hts hown hK hP hD hS 0 dX9_ring_2 (fun H locs hP hD hS => ?_)
  refine lv_aload_n hx hb dX9_ring_5 rfl (lv_at hl 0 rfl) ?_
  refine lv_iload_n hx hb dX9_ring_6 rfl (lv_at hl 1 rfl) ?_
  refine ro_V (rest := []) (st1 := [.int (bI (isIn x (c 21)))]) (As := [.int x]) ⟨hx, hb, hml, hown, hts⟩ Gd0 trivial hS hK (c_X9_isPerson l D h q k c (up v 0 0) nm a x ) mi_X9_isPerson wd_5_171 wp_3_0 wd_5_169 ⟨Nat.le_of_ble_eq_true rfl, Nat.le_of_ble_eq_true rfl⟩ (hP) 0 rfl rfl rfl hl.1 rfl (Nat.le_of_ble_eq_true rfl) rfl ⟨Nat.le_of_ble_eq_true rfl, Nat.le_of_ble_eq_true rfl⟩ dX9_ring_7 ?_
  refine lv_if_eq (tgt := 21) hx hb dX9_ring_10 (by decide) (fun c10 => ?_) (fun c10 => ?_)
  · replace c10 : (isIn x (c 21)) = false := bI_0.mp c10
    refine lv_iconst (v := (-1)) hx hb dX9_ring_21 (by decide) ?_
    refine lv_istore_n (lv' := [(2, .int (-1)), (0, .ref h), (1, .int x)]) hx hb dX9_ring_22 rfl hl (by decide) rfl (fun ls hl => ?_)
    refine lv_iload_n hx hb dX9_ring_23 rfl (lv_at hl 0 rfl) ?_
    refine lv_iconst (v := (-1)) hx hb dX9_ring_24 (by decide) ?_
    refine lv_icmp_ne (tgt := 30) hx hb dX9_ring_25 (by decide) (fun c25 => absurd (by decide) c25) (fun c25 => ?_)
    refine lv_iconst (v := (-1)) hx hb dX9_ring_28 (by decide) ?_
    exact fs_i hx hb hr hlocks hq ((-1), (c, up v 0 0, nm, a)) (by simp only [mRing, if_pos c10]; rfl) hP hD hS dX9_ring_29 rfl
  · replace c10 : (isIn x (c 21)) = true := bI_n.mp c10
    obtain ⟨ex, hjx⟩ := isIn_spec c10 (by omega)
    refine lv_aload_n hx hb dX9_ring_13 rfl (lv_at hl 0 rfl) ?_
    refine lv_iload_n hx hb dX9_ring_14 rfl (lv_at hl 1 rfl) ?_
    refine ro_V (rest := []) (st1 := [.int (oI (fOpen (a 26) (a 37) x (c 42)))]) (As := [.int x]) ⟨hx, hb, hml, hown, hts⟩ Gd0 trivial hS hK (c_X9_openOf l D h q k c (up v 0 0) nm a x hn) mi_X9_openOf wd_5_197 wp_3_3 wd_5_195 ⟨Nat.le_of_ble_eq_true rfl, Nat.le_of_ble_eq_true rfl⟩ (hP) 0 rfl rfl rfl hl.1 rfl (Nat.le_of_ble_eq_true rfl) rfl ⟨Nat.le_of_ble_eq_true rfl, Nat.le_of_ble_eq_true rfl⟩ dX9_ring_15 ?_
    refine lv_goto (tgt := 22) hx hb dX9_ring_18 (by decide) ?_
    refine lv_istore_n (lv' := [(2, .int (oI (fOpen (a 26) (a 37) x (c 42)))), (0, .ref h), (1, .int x)]) hx hb dX9_ring_22 rfl hl (by decide) rfl (fun ls hl => ?_)
    refine lv_iload_n hx hb dX9_ring_23 rfl (lv_at hl 0 rfl) ?_
    refine lv_iconst (v := (-1)) hx hb dX9_ring_24 (by decide) ?_
    refine lv_icmp_ne (tgt := 30) hx hb dX9_ring_25 (by decide) (fun c25 => ?_) (fun c25 => ?_)
    · obtain ⟨j, ej, eo⟩ := oI_some c25
      have hjn := fOpen_lt ej
      refine lv_aload_n hx hb dX9_ring_30 rfl (lv_at hl 1 rfl) ?_
      refine fs_Vw (rest := []) (As := []) ⟨hx, hb, hml, hown, hts⟩ Gd0 trivial hS hA hK (hP) (hD) (c_X9_clear l D h q k c (up v 0 0) nm a  ) mi_X9_clear wd_5_213 wp_3_7 wd_5_211 ⟨Nat.le_of_ble_eq_true rfl, Nat.le_of_ble_eq_true rfl⟩ 0 rfl rfl rfl hl.1 rfl (Nat.le_of_ble_eq_true rfl) ⟨Nat.le_of_ble_eq_true rfl, Nat.le_of_ble_eq_true rfl⟩ dX9_ring_31 (fun u_1 H locs hu_2 hP hD hS => ?_)
      subst hu_2
      replace hP : va_P D vwCl (Mw h q k c (up v 0 0) nm (up a 47 (fClear (a 47)))) H := hP
      replace hD : va_D A (Mw h q k c (up v 0 0) nm (up a 47 (fClear (a 47)))) := hD
      refine W.eq (g2 := F0 m 34 ls []) rfl ?_
      have L : ∀ (r i : Nat) (f : Nat → Int32) (H : Heap) (locs : List Loc), i + r = sn j → lp (fun i f => upd f (a 40 (3 * j + i)).toNatClampNeg 1) r i f = fSeed (a 40) j (sn j) (fClear (a 47)) → va_P D vwCl (Mw h q k c (up v 0 0) nm (up a 47 f)) H → va_D A (Mw h q k c (up v 0 0) nm (up a 47 f)) → va_S A s.heap H locs → ∀ (ls : Array Slot), lv_has ls 4 [(0, .ref h), (1, .int x), (2, .int (oI (fOpen (a 26) (a 37) x (c 42)))), (3, .int (nI i))] → W p l e (rmd 2 0 0) s m args below meth c_ H locs 0 0 Q (F0 m 36 ls []) := by
        intro r
        induction r with
        | zero =>
          intro i f H locs hi he hP hD hS ls hl
          have hsj := (hs j (by omega)).2
          refine lv_iload_n hx hb dX9_ring_36 rfl (lv_at hl 3 rfl) ?_
          refine lv_aload_n hx hb dX9_ring_37 rfl (lv_at hl 0 rfl) ?_
          refine mg_39 hx hb hts hown hK hP dX9_ring_38 ?_
          refine lv_iload_n hx hb dX9_ring_41 rfl (lv_at hl 2 rfl) ?_
          refine rw_topi (y := nI j) (eo) ?_
          refine ml_39 (x := (a 39) j) hx hb hK hP j rfl (by omega) rfl dX9_ring_42 ?_
          refine rw_topi (y := nI (sn j)) ((hs j (by omega)).1) ?_
          refine lv_icmp_ge (tgt := 68) hx hb dX9_ring_43 (by decide) (fun c43 => ?_) (fun c43 => absurd (nI_le (by omega) (by omega)) c43)
          refine lv_aload_n hx hb dX9_ring_68 rfl (lv_at hl 0 rfl) ?_
          refine fs_Vw (rest := []) (As := []) ⟨hx, hb, hml, hown, hts⟩ Gd0 trivial hS hA hK (hP) (hD) (c_X9_spread l D h q k c (up v 0 0) nm (up a 47 f)  hn sn hs hw hu) mi_X9_spread wd_5_217 wp_3_8 wd_5_215 ⟨Nat.le_of_ble_eq_true rfl, Nat.le_of_ble_eq_true rfl⟩ 0 rfl rfl rfl hl.1 rfl (Nat.le_of_ble_eq_true rfl) ⟨Nat.le_of_ble_eq_true rfl, Nat.le_of_ble_eq_true rfl⟩ dX9_ring_69 (fun u_1 H locs hu_2 hP hD hS => ?_)
          subst hu_2
          replace hP : va_P D vwCl (Mw h q k c (up v 0 0) nm (up a 47 (fSpread (a 26) (a 37) (a 40) sn (c 42) 41 1 f))) H := hP
          replace hD : va_D A (Mw h q k c (up v 0 0) nm (up a 47 (fSpread (a 26) (a 37) (a 40) sn (c 42) 41 1 f))) := hD
          refine W.eq (g2 := F0 m 72 ls []) rfl ?_
          refine lv_aload_n hx hb dX9_ring_72 rfl (lv_at hl 0 rfl) ?_
          refine mg_47 hx hb hts hown hK hP dX9_ring_73 ?_
          refine lv_iload_n hx hb dX9_ring_76 rfl (lv_at hl 1 rfl) ?_
          refine ml_47 (x := (fSpread (a 26) (a 37) (a 40) sn (c 42) 41 1 f) x.toNatClampNeg) hx hb hK hP x.toNatClampNeg ex (by omega) rfl dX9_ring_77 ?_
          exact fs_i hx hb hr hlocks hq ((fSpread (a 26) (a 37) (a 40) sn (c 42) 41 1 f) x.toNatClampNeg, (c, up v 0 0, nm, up a 47 (fSpread (a 26) (a 37) (a 40) sn (c 42) 41 1 f))) (by simp only [mRing, if_neg (show ¬ (isIn x (c 21) = false) by rw [c10]; decide), ej, fRingF]; rw [← he]; rfl) hP hD hS dX9_ring_78 rfl
        | succ r ih =>
          intro i f H locs hi he hP hD hS ls hl
          have hsj := (hs j (by omega)).2
          refine lv_iload_n hx hb dX9_ring_36 rfl (lv_at hl 3 rfl) ?_
          refine lv_aload_n hx hb dX9_ring_37 rfl (lv_at hl 0 rfl) ?_
          refine mg_39 hx hb hts hown hK hP dX9_ring_38 ?_
          refine lv_iload_n hx hb dX9_ring_41 rfl (lv_at hl 2 rfl) ?_
          refine rw_topi (y := nI j) (eo) ?_
          refine ml_39 (x := (a 39) j) hx hb hK hP j rfl (by omega) rfl dX9_ring_42 ?_
          refine rw_topi (y := nI (sn j)) ((hs j (by omega)).1) ?_
          refine lv_icmp_ge (tgt := 68) hx hb dX9_ring_43 (by decide) (fun c43 => absurd c43 (nI_ge (by omega) (by omega))) (fun c43 => ?_)
          refine lv_aload_n hx hb dX9_ring_46 rfl (lv_at hl 0 rfl) ?_
          refine mg_47 hx hb hts hown hK hP dX9_ring_47 ?_
          refine lv_aload_n hx hb dX9_ring_50 rfl (lv_at hl 0 rfl) ?_
          refine mg_40 hx hb hts hown hK hP dX9_ring_51 ?_
          refine lv_iconst (v := 3) hx hb dX9_ring_54 (by decide) ?_
          refine lv_iload_n hx hb dX9_ring_55 rfl (lv_at hl 2 rfl) ?_
          refine rw_topi (y := nI j) (eo) ?_
          refine lv_imul hx hb dX9_ring_56 ?_
          refine rw_topi (y := nI (3 * j)) (pk_mul _ _) ?_
          refine lv_iload_n hx hb dX9_ring_57 rfl (lv_at hl 3 rfl) ?_
          refine lv_iadd hx hb dX9_ring_58 ?_
          refine rw_topi (y := nI ((3 * j) + i)) (nI_add _ _) ?_
          refine ml_40 (x := (a 40) ((3 * j) + i)) hx hb hK hP ((3 * j) + i) rfl (by omega) rfl dX9_ring_59 ?_
          refine lv_iconst (v := 1) hx hb dX9_ring_60 (by decide) ?_
          refine mt_47 (f := f) hx hb hK hP hD hS ((a 40 (3 * j + i)).toNatClampNeg) ((isIn_spec (hu j i (by omega) (by omega)) (by decide)).1) ((isIn_spec (hu j i (by omega) (by omega)) (by decide)).2) rfl dX9_ring_61 (fun H locs hP hD hS => ?_)
          rw [up_up] at hP hD
          refine lv_iinc (v := nI (i + 1)) (lv' := [(3, .int (nI (i + 1))), (0, .ref h), (1, .int x), (2, .int (oI (fOpen (a 26) (a 37) x (c 42))))]) hx hb dX9_ring_62 hl (k := 3) rfl (nI_1 _) (by decide) rfl (fun ls hl => ?_)
          refine lv_goto (tgt := 36) hx hb dX9_ring_65 (by decide) ?_
          exact ih (i + 1) (upd f ((a 40 (3 * j + i)).toNatClampNeg) 1) H locs (by omega) (by rw [← he]; rfl) hP hD hS ls (lv_sub hl [1, 2, 3, 0] rfl)
      refine lv_iconst (v := 0) hx hb dX9_ring_34 (by decide) ?_
      refine lv_istore_n (lv' := [(3, .int 0), (2, .int (oI (fOpen (a 26) (a 37) x (c 42)))), (0, .ref h), (1, .int x)]) hx hb dX9_ring_35 rfl hl (by decide) rfl (fun ls hl => ?_)
      exact L (sn j) 0 (fClear (a 47)) H locs (by omega) (rfl) hP hD hS ls (lv_sub hl [2, 3, 1, 0] rfl)
    · have en := oI_none c25 (fun j hj => by have := fOpen_lt hj; omega)
      refine lv_iconst (v := (-1)) hx hb dX9_ring_28 (by decide) ?_
      exact fs_i hx hb hr hlocks hq ((-1), (c, up v 0 0, nm, a)) (by simp only [mRing, if_neg (show ¬ (isIn x (c 21) = false) by rw [c10]; decide), en]; rfl) hP hD hS dX9_ring_29 rfl
