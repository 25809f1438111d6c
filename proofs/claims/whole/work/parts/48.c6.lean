theorem nI_min {a b : Nat} (ha : a < 2 ^ 31) (hb : b < 2 ^ 31) : (if nI b < nI a then nI b else nI a) = nI (min a b) := by
  by_cases h : b < a
  · rw [if_pos (nI_lt h ha), Nat.min_eq_right (Nat.le_of_lt h)]
  · rw [if_neg (nI_nlt (by omega) hb), Nat.min_eq_left (by omega)]
def rSkp (f : Nat → Int32) : Nat → Nat → Nat
  | 0, i => i
  | r + 1, i => if isBl (f i) = true then rSkp f r (i + 1) else i
theorem rSkp_bd (f : Nat → Int32) : ∀ (r i : Nat), i ≤ rSkp f r i ∧ rSkp f r i ≤ i + r
  | 0, i => ⟨Nat.le_refl _, Nat.le_refl _⟩
  | r + 1, i => by
    have h := rSkp_bd f r (i + 1)
    unfold rSkp
    split <;> omega
def rS (f : Nat → Int32) (n be : Nat) : Nat := rSkp f (min n 300 - min be (min n 300)) (min be (min n 300))
def rStepU (f : Nat → Int32) (n : Nat) (u : RSt) : RSt := if min n 300 ≤ rS f n u.2.2.1 then (if n ≤ 300 then 4 else 0, rS f n u.2.2.1, u.2.2.1, u.2.2.2) else rTokU f n (u.1, rS f n u.2.2.1, u.2.2.1, u.2.2.2)
set_option maxHeartbeats 4000000 in
set_option maxRecDepth 100000 in
theorem c_X5_step (l : Launch) (D : va_G) (k : Nat → ClassId) (t : Nat → Nat) (fm : Int32) (st be : Nat) (fk : Int32) (rd mt : Nat → Int32) (y : Nat → Nat) (n : Nat) (f : Nat → Int32) (hn : n ≤ 320) (hbe : be ≤ n) : Fs (S := RSt) l yX5_step cX5_step 3 none 3 0 0 D (TY k) G0 [.ref (t 0), .ref (y 0)] (bRT t y k n f (fm, st, be, fk, rd, mt)) (fun _ => none) (fun u => u = rStepU f n (fm, st, be, fk, rd, mt)) (fun u => bRT t y k n f u) := by
  refine fs_body (by decide +kernel) (Nat.le_of_ble_eq_true rfl) ?_
  intro p e s m args below meth c_ Q A hx hb hml hown hts hK hP hD hS hA hG hin hr hq hlocks ls hl
  replace hl : lv_has ls 3 [(0, .ref (t 0)), (1, .ref (y 0))] := hl
  change s.vm.findClass RX5 = some m.cls at hown
  have J : ∀ (H : Heap) (locs : List Loc), True → va_P D vwCl ([(t 0, .inr (5, [.ref (t 1), .ref (t 2), .int fm, .int (nI (rS f n be)), .int (nI be), .int fk])), (t 1, .inl (k 0, 9, .inl rd)), (t 2, .inl (k 1, 9, .inl mt)), (y 0, .inr (7, [.ref (y 1), .int (nI n)])), (y 1, .inl (k 0, 320, .inl f))]) H → va_D A ([(t 0, .inr (5, [.ref (t 1), .ref (t 2), .int fm, .int (nI (rS f n be)), .int (nI be), .int fk])), (t 1, .inl (k 0, 9, .inl rd)), (t 2, .inl (k 1, 9, .inl mt)), (y 0, .inr (7, [.ref (y 1), .int (nI n)])), (y 1, .inl (k 0, 320, .inl f))]) → va_S A s.heap H locs → ∀ (ls : Array Slot), lv_has ls 3 [(0, .ref (t 0)), (1, .ref (y 0)), (2, .int (nI (min n 300)))] → W p l e (rmd 3 0 0) s m args below meth c_ H locs 0 0 Q (F0 m 58 ls []) := by
    intro  H locs he hP hD hS ls hl
    have hS9 := rSkp_bd f (min n 300 - min be (min n 300)) (min be (min n 300))
    replace hS9 : min be (min n 300) ≤ rS f n be ∧ rS f n be ≤ min be (min n 300) + (min n 300 - min be (min n 300)) := hS9
    refine lv_aload_n hx hb dX5_step_58 rfl (lv_at hl 0 rfl) ?_
    refine va_get (D := D) (ci := 5) (v := .int (nI (rS f n be))) (C := RX5) (T := TX5) (N := 6) hx hb hts inX5 hown hK hP 0 rfl rfl 3 (by decide) (hts _ wd_1_61) (fun _ h9 => h9) rfl dX5_step_59 ?_
    refine lv_iload_n hx hb dX5_step_62 rfl (lv_at hl 2 rfl) ?_
    refine lv_icmp_ge (tgt := 74) hx hb dX5_step_63 (by decide) (fun c63 => ?_) (fun c63 => ?_)
    · replace c63 : (min n 300) ≤ (rS f n be) := (nI_leI (a := min n 300) (b := rS f n be) (by omega) (by omega)).mp c63
      refine lv_aload_n hx hb dX5_step_74 rfl (lv_at hl 0 rfl) ?_
      refine lv_aload_n hx hb dX5_step_75 rfl (lv_at hl 1 rfl) ?_
      refine ro_V (rest := [.ref (t 0)]) (st1 := [.int (nI n), .ref (t 0)]) (As := []) ⟨hx, hb, hml, hown, hts⟩ Gd0 trivial hS hK (c_X7_length l D k y n f) mi_X7_length wd_1_194 wd_1_195 wd_1_221 ⟨Nat.le_of_ble_eq_true rfl, Nat.le_of_ble_eq_true rfl⟩ (hP.sub [3, 4] rfl) 0 rfl rfl rfl hl.1 rfl (Nat.le_of_ble_eq_true rfl) rfl ⟨Nat.le_of_ble_eq_true rfl, Nat.le_of_ble_eq_true rfl⟩ dX5_step_76 ?_
      refine lv_sipush (v := 300) hx hb dX5_step_79 (by decide) ?_
      refine lv_icmp_le (tgt := 89) hx hb dX5_step_82 (by decide) (fun c82 => ?_) (fun c82 => ?_)
      · replace c82 : n ≤ 300 := (nI_leI (a := n) (b := 300) (by omega) (by omega)).mp c82
        refine lv_iconst (v := 4) hx hb dX5_step_89 (by decide) ?_
        refine va_put (D := D) (ci := 5) (v := .int 4) (C := RX5) (T := TX5) (N := 6) hx hb hts inX5 tyX5 tyX5_ok nmX5 hown hK hP hD hS 0 rfl rfl 2 (by decide) (hts _ wd_1_60) (fun _ h9 => h9) rfl (tyX5_ok 2 (by decide)) rfl rfl (Nat.le_of_ble_eq_true rfl) dX5_step_90 (fun H locs hP hD hS => ?_)
        replace hP : va_P D vwCl ([(t 0, .inr (5, [.ref (t 1), .ref (t 2), .int 4, .int (nI (rS f n be)), .int (nI be), .int fk])), (t 1, .inl (k 0, 9, .inl rd)), (t 2, .inl (k 1, 9, .inl mt)), (y 0, .inr (7, [.ref (y 1), .int (nI n)])), (y 1, .inl (k 0, 320, .inl f))]) H := hP
        replace hD : va_D A ([(t 0, .inr (5, [.ref (t 1), .ref (t 2), .int 4, .int (nI (rS f n be)), .int (nI be), .int fk])), (t 1, .inl (k 0, 9, .inl rd)), (t 2, .inl (k 1, 9, .inl mt)), (y 0, .inr (7, [.ref (y 1), .int (nI n)])), (y 1, .inl (k 0, 320, .inl f))]) := hD
        exact fs_v hx hb hr hlocks hq (4, rS f n be, be, fk, rd, mt) (by show _ = rStepU f n (fm, st, be, fk, rd, mt); rw [rStepU, if_pos (show min n 300 ≤ rS f n be from c63), if_pos c82]) hP hD hS dX5_step_93 rfl
      · replace c82 : ¬ (n ≤ 300) := fun z => c82 ((nI_leI (a := n) (b := 300) (by omega) (by omega)).mpr z)
        refine lv_iconst (v := 0) hx hb dX5_step_85 (by decide) ?_
        refine lv_goto (tgt := 90) hx hb dX5_step_86 (by decide) ?_
        refine va_put (D := D) (ci := 5) (v := .int 0) (C := RX5) (T := TX5) (N := 6) hx hb hts inX5 tyX5 tyX5_ok nmX5 hown hK hP hD hS 0 rfl rfl 2 (by decide) (hts _ wd_1_60) (fun _ h9 => h9) rfl (tyX5_ok 2 (by decide)) rfl rfl (Nat.le_of_ble_eq_true rfl) dX5_step_90 (fun H locs hP hD hS => ?_)
        replace hP : va_P D vwCl ([(t 0, .inr (5, [.ref (t 1), .ref (t 2), .int 0, .int (nI (rS f n be)), .int (nI be), .int fk])), (t 1, .inl (k 0, 9, .inl rd)), (t 2, .inl (k 1, 9, .inl mt)), (y 0, .inr (7, [.ref (y 1), .int (nI n)])), (y 1, .inl (k 0, 320, .inl f))]) H := hP
        replace hD : va_D A ([(t 0, .inr (5, [.ref (t 1), .ref (t 2), .int 0, .int (nI (rS f n be)), .int (nI be), .int fk])), (t 1, .inl (k 0, 9, .inl rd)), (t 2, .inl (k 1, 9, .inl mt)), (y 0, .inr (7, [.ref (y 1), .int (nI n)])), (y 1, .inl (k 0, 320, .inl f))]) := hD
        exact fs_v hx hb hr hlocks hq (0, rS f n be, be, fk, rd, mt) (by show _ = rStepU f n (fm, st, be, fk, rd, mt); rw [rStepU, if_pos (show min n 300 ≤ rS f n be from c63), if_neg c82]) hP hD hS dX5_step_93 rfl
    · replace c63 : ¬ ((min n 300) ≤ (rS f n be)) := fun z => c63 ((nI_leI (a := min n 300) (b := rS f n be) (by omega) (by omega)).mpr z)
      refine lv_aload_n hx hb dX5_step_66 rfl (lv_at hl 0 rfl) ?_
      refine lv_aload_n hx hb dX5_step_67 rfl (lv_at hl 1 rfl) ?_
      refine fs_Vw (rest := []) (As := [.ref (y 0)]) ⟨hx, hb, hml, hown, hts⟩ Gd0 trivial hS hA hK (hP) (hD) (c_X5_readToken l D k t fm (rS f n be) be fk rd mt y n f hn (by omega)) mi_X5_readToken wd_1_234 wp_1_2 wd_1_232 ⟨Nat.le_of_ble_eq_true rfl, Nat.le_of_ble_eq_true rfl⟩ 0 rfl rfl rfl hl.1 rfl (Nat.le_of_ble_eq_true rfl) ⟨Nat.le_of_ble_eq_true rfl, Nat.le_of_ble_eq_true rfl⟩ dX5_step_68 (fun u_1 H locs hu_2 hP hD hS => ?_)
      obtain ⟨fm2, st2, be2, fk2, rd2, mt2⟩ := u_1
      replace hu_2 : (fm2, st2, be2, fk2, rd2, mt2) = rTokU f n (fm, rS f n be, be, fk, rd, mt) := hu_2
      replace hP : va_P D vwCl ([(t 0, .inr (5, [.ref (t 1), .ref (t 2), .int fm2, .int (nI st2), .int (nI be2), .int fk2])), (t 1, .inl (k 0, 9, .inl rd2)), (t 2, .inl (k 1, 9, .inl mt2)), (y 0, .inr (7, [.ref (y 1), .int (nI n)])), (y 1, .inl (k 0, 320, .inl f))]) H := hP
      replace hD : va_D A ([(t 0, .inr (5, [.ref (t 1), .ref (t 2), .int fm2, .int (nI st2), .int (nI be2), .int fk2])), (t 1, .inl (k 0, 9, .inl rd2)), (t 2, .inl (k 1, 9, .inl mt2)), (y 0, .inr (7, [.ref (y 1), .int (nI n)])), (y 1, .inl (k 0, 320, .inl f))]) := hD
      refine W.eq (g2 := F0 m 71 ls []) rfl ?_
      refine lv_goto (tgt := 93) hx hb dX5_step_71 (by decide) ?_
      exact fs_v hx hb hr hlocks hq (fm2, st2, be2, fk2, rd2, mt2) (by show _ = rStepU f n (fm, st, be, fk, rd, mt); rw [rStepU, if_neg (show ¬ (min n 300 ≤ rS f n be) from c63), hu_2]) hP hD hS dX5_step_93 rfl
  have L : ∀ (r i : Nat) (H : Heap) (locs : List Loc), i + r = min n 300 → rSkp f r i = rS f n be → va_P D vwCl ([(t 0, .inr (5, [.ref (t 1), .ref (t 2), .int fm, .int (nI i), .int (nI be), .int fk])), (t 1, .inl (k 0, 9, .inl rd)), (t 2, .inl (k 1, 9, .inl mt)), (y 0, .inr (7, [.ref (y 1), .int (nI n)])), (y 1, .inl (k 0, 320, .inl f))]) H → va_D A ([(t 0, .inr (5, [.ref (t 1), .ref (t 2), .int fm, .int (nI i), .int (nI be), .int fk])), (t 1, .inl (k 0, 9, .inl rd)), (t 2, .inl (k 1, 9, .inl mt)), (y 0, .inr (7, [.ref (y 1), .int (nI n)])), (y 1, .inl (k 0, 320, .inl f))]) → va_S A s.heap H locs → ∀ (ls : Array Slot), lv_has ls 3 [(0, .ref (t 0)), (1, .ref (y 0)), (2, .int (nI (min n 300)))] → W p l e (rmd 3 0 0) s m args below meth c_ H locs 0 0 Q (F0 m 23 ls []) := by
    intro r
    induction r with
    | zero =>
      intro i H locs hi he hP hD hS ls hl
      refine lv_aload_n hx hb dX5_step_23 rfl (lv_at hl 0 rfl) ?_
      refine va_get (D := D) (ci := 5) (v := .int (nI i)) (C := RX5) (T := TX5) (N := 6) hx hb hts inX5 hown hK hP 0 rfl rfl 3 (by decide) (hts _ wd_1_61) (fun _ h9 => h9) rfl dX5_step_24 ?_
      refine lv_iload_n hx hb dX5_step_27 rfl (lv_at hl 2 rfl) ?_
      refine lv_icmp_ge (tgt := 58) hx hb dX5_step_28 (by decide) (fun c28 => ?_) (fun c28 => absurd (nI_le (by omega) (by omega)) c28)
      rw [show i = rS f n be from he] at hP hD
      exact J H locs trivial hP hD hS ls (lv_sub hl [0, 1, 2] rfl)
    | succ r ih =>
      intro i H locs hi he hP hD hS ls hl
      refine lv_aload_n hx hb dX5_step_23 rfl (lv_at hl 0 rfl) ?_
      refine va_get (D := D) (ci := 5) (v := .int (nI i)) (C := RX5) (T := TX5) (N := 6) hx hb hts inX5 hown hK hP 0 rfl rfl 3 (by decide) (hts _ wd_1_61) (fun _ h9 => h9) rfl dX5_step_24 ?_
      refine lv_iload_n hx hb dX5_step_27 rfl (lv_at hl 2 rfl) ?_
      refine lv_icmp_ge (tgt := 58) hx hb dX5_step_28 (by decide) (fun c28 => absurd c28 (nI_ge (by omega) (by omega))) (fun c28 => ?_)
      refine lv_aload_n hx hb dX5_step_31 rfl (lv_at hl 1 rfl) ?_
      refine lv_aload_n hx hb dX5_step_32 rfl (lv_at hl 0 rfl) ?_
      refine va_get (D := D) (ci := 5) (v := .int (nI i)) (C := RX5) (T := TX5) (N := 6) hx hb hts inX5 hown hK hP 0 rfl rfl 3 (by decide) (hts _ wd_1_61) (fun _ h9 => h9) rfl dX5_step_33 ?_
      refine ro_V (rest := []) (st1 := [.int (byteF n f (nI i))]) (As := [.int (nI i)]) ⟨hx, hb, hml, hown, hts⟩ Gd0 trivial hS hK (c_X7_byteAt l D k y n f (nI i) hn) mi_X7_byteAt wd_1_226 wd_1_227 wd_1_225 ⟨Nat.le_of_ble_eq_true rfl, Nat.le_of_ble_eq_true rfl⟩ (hP.sub [3, 4] rfl) 0 rfl rfl rfl hl.1 rfl (Nat.le_of_ble_eq_true rfl) rfl ⟨Nat.le_of_ble_eq_true rfl, Nat.le_of_ble_eq_true rfl⟩ dX5_step_36 ?_
      refine rw_topi (y := f i) (byteF_in (by omega) hn) ?_
      refine ro_S (rest := []) (st1 := [.int (bI (isBl (f i)))]) (As := [.int (f i)]) ⟨hx, hb, hml, hown, hts⟩ Gd0 trivial hS hK (c_X5_isBlank l D k (f i)) mi_X5_isBlank wd_1_230 wd_1_229 ⟨Nat.le_of_ble_eq_true rfl, Nat.le_of_ble_eq_true rfl⟩ (fun k9 q9 h9 => by simp at h9) rfl hl.1 rfl (Nat.le_of_ble_eq_true rfl) rfl ⟨Nat.le_of_ble_eq_true rfl, Nat.le_of_ble_eq_true rfl⟩ dX5_step_39 ?_
      refine lv_if_eq (tgt := 58) hx hb dX5_step_42 (by decide) (fun c42 => ?_) (fun c42 => ?_)
      · replace c42 : (isBl (f i)) = false := bI_0.mp c42
        rw [show i = rS f n be from by rw [← he, rSkp, if_neg (show ¬ (isBl (f i) = true) by rw [c42]; decide)]] at hP hD
        exact J H locs trivial hP hD hS ls (lv_sub hl [0, 1, 2] rfl)
      · replace c42 : (isBl (f i)) = true := bI_n.mp c42
        refine lv_aload_n hx hb dX5_step_45 rfl (lv_at hl 0 rfl) ?_
        refine lv_dup hx hb dX5_step_46 rfl ?_
        refine va_get (D := D) (ci := 5) (v := .int (nI i)) (C := RX5) (T := TX5) (N := 6) hx hb hts inX5 hown hK hP 0 rfl rfl 3 (by decide) (hts _ wd_1_61) (fun _ h9 => h9) rfl dX5_step_47 ?_
        refine lv_iconst (v := 1) hx hb dX5_step_50 (by decide) ?_
        refine lv_iadd hx hb dX5_step_51 ?_
        refine rw_topi (y := nI (i + 1)) (nI_add _ _) ?_
        refine va_put (D := D) (ci := 5) (v := .int (nI (i + 1))) (C := RX5) (T := TX5) (N := 6) hx hb hts inX5 tyX5 tyX5_ok nmX5 hown hK hP hD hS 0 rfl rfl 3 (by decide) (hts _ wd_1_61) (fun _ h9 => h9) rfl (tyX5_ok 3 (by decide)) rfl rfl (Nat.le_of_ble_eq_true rfl) dX5_step_52 (fun H locs hP hD hS => ?_)
        replace hP : va_P D vwCl ([(t 0, .inr (5, [.ref (t 1), .ref (t 2), .int fm, .int (nI (i + 1)), .int (nI be), .int fk])), (t 1, .inl (k 0, 9, .inl rd)), (t 2, .inl (k 1, 9, .inl mt)), (y 0, .inr (7, [.ref (y 1), .int (nI n)])), (y 1, .inl (k 0, 320, .inl f))]) H := hP
        replace hD : va_D A ([(t 0, .inr (5, [.ref (t 1), .ref (t 2), .int fm, .int (nI (i + 1)), .int (nI be), .int fk])), (t 1, .inl (k 0, 9, .inl rd)), (t 2, .inl (k 1, 9, .inl mt)), (y 0, .inr (7, [.ref (y 1), .int (nI n)])), (y 1, .inl (k 0, 320, .inl f))]) := hD
        refine lv_goto (tgt := 23) hx hb dX5_step_55 (by decide) ?_
        exact ih (i + 1)  H locs (by omega) (by rw [← he, rSkp, if_pos (show isBl (f i) = true from c42)]) hP hD hS ls (lv_sub hl [0, 1, 2] rfl)
  refine lv_aload_n hx hb dX5_step_0 rfl (lv_at hl 1 rfl) ?_
  refine ro_V (rest := []) (st1 := [.int (nI n)]) (As := []) ⟨hx, hb, hml, hown, hts⟩ Gd0 trivial hS hK (c_X7_length l D k y n f) mi_X7_length wd_1_194 wd_1_195 wd_1_221 ⟨Nat.le_of_ble_eq_true rfl, Nat.le_of_ble_eq_true rfl⟩ (hP.sub [3, 4] rfl) 0 rfl rfl rfl hl.1 rfl (Nat.le_of_ble_eq_true rfl) rfl ⟨Nat.le_of_ble_eq_true rfl, Nat.le_of_ble_eq_true rfl⟩ dX5_step_1 ?_
  refine lv_sipush (v := 300) hx hb dX5_step_4 (by decide) ?_
  refine va_mmin hx hb (hml.trans hl.1.symm) hown (hts _ wd_1_222) (hts _ wd_1_223) (hts _ wd_1_11) (hts _ wd_1_224) (by decide) (Nat.le_of_ble_eq_true rfl) (Nat.le_of_ble_eq_true rfl) (Nat.le_of_ble_eq_true rfl) dX5_step_7 ?_
  refine rw_topi (y := nI (min n 300)) (nI_min (a := n) (b := 300) (by omega) (by decide)) ?_
  refine lv_istore_n (lv' := [(2, .int (nI (min n 300))), (0, .ref (t 0)), (1, .ref (y 0))]) hx hb dX5_step_10 rfl hl (by decide) rfl (fun ls hl => ?_)
  refine lv_aload_n hx hb dX5_step_11 rfl (lv_at hl 1 rfl) ?_
  refine lv_aload_n hx hb dX5_step_12 rfl (lv_at hl 1 rfl) ?_
  refine va_get (D := D) (ci := 5) (v := .int (nI be)) (C := RX5) (T := TX5) (N := 6) hx hb hts inX5 hown hK hP 0 rfl rfl 4 (by decide) (hts _ wd_1_62) (fun _ h9 => h9) rfl dX5_step_13 ?_
  refine lv_iload_n hx hb dX5_step_16 rfl (lv_at hl 0 rfl) ?_
  refine va_mmin hx hb (hml.trans hl.1.symm) hown (hts _ wd_1_222) (hts _ wd_1_223) (hts _ wd_1_11) (hts _ wd_1_224) (by decide) (Nat.le_of_ble_eq_true rfl) (Nat.le_of_ble_eq_true rfl) (Nat.le_of_ble_eq_true rfl) dX5_step_17 ?_
  refine rw_topi (y := nI (min be (min n 300))) (nI_min (by omega) (by omega)) ?_
  refine va_put (D := D) (ci := 5) (v := .int (nI (min be (min n 300)))) (C := RX5) (T := TX5) (N := 6) hx hb hts inX5 tyX5 tyX5_ok nmX5 hown hK hP hD hS 0 rfl rfl 3 (by decide) (hts _ wd_1_61) (fun _ h9 => h9) rfl (tyX5_ok 3 (by decide)) rfl rfl (Nat.le_of_ble_eq_true rfl) dX5_step_20 (fun H locs hP hD hS => ?_)
  replace hP : va_P D vwCl ([(t 0, .inr (5, [.ref (t 1), .ref (t 2), .int fm, .int (nI (min be (min n 300))), .int (nI be), .int fk])), (t 1, .inl (k 0, 9, .inl rd)), (t 2, .inl (k 1, 9, .inl mt)), (y 0, .inr (7, [.ref (y 1), .int (nI n)])), (y 1, .inl (k 0, 320, .inl f))]) H := hP
  replace hD : va_D A ([(t 0, .inr (5, [.ref (t 1), .ref (t 2), .int fm, .int (nI (min be (min n 300))), .int (nI be), .int fk])), (t 1, .inl (k 0, 9, .inl rd)), (t 2, .inl (k 1, 9, .inl mt)), (y 0, .inr (7, [.ref (y 1), .int (nI n)])), (y 1, .inl (k 0, 320, .inl f))]) := hD
  exact L (min n 300 - min be (min n 300)) (min be (min n 300)) H locs (by omega) (rfl) hP hD hS ls (lv_sub hl [1, 2, 0] rfl)
def rOver (rd f : Nat → Int32) : Nat → Int32 := lp (fun i f => upd f i (rd i)) 9 0 f
set_option maxHeartbeats 4000000 in
set_option maxRecDepth 100000 in
theorem c_X6_takeOver (l : Launch) (D : va_G) (k : Nat → ClassId) (kz : Nat) (ke sK sV : Nat → Nat) (t : Nat → Nat) (f : Nat → Int32) (y : Nat → Nat) (fm : Int32) (st be : Nat) (fk : Int32) (rd mt : Nat → Int32) : Fs (S := Nat → Int32) l yX6_takeOver cX6_takeOver 3 none 1 0 0 D (TY k) (GK kz ke sK sV) [.ref (t 0), .ref (y 0)] (bV t k f ++ bR y k (fm, st, be, fk, rd, mt)) (fun _ => none) (fun u => u = rOver rd f) (fun u => bV t k u ++ bR y k (fm, st, be, fk, rd, mt)) := by
  refine fs_body (by decide +kernel) (Nat.le_of_ble_eq_true rfl) ?_
  intro p e s m args below meth c_ Q A hx hb hml hown hts hK hP hD hS hA hG hin hr hq hlocks ls hl
  replace hl : lv_has ls 3 [(0, .ref (t 0)), (1, .ref (y 0))] := hl
  change s.vm.findClass RX6 = some m.cls at hown
  have L : ∀ (r i : Nat) (f2 : Nat → Int32) (H : Heap) (locs : List Loc), i + r = 9 → lp (fun i f => upd f i (rd i)) r i f2 = rOver rd f → va_P D vwCl ([(t 0, .inr (6, [.ref (t 1)])), (t 1, .inl (k 0, 9, .inl f2)), (y 0, .inr (5, [.ref (y 1), .ref (y 2), .int fm, .int (nI st), .int (nI be), .int fk])), (y 1, .inl (k 0, 9, .inl rd)), (y 2, .inl (k 1, 9, .inl mt))]) H → va_D A ([(t 0, .inr (6, [.ref (t 1)])), (t 1, .inl (k 0, 9, .inl f2)), (y 0, .inr (5, [.ref (y 1), .ref (y 2), .int fm, .int (nI st), .int (nI be), .int fk])), (y 1, .inl (k 0, 9, .inl rd)), (y 2, .inl (k 1, 9, .inl mt))]) → va_S A s.heap H locs → ∀ (ls : Array Slot), lv_has ls 3 [(0, .ref (t 0)), (1, .ref (y 0)), (2, .int (nI i))] → W p l e (rmd 1 0 0) s m args below meth c_ H locs 0 0 Q (F0 m 2 ls []) := by
    intro r
    induction r with
    | zero =>
      intro i f2 H locs hi he hP hD hS ls hl
      refine lv_iload_n hx hb dX6_takeOver_2 rfl (lv_at hl 2 rfl) ?_
      refine va_getsN hx hb hG.1 hS hown (va_Nw.use rfl hG.2.2.2.2.2.2.2.2.2.2.2.1) (fun _ h9 => h9) dX6_takeOver_3 ?_
      refine va_tlen (v := 9) hx hb hG.2.1 hS rfl dX6_takeOver_6 ?_
      refine lv_icmp_ge (tgt := 31) hx hb dX6_takeOver_7 (by decide) (fun c7 => ?_) (fun c7 => absurd (nI_le (a := 9) (by omega) (by omega)) c7)
      exact fs_v hx hb hr hlocks hq (f2) (by rw [show rOver rd f = f2 from he.symm]) hP hD hS dX6_takeOver_31 rfl
    | succ r ih =>
      intro i f2 H locs hi he hP hD hS ls hl
      refine lv_iload_n hx hb dX6_takeOver_2 rfl (lv_at hl 2 rfl) ?_
      refine va_getsN hx hb hG.1 hS hown (va_Nw.use rfl hG.2.2.2.2.2.2.2.2.2.2.2.1) (fun _ h9 => h9) dX6_takeOver_3 ?_
      refine va_tlen (v := 9) hx hb hG.2.1 hS rfl dX6_takeOver_6 ?_
      refine lv_icmp_ge (tgt := 31) hx hb dX6_takeOver_7 (by decide) (fun c7 => absurd c7 (nI_ge (b := 9) (by omega) (by omega))) (fun c7 => ?_)
      refine lv_aload_n hx hb dX6_takeOver_10 rfl (lv_at hl 0 rfl) ?_
      refine va_get (D := D) (ci := 6) (v := .ref (t 1)) (C := RX6) (T := TX6) (N := 1) hx hb hts inX6 hown hK hP 0 rfl rfl 0 (by decide) (hts _ wd_1_85) (fun _ h9 => h9) rfl dX6_takeOver_11 ?_
      refine lv_iload_n hx hb dX6_takeOver_14 rfl (lv_at hl 2 rfl) ?_
      refine lv_aload_n hx hb dX6_takeOver_15 rfl (lv_at hl 1 rfl) ?_
      refine va_getsN hx hb hG.1 hS hown (va_Nw.use rfl hG.2.2.2.2.2.2.2.2.2.2.2.1) (fun _ h9 => h9) dX6_takeOver_16 ?_
      refine lv_iload_n hx hb dX6_takeOver_19 rfl (lv_at hl 2 rfl) ?_
      refine vb_tq (v := .ref (ke i)) hx hb hG.2.1 hS (vp_in_nI (by omega) (by omega)) (by show Value.ref (ke (nI i).toNatClampNeg) = _; rw [nI_clamp (by omega)]) dX6_takeOver_20 ?_
      refine ro_V (rest := [.int (nI i), .ref (t 1)]) (st1 := [.int (rd i), .int (nI i), .ref (t 1)]) (As := [.ref (ke i)]) ⟨hx, hb, hml, hown, hts⟩ GdK hG hS hK (c_X5_valueRead l D k kz ke sK sV y fm st be fk rd mt i (by omega)) mi_X5_valueRead wd_2_71 wd_2_72 wd_2_70 ⟨Nat.le_of_ble_eq_true rfl, Nat.le_of_ble_eq_true rfl⟩ (hP.sub [2, 3, 4] rfl) 0 rfl rfl rfl hl.1 rfl (Nat.le_of_ble_eq_true rfl) rfl ⟨Nat.le_of_ble_eq_true rfl, Nat.le_of_ble_eq_true rfl⟩ dX6_takeOver_21 ?_
      refine ra_iast (n := 9) (f := f2) hx hb hK hP hD hS 1 0 rfl rfl i rfl (by omega) (by decide) dX6_takeOver_24 (fun H locs hP hD hS => ?_)
      replace hP : va_P D vwCl ([(t 0, .inr (6, [.ref (t 1)])), (t 1, .inl (k 0, 9, .inl (upd f2 i (rd i)))), (y 0, .inr (5, [.ref (y 1), .ref (y 2), .int fm, .int (nI st), .int (nI be), .int fk])), (y 1, .inl (k 0, 9, .inl rd)), (y 2, .inl (k 1, 9, .inl mt))]) H := hP
      replace hD : va_D A ([(t 0, .inr (6, [.ref (t 1)])), (t 1, .inl (k 0, 9, .inl (upd f2 i (rd i)))), (y 0, .inr (5, [.ref (y 1), .ref (y 2), .int fm, .int (nI st), .int (nI be), .int fk])), (y 1, .inl (k 0, 9, .inl rd)), (y 2, .inl (k 1, 9, .inl mt))]) := hD
      refine lv_iinc (v := nI (i + 1)) (lv' := [(2, .int (nI (i + 1))), (0, .ref (t 0)), (1, .ref (y 0))]) hx hb dX6_takeOver_25 hl (k := 2) rfl (nI_1 _) (by decide) rfl (fun ls hl => ?_)
      refine lv_goto (tgt := 2) hx hb dX6_takeOver_28 (by decide) ?_
      exact ih (i + 1) (upd f2 i (rd i)) H locs (by omega) (by rw [← he]; rfl) hP hD hS ls (lv_sub hl [1, 2, 0] rfl)
  refine lv_iconst (v := 0) hx hb dX6_takeOver_0 (by decide) ?_
  refine lv_istore_n (lv' := [(2, .int 0), (0, .ref (t 0)), (1, .ref (y 0))]) hx hb dX6_takeOver_1 rfl hl (by decide) rfl (fun ls hl => ?_)
  exact L 9 0 f _ _ (by omega) (rfl) hP hD hS ls (lv_sub hl [1, 2, 0] rfl)
