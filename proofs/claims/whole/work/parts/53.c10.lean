theorem rStepU_ok {f : Nat → Int32} {n : Nat} {u : RSt} (hbe : u.2.2.1 ≤ n) : (rStepU f n u).2.2.1 ≤ n ∧ ((rStepU f n u).1 = 1 ∨ (rStepU f n u).1 = 2 → (rStepU f n u).2.1 ≤ (rStepU f n u).2.2.1) := by
  obtain ⟨fm, st, be, fk, rd, mt⟩ := u
  replace hbe : be ≤ n := hbe
  have hS9 := rSkp_bd f (min n 300 - min be (min n 300)) (min be (min n 300))
  replace hS9 : min be (min n 300) ≤ rS f n be ∧ rS f n be ≤ min be (min n 300) + (min n 300 - min be (min n 300)) := hS9
  unfold rStepU
  split
  · refine ⟨hbe, fun h => ?_⟩
    exfalso
    revert h
    show (if n ≤ 300 then (4 : Int32) else 0) = 1 ∨ (if n ≤ 300 then (4 : Int32) else 0) = 2 → False
    split <;> decide
  · rename_i hlt
    replace hlt : ¬ min n 300 ≤ rS f n be := hlt
    have hbd := rTok_bd f (n - rS f n be) (rS f n be) 0 0
    have hT : (rTokU f n (fm, rS f n be, be, fk, rd, mt)).2.2.1 ≤ n ∧ (rTokU f n (fm, rS f n be, be, fk, rd, mt)).2.1 ≤ (rTokU f n (fm, rS f n be, be, fk, rd, mt)).2.2.1 := by
      unfold rTokU
      split
      · split
        · exact ⟨by show rS f n be + 1 ≤ n; omega, by show rS f n be ≤ rS f n be + 1; omega⟩
        · exact ⟨by show (rTok f (n - rS f n be) (rS f n be) 0 0).1 ≤ n; omega, by show rS f n be ≤ (rTok f (n - rS f n be) (rS f n be) 0 0).1; omega⟩
      · exact ⟨by show (rTok f (n - rS f n be) (rS f n be) 0 0).1 ≤ n; omega, by show rS f n be ≤ (rTok f (n - rS f n be) (rS f n be) 0 0).1; omega⟩
    exact ⟨hT.1, fun _ => hT.2⟩
def rF2 (f : Nat → Int32) (n j : Nat) (u : RSt) : Int32 × RSt := if u.1 = 2 then (if rNum f u.2.1 u.2.2.1 < kLow j then (2, u) else if rNum f u.2.1 u.2.2.1 ≤ kHigh j then ((if (rStepU f n (u.1, u.2.1, u.2.2.1, u.2.2.2.1, upd u.2.2.2.2.1 j (rNum f u.2.1 u.2.2.1), u.2.2.2.2.2)).1 = 3 then 0 else 1), rStepU f n (u.1, u.2.1, u.2.2.1, u.2.2.2.1, upd u.2.2.2.2.1 j (rNum f u.2.1 u.2.2.1), u.2.2.2.2.2)) else (2, u)) else (1, u)
def rKind (f : Nat → Int32) (u : RSt) : Option Nat := if u.1 = 1 then kindIs f u.2.1 u.2.2.1 else none
def rFault (f : Nat → Int32) (n : Nat) (u : RSt) : Int32 × RSt := match rKind f u with
  | none => (1, u)
  | some j => if u.2.2.2.2.2 j = 0 then rF2 f n j (rStepU f n (u.1, u.2.1, u.2.2.1, u.2.2.2.1, u.2.2.2.2.1, upd u.2.2.2.2.2 j 1)) else (3, u)
set_option maxHeartbeats 4000000 in
set_option maxRecDepth 100000 in
theorem c_X5_faultOfRule (l : Launch) (D : va_G) (k : Nat → ClassId) (kz : Nat) (ke sK sV : Nat → Nat) (t : Nat → Nat) (fm : Int32) (st be : Nat) (fk : Int32) (rd mt : Nat → Int32) (y : Nat → Nat) (n : Nat) (f : Nat → Int32) (hn : n ≤ 320) (hf : fm = 1 → st ≤ be) (hbe : be ≤ n) : Fs (S := Int32 × (RSt)) l yX5_faultOfRule cX5_faultOfRule 4 (some .int) 6 0 0 D (TY k) (GK kz ke sK sV) [.ref (t 0), .ref (y 0)] (bRT t y k n f (fm, st, be, fk, rd, mt)) (fun u => some (.int u.1)) (fun u => u = rFault f n (fm, st, be, fk, rd, mt)) (fun u => bRT t y k n f u.2) := by
  refine fs_body (by decide +kernel) (Nat.le_of_ble_eq_true rfl) ?_
  intro p e s m args below meth c_ Q A hx hb hml hown hts hK hP hD hS hA hG hin hr hq hlocks ls hl
  replace hl : lv_has ls 4 [(0, .ref (t 0)), (1, .ref (y 0))] := hl
  change s.vm.findClass RX5 = some m.cls at hown
  refine lv_aload_n hx hb dX5_faultOfRule_0 rfl (lv_at hl 0 rfl) ?_
  refine va_get (D := D) (ci := 5) (v := .int fm) (C := RX5) (T := TX5) (N := 6) hx hb hts inX5 hown hK hP 0 rfl rfl 2 (by decide) (hts _ wd_1_60) (fun _ h9 => h9) rfl dX5_faultOfRule_1 ?_
  refine lv_iconst (v := 1) hx hb dX5_faultOfRule_4 (by decide) ?_
  refine lv_icmp_ne (tgt := 16) hx hb dX5_faultOfRule_5 (by decide) (fun c5 => ?_) (fun c5 => ?_)
  · refine lv_null hx hb dX5_faultOfRule_16 ?_
    refine lv_astore_nN (lv' := [(2, .null), (0, .ref (t 0)), (1, .ref (y 0))]) hx hb dX5_faultOfRule_17 rfl hl (by decide) rfl (fun ls hl => ?_)
    refine lv_aload_nN hx hb dX5_faultOfRule_18 rfl (lv_at hl 0 rfl) ?_
    refine lv_ifnonnullN hx hb dX5_faultOfRule_19 ?_
    refine lv_iconst (v := 1) hx hb dX5_faultOfRule_22 (by decide) ?_
    exact fs_i hx hb hr hlocks hq (1, (fm, st, be, fk, rd, mt)) (by rw [rFault, show rKind f (fm, st, be, fk, rd, mt) = none from if_neg c5]) hP hD hS dX5_faultOfRule_23 rfl
  · refine lv_aload_n hx hb dX5_faultOfRule_8 rfl (lv_at hl 0 rfl) ?_
    refine lv_aload_n hx hb dX5_faultOfRule_9 rfl (lv_at hl 1 rfl) ?_
    refine ro_V (rest := []) (st1 := [kRef ke (kindIs f st be)]) (As := [.ref (y 0)]) ⟨hx, hb, hml, hown, hts⟩ GdK hG hS hK (c_X5_kindOfWord l D k kz ke sK sV t fm st be fk rd mt y n f hn (hf c5) hbe) mi_X5_kindOfWord wd_2_8 wp_1_4 wd_2_6 ⟨Nat.le_of_ble_eq_true rfl, Nat.le_of_ble_eq_true rfl⟩ (hP) 0 rfl rfl rfl hl.1 rfl (Nat.le_of_ble_eq_true rfl) rfl ⟨Nat.le_of_ble_eq_true rfl, Nat.le_of_ble_eq_true rfl⟩ dX5_faultOfRule_10 ?_
    cases hk9 : kindIs f st be with
    | none =>
      refine W.eq (g2 := F0 m 13 ls [.null]) rfl ?_
      refine lv_goto (tgt := 17) hx hb dX5_faultOfRule_13 (by decide) ?_
      refine lv_astore_nN (lv' := [(2, .null), (0, .ref (t 0)), (1, .ref (y 0))]) hx hb dX5_faultOfRule_17 rfl hl (by decide) rfl (fun ls hl => ?_)
      refine lv_aload_nN hx hb dX5_faultOfRule_18 rfl (lv_at hl 0 rfl) ?_
      refine lv_ifnonnullN hx hb dX5_faultOfRule_19 ?_
      refine lv_iconst (v := 1) hx hb dX5_faultOfRule_22 (by decide) ?_
      exact fs_i hx hb hr hlocks hq (1, (fm, st, be, fk, rd, mt)) (by rw [rFault, show rKind f (fm, st, be, fk, rd, mt) = none from (if_pos c5).trans hk9]) hP hD hS dX5_faultOfRule_23 rfl
    | some j =>
      refine W.eq (g2 := F0 m 13 ls [.ref (ke j)]) rfl ?_
      have hj9 : j < 9 := by have := (fnd_lt hk9).2.1; omega
      refine lv_goto (tgt := 17) hx hb dX5_faultOfRule_13 (by decide) ?_
      refine lv_astore_n (lv' := [(2, .ref (ke j)), (0, .ref (t 0)), (1, .ref (y 0))]) hx hb dX5_faultOfRule_17 rfl hl (by decide) rfl (fun ls hl => ?_)
      refine lv_aload_n hx hb dX5_faultOfRule_18 rfl (lv_at hl 0 rfl) ?_
      refine lv_ifnonnull (tgt := 24) hx hb dX5_faultOfRule_19 (by decide) ?_
      refine lv_aload_n hx hb dX5_faultOfRule_24 rfl (lv_at hl 1 rfl) ?_
      refine va_get (D := D) (ci := 5) (v := .ref (t 2)) (C := RX5) (T := TX5) (N := 6) hx hb hts inX5 hown hK hP 0 rfl rfl 1 (by decide) (hts _ wd_1_59) (fun _ h9 => h9) rfl dX5_faultOfRule_25 ?_
      refine lv_aload_n hx hb dX5_faultOfRule_28 rfl (lv_at hl 0 rfl) ?_
      refine va_getX (i := j) hx hb hG.2.2.1 (by omega) hS hown (hts _ wd_6_80) (fun _ h9 => h9) dX5_faultOfRule_29 ?_
      refine ra_zald (n := 9) (f := mt) hx hb hK hP 2 1 rfl rfl j rfl (by omega) (by decide) dX5_faultOfRule_32 ?_
      refine lv_if_eq (tgt := 38) hx hb dX5_faultOfRule_33 (by decide) (fun c33 => ?_) (fun c33 => ?_)
      · refine lv_aload_n hx hb dX5_faultOfRule_38 rfl (lv_at hl 1 rfl) ?_
        refine va_get (D := D) (ci := 5) (v := .ref (t 2)) (C := RX5) (T := TX5) (N := 6) hx hb hts inX5 hown hK hP 0 rfl rfl 1 (by decide) (hts _ wd_1_59) (fun _ h9 => h9) rfl dX5_faultOfRule_39 ?_
        refine lv_aload_n hx hb dX5_faultOfRule_42 rfl (lv_at hl 0 rfl) ?_
        refine va_getX (i := j) hx hb hG.2.2.1 (by omega) hS hown (hts _ wd_6_80) (fun _ h9 => h9) dX5_faultOfRule_43 ?_
        refine lv_iconst (v := 1) hx hb dX5_faultOfRule_46 (by decide) ?_
        refine ra_zast (n := 9) (f := mt) hx hb hK hP hD hS 2 1 rfl rfl j rfl (by omega) (by decide) (rfl) dX5_faultOfRule_47 (fun H locs hP hD hS => ?_)
        replace hP : va_P D vwCl ([(t 0, .inr (5, [.ref (t 1), .ref (t 2), .int fm, .int (nI st), .int (nI be), .int fk])), (t 1, .inl (k 0, 9, .inl rd)), (t 2, .inl (k 1, 9, .inl (upd mt j 1))), (y 0, .inr (7, [.ref (y 1), .int (nI n)])), (y 1, .inl (k 0, 320, .inl f))]) H := hP
        replace hD : va_D A ([(t 0, .inr (5, [.ref (t 1), .ref (t 2), .int fm, .int (nI st), .int (nI be), .int fk])), (t 1, .inl (k 0, 9, .inl rd)), (t 2, .inl (k 1, 9, .inl (upd mt j 1))), (y 0, .inr (7, [.ref (y 1), .int (nI n)])), (y 1, .inl (k 0, 320, .inl f))]) := hD
        refine lv_aload_n hx hb dX5_faultOfRule_48 rfl (lv_at hl 1 rfl) ?_
        refine lv_aload_n hx hb dX5_faultOfRule_49 rfl (lv_at hl 2 rfl) ?_
        refine fs_Vw (rest := []) (As := [.ref (y 0)]) ⟨hx, hb, hml, hown, hts⟩ Gd0 trivial hS hA hK (hP) (hD) (c_X5_step l D k t fm st be fk rd (upd mt j 1) y n f hn (by omega)) mi_X5_step wd_1_219 wp_1_1 wd_1_217 ⟨Nat.le_of_ble_eq_true rfl, Nat.le_of_ble_eq_true rfl⟩ 0 rfl rfl rfl hl.1 rfl (Nat.le_of_ble_eq_true rfl) ⟨Nat.le_of_ble_eq_true rfl, Nat.le_of_ble_eq_true rfl⟩ dX5_faultOfRule_50 (fun u_1 H locs hu_2 hP hD hS => ?_)
        obtain ⟨fm2, st2, be2, fk2, rd2, mt2⟩ := u_1
        have hu29 : rStepU f n (fm, st, be, fk, rd, upd mt j 1) = (fm2, st2, be2, fk2, rd2, mt2) := hu_2.symm
        have hb2 := rStepU_ok (f := f) (n := n) (u := (fm, st, be, fk, rd, upd mt j 1)) (by show be ≤ n; omega)
        rw [hu29] at hb2
        replace hb2 : be2 ≤ n ∧ (fm2 = 1 ∨ fm2 = 2 → st2 ≤ be2) := hb2
        obtain ⟨hbe2, hsb2⟩ := hb2
        replace hP : va_P D vwCl ([(t 0, .inr (5, [.ref (t 1), .ref (t 2), .int fm2, .int (nI st2), .int (nI be2), .int fk2])), (t 1, .inl (k 0, 9, .inl rd2)), (t 2, .inl (k 1, 9, .inl mt2)), (y 0, .inr (7, [.ref (y 1), .int (nI n)])), (y 1, .inl (k 0, 320, .inl f))]) H := hP
        replace hD : va_D A ([(t 0, .inr (5, [.ref (t 1), .ref (t 2), .int fm2, .int (nI st2), .int (nI be2), .int fk2])), (t 1, .inl (k 0, 9, .inl rd2)), (t 2, .inl (k 1, 9, .inl mt2)), (y 0, .inr (7, [.ref (y 1), .int (nI n)])), (y 1, .inl (k 0, 320, .inl f))]) := hD
        refine W.eq (g2 := F0 m 53 ls []) rfl ?_
        refine lv_aload_n hx hb dX5_faultOfRule_53 rfl (lv_at hl 1 rfl) ?_
        refine va_get (D := D) (ci := 5) (v := .int fm2) (C := RX5) (T := TX5) (N := 6) hx hb hts inX5 hown hK hP 0 rfl rfl 2 (by decide) (hts _ wd_1_60) (fun _ h9 => h9) rfl dX5_faultOfRule_54 ?_
        refine lv_iconst (v := 2) hx hb dX5_faultOfRule_57 (by decide) ?_
        refine lv_icmp_eq (tgt := 63) hx hb dX5_faultOfRule_58 (by decide) (fun c58 => ?_) (fun c58 => ?_)
        · refine lv_aload_n hx hb dX5_faultOfRule_63 rfl (lv_at hl 1 rfl) ?_
          refine lv_aload_n hx hb dX5_faultOfRule_64 rfl (lv_at hl 2 rfl) ?_
          refine ro_V (rest := []) (st1 := [.int (rNum f st2 be2)]) (As := [.ref (y 0)]) ⟨hx, hb, hml, hown, hts⟩ Gd0 trivial hS hK (c_X5_numberRead l D k t fm2 st2 be2 fk2 rd2 mt2 y n f hn (hsb2 (Or.inr c58)) hbe2) mi_X5_numberRead wd_2_64 wp_1_6 wd_2_62 ⟨Nat.le_of_ble_eq_true rfl, Nat.le_of_ble_eq_true rfl⟩ (hP) 0 rfl rfl rfl hl.1 rfl (Nat.le_of_ble_eq_true rfl) rfl ⟨Nat.le_of_ble_eq_true rfl, Nat.le_of_ble_eq_true rfl⟩ dX5_faultOfRule_65 ?_
          refine lv_istore_n (lv' := [(3, .int (rNum f st2 be2)), (2, .ref (ke j)), (0, .ref (t 0)), (1, .ref (y 0))]) hx hb dX5_faultOfRule_68 rfl hl (by decide) rfl (fun ls hl => ?_)
          refine lv_iload_n hx hb dX5_faultOfRule_69 rfl (lv_at hl 0 rfl) ?_
          refine lv_aload_n hx hb dX5_faultOfRule_70 rfl (lv_at hl 1 rfl) ?_
          refine va_getX (i := j) hx hb hG.2.2.2.2.1 (by omega) hS hown (hts _ wd_6_81) (fun _ h9 => h9) dX5_faultOfRule_71 ?_
          refine lv_icmp_lt (tgt := 85) hx hb dX5_faultOfRule_74 (by decide) (fun c74 => ?_) (fun c74 => ?_)
          · refine lv_iconst (v := 2) hx hb dX5_faultOfRule_85 (by decide) ?_
            exact fs_i hx hb hr hlocks hq (2, (fm2, st2, be2, fk2, rd2, mt2)) (by rw [rFault, show rKind f (fm, st, be, fk, rd, mt) = some j from (if_pos c5).trans hk9]; show _ = (if mt j = 0 then rF2 f n j (rStepU f n (fm, st, be, fk, rd, upd mt j 1)) else _); rw [if_pos c33, hu29, rF2, if_pos (show fm2 = 2 from c58), if_pos (show rNum f st2 be2 < kLow j from c74)]) hP hD hS dX5_faultOfRule_86 rfl
          · refine lv_iload_n hx hb dX5_faultOfRule_77 rfl (lv_at hl 0 rfl) ?_
            refine lv_aload_n hx hb dX5_faultOfRule_78 rfl (lv_at hl 1 rfl) ?_
            refine va_getX (i := j) hx hb hG.2.2.2.2.2.1 (by omega) hS hown (hts _ wd_6_82) (fun _ h9 => h9) dX5_faultOfRule_79 ?_
            refine lv_icmp_le (tgt := 87) hx hb dX5_faultOfRule_82 (by decide) (fun c82 => ?_) (fun c82 => ?_)
            · refine lv_aload_n hx hb dX5_faultOfRule_87 rfl (lv_at hl 2 rfl) ?_
              refine va_get (D := D) (ci := 5) (v := .ref (t 1)) (C := RX5) (T := TX5) (N := 6) hx hb hts inX5 hown hK hP 0 rfl rfl 0 (by decide) (hts _ wd_1_58) (fun _ h9 => h9) rfl dX5_faultOfRule_88 ?_
              refine lv_aload_n hx hb dX5_faultOfRule_91 rfl (lv_at hl 1 rfl) ?_
              refine va_getX (i := j) hx hb hG.2.2.1 (by omega) hS hown (hts _ wd_6_80) (fun _ h9 => h9) dX5_faultOfRule_92 ?_
              refine lv_iload_n hx hb dX5_faultOfRule_95 rfl (lv_at hl 0 rfl) ?_
              refine ra_iast (n := 9) (f := rd2) hx hb hK hP hD hS 1 0 rfl rfl j rfl (by omega) (by decide) dX5_faultOfRule_96 (fun H locs hP hD hS => ?_)
              replace hP : va_P D vwCl ([(t 0, .inr (5, [.ref (t 1), .ref (t 2), .int fm2, .int (nI st2), .int (nI be2), .int fk2])), (t 1, .inl (k 0, 9, .inl (upd rd2 j (rNum f st2 be2)))), (t 2, .inl (k 1, 9, .inl mt2)), (y 0, .inr (7, [.ref (y 1), .int (nI n)])), (y 1, .inl (k 0, 320, .inl f))]) H := hP
              replace hD : va_D A ([(t 0, .inr (5, [.ref (t 1), .ref (t 2), .int fm2, .int (nI st2), .int (nI be2), .int fk2])), (t 1, .inl (k 0, 9, .inl (upd rd2 j (rNum f st2 be2)))), (t 2, .inl (k 1, 9, .inl mt2)), (y 0, .inr (7, [.ref (y 1), .int (nI n)])), (y 1, .inl (k 0, 320, .inl f))]) := hD
              refine lv_aload_n hx hb dX5_faultOfRule_97 rfl (lv_at hl 2 rfl) ?_
              refine lv_aload_n hx hb dX5_faultOfRule_98 rfl (lv_at hl 3 rfl) ?_
              refine fs_Vw (rest := []) (As := [.ref (y 0)]) ⟨hx, hb, hml, hown, hts⟩ Gd0 trivial hS hA hK (hP) (hD) (c_X5_step l D k t fm2 st2 be2 fk2 (upd rd2 j (rNum f st2 be2)) mt2 y n f hn (by omega)) mi_X5_step wd_1_219 wp_1_1 wd_1_217 ⟨Nat.le_of_ble_eq_true rfl, Nat.le_of_ble_eq_true rfl⟩ 0 rfl rfl rfl hl.1 rfl (Nat.le_of_ble_eq_true rfl) ⟨Nat.le_of_ble_eq_true rfl, Nat.le_of_ble_eq_true rfl⟩ dX5_faultOfRule_99 (fun u_3 H locs hu_4 hP hD hS => ?_)
              obtain ⟨fm3, st3, be3, fk3, rd3, mt3⟩ := u_3
              have hu39 : rStepU f n (fm2, st2, be2, fk2, upd rd2 j (rNum f st2 be2), mt2) = (fm3, st3, be3, fk3, rd3, mt3) := hu_4.symm
              have hb3 := rStepU_ok (f := f) (n := n) (u := (fm2, st2, be2, fk2, upd rd2 j (rNum f st2 be2), mt2)) (by show be2 ≤ n; omega)
              rw [hu39] at hb3
              replace hb3 : be3 ≤ n ∧ (fm3 = 1 ∨ fm3 = 2 → st3 ≤ be3) := hb3
              obtain ⟨hbe3, hsb3⟩ := hb3
              replace hP : va_P D vwCl ([(t 0, .inr (5, [.ref (t 1), .ref (t 2), .int fm3, .int (nI st3), .int (nI be3), .int fk3])), (t 1, .inl (k 0, 9, .inl rd3)), (t 2, .inl (k 1, 9, .inl mt3)), (y 0, .inr (7, [.ref (y 1), .int (nI n)])), (y 1, .inl (k 0, 320, .inl f))]) H := hP
              replace hD : va_D A ([(t 0, .inr (5, [.ref (t 1), .ref (t 2), .int fm3, .int (nI st3), .int (nI be3), .int fk3])), (t 1, .inl (k 0, 9, .inl rd3)), (t 2, .inl (k 1, 9, .inl mt3)), (y 0, .inr (7, [.ref (y 1), .int (nI n)])), (y 1, .inl (k 0, 320, .inl f))]) := hD
              refine W.eq (g2 := F0 m 102 ls []) rfl ?_
              refine lv_aload_n hx hb dX5_faultOfRule_102 rfl (lv_at hl 2 rfl) ?_
              refine va_get (D := D) (ci := 5) (v := .int fm3) (C := RX5) (T := TX5) (N := 6) hx hb hts inX5 hown hK hP 0 rfl rfl 2 (by decide) (hts _ wd_1_60) (fun _ h9 => h9) rfl dX5_faultOfRule_103 ?_
              refine lv_iconst (v := 3) hx hb dX5_faultOfRule_106 (by decide) ?_
              refine lv_icmp_ne (tgt := 114) hx hb dX5_faultOfRule_107 (by decide) (fun c107 => ?_) (fun c107 => ?_)
              · refine lv_iconst (v := 1) hx hb dX5_faultOfRule_114 (by decide) ?_
                exact fs_i hx hb hr hlocks hq (1, (fm3, st3, be3, fk3, rd3, mt3)) (by rw [rFault, show rKind f (fm, st, be, fk, rd, mt) = some j from (if_pos c5).trans hk9]; show _ = (if mt j = 0 then rF2 f n j (rStepU f n (fm, st, be, fk, rd, upd mt j 1)) else _); rw [if_pos c33, hu29, rF2, if_pos (show fm2 = 2 from c58), if_neg (show ¬ (rNum f st2 be2 < kLow j) from c74), if_pos (show rNum f st2 be2 ≤ kHigh j from c82)]; show _ = ((if (rStepU f n (fm2, st2, be2, fk2, upd rd2 j (rNum f st2 be2), mt2)).1 = 3 then 0 else 1), rStepU f n (fm2, st2, be2, fk2, upd rd2 j (rNum f st2 be2), mt2)); rw [hu39, if_neg (show ¬ (fm3 = 3) from c107)]) hP hD hS dX5_faultOfRule_115 rfl
              · refine lv_iconst (v := 0) hx hb dX5_faultOfRule_110 (by decide) ?_
                refine lv_goto (tgt := 115) hx hb dX5_faultOfRule_111 (by decide) ?_
                exact fs_i hx hb hr hlocks hq (0, (fm3, st3, be3, fk3, rd3, mt3)) (by rw [rFault, show rKind f (fm, st, be, fk, rd, mt) = some j from (if_pos c5).trans hk9]; show _ = (if mt j = 0 then rF2 f n j (rStepU f n (fm, st, be, fk, rd, upd mt j 1)) else _); rw [if_pos c33, hu29, rF2, if_pos (show fm2 = 2 from c58), if_neg (show ¬ (rNum f st2 be2 < kLow j) from c74), if_pos (show rNum f st2 be2 ≤ kHigh j from c82)]; show _ = ((if (rStepU f n (fm2, st2, be2, fk2, upd rd2 j (rNum f st2 be2), mt2)).1 = 3 then 0 else 1), rStepU f n (fm2, st2, be2, fk2, upd rd2 j (rNum f st2 be2), mt2)); rw [hu39, if_pos (show fm3 = 3 from c107)]) hP hD hS dX5_faultOfRule_115 rfl
            · refine lv_iconst (v := 2) hx hb dX5_faultOfRule_85 (by decide) ?_
              exact fs_i hx hb hr hlocks hq (2, (fm2, st2, be2, fk2, rd2, mt2)) (by rw [rFault, show rKind f (fm, st, be, fk, rd, mt) = some j from (if_pos c5).trans hk9]; show _ = (if mt j = 0 then rF2 f n j (rStepU f n (fm, st, be, fk, rd, upd mt j 1)) else _); rw [if_pos c33, hu29, rF2, if_pos (show fm2 = 2 from c58), if_neg (show ¬ (rNum f st2 be2 < kLow j) from c74), if_neg (show ¬ (rNum f st2 be2 ≤ kHigh j) from c82)]) hP hD hS dX5_faultOfRule_86 rfl
        · refine lv_iconst (v := 1) hx hb dX5_faultOfRule_61 (by decide) ?_
          exact fs_i hx hb hr hlocks hq (1, (fm2, st2, be2, fk2, rd2, mt2)) (by rw [rFault, show rKind f (fm, st, be, fk, rd, mt) = some j from (if_pos c5).trans hk9]; show _ = (if mt j = 0 then rF2 f n j (rStepU f n (fm, st, be, fk, rd, upd mt j 1)) else _); rw [if_pos c33, hu29, rF2, if_neg (show ¬ (fm2 = 2) from c58)]) hP hD hS dX5_faultOfRule_62 rfl
      · refine lv_iconst (v := 3) hx hb dX5_faultOfRule_36 (by decide) ?_
        exact fs_i hx hb hr hlocks hq (3, (fm, st, be, fk, rd, mt)) (by rw [rFault, show rKind f (fm, st, be, fk, rd, mt) = some j from (if_pos c5).trans hk9]; show _ = (if mt j = 0 then _ else _); rw [if_neg c33]) hP hD hS dX5_faultOfRule_37 rfl
