set_option maxHeartbeats 4000000 in
set_option maxRecDepth 100000 in
theorem c_X3_endWeek (l : Launch) (D : va_G) (k : Nat → ClassId) (dz mi : Nat) (q0 : Nat → Nat → Nat) (n : Nat) (gt : Nat → Int64) (gn : Nat → Nat) (gr : Nat → Nat → Nat → Int32) (ga0 : Nat → Nat → Int32) (lost0 : Int32) (mm0 : Nat) (gc0 : Nat → Nat → Int32) (gl0 : Nat → Nat) (d1 d20 : Int32) (x : Int32) (hn : n ≤ 100) (hm0 : mm0 ≤ 300) (hg3 : ∀ i, i < n → gn i ≤ 3) : Fs (S := EWS × (Nat → Nat → Nat) × Int32) l yX3_endWeek cX3_endWeek 4 none 8 600 (1200 + (gT (ewAll x n gn (gr 1) (ga0, lost0, mm0, gc0, gl0)).2.2.1 - gT mm0)) D (TY k) (GL dz mi) [.ref (q0 5 0), .int x] (bG k dz q0 n gt gn gr ga0 lost0 mm0 gc0 gl0 d1 d20) (fun _ => none) (fun u => u.1 = ewAll x n gn (gr 1) (ga0, lost0, mm0, gc0, gl0) ∧ u.2.1 5 0 = q0 5 0) (fun u => bG k dz u.2.1 n gt gn gr u.1.1 u.1.2.1 u.1.2.2.1 u.1.2.2.2.1 u.1.2.2.2.2 d1 u.2.2) := by
  refine fs_body (by decide +kernel) (Nat.le_of_ble_eq_true rfl) ?_
  intro p e s m args below meth c_ Q A hx hb hml hown hts hK hP hD hS hA hG hin hr hq hlocks ls hl
  replace hl : lv_has ls 4 [(0, .ref (q0 5 0)), (1, .int x)] := hl
  change s.vm.findClass RX3 = some m.cls at hown
  have L : ∀ (r i : Nat) (ga : Nat → Nat → Int32) (lost : Int32) (mm : Nat) (gc : Nat → Nat → Int32) (gl : Nat → Nat) (q : Nat → Nat → Nat) (d2 : Int32) (H : Heap) (locs : List Loc), i + r = n → mm0 ≤ mm ∧ mm ≤ mm0 + 3 * i ∧ q 5 0 = q0 5 0 → lp (ewStep x gn (gr 1)) r i (ga, lost, mm, gc, gl) = ewAll x n gn (gr 1) (ga0, lost0, mm0, gc0, gl0) → va_P D vwCl (bG k dz q n gt gn gr ga lost mm gc gl d1 d2) H → va_D A (bG k dz q n gt gn gr ga lost mm gc gl d1 d2) → va_S A s.heap H locs → ∀ (ls : Array Slot), lv_has ls 4 [(0, .ref (q 5 0)), (1, .int x), (2, .int (nI i))] → W p l e (rmd 8 600 (1200 + (gT (ewAll x n gn (gr 1) (ga0, lost0, mm0, gc0, gl0)).2.2.1 - gT mm0))) s m args below meth c_ H locs (6 * i) (12 * i + (gT mm - gT mm0)) Q (F0 m 2 ls []) := by
    intro r
    induction r with
    | zero =>
      intro i ga lost mm gc gl q d2 H locs hi hle he hP hD hS ls hl
      have hm : mm ≤ 600 := by omega
      have hM1 : mm ≤ (ewAll x n gn (gr 1) (ga0, lost0, mm0, gc0, gl0)).2.2.1 := by rw [← he]; exact ewLp_le _ _ (ga, lost, mm, gc, gl)
      have hM2 := gT_mono hM1
      have hM3 := gT_mono hle.1
      refine lv_iload_n hx hb dX3_endWeek_2 rfl (lv_at hl 2 rfl) ?_
      refine lv_aload_n hx hb dX3_endWeek_3 rfl (lv_at hl 0 rfl) ?_
      refine va_get (D := D) (ci := 3) (v := .ref (q 5 1)) (C := RX3) (T := TX3) (N := 3) hx hb hts inX3 hown hK (hP.mem bG_o) 0 rfl rfl 0 (by decide) (hts _ wd_1_146) (fun _ h9 => h9) rfl dX3_endWeek_4 ?_
      refine ro_V (rest := [.int (nI i)]) (st1 := [.int (nI n), .int (nI i)]) (As := []) ⟨hx, hb, hml, hown, hts⟩ Gd0 trivial hS hK (c_Jx4a65c_size_8abf5 l D k (q 5 1) (if n = 0 then dz else q 5 3) d1 n) mi_Jx4a65c_size_8abf5 wd_2_147 wd_2_148 wd_2_146 ⟨Nat.le_of_ble_eq_true rfl, Nat.le_of_ble_eq_true rfl⟩ (hP.mem bG_l) 0 rfl rfl rfl hl.1 rfl (Nat.le_of_ble_eq_true rfl) rfl ⟨by show 6 * i ≤ 600; omega, by show 12 * i + (gT mm - gT mm0) ≤ 1200 + (gT (ewAll x n gn (gr 1) (ga0, lost0, mm0, gc0, gl0)).2.2.1 - gT mm0); omega⟩ dX3_endWeek_7 ?_
      refine lv_icmp_ge (tgt := 59) hx hb dX3_endWeek_10 (by decide) (fun c10 => ?_) (fun c10 => absurd (nI_le (by omega) (by omega)) c10)
      refine W.widen (k := 600) (n := 1200 + (gT (ewAll x n gn (gr 1) (ga0, lost0, mm0, gc0, gl0)).2.2.1 - gT mm0)) (by omega) (by omega) ?_
      exact fs_v hx hb hr hlocks hq ((ga, lost, mm, gc, gl), q, d2) ⟨he, hle.2.2⟩ hP hD hS dX3_endWeek_59 rfl
    | succ r ih =>
      intro i ga lost mm gc gl q d2 H locs hi hle he hP hD hS ls hl
      have hm : mm ≤ 600 := by omega
      have hM1 : mm ≤ (ewAll x n gn (gr 1) (ga0, lost0, mm0, gc0, gl0)).2.2.1 := by rw [← he]; exact ewLp_le _ _ (ga, lost, mm, gc, gl)
      have hM2 := gT_mono hM1
      have hM3 := gT_mono hle.1
      refine lv_iload_n hx hb dX3_endWeek_2 rfl (lv_at hl 2 rfl) ?_
      refine lv_aload_n hx hb dX3_endWeek_3 rfl (lv_at hl 0 rfl) ?_
      refine va_get (D := D) (ci := 3) (v := .ref (q 5 1)) (C := RX3) (T := TX3) (N := 3) hx hb hts inX3 hown hK (hP.mem bG_o) 0 rfl rfl 0 (by decide) (hts _ wd_1_146) (fun _ h9 => h9) rfl dX3_endWeek_4 ?_
      refine ro_V (rest := [.int (nI i)]) (st1 := [.int (nI n), .int (nI i)]) (As := []) ⟨hx, hb, hml, hown, hts⟩ Gd0 trivial hS hK (c_Jx4a65c_size_8abf5 l D k (q 5 1) (if n = 0 then dz else q 5 3) d1 n) mi_Jx4a65c_size_8abf5 wd_2_147 wd_2_148 wd_2_146 ⟨Nat.le_of_ble_eq_true rfl, Nat.le_of_ble_eq_true rfl⟩ (hP.mem bG_l) 0 rfl rfl rfl hl.1 rfl (Nat.le_of_ble_eq_true rfl) rfl ⟨by show 6 * i ≤ 600; omega, by show 12 * i + (gT mm - gT mm0) ≤ 1200 + (gT (ewAll x n gn (gr 1) (ga0, lost0, mm0, gc0, gl0)).2.2.1 - gT mm0); omega⟩ dX3_endWeek_7 ?_
      refine lv_icmp_ge (tgt := 59) hx hb dX3_endWeek_10 (by decide) (fun c10 => absurd c10 (nI_ge (by omega) (by omega))) (fun c10 => ?_)
      refine lv_aload_n hx hb dX3_endWeek_13 rfl (lv_at hl 0 rfl) ?_
      refine va_get (D := D) (ci := 3) (v := .ref (q 5 1)) (C := RX3) (T := TX3) (N := 3) hx hb hts inX3 hown hK (hP.mem bG_o) 0 rfl rfl 0 (by decide) (hts _ wd_1_146) (fun _ h9 => h9) rfl dX3_endWeek_14 ?_
      refine lv_iload_n hx hb dX3_endWeek_17 rfl (lv_at hl 2 rfl) ?_
      refine ro_V (rest := []) (st1 := [.ref (q 0 i)]) (As := [.int (nI i)]) ⟨hx, hb, hml, hown, hts⟩ Gd0 trivial hS hK (c_Jx4a65c_get_915e3 l D k (q 5 1) (q 5 3) d1 n (capOf n) (q 0) i (by omega) (capOf_ok _).1 (by have := (capOf_ok n).2.1; omega)) mi_Jx4a65c_get_915e3 wd_2_155 wd_2_156 wd_2_154 ⟨Nat.le_of_ble_eq_true rfl, Nat.le_of_ble_eq_true rfl⟩ (hP.mem2 (bG_lp (by omega)) (bG_la (by omega))) 0 rfl rfl rfl hl.1 rfl (Nat.le_of_ble_eq_true rfl) rfl ⟨by show 6 * i ≤ 600; omega, by show 12 * i + (gT mm - gT mm0) ≤ 1200 + (gT (ewAll x n gn (gr 1) (ga0, lost0, mm0, gc0, gl0)).2.2.1 - gT mm0); omega⟩ dX3_endWeek_18 ?_
      refine va_castS hx hb hown (hts _ wd_2_166) (hK.1 4 _ rfl).2 (va_recv hK (hP.mem (bG_L (i := i) (by omega))) (q0 := 0) rfl rfl) dX3_endWeek_21 ?_
      refine lv_astore_n (lv' := [(3, .ref (q 0 i)), (0, .ref (q 5 0)), (1, .int x), (2, .int (nI i))]) hx hb dX3_endWeek_24 rfl hl (by decide) rfl (fun ls hl => ?_)
      refine lv_aload_n hx hb dX3_endWeek_25 rfl (lv_at hl 0 rfl) ?_
      refine va_get (D := D) (ci := 4) (v := .int (ga i 16)) (C := RX4) (T := TX4) (N := 18) hx hb hts inX4 hown hK (hP.mem (bG_L (i := i) (by omega))) 0 rfl rfl 16 (by decide) (hts _ wd_3_71) (fun _ h9 => h9) rfl dX3_endWeek_26 ?_
      refine lv_if_ne (tgt := 53) hx hb dX3_endWeek_29 (by decide) (fun c29 => ?_) (fun c29 => ?_)
      · refine lv_iinc (v := nI (i + 1)) (lv' := [(2, .int (nI (i + 1))), (3, .ref (q 0 i)), (0, .ref (q 5 0)), (1, .int x)]) hx hb dX3_endWeek_53 hl (k := 3) rfl (nI_1 _) (by decide) rfl (fun ls hl => ?_)
        refine lv_goto (tgt := 2) hx hb dX3_endWeek_56 (by decide) ?_
        refine W.widen (k := 6 * (i + 1)) (n := 12 * (i + 1) + (gT mm - gT mm0)) (by omega) (by omega) ?_
        exact ih (i + 1) ga lost mm gc gl q d2 H locs (by omega) ⟨by omega, by omega, hle.2.2⟩ (by rw [← he]; show _ = lp (ewStep x gn (gr 1)) r (i + 1) (ewStep x gn (gr 1) i (ga, lost, mm, gc, gl)); rw [show ewStep x gn (gr 1) i (ga, lost, mm, gc, gl) = _ from by show (if ga i 16 = 0 then _ else _) = _; rw [if_neg c29]]) hP hD hS ls (lv_sub hl [2, 3, 0] rfl)
      · refine lv_aload_n hx hb dX3_endWeek_32 rfl (lv_at hl 0 rfl) ?_
        refine va_get (D := D) (ci := 4) (v := .int (ga i 3)) (C := RX4) (T := TX4) (N := 18) hx hb hts inX4 hown hK (hP.mem (bG_L (i := i) (by omega))) 0 rfl rfl 3 (by decide) (hts _ wd_3_42) (fun _ h9 => h9) rfl dX3_endWeek_33 ?_
        refine lv_iload_n hx hb dX3_endWeek_36 rfl (lv_at hl 2 rfl) ?_
        refine lv_icmp_ge (tgt := 53) hx hb dX3_endWeek_37 (by decide) (fun c37 => ?_) (fun c37 => ?_)
        · refine lv_iinc (v := nI (i + 1)) (lv' := [(2, .int (nI (i + 1))), (3, .ref (q 0 i)), (0, .ref (q 5 0)), (1, .int x)]) hx hb dX3_endWeek_53 hl (k := 3) rfl (nI_1 _) (by decide) rfl (fun ls hl => ?_)
          refine lv_goto (tgt := 2) hx hb dX3_endWeek_56 (by decide) ?_
          refine W.widen (k := 6 * (i + 1)) (n := 12 * (i + 1) + (gT mm - gT mm0)) (by omega) (by omega) ?_
          exact ih (i + 1) ga lost mm gc gl q d2 H locs (by omega) ⟨by omega, by omega, hle.2.2⟩ (by rw [← he]; show _ = lp (ewStep x gn (gr 1)) r (i + 1) (ewStep x gn (gr 1) i (ga, lost, mm, gc, gl)); rw [show ewStep x gn (gr 1) i (ga, lost, mm, gc, gl) = _ from by show (if ga i 16 = 0 then _ else _) = _; rw [if_pos c29, if_pos c37]]) hP hD hS ls (lv_sub hl [2, 3, 0] rfl)
        · refine lv_aload_n hx hb dX3_endWeek_40 rfl (lv_at hl 0 rfl) ?_
          refine lv_iload_n hx hb dX3_endWeek_41 rfl (lv_at hl 2 rfl) ?_
          replace hP : va_P D vwCl ([] ++ ([cL (q 0 i) (ga i) (q 1 i) (q 2 i) (q 3 i) (gt i)] ++ gxL k dz q n gt gn gr ga lost mm gc gl d1 d2 i)) H := hP.prm (fun x => bG_xL (by omega) x)
          replace hD : va_D A ([] ++ ([cL (q 0 i) (ga i) (q 1 i) (q 2 i) (q 3 i) (gt i)] ++ gxL k dz q n gt gn gr ga lost mm gc gl d1 d2 i)) := hD.prm (fun x => bG_xL (by omega) x)
          refine fs_Vf ([]) (gxL k dz q n gt gn gr ga lost mm gc gl d1 d2 i) (rest := []) (As := [.int x]) ⟨hx, hb, hml, hown, hts⟩ Gd0 trivial hS hA hK (hP) (hD) (c_X4_isToBeCalledAtEnd l D k (q 0 i) (ga i) (q 1 i) (q 2 i) (q 3 i) (gt i) x) mi_X4_isToBeCalledAtEnd wd_4_1 wd_4_2 wd_4_0 ⟨Nat.le_of_ble_eq_true rfl, Nat.le_of_ble_eq_true rfl⟩ 0 rfl rfl rfl hl.1 rfl (Nat.le_of_ble_eq_true rfl) ⟨by show 6 * i ≤ 600; omega, by show 12 * i + (gT mm - gT mm0) ≤ 1200 + (gT (ewAll x n gn (gr 1) (ga0, lost0, mm0, gc0, gl0)).2.2.1 - gT mm0); omega⟩ dX3_endWeek_42 (fun u_1 H locs hu_2 hP hD hS => ?_)
          subst hu_2
          replace hP : va_P D vwCl (bG k dz q n gt gn gr (ewLate x i ga) lost mm gc gl d1 d2) H := hP.prm (fun x9 => bG_yL (by omega) _ x9)
          replace hD : va_D A (bG k dz q n gt gn gr (ewLate x i ga) lost mm gc gl d1 d2) := hD.prm (fun x9 => bG_yL (by omega) _ x9)
          refine W.eq (g2 := F0 m 45 ls [.int ((cLate (ga i) x).1)]) rfl ?_
          refine lv_if_eq (tgt := 53) hx hb dX3_endWeek_45 (by decide) (fun c45 => ?_) (fun c45 => ?_)
          · refine lv_iinc (v := nI (i + 1)) (lv' := [(2, .int (nI (i + 1))), (3, .ref (q 0 i)), (0, .ref (q 5 0)), (1, .int x)]) hx hb dX3_endWeek_53 hl (k := 3) rfl (nI_1 _) (by decide) rfl (fun ls hl => ?_)
            refine lv_goto (tgt := 2) hx hb dX3_endWeek_56 (by decide) ?_
            refine W.widen (k := 6 * (i + 1)) (n := 12 * (i + 1) + (gT mm - gT mm0)) (by omega) (by omega) ?_
            exact ih (i + 1) (ewLate x i ga) lost mm gc gl q d2 H locs (by omega) ⟨by omega, by omega, hle.2.2⟩ (by rw [← he]; show _ = lp (ewStep x gn (gr 1)) r (i + 1) (ewStep x gn (gr 1) i (ga, lost, mm, gc, gl)); rw [show ewStep x gn (gr 1) i (ga, lost, mm, gc, gl) = _ from by show (if ga i 16 = 0 then _ else _) = _; rw [if_pos c29, if_neg c37, if_pos c45]]) hP hD hS ls (lv_sub hl [2, 3, 0] rfl)
          · refine lv_aload_n hx hb dX3_endWeek_48 rfl (lv_at hl 1 rfl) ?_
            refine lv_aload_n hx hb dX3_endWeek_49 rfl (lv_at hl 0 rfl) ?_
            replace hP : va_P D vwCl ([] ++ (([(q 5 0, .inr (3, [.ref (q 5 1), .ref (q 5 2), .int lost])), cL (q 0 i) ((ewLate x i ga) i) (q 1 i) (q 2 i) (q 3 i) (gt i), (q 1 i, .inl (k 0, gn i, .inl (gr 1 i)))] ++ (bA (q 5 2) (q 5 4) dz d2 k mm (q 4) ++ kS (q 4) gc (fun j => q 0 (gl j)) mm)) ++ gxC k dz q n gt gn gr (ewLate x i ga) d1 i)) H := hP.prm (fun x9 => bG_xC (by omega) x9)
            replace hD : va_D A ([] ++ (([(q 5 0, .inr (3, [.ref (q 5 1), .ref (q 5 2), .int lost])), cL (q 0 i) ((ewLate x i ga) i) (q 1 i) (q 2 i) (q 3 i) (gt i), (q 1 i, .inl (k 0, gn i, .inl (gr 1 i)))] ++ (bA (q 5 2) (q 5 4) dz d2 k mm (q 4) ++ kS (q 4) gc (fun j => q 0 (gl j)) mm)) ++ gxC k dz q n gt gn gr (ewLate x i ga) d1 i)) := hD.prm (fun x9 => bG_xC (by omega) x9)
            have hST : ewStep x gn (gr 1) i (ga, lost, mm, gc, gl) = ewCall gn (gr 1) i (ewLate x i ga, lost, mm, gc, gl) := by
              show (if ga i 16 = 0 then _ else _) = _
              rw [if_pos c29, if_neg c37, if_neg c45]
            have hM4 : (kAll (gr 1 i) (gn i) (cRest ((ewLate x i ga) i)) i (mm, gc, gl)).1 ≤ (ewAll x n gn (gr 1) (ga0, lost0, mm0, gc0, gl0)).2.2.1 := by
              rw [← he]
              show _ ≤ (lp (ewStep x gn (gr 1)) r (i + 1) (ewStep x gn (gr 1) i (ga, lost, mm, gc, gl))).2.2.1
              rw [hST]
              exact ewLp_le _ _ (ewCall gn (gr 1) i (ewLate x i ga, lost, mm, gc, gl))
            have hM5 := gT_mono hM4
            have hM6 := gT_mono (kLp_le (g := gr 1 i) (n := gn i) (y := cRest ((ewLate x i ga) i)) (p_ := i) (gn i) 0 (mm, gc, gl)).1
            have hM7 : (kAll (gr 1 i) (gn i) (cRest ((ewLate x i ga) i)) (q 0 i) (mm, gc, fun j => q 0 (gl j))).1 = (kAll (gr 1 i) (gn i) (cRest ((ewLate x i ga) i)) i (mm, gc, gl)).1 := by rw [kAll_map (q 0)]
            have hg3i := hg3 i (by omega)
            replace hM6 : gT mm ≤ gT (kAll (gr 1 i) (gn i) (cRest ((ewLate x i ga) i)) i (mm, gc, gl)).1 := hM6
            refine fs_Vf (d := 7) ([]) (gxC k dz q n gt gn gr (ewLate x i ga) d1 i) (rest := []) (As := [.ref (q 0 i)]) ⟨hx, hb, hml, hown, hts⟩ GdL hG hS hA hK (hP) (hD) (c_X3_callIn l D k dz mi (q 5 0) (q 5 1) (q 5 2) (q 5 4) lost d2 (q 0 i) ((ewLate x i ga) i) (q 1 i) (q 2 i) (q 3 i) (gt i) (gn i) (gr 1 i) mm (q 4) gc (fun j => q 0 (gl j)) hg3i (by omega)) mi_X3_callIn wd_4_11 wp_2_7 wd_4_9 ⟨Nat.le_of_ble_eq_true rfl, Nat.le_of_ble_eq_true rfl⟩ 0 rfl rfl rfl hl.1 rfl (Nat.le_of_ble_eq_true rfl) ⟨by show 6 * i + 0 + 6 ≤ 600; omega, by rw [hM7]; show 12 * i + (gT mm - gT mm0) + 0 + (12 + (gT (kAll (gr 1 i) (gn i) (cRest ((ewLate x i ga) i)) i (mm, gc, gl)).1 - gT mm)) ≤ 1200 + (gT (ewAll x n gn (gr 1) (ga0, lost0, mm0, gc0, gl0)).2.2.1 - gT mm0); omega⟩ dX3_endWeek_50 (fun u_3 H locs hu_4 hP hD hS => ?_)
            obtain ⟨⟨lost3, m3, gc3, lo3⟩, qc3, pl3, md3⟩ := u_3
            replace hu_4 : (lost3, m3, gc3, lo3) = (if gn i = 0 then lost + cRest ((ewLate x i ga) i) else lost, kAll (gr 1 i) (gn i) (cRest ((ewLate x i ga) i)) (q 0 i) (mm, gc, fun j => q 0 (gl j))) := hu_4
            rw [kAll_map (q 0)] at hu_4
            cases hu_4
            replace hP : va_P D vwCl ([] ++ (([(q 5 0, .inr (3, [.ref (q 5 1), .ref (q 5 2), .int (if gn i = 0 then lost + cRest ((ewLate x i ga) i) else lost)])), cL (q 0 i) (up ((ewLate x i ga) i) 16 2) (q 1 i) (q 2 i) (q 3 i) (gt i), (q 1 i, .inl (k 0, gn i, .inl (gr 1 i)))] ++ (bA (q 5 2) qc3 dz md3 k (kAll (gr 1 i) (gn i) (cRest ((ewLate x i ga) i)) i (mm, gc, gl)).1 pl3 ++ kS pl3 (kAll (gr 1 i) (gn i) (cRest ((ewLate x i ga) i)) i (mm, gc, gl)).2.1 (fun j => q 0 ((kAll (gr 1 i) (gn i) (cRest ((ewLate x i ga) i)) i (mm, gc, gl)).2.2 j)) (kAll (gr 1 i) (gn i) (cRest ((ewLate x i ga) i)) i (mm, gc, gl)).1)) ++ gxC k dz q n gt gn gr (ewLate x i ga) d1 i)) H := hP
            replace hD : va_D A ([] ++ (([(q 5 0, .inr (3, [.ref (q 5 1), .ref (q 5 2), .int (if gn i = 0 then lost + cRest ((ewLate x i ga) i) else lost)])), cL (q 0 i) (up ((ewLate x i ga) i) 16 2) (q 1 i) (q 2 i) (q 3 i) (gt i), (q 1 i, .inl (k 0, gn i, .inl (gr 1 i)))] ++ (bA (q 5 2) qc3 dz md3 k (kAll (gr 1 i) (gn i) (cRest ((ewLate x i ga) i)) i (mm, gc, gl)).1 pl3 ++ kS pl3 (kAll (gr 1 i) (gn i) (cRest ((ewLate x i ga) i)) i (mm, gc, gl)).2.1 (fun j => q 0 ((kAll (gr 1 i) (gn i) (cRest ((ewLate x i ga) i)) i (mm, gc, gl)).2.2 j)) (kAll (gr 1 i) (gn i) (cRest ((ewLate x i ga) i)) i (mm, gc, gl)).1)) ++ gxC k dz q n gt gn gr (ewLate x i ga) d1 i)) := hD
            replace hP : va_P D vwCl (bG k dz (up (up q 4 pl3) 5 (up (q 5) 4 qc3)) n gt gn gr (up (ewLate x i ga) i (up ((ewLate x i ga) i) 16 2)) (if gn i = 0 then lost + cRest ((ewLate x i ga) i) else lost) ((kAll (gr 1 i) (gn i) (cRest ((ewLate x i ga) i)) i (mm, gc, gl)).1) ((kAll (gr 1 i) (gn i) (cRest ((ewLate x i ga) i)) i (mm, gc, gl)).2.1) ((kAll (gr 1 i) (gn i) (cRest ((ewLate x i ga) i)) i (mm, gc, gl)).2.2) d1 md3) H := hP.prm (fun x9 => bG_yC (by omega) _ _ _ _ _ _ _ _ x9)
            replace hD : va_D A (bG k dz (up (up q 4 pl3) 5 (up (q 5) 4 qc3)) n gt gn gr (up (ewLate x i ga) i (up ((ewLate x i ga) i) 16 2)) (if gn i = 0 then lost + cRest ((ewLate x i ga) i) else lost) ((kAll (gr 1 i) (gn i) (cRest ((ewLate x i ga) i)) i (mm, gc, gl)).1) ((kAll (gr 1 i) (gn i) (cRest ((ewLate x i ga) i)) i (mm, gc, gl)).2.1) ((kAll (gr 1 i) (gn i) (cRest ((ewLate x i ga) i)) i (mm, gc, gl)).2.2) d1 md3) := hD.prm (fun x9 => bG_yC (by omega) _ _ _ _ _ _ _ _ x9)
            refine W.eq (g2 := F0 m 53 ls []) rfl ?_
            refine lv_iinc (v := nI (i + 1)) (lv' := [(2, .int (nI (i + 1))), (3, .ref (q 0 i)), (0, .ref (q 5 0)), (1, .int x)]) hx hb dX3_endWeek_53 hl (k := 3) rfl (nI_1 _) (by decide) rfl (fun ls hl => ?_)
            refine lv_goto (tgt := 2) hx hb dX3_endWeek_56 (by decide) ?_
            have hSL := (ewStep_le (x := x) (gn := gn) (g1 := gr 1) (j := i) (ga, lost, mm, gc, gl)).2
            rw [hST] at hSL
            replace hSL : (kAll (gr 1 i) (gn i) (cRest ((ewLate x i ga) i)) i (mm, gc, gl)).1 ≤ mm + gn i := hSL
            have hM8 := (kLp_le (g := gr 1 i) (n := gn i) (y := cRest ((ewLate x i ga) i)) (p_ := i) (gn i) 0 (mm, gc, gl)).1
            replace hM8 : mm ≤ (kAll (gr 1 i) (gn i) (cRest ((ewLate x i ga) i)) i (mm, gc, gl)).1 := hM8
            rw [hM7]
            refine W.widen (k := 6 * (i + 1)) (n := 12 * (i + 1) + (gT ((kAll (gr 1 i) (gn i) (cRest ((ewLate x i ga) i)) i (mm, gc, gl)).1) - gT mm0)) (by omega) (by omega) ?_
            exact ih (i + 1) (up (ewLate x i ga) i (up ((ewLate x i ga) i) 16 2)) (if gn i = 0 then lost + cRest ((ewLate x i ga) i) else lost) ((kAll (gr 1 i) (gn i) (cRest ((ewLate x i ga) i)) i (mm, gc, gl)).1) ((kAll (gr 1 i) (gn i) (cRest ((ewLate x i ga) i)) i (mm, gc, gl)).2.1) ((kAll (gr 1 i) (gn i) (cRest ((ewLate x i ga) i)) i (mm, gc, gl)).2.2) (up (up q 4 pl3) 5 (up (q 5) 4 qc3)) md3 H locs (by omega) ⟨by omega, by omega, hle.2.2⟩ (by rw [← he]; show _ = lp (ewStep x gn (gr 1)) r (i + 1) (ewStep x gn (gr 1) i (ga, lost, mm, gc, gl)); rw [hST]; rfl) hP hD hS ls (lv_sub hl [2, 3, 0] rfl)
  refine lv_iconst (v := 0) hx hb dX3_endWeek_0 (by decide) ?_
  refine lv_istore_n (lv' := [(2, .int 0), (0, .ref (q0 5 0)), (1, .int x)]) hx hb dX3_endWeek_1 rfl hl (by decide) rfl (fun ls hl => ?_)
  refine W.widen (k := 6 * 0) (n := 12 * 0 + (gT mm0 - gT mm0)) (by omega) (by omega) ?_
  exact L n 0 ga0 lost0 mm0 gc0 gl0 q0 d20 _ _ (by omega) ⟨Nat.le_refl _, Nat.le_add_right _ _, rfl⟩ (rfl) hP hD hS ls (lv_sub hl [1, 2, 0] rfl)
