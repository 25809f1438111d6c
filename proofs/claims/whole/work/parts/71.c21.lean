set_option maxHeartbeats 4000000 in
set_option maxRecDepth 100000 in
theorem c_X3_enter (l : Launch) (D : va_G) (k : Nat → ClassId) (mi : Nat) (dz : Nat) (q : Nat → Nat → Nat) (n : Nat) (gt : Nat → Int64) (gn : Nat → Nat) (gr : Nat → Nat → Nat → Int32) (ga : Nat → Nat → Int32) (lost : Int32) (mm : Nat) (gc : Nat → Nat → Int32) (gl : Nat → Nat) (d1 d2 : Int32) (p_ : Nat) (F : Nat → Int32) (rs rt ra : Nat) (bt : Int64) (c9 : Nat) (f0 f1 f2 : Nat → Int32) (hn : n ≤ 100) (hgl : ∀ i, i < mm → gl i < n) : Fs (S := Nat) l yX3_enter cX3_enter 2 none 7 1 (gSl n) D (TY k) (GL dz mi) [.ref (q 5 0), .ref p_] (bG k dz q n gt gn gr ga lost mm gc gl d1 d2 ++ neC k p_ F rs rt ra bt c9 f0 f1 f2) (fun _ => none) (fun _ => True) (fun u => bG k dz (neQ q n p_ rs rt ra u) (n + 1) (up gt n bt) (up gn n c9) (neR gr n f0 f1 f2) (up ga n F) lost mm gc gl (d1 + 1) d2) := by
  refine fs_body (by decide +kernel) (Nat.le_of_ble_eq_true rfl) ?_
  intro p e s m args below meth c_ Q A hx hb hml hown hts hK hP hD hS hA hG hin hr hq hlocks ls hl
  replace hl : lv_has ls 2 [(0, .ref (q 5 0)), (1, .ref p_)] := hl
  change s.vm.findClass RX3 = some m.cls at hown
  refine lv_aload_n hx hb dX3_enter_0 rfl (lv_at hl 0 rfl) ?_
  refine va_get (D := D) (ci := 3) (v := .ref (q 5 1)) (C := RX3) (T := TX3) (N := 3) hx hb hts inX3 hown hK ((hP.low (fun c hc => List.mem_append_left _ hc)).mem bG_o) 0 rfl rfl 0 (by decide) (hts _ wd_1_146) (fun _ h9 => h9) rfl dX3_enter_1 ?_
  refine lv_aload_n hx hb dX3_enter_4 rfl (lv_at hl 1 rfl) ?_
  replace hP : va_P D vwCl ([] ++ ((bA (q 5 1) (q 5 3) dz d1 k n (up (q 0) n p_) ++ sL (neQ q n p_ rs rt ra 0) (n + 1) (up ga n F) (up gt n bt)) ++ gxE k dz q n gn gr lost mm gc gl d2 rs rt ra c9 f0 f1 f2)) _ := hP.prm (fun x9 => bE_x p_ F rs rt ra bt c9 f0 f1 f2 0 x9)
  replace hD : va_D A ([] ++ ((bA (q 5 1) (q 5 3) dz d1 k n (up (q 0) n p_) ++ sL (neQ q n p_ rs rt ra 0) (n + 1) (up ga n F) (up gt n bt)) ++ gxE k dz q n gn gr lost mm gc gl d2 rs rt ra c9 f0 f1 f2)) := hD.prm (fun x9 => bE_x p_ F rs rt ra bt c9 f0 f1 f2 0 x9)
  have hadd := c_Jx4a65c_add_9ea2d l D k dz mi (q 5 1) d1 (q 5 3) n 4 (up (q 0) n p_) (lV (neQ q n p_ rs rt ra 0) (up ga n F) (up gt n bt)) (RX4, TX4, 18) (by omega) rfl (Or.inl rfl)
  rw [show (up (q 0) n p_) n = p_ from up_eq _ _ _] at hadd
  refine fs_Vf (d := 6) (mc := 1) (ms := gSl n) ([]) (gxE k dz q n gn gr lost mm gc gl d2 rs rt ra c9 f0 f1 f2) (rest := []) (As := [.ref p_]) ⟨hx, hb, hml, hown, hts⟩ GdL hG hS hA hK (hP) (hD) (hadd) mi_Jx4a65c_add_9ea2d wd_3_128 wd_3_129 wd_3_127 ⟨Nat.le_of_ble_eq_true rfl, Nat.le_of_ble_eq_true rfl⟩ 0 bA_at rfl rfl hl.1 rfl (Nat.le_of_ble_eq_true rfl) ⟨Nat.le_of_ble_eq_true rfl, by show 0 + gSl n ≤ gSl n; omega⟩ dX3_enter_5 (fun u_1 H locs hu_2 hP hD hS => ?_)
  replace hP : va_P D vwCl ([] ++ ((bA (q 5 1) u_1 dz (d1 + 1) k (n + 1) (up (q 0) n p_) ++ sL (neQ q n p_ rs rt ra u_1) (n + 1) (up ga n F) (up gt n bt)) ++ gxE k dz q n gn gr lost mm gc gl d2 rs rt ra c9 f0 f1 f2)) H := hP
  replace hP : va_P D vwCl (bG k dz (neQ q n p_ rs rt ra u_1) (n + 1) (up gt n bt) (up gn n c9) (neR gr n f0 f1 f2) (up ga n F) lost mm gc gl (d1 + 1) d2) H := hP.prm (fun x9 => bE_y p_ F rs rt ra bt c9 f0 f1 f2 u_1 (d1 + 1) hgl x9)
  replace hD : va_D A ([] ++ ((bA (q 5 1) u_1 dz (d1 + 1) k (n + 1) (up (q 0) n p_) ++ sL (neQ q n p_ rs rt ra u_1) (n + 1) (up ga n F) (up gt n bt)) ++ gxE k dz q n gn gr lost mm gc gl d2 rs rt ra c9 f0 f1 f2)) := hD
  replace hD : va_D A (bG k dz (neQ q n p_ rs rt ra u_1) (n + 1) (up gt n bt) (up gn n c9) (neR gr n f0 f1 f2) (up ga n F) lost mm gc gl (d1 + 1) d2) := hD.prm (fun x9 => bE_y p_ F rs rt ra bt c9 f0 f1 f2 u_1 (d1 + 1) hgl x9)
  refine W.widen (k := 1) (n := gSl n) (by omega) (by omega) ?_
  refine W.eq (g2 := F0 m 8 ls [.int 1]) rfl ?_
  refine lv_pop hx hb dX3_enter_8 rfl ?_
  exact fs_v hx hb hr hlocks hq (u_1) trivial hP hD hS dX3_enter_9 rfl
set_option maxHeartbeats 4000000 in
set_option maxRecDepth 100000 in
theorem c_X3_init (l : Launch) (D : va_G) (k : Nat → ClassId) (dz mi p_ : Nat) : Fs (S := Nat × Nat) l yX3_init cX3_init 1 none 4 2 6 D (TY k) (GL dz mi) [.ref p_] ([(p_, .inr (3, [.null, .null, .int 0]))]) (fun _ => none) (fun _ => True) (fun u => bG k dz (up (fun _ _ => 0) 5 (up (up (up (fun _ => 0) 0 p_) 1 u.1) 2 u.2)) 0 (fun _ => 0) (fun _ => 0) (fun _ _ _ => 0) (fun _ _ => 0) 0 0 (fun _ _ => 0) (fun _ => 0) 0 0) := by
  refine fs_body (by decide +kernel) (Nat.le_of_ble_eq_true rfl) ?_
  intro p e s m args below meth c_ Q A hx hb hml hown hts hK hP hD hS hA hG hin hr hq hlocks ls hl
  replace hl : lv_has ls 1 [(0, .ref p_)] := hl
  change s.vm.findClass RX3 = some m.cls at hown
  refine lv_aload_n hx hb dX3_init_0 rfl (lv_at hl 0 rfl) ?_
  refine W.objInit hx hb hown (hts _ wd_1_119) (hts _ wd_1_34) (hts _ wd_1_35) rfl (by rw [hml]; exact hl.1) rfl dX3_init_1 (Nat.le_of_ble_eq_true rfl) (Nat.le_of_ble_eq_true rfl) ?_
  refine W.eq (g2 := F0 m 4 ls []) rfl ?_
  refine lv_aload_n hx hb dX3_init_4 rfl (lv_at hl 0 rfl) ?_
  refine va_new (C := RJx4a65c) (T := TJx4a65c) (N := 3) (ci := 0) (fs := [.int 0, .null, .int 0]) hx hb hts inJx4a65c tyJx4a65c tyJx4a65c_ok hown (hts _ wd_1_120) (hts _ wd_1_121) (hts _ wd_1_9) hK hP hD hS hA rfl (by intro j hj; rcases (show j = 0 ∨ j = 1 ∨ j = 2 by omega) with rfl | rfl | rfl <;> rfl) (Nat.le_of_ble_eq_true rfl) (Nat.le_of_ble_eq_true rfl) dX3_init_5 (fun q_5 H hP hD hS => ?_)
  replace hP : va_P D vwCl ([(p_, .inr (3, [.null, .null, .int 0])), (q_5, .inr (0, [.int 0, .null, .int 0]))]) H := hP.prm (by intro x; simp only [cn_app, cn_cons, cn_nil]; omega)
  replace hD : va_D A ([(p_, .inr (3, [.null, .null, .int 0])), (q_5, .inr (0, [.int 0, .null, .int 0]))]) := hD.prm (by intro x; simp only [cn_app, cn_cons, cn_nil]; omega)
  refine W.widen (k := 1) (n := 3) (Nat.le_of_ble_eq_true rfl) (Nat.le_of_ble_eq_true rfl) ?_
  refine lv_dup hx hb dX3_init_8 rfl ?_
  refine fs_If ([(p_, .inr (3, [.null, .null, .int 0]))]) ([]) (rest := [.ref q_5, .ref p_]) (As := []) ⟨hx, hb, hml, hown, hts⟩ GdL hG hS hA hK (hP) (hD) (c_Jx4a65c_init_da8c8 l D k dz mi q_5) mi_Jx4a65c_init_da8c8 wd_1_123 wd_1_122 rfl ⟨Nat.le_of_ble_eq_true rfl, Nat.le_of_ble_eq_true rfl⟩ rfl hl.1 rfl (Nat.le_of_ble_eq_true rfl) ⟨Nat.le_of_ble_eq_true rfl, Nat.le_of_ble_eq_true rfl⟩ dX3_init_9 (fun u_1 H locs hu_2 hP hD hS => ?_)
  replace hP : va_P D vwCl ([(p_, .inr (3, [.null, .null, .int 0])), (q_5, .inr (0, [.int 0, .ref dz, .int 0]))]) H := hP
  replace hD : va_D A ([(p_, .inr (3, [.null, .null, .int 0])), (q_5, .inr (0, [.int 0, .ref dz, .int 0]))]) := hD
  refine W.eq (g2 := F0 m 12 ls [.ref q_5, .ref p_]) rfl ?_
  refine va_putF (D := D) (ci := 3) (v := .ref q_5) (C := RX3) (T := TX3) (N := 3) hx hb hts inX3 tyX3 tyX3_ok nmX3 hown hK hP hD hS 0 rfl rfl 0 (by decide) (hts _ wd_1_146) (fun _ h9 => h9) rfl (hin rfl) rfl (tyX3_ok 0 (by decide)) rfl rfl (Nat.le_of_ble_eq_true rfl) dX3_init_12 (fun H locs hP hD hS => ?_)
  replace hP : va_P D vwCl ([(p_, .inr (3, [.ref q_5, .null, .int 0])), (q_5, .inr (0, [.int 0, .ref dz, .int 0]))]) H := hP
  replace hD : va_D A ([(p_, .inr (3, [.ref q_5, .null, .int 0])), (q_5, .inr (0, [.int 0, .ref dz, .int 0]))]) := hD
  refine lv_aload_n hx hb dX3_init_15 rfl (lv_at hl 0 rfl) ?_
  refine va_new (C := RJx4a65c) (T := TJx4a65c) (N := 3) (ci := 0) (fs := [.int 0, .null, .int 0]) hx hb hts inJx4a65c tyJx4a65c tyJx4a65c_ok hown (hts _ wd_1_120) (hts _ wd_1_121) (hts _ wd_1_9) hK hP hD hS hA rfl (by intro j hj; rcases (show j = 0 ∨ j = 1 ∨ j = 2 by omega) with rfl | rfl | rfl <;> rfl) (Nat.le_of_ble_eq_true rfl) (Nat.le_of_ble_eq_true rfl) dX3_init_16 (fun q_16 H hP hD hS => ?_)
  replace hP : va_P D vwCl ([(p_, .inr (3, [.ref q_5, .null, .int 0])), (q_5, .inr (0, [.int 0, .ref dz, .int 0])), (q_16, .inr (0, [.int 0, .null, .int 0]))]) H := hP.prm (by intro x; simp only [cn_app, cn_cons, cn_nil]; omega)
  replace hD : va_D A ([(p_, .inr (3, [.ref q_5, .null, .int 0])), (q_5, .inr (0, [.int 0, .ref dz, .int 0])), (q_16, .inr (0, [.int 0, .null, .int 0]))]) := hD.prm (by intro x; simp only [cn_app, cn_cons, cn_nil]; omega)
  refine W.widen (k := 2) (n := 6) (Nat.le_of_ble_eq_true rfl) (Nat.le_of_ble_eq_true rfl) ?_
  refine lv_dup hx hb dX3_init_19 rfl ?_
  refine fs_If ([(p_, .inr (3, [.ref q_5, .null, .int 0])), (q_5, .inr (0, [.int 0, .ref dz, .int 0]))]) ([]) (rest := [.ref q_16, .ref p_]) (As := []) ⟨hx, hb, hml, hown, hts⟩ GdL hG hS hA hK (hP) (hD) (c_Jx4a65c_init_da8c8 l D k dz mi q_16) mi_Jx4a65c_init_da8c8 wd_1_123 wd_1_122 rfl ⟨Nat.le_of_ble_eq_true rfl, Nat.le_of_ble_eq_true rfl⟩ rfl hl.1 rfl (Nat.le_of_ble_eq_true rfl) ⟨Nat.le_of_ble_eq_true rfl, Nat.le_of_ble_eq_true rfl⟩ dX3_init_20 (fun u_3 H locs hu_4 hP hD hS => ?_)
  replace hP : va_P D vwCl ([(p_, .inr (3, [.ref q_5, .null, .int 0])), (q_5, .inr (0, [.int 0, .ref dz, .int 0])), (q_16, .inr (0, [.int 0, .ref dz, .int 0]))]) H := hP
  replace hD : va_D A ([(p_, .inr (3, [.ref q_5, .null, .int 0])), (q_5, .inr (0, [.int 0, .ref dz, .int 0])), (q_16, .inr (0, [.int 0, .ref dz, .int 0]))]) := hD
  refine W.eq (g2 := F0 m 23 ls [.ref q_16, .ref p_]) rfl ?_
  refine va_putF (D := D) (ci := 3) (v := .ref q_16) (C := RX3) (T := TX3) (N := 3) hx hb hts inX3 tyX3 tyX3_ok nmX3 hown hK hP hD hS 0 rfl rfl 1 (by decide) (hts _ wd_1_147) (fun _ h9 => h9) rfl (hin rfl) rfl (tyX3_ok 1 (by decide)) rfl rfl (Nat.le_of_ble_eq_true rfl) dX3_init_23 (fun H locs hP hD hS => ?_)
  replace hP : va_P D vwCl ([(p_, .inr (3, [.ref q_5, .ref q_16, .int 0])), (q_5, .inr (0, [.int 0, .ref dz, .int 0])), (q_16, .inr (0, [.int 0, .ref dz, .int 0]))]) H := hP
  replace hD : va_D A ([(p_, .inr (3, [.ref q_5, .ref q_16, .int 0])), (q_5, .inr (0, [.int 0, .ref dz, .int 0])), (q_16, .inr (0, [.int 0, .ref dz, .int 0]))]) := hD
  refine lv_aload_n hx hb dX3_init_26 rfl (lv_at hl 0 rfl) ?_
  refine lv_iconst (v := 0) hx hb dX3_init_27 (by decide) ?_
  refine va_put (D := D) (ci := 3) (v := .int 0) (C := RX3) (T := TX3) (N := 3) hx hb hts inX3 tyX3 tyX3_ok nmX3 hown hK hP hD hS 0 rfl rfl 2 (by decide) (hts _ wd_1_148) (fun _ h9 => h9) rfl (tyX3_ok 2 (by decide)) rfl rfl (Nat.le_of_ble_eq_true rfl) dX3_init_28 (fun H locs hP hD hS => ?_)
  replace hP : va_P D vwCl ([(p_, .inr (3, [.ref q_5, .ref q_16, .int 0])), (q_5, .inr (0, [.int 0, .ref dz, .int 0])), (q_16, .inr (0, [.int 0, .ref dz, .int 0]))]) H := hP
  replace hD : va_D A ([(p_, .inr (3, [.ref q_5, .ref q_16, .int 0])), (q_5, .inr (0, [.int 0, .ref dz, .int 0])), (q_16, .inr (0, [.int 0, .ref dz, .int 0]))]) := hD
  exact fs_v hx hb hr hlocks hq (q_5, q_16) trivial hP hD hS dX3_init_31 rfl
