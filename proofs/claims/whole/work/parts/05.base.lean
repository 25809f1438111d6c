/-! ===== contracts of two forms, over one list of words: Ro (reads alone), Fs (whole world in, whole world out) ===== -/
abbrev cw (y : MethodName) (cc : ByteArray) (n : Nat) (ret : Option FieldType) : List Cond := Cond.code y cc n ret :: BW
abbrev rmd (d mc ms : Nat) : Room := { frames := d, cells := mc, slots := ms, locals := 30 * d }
abbrev Gr : Type := (Nat → Prop) → State → Heap → Prop
/-- ground facts: they outlive a warmer machine, writes inside A, and hold of less than A -/
def Gd (G : Gr) : Prop := (∀ (A : Nat → Prop) (u U : State) (H : Heap), u.WarmedH U.vm → G A u H → G A U H) ∧ (∀ (A : Nat → Prop) (U : State) (H H1 : Heap), (∀ a : Nat, a < H.size → ¬ A a → H1[a]? = H[a]?) → G A U H → G A U H1) ∧ (∀ (A B : Nat → Prop) (U : State) (H : Heap), (∀ q, B q → A q) → G A U H → G B U H)
abbrev TyL : Type := List (ClassId × FieldType)
abbrev G0 : Gr := fun _ _ _ => True
theorem Gd0 : Gd G0 := ⟨fun _ _ _ _ _ _ => trivial, fun _ _ _ _ _ _ => trivial, fun _ _ _ _ _ _ => trivial⟩
def RPc (D : va_G) (tys : TyL) (G : Gr) (av : List Value) (ws : va_W) : Array Value → State → Prop := va_Pc av (fun U => va_P D vwCl ws U.heap ∧ va_K D vwCl tys U ∧ G (fun _ => False) U U.heap)
def RQc (rv : Option Value) : Array Value → State → Outcome → State → Prop := fun _ st o t => o = .returned rv ∧ t.heap = st.heap
def Ro (l : Launch) (y : MethodName) (cc : ByteArray) (n : Nat) (ret : Option FieldType) (d : Nat) (D : va_G) (tys : TyL) (G : Gr) (av : List Value) (ws : va_W) (rv : Option Value) : Prop :=
  Met l y (cw y cc n ret) (rmd d 0 0) (RPc D tys G av ws) (RQc rv) 0 0 (fun _ => False)
def FPc (D : va_G) (tys : TyL) (G : Gr) (av : List Value) (ws : va_W) (sz : Nat) : Array Value → State → Prop := va_Pc av (fun U => U.heap.size = sz ∧ va_P D vwCl ws U.heap ∧ va_K D vwCl tys U ∧ va_D (fun _ => True) ws ∧ G (va_A ws sz) U U.heap)
def FQc {S : Type} (D : va_G) (ws : va_W) (sz : Nat) (val : S → Option Value) (post : S → Prop) (B : S → va_W) : Array Value → State → Outcome → State → Prop := fun _ st o t => (∃ u : S, o = .returned (val u) ∧ post u ∧ va_P D vwCl (B u) t.heap ∧ va_D (va_A ws sz) (B u)) ∧ va_F (va_A ws sz) st t
def Fs {S : Type} (l : Launch) (y : MethodName) (cc : ByteArray) (n : Nat) (ret : Option FieldType) (d mc ms : Nat) (D : va_G) (tys : TyL) (G : Gr) (av : List Value) (ws : va_W) (val : S → Option Value) (post : S → Prop) (B : S → va_W) : Prop :=
  ∀ sz : Nat, Met l y (cw y cc n ret) (rmd d mc ms) (FPc D tys G av ws sz) (FQc D ws sz val post B) mc ms (va_A ws sz)
abbrev Fn (l : Launch) (y : MethodName) (cc : ByteArray) (n : Nat) (ret : Option FieldType) (d mc ms : Nat) (D : va_G) (tys : TyL) (G : Gr) (av : List Value) (ws : va_W) (rv : Option Value) (ws' : va_W) : Prop :=
  Fs (S := Unit) l y cc n ret d mc ms D tys G av ws (fun _ => rv) (fun _ => True) (fun _ => ws')
/-- a method's own words, and its head's count of parameters -/
def MI (C : String) (y : MethodName) (cc : ByteArray) (maxL : Nat) (ret : Option FieldType) (n : Nat) : Prop := (Cond.initialized C ∈ BW ∧ Cond.code y cc maxL ret ∈ BW) ∧ y.cls = C ∧ y.cls ≠ "java/lang/invoke/MethodHandle" ∧ y.cls ≠ "java/lang/invoke/VarHandle" ∧ (parseMethodDescriptor y.desc).map (fun d => d.parameters.length) = some n
theorem bw_pay {args : Array Value} {s : State} {y : MethodName} {cc : ByteArray} {n : Nat} {ret : Option FieldType} (ht : ∀ w ∈ BW, w.before args s = true) (hc : Cond.code y cc n ret ∈ BW) : ∀ w ∈ cw y cc n ret, ∀ (a' : Array Value) (U : State), s.WarmedH U.vm → w.before a' U = true := by
  refine pay_in ht (fun w hw => ?_)
  rcases List.mem_cons.mp hw with h | h
  · subst h; exact ⟨hc, bw_good _ hc⟩
  · exact ⟨h, bw_good _ h⟩
section BASE
variable {p : Program} {l : Launch} {e : Env} {R : Room} {s : State} {m : MethodId} {args : Array Value} {below : List Frame} {meth : Method} {c : Code} {H H0 : Heap} {locs : List Loc} {cells slots : Nat} {Q : State → Prop}
  {cc bytes : ByteArray} {nL maxL index n mc ms d pc : Nat} {own C : String} {y : MethodName} {ret : Option FieldType} {b : Addr} {As rest st0 st1 : List Value} {ls : Array Slot} {D : va_G} {tys : TyL} {G : Gr} {A : Nat → Prop} {ws wc w1 w2 : va_W} {rv : Option Value}
theorem mi_B (mi : MI C y bytes maxL ret n) (ht : ∀ w ∈ BW, w.before args s = true) (hl : Cond.methodLink own index y ∈ BW) (hR : d + 1 ≤ R.frames ∧ 8 + (maxL + 11) + 30 * d ≤ R.locals) : CallB R s args own index y bytes maxL ret (cw y bytes maxL ret) (rmd d mc ms) mc ms n := by
  obtain ⟨⟨h1, h2⟩, hC, h3, h4, h5⟩ := mi
  subst hC
  refine ⟨rfl, rfl, hR.1, hR.2, bw_pay ht h2, List.mem_cons_self, ht _ h2, ht _ h1, ⟨h3, h4⟩, fun sig h => ?_, ht _ hl⟩
  rw [h] at h5
  exact (Option.some.inj h5).symm
theorem RPc_blind {av : List Value} (gd : Gd G) : FrameBlind (RPc D tys G av ws) := fun a U g mk q => by
  obtain ⟨q0, qP, qK, qG⟩ := q
  exact ⟨q0, qP, va_K.moved (u := U) (U := U.calling g mk a) (Vm.Alike.refl U.vm) qK, gd.1 _ U (U.calling g mk a) _ (State.WarmedH.refl U) qG⟩
theorem FPc_blind {av : List Value} {sz : Nat} (gd : Gd G) : FrameBlind (FPc D tys G av ws sz) := fun a U g mk q => by
  obtain ⟨q0, q1, qP, qK, qD, qG⟩ := q
  exact ⟨q0, q1, qP, va_K.moved (u := U) (U := U.calling g mk a) (Vm.Alike.refl U.vm) qK, qD, gd.1 _ U (U.calling g mk a) _ (State.WarmedH.refl U) qG⟩
theorem RPc_in {av : List Value} (gd : Gd G) (hG : G A s s.heap) (hS : va_S A s.heap H locs) (hK : va_K D vwCl tys s) (hP : va_P D vwCl wc H) : ∀ U : State, U.heap = H → s.WarmedH U.vm → RPc D tys G av wc av.toArray U := by
  intro U hU hW
  refine ⟨rfl, by rw [hU]; exact hP, va_K.moved hW.alike hK, ?_⟩
  rw [hU]
  exact gd.2.2 A _ U H (fun _ h => h.elim) (gd.2.1 A U s.heap H hS.2.1 (gd.1 A s U s.heap hW hG))
theorem FPc_in {av : List Value} (gd : Gd G) (hG : G A s s.heap) (hS : va_S A s.heap H locs) (hK : va_K D vwCl tys s) (hP : va_P D vwCl wc H) (hD : va_D A wc) (hF : ∀ q, va_A wc H.size q → A q) : ∀ U : State, U.heap = H → s.WarmedH U.vm → FPc D tys G av wc H.size av.toArray U := by
  intro U hU hW
  refine ⟨rfl, by rw [hU], by rw [hU]; exact hP, va_K.moved hW.alike hK, hD.weaken (fun _ _ _ _ => trivial), ?_⟩
  rw [hU]
  exact gd.2.2 A _ U H hF (gd.2.1 A U s.heap H hS.2.1 (gd.1 A s U s.heap hW hG))
theorem ro_go {args0 : Array Value} (hr : CallRun p l e R s m args below meth c H locs cells slots 0 0 (F0 m pc ls st0) rest (RQc rv args0) (fun _ => False)) (h1 : rv.toList ++ rest = st1)
    (kk : W p l e R s m args below meth c H locs cells slots Q (F0 m (pc + 3) ls st1)) : W p l e R s m args below meth c H locs cells slots Q (F0 m pc ls st0) := by
  intro T hT X
  obtain ⟨v, st₀, t, T', L, h0, X', hL, e1, ⟨hv, hh⟩, st⟩ := hr T hT X
  cases hv
  subst h1
  obtain ⟨t2, a1, b1⟩ := kk T' (by rw [e1, hh, h0]) (Stand.forget X' (fun q h => (hL q h).elim))
  exact ⟨t2, st t2 a1, b1⟩
/-- a call that reads alone, by an object -/
theorem ro_V (S : CallFix p m c cc nL s args BW own) (gd : Gd G) (hG : G A s s.heap) (hS : va_S A s.heap H locs) (hK : va_K D vwCl tys s) (hM : Ro l y bytes maxL ret d D tys G (.ref b :: As) wc rv) (mi : MI C y bytes maxL ret n) (hin : Cond.instanceMethod y ∈ BW) (hse : Cond.selects C y y ∈ BW) (hl : Cond.methodLink own index y ∈ BW) (hR : d + 1 ≤ R.frames ∧ 8 + (maxL + 11) + 30 * d ≤ R.locals)
    (hP : va_P D vwCl wc H) (q0 : Nat) {ci : Nat} {fs : List Value} {T : u_T} {N : Nat} (he : wc[q0]? = some (b, .inr (ci, fs))) (hc : vwCl[ci]? = some (C, T, N)) (hn : As.length = n) (hsize : ls.size = nL) (h0 : st0 = As.reverse ++ .ref b :: rest) (hW : (rest.map fun v => v.category).sum ≤ 8) (h1 : rv.toList ++ rest = st1) (hcs : cells ≤ R.cells ∧ slots ≤ R.slots) (hdg : decode cc pc = .ok (.invokevirtual index, 3))
    (kk : W p l e R s m args below meth c H locs cells slots Q (F0 m (pc + 3) ls st1)) : W p l e R s m args below meth c H locs cells slots Q (F0 m pc ls st0) := by
  have hts := S.2.2.2.2
  refine ro_go (W.runV (rest := rest) S hM ⟨mi_B mi hts hl hR, hts _ hin, hts _ hse⟩ ⟨RPc_blind gd, va_recv hK hP hc he, RPc_in gd hG hS hK hP⟩ rfl hn hsize h0 (lv_room hW) hdg hcs) h1 kk
/-- a static call that reads alone -/
theorem ro_S (S : CallFix p m c cc nL s args BW own) (gd : Gd G) (hG : G A s s.heap) (hS : va_S A s.heap H locs) (hK : va_K D vwCl tys s) (hM : Ro l y bytes maxL ret d D tys G As wc rv) (mi : MI C y bytes maxL ret n) (hst : Cond.static y ∈ BW) (hl : Cond.methodLink own index y ∈ BW) (hR : d + 1 ≤ R.frames ∧ 8 + (maxL + 11) + 30 * d ≤ R.locals)
    (hP : va_P D vwCl wc H) (hn : As.length = n) (hsize : ls.size = nL) (h0 : st0 = As.reverse ++ rest) (hW : (rest.map fun v => v.category).sum ≤ 8) (h1 : rv.toList ++ rest = st1) (hcs : cells ≤ R.cells ∧ slots ≤ R.slots) (hdg : decode cc pc = .ok (.invokestatic index, 3))
    (kk : W p l e R s m args below meth c H locs cells slots Q (F0 m (pc + 3) ls st1)) : W p l e R s m args below meth c H locs cells slots Q (F0 m pc ls st0) := by
  have hts := S.2.2.2.2
  refine ro_go (W.runS (rest := rest) S hM ⟨mi_B mi hts hl hR, hts _ hst⟩ ⟨RPc_blind gd, RPc_in gd hG hS hK hP⟩ rfl hn hsize h0 (lv_room hW) hdg hcs) h1 kk
theorem fs_go {args0 : Array Value} {S : Type} {val : S → Option Value} {post : S → Prop} {B : S → va_W} (hr : va_Run p l e R s m args below meth c H locs cells slots mc ms (F0 m pc ls st0) rest (FQc D ws H.size val post B args0) (va_A ws H.size)) (hP : va_P D vwCl (w1 ++ (ws ++ w2)) H) (hD : va_D A (w1 ++ (ws ++ w2))) (hS : va_S A H0 H locs) (hF : ∀ q, va_A ws H.size q → A q)
    (kk : ∀ (u : S) (H1 : Heap) (locs1 : List Loc), post u → va_P D vwCl (w1 ++ (B u ++ w2)) H1 → va_D A (w1 ++ (B u ++ w2)) → va_S A H0 H1 locs1 → W p l e R s m args below meth c H1 locs1 (cells + mc) (slots + ms) Q (F0 m (pc + 3) ls ((val u).toList ++ rest))) : W p l e R s m args below meth c H locs cells slots Q (F0 m pc ls st0) := by
  intro T hT X
  obtain ⟨v, st₀, t, T', L, h0, X', hL, e1, e2, ⟨⟨u, hv, hp, hPu, hDu⟩, hz, hk⟩, st⟩ := hr T hT X
  cases hv
  rw [h0] at hz hk
  rw [← e1] at hPu hk hz
  have hap : ∀ (q : Nat × va_E), q ∈ w1 ∨ q ∈ w2 → q.1 < H.size ∧ ¬ va_A ws H.size q.1 := by
    intro q hq
    have hlt : q.1 < H.size := by
      have hm : q ∈ w1 ++ (ws ++ w2) := by
        rcases hq with h | h
        · exact List.mem_append_left _ h
        · exact List.mem_append_right _ (List.mem_append_right _ h)
      obtain ⟨k, hk9⟩ := List.getElem?_of_mem hm
      exact (hP k q hk9).lt
    refine ⟨hlt, fun hA9 => ?_⟩
    rcases hA9 with ⟨k, e9, hk9⟩ | h9
    · have hkl : k < ws.length := (List.getElem?_eq_some_iff.mp hk9).1
      have hi : (w1 ++ (ws ++ w2))[w1.length + k]? = some (q.1, e9) := by
        rw [List.getElem?_append_right (by omega), Nat.add_sub_cancel_left, List.getElem?_append_left hkl]
        exact hk9
      rcases hq with h | h
      · obtain ⟨j, hj⟩ := List.getElem?_of_mem h
        have hjl : j < w1.length := (List.getElem?_eq_some_iff.mp hj).1
        have hj2 : (w1 ++ (ws ++ w2))[j]? = some q := by rw [List.getElem?_append_left hjl]; exact hj
        have := hD.1 _ _ _ _ hj2 hi rfl
        omega
      · obtain ⟨j, hj⟩ := List.getElem?_of_mem h
        have hj2 : (w1 ++ (ws ++ w2))[w1.length + (ws.length + j)]? = some q := by
          rw [List.getElem?_append_right (by omega), Nat.add_sub_cancel_left, List.getElem?_append_right (by omega), Nat.add_sub_cancel_left]
          exact hj
        have := hD.1 _ _ _ _ hj2 hi rfl
        omega
    · omega
  have hP1 : va_P D vwCl w1 T'.heap := fun k q hk9 => by
    have hq := hap q (Or.inl (List.mem_of_getElem? hk9))
    have hkl : k < w1.length := (List.getElem?_eq_some_iff.mp hk9).1
    exact (hP k q (by rw [List.getElem?_append_left hkl]; exact hk9)).kept (hk q.1 hq.1 hq.2)
  have hP2 : va_P D vwCl w2 T'.heap := fun k q hk9 => by
    have hq := hap q (Or.inr (List.mem_of_getElem? hk9))
    exact (hP (w1.length + (ws.length + k)) q (by rw [List.getElem?_append_right (by omega), Nat.add_sub_cancel_left, List.getElem?_append_right (by omega), Nat.add_sub_cancel_left]; exact hk9)).kept (hk q.1 hq.1 hq.2)
  have hD1 : va_D A w1 := ⟨fun i j p q h1 h2 h3 => hD.1 i j p q (by rw [List.getElem?_append_left (List.getElem?_eq_some_iff.mp h1).1]; exact h1) (by rw [List.getElem?_append_left (List.getElem?_eq_some_iff.mp h2).1]; exact h2) h3, fun k q h1 => hD.2 k q (by rw [List.getElem?_append_left (List.getElem?_eq_some_iff.mp h1).1]; exact h1)⟩
  have hs2 : ∀ (k : Nat) (q : Nat × va_E), w2[k]? = some q → (w1 ++ (ws ++ w2))[w1.length + (ws.length + k)]? = some q := fun k q h => by
    rw [List.getElem?_append_right (by omega), Nat.add_sub_cancel_left, List.getElem?_append_right (by omega), Nat.add_sub_cancel_left]; exact h
  have hD2 : va_D A w2 := ⟨fun i j p q h1 h2 h3 => by have := hD.1 _ _ p q (hs2 i p h1) (hs2 j q h2) h3; omega, fun k q h1 => hD.2 _ q (hs2 k q h1)⟩
  have hDu' : va_D A (B u) := hDu.weaken (fun _ q _ h => hF q.1 h)
  have hDn : va_D A (w1 ++ (B u ++ w2)) := by
    refine hD1.app (hDu'.app hD2 (fun i j p q h1 h2 h3 => ?_)) (fun i j p q h1 h2 h3 => ?_)
    · exact (hap q (Or.inr (List.mem_of_getElem? h2))).2 (by rw [← h3]; exact hDu.2 i p h1)
    · rcases List.mem_append.mp (List.mem_of_getElem? h2) with h4 | h4
      · obtain ⟨k, hk9⟩ := List.getElem?_of_mem h4
        exact (hap p (Or.inl (List.mem_of_getElem? h1))).2 (by rw [h3]; exact hDu.2 k q hk9)
      · obtain ⟨k, hk9⟩ := List.getElem?_of_mem h4
        have hil : i < w1.length := (List.getElem?_eq_some_iff.mp h1).1
        have := hD.1 _ _ p q (by rw [List.getElem?_append_left hil]; exact h1) (hs2 k q hk9) h3
        omega
  obtain ⟨t2, a1, b1⟩ := kk u T'.heap (locs ++ L) hp (hP1.app (hPu.app hP2)) hDn
    ⟨Nat.le_trans hS.1 hz, fun q h1 h2 => by rw [hk q (Nat.lt_of_lt_of_le h1 hS.1) (fun z => h2 (hF q z))]; exact hS.2.1 q h1 h2, fun q hq => by
      rcases List.mem_append.mp hq with h | h
      · exact hS.2.2 q h
      · exact hF _ (hL q h)⟩ T' rfl X'
  exact ⟨t2, st t2 a1, b1⟩
theorem va_A_mid (hD : va_D A (w1 ++ (ws ++ w2))) (hS : va_S A s.heap H locs) (hA : ∀ q, s.heap.size ≤ q → A q) : ∀ q, va_A ws H.size q → A q := by
  intro q hq
  rcases hq with ⟨k, e9, hk⟩ | h
  · exact hD.2 (w1.length + k) (q, e9) (by rw [List.getElem?_append_right (by omega), Nat.add_sub_cancel_left, List.getElem?_append_left (List.getElem?_eq_some_iff.mp hk).1]; exact hk)
  · exact hA q (Nat.le_trans hS.1 h)
theorem va_P_mid (hP : va_P D vwCl (w1 ++ (ws ++ w2)) H) : va_P D vwCl ws H := fun k q hk => hP (w1.length + k) q (by rw [List.getElem?_append_right (by omega), Nat.add_sub_cancel_left, List.getElem?_append_left (List.getElem?_eq_some_iff.mp hk).1]; exact hk)
theorem va_D_mid (hD : va_D A (w1 ++ (ws ++ w2))) : va_D A ws := by
  have hs : ∀ (k : Nat) (q : Nat × va_E), ws[k]? = some q → (w1 ++ (ws ++ w2))[w1.length + k]? = some q := fun k q hk => by
    rw [List.getElem?_append_right (by omega), Nat.add_sub_cancel_left, List.getElem?_append_left (List.getElem?_eq_some_iff.mp hk).1]; exact hk
  exact ⟨fun i j p q h1 h2 h3 => by have := hD.1 _ _ p q (hs i p h1) (hs j q h2) h3; omega, fun k q h => hD.2 _ q (hs k q h)⟩
/-- a call that changes the part ws of the world w1 ++ (ws ++ w2), by an object -/
theorem fs_Vf {S0 : Type} {val : S0 → Option Value} {post : S0 → Prop} {B : S0 → va_W} (w1 w2 : va_W) (S : CallFix p m c cc nL s args BW own) (gd : Gd G) (hG : G A s s.heap) (hS : va_S A s.heap H locs) (hA : ∀ q, s.heap.size ≤ q → A q) (hK : va_K D vwCl tys s) (hP : va_P D vwCl (w1 ++ (ws ++ w2)) H) (hD : va_D A (w1 ++ (ws ++ w2))) (hM : Fs l y bytes maxL ret d mc ms D tys G (.ref b :: As) ws val post B) (mi : MI C y bytes maxL ret n) (hin : Cond.instanceMethod y ∈ BW) (hse : Cond.selects C y y ∈ BW) (hl : Cond.methodLink own index y ∈ BW) (hR : d + 1 ≤ R.frames ∧ 8 + (maxL + 11) + 30 * d ≤ R.locals)
    (q0 : Nat) {ci : Nat} {fs : List Value} {T : u_T} {N : Nat} (he : ws[q0]? = some (b, .inr (ci, fs))) (hc : vwCl[ci]? = some (C, T, N)) (hn : As.length = n) (hsize : ls.size = nL) (h0 : st0 = As.reverse ++ .ref b :: rest) (hW : (rest.map fun v => v.category).sum ≤ 8) (hcs : cells + mc ≤ R.cells ∧ slots + ms ≤ R.slots) (hdg : decode cc pc = .ok (.invokevirtual index, 3))
    (kk : ∀ (u : S0) (H1 : Heap) (locs1 : List Loc), post u → va_P D vwCl (w1 ++ (B u ++ w2)) H1 → va_D A (w1 ++ (B u ++ w2)) → va_S A s.heap H1 locs1 → W p l e R s m args below meth c H1 locs1 (cells + mc) (slots + ms) Q (F0 m (pc + 3) ls ((val u).toList ++ rest))) : W p l e R s m args below meth c H locs cells slots Q (F0 m pc ls st0) := by
  have hts := S.2.2.2.2
  have hPc : va_P D vwCl ws H := va_P_mid hP
  have hF := va_A_mid hD hS hA
  exact fs_go (va_runV (rest := rest) S (hM H.size) ⟨mi_B mi hts hl hR, hts _ hin, hts _ hse⟩ ⟨FPc_blind gd, va_recv hK hPc hc he, FPc_in gd hG hS hK hPc (va_D_mid hD) hF⟩ rfl hn hsize h0 (lv_room hW) hdg hcs) hP hD hS hF kk
theorem fs_Sf {S0 : Type} {val : S0 → Option Value} {post : S0 → Prop} {B : S0 → va_W} (w1 w2 : va_W) (S : CallFix p m c cc nL s args BW own) (gd : Gd G) (hG : G A s s.heap) (hS : va_S A s.heap H locs) (hA : ∀ q, s.heap.size ≤ q → A q) (hK : va_K D vwCl tys s) (hP : va_P D vwCl (w1 ++ (ws ++ w2)) H) (hD : va_D A (w1 ++ (ws ++ w2))) (hM : Fs l y bytes maxL ret d mc ms D tys G As ws val post B) (mi : MI C y bytes maxL ret n) (hst : Cond.static y ∈ BW) (hl : Cond.methodLink own index y ∈ BW) (hR : d + 1 ≤ R.frames ∧ 8 + (maxL + 11) + 30 * d ≤ R.locals)
    (hn : As.length = n) (hsize : ls.size = nL) (h0 : st0 = As.reverse ++ rest) (hW : (rest.map fun v => v.category).sum ≤ 8) (hcs : cells + mc ≤ R.cells ∧ slots + ms ≤ R.slots) (hdg : decode cc pc = .ok (.invokestatic index, 3))
    (kk : ∀ (u : S0) (H1 : Heap) (locs1 : List Loc), post u → va_P D vwCl (w1 ++ (B u ++ w2)) H1 → va_D A (w1 ++ (B u ++ w2)) → va_S A s.heap H1 locs1 → W p l e R s m args below meth c H1 locs1 (cells + mc) (slots + ms) Q (F0 m (pc + 3) ls ((val u).toList ++ rest))) : W p l e R s m args below meth c H locs cells slots Q (F0 m pc ls st0) := by
  have hts := S.2.2.2.2
  have hPc : va_P D vwCl ws H := va_P_mid hP
  have hF := va_A_mid hD hS hA
  exact fs_go (va_runS (rest := rest) S (hM H.size) ⟨mi_B mi hts hl hR, hts _ hst⟩ ⟨FPc_blind gd, FPc_in gd hG hS hK hPc (va_D_mid hD) hF⟩ rfl hn hsize h0 (lv_room hW) hdg hcs) hP hD hS hF kk
theorem fs_If {S0 : Type} {val : S0 → Option Value} {post : S0 → Prop} {B : S0 → va_W} (w1 w2 : va_W) (S : CallFix p m c cc nL s args BW own) (gd : Gd G) (hG : G A s s.heap) (hS : va_S A s.heap H locs) (hA : ∀ q, s.heap.size ≤ q → A q) (hK : va_K D vwCl tys s) (hP : va_P D vwCl (w1 ++ (ws ++ w2)) H) (hD : va_D A (w1 ++ (ws ++ w2))) (hM : Fs l y bytes maxL none d mc ms D tys G (.ref b :: As) ws val post B) (mi : MI C y bytes maxL none n) (hin : Cond.instanceMethod y ∈ BW) (hl : Cond.methodLink own index y ∈ BW) (hy1 : y.name = "<init>") (hR : d + 1 ≤ R.frames ∧ 8 + (maxL + 11) + 30 * d ≤ R.locals)
    (hn : As.length = n) (hsize : ls.size = nL) (h0 : st0 = As.reverse ++ .ref b :: rest) (hW : (rest.map fun v => v.category).sum ≤ 8) (hcs : cells + mc ≤ R.cells ∧ slots + ms ≤ R.slots) (hdg : decode cc pc = .ok (.invokespecial index, 3))
    (kk : ∀ (u : S0) (H1 : Heap) (locs1 : List Loc), post u → va_P D vwCl (w1 ++ (B u ++ w2)) H1 → va_D A (w1 ++ (B u ++ w2)) → va_S A s.heap H1 locs1 → W p l e R s m args below meth c H1 locs1 (cells + mc) (slots + ms) Q (F0 m (pc + 3) ls ((val u).toList ++ rest))) : W p l e R s m args below meth c H locs cells slots Q (F0 m pc ls st0) := by
  have hts := S.2.2.2.2
  have hPc : va_P D vwCl ws H := va_P_mid hP
  have hF := va_A_mid hD hS hA
  exact fs_go (va_runI (rest := rest) S (hM H.size) ⟨mi_B mi hts hl hR, hy1, hts _ hin⟩ ⟨FPc_blind gd, FPc_in gd hG hS hK hPc (va_D_mid hD) hF⟩ rfl hn hsize h0 (lv_room hW) hdg hcs) hP hD hS hF kk
/-- the world is the callee's own, whole; one answer, one world -/
theorem fn_V {ws' : va_W} (S : CallFix p m c cc nL s args BW own) (gd : Gd G) (hG : G A s s.heap) (hS : va_S A s.heap H locs) (hA : ∀ q, s.heap.size ≤ q → A q) (hK : va_K D vwCl tys s) (hP : va_P D vwCl ws H) (hD : va_D A ws) (hM : Fn l y bytes maxL ret d mc ms D tys G (.ref b :: As) ws rv ws') (mi : MI C y bytes maxL ret n) (hin : Cond.instanceMethod y ∈ BW) (hse : Cond.selects C y y ∈ BW) (hl : Cond.methodLink own index y ∈ BW) (hR : d + 1 ≤ R.frames ∧ 8 + (maxL + 11) + 30 * d ≤ R.locals)
    (q0 : Nat) {ci : Nat} {fs : List Value} {T : u_T} {N : Nat} (he : ws[q0]? = some (b, .inr (ci, fs))) (hc : vwCl[ci]? = some (C, T, N)) (hn : As.length = n) (hsize : ls.size = nL) (h0 : st0 = As.reverse ++ .ref b :: rest) (hW : (rest.map fun v => v.category).sum ≤ 8) (h1 : rv.toList ++ rest = st1) (hcs : cells + mc ≤ R.cells ∧ slots + ms ≤ R.slots) (hdg : decode cc pc = .ok (.invokevirtual index, 3))
    (kk : ∀ (H1 : Heap) (locs1 : List Loc), va_P D vwCl ws' H1 → va_D A ws' → va_S A s.heap H1 locs1 → W p l e R s m args below meth c H1 locs1 (cells + mc) (slots + ms) Q (F0 m (pc + 3) ls st1)) : W p l e R s m args below meth c H locs cells slots Q (F0 m pc ls st0) := by
  have ea : ∀ w : va_W, ([] : va_W) ++ (w ++ []) = w := fun w => by simp
  refine fs_Vf [] [] S gd hG hS hA hK (by rw [ea]; exact hP) (by rw [ea]; exact hD) hM mi hin hse hl hR q0 he hc hn hsize h0 hW hcs hdg (fun u H1 locs1 _ hP1 hD1 hS1 => ?_)
  rw [ea] at hP1 hD1
  rw [h1]
  exact kk H1 locs1 hP1 hD1 hS1
theorem fn_S {ws' : va_W} (S : CallFix p m c cc nL s args BW own) (gd : Gd G) (hG : G A s s.heap) (hS : va_S A s.heap H locs) (hA : ∀ q, s.heap.size ≤ q → A q) (hK : va_K D vwCl tys s) (hP : va_P D vwCl ws H) (hD : va_D A ws) (hM : Fn l y bytes maxL ret d mc ms D tys G As ws rv ws') (mi : MI C y bytes maxL ret n) (hst : Cond.static y ∈ BW) (hl : Cond.methodLink own index y ∈ BW) (hR : d + 1 ≤ R.frames ∧ 8 + (maxL + 11) + 30 * d ≤ R.locals)
    (hn : As.length = n) (hsize : ls.size = nL) (h0 : st0 = As.reverse ++ rest) (hW : (rest.map fun v => v.category).sum ≤ 8) (h1 : rv.toList ++ rest = st1) (hcs : cells + mc ≤ R.cells ∧ slots + ms ≤ R.slots) (hdg : decode cc pc = .ok (.invokestatic index, 3))
    (kk : ∀ (H1 : Heap) (locs1 : List Loc), va_P D vwCl ws' H1 → va_D A ws' → va_S A s.heap H1 locs1 → W p l e R s m args below meth c H1 locs1 (cells + mc) (slots + ms) Q (F0 m (pc + 3) ls st1)) : W p l e R s m args below meth c H locs cells slots Q (F0 m pc ls st0) := by
  have ea : ∀ w : va_W, ([] : va_W) ++ (w ++ []) = w := fun w => by simp
  refine fs_Sf [] [] S gd hG hS hA hK (by rw [ea]; exact hP) (by rw [ea]; exact hD) hM mi hst hl hR hn hsize h0 hW hcs hdg (fun u H1 locs1 _ hP1 hD1 hS1 => ?_)
  rw [ea] at hP1 hD1
  rw [h1]
  exact kk H1 locs1 hP1 hD1 hS1
end BASE
section BODY
variable {l : Launch} {cc : ByteArray} {n d mc ms : Nat} {y : MethodName} {ret : Option FieldType} {D : va_G} {tys : TyL} {G : Gr} {av : List Value} {ws : va_W} {rv : Option Value}
/-- the body of a method that reads alone -/
theorem ro_body (hy : plainName y.cls = true) (hn : (lg_sl av).length ≤ n)
    (body : ∀ (p : Program) (e : Env) (s : State) (m : MethodId) (args : Array Value) (below : List Frame) (meth : Method) (c : Code) (Q : State → Prop), p.tables.exec = Jvm.exec → c.code = cc → c.maxLocals = n → s.vm.findClass y.cls = some m.cls → (∀ w ∈ BW, w.before args s = true) → va_K D vwCl tys s → va_P D vwCl ws s.heap → va_S (fun _ => False) s.heap s.heap [] → G (fun _ => False) s s.heap →
      meth.sig.returnType = ret → (∀ (g : JFrame), W p l e (rmd d 0 0) s m args below meth c s.heap [] 0 0 (MQ below (RQc rv) args s 0 0 (fun _ => False)) g → W p l e (rmd d 0 0) s m args below meth c s.heap [] 0 0 Q g) → meth.locks = false → ∀ ls : Array Slot, lv_has ls n (lv_args 0 av) → W p l e (rmd d 0 0) s m args below meth c s.heap [] 0 0 Q (F0 m 0 ls [])) : Ro l y cc n ret d D tys G av ws rv := by
  refine Met.ofW (cc := cc) (maxL := n) (ret := ret) hy rfl ?_
  intro p e s m args below meth c s₁ B hml hv
  obtain ⟨rfl, hP, hK, hG⟩ := hv
  have hl := lv_entry av (n := n) hn
  rw [lg_entry_eq]
  exact body p e s m av.toArray below meth c _ B.exec B.bytes hml (findClass_of_methodNamed B.named) (fun w hw => atoms_spec (ws := cw y cc n ret) B.pre w (List.mem_cons_of_mem _ hw)) hK hP va_S.rf hG B.returns (fun g h => h) B.notSynchronized _ hl
/-- the body of a method that changes its world -/
theorem fs_body {S : Type} {val : S → Option Value} {post : S → Prop} {B : S → va_W} (hy : plainName y.cls = true) (hn : (lg_sl av).length ≤ n)
    (body : ∀ (p : Program) (e : Env) (s : State) (m : MethodId) (args : Array Value) (below : List Frame) (meth : Method) (c : Code) (Q : State → Prop) (A : Nat → Prop), p.tables.exec = Jvm.exec → c.code = cc → c.maxLocals = n → s.vm.findClass y.cls = some m.cls → (∀ w ∈ BW, w.before args s = true) → va_K D vwCl tys s → va_P D vwCl ws s.heap → va_D A ws → va_S A s.heap s.heap [] → (∀ q, s.heap.size ≤ q → A q) → G A s s.heap → (y.name = "<init>" → meth.name = "<init>") →
      meth.sig.returnType = ret → (∀ (H : Heap) (locs : List Loc) (g : JFrame), va_S A s.heap H locs → W p l e (rmd d mc ms) s m args below meth c H locs mc ms (MQ below (fun _ st o t => (∃ u : S, o = .returned (val u) ∧ post u ∧ va_P D vwCl (B u) t.heap ∧ va_D A (B u)) ∧ t.heap = H) args s mc ms A) g → W p l e (rmd d mc ms) s m args below meth c H locs mc ms Q g) → meth.locks = false → ∀ ls : Array Slot, lv_has ls n (lv_args 0 av) → W p l e (rmd d mc ms) s m args below meth c s.heap [] 0 0 Q (F0 m 0 ls [])) : Fs l y cc n ret d mc ms D tys G av ws val post B := by
  intro sz
  refine Met.ofW (cc := cc) (maxL := n) (ret := ret) hy rfl ?_
  intro p e s m args below meth c s₁ Bd hml hv
  obtain ⟨rfl, hsz, hP, hK, hD, hG⟩ := hv
  subst hsz
  have hl := lv_entry av (n := n) hn
  rw [lg_entry_eq]
  refine body p e s m av.toArray below meth c _ (va_A ws s.heap.size) Bd.exec Bd.bytes hml (findClass_of_methodNamed Bd.named) (fun w hw => atoms_spec (ws := cw y cc n ret) Bd.pre w (List.mem_cons_of_mem _ hw)) hK hP hD.self va_S.rf (fun q h => Or.inr h) hG (fun hi => ((name_of_methodNamed Bd.named Bd.method).1).trans hi) Bd.returns (fun H locs g hS h => ?_) Bd.notSynchronized _ hl
  intro T hT X
  obtain ⟨t, a1, o, b1, b2, ⟨⟨u, hu⟩, b4⟩, b5⟩ := h T hT X
  exact ⟨t, a1, o, b1, b2, ⟨⟨u, hu⟩, hS.F b4⟩, b5⟩
end BODY
section RET
variable {p : Program} {l : Launch} {e : Env} {R : Room} {s : State} {m : MethodId} {args : Array Value} {below : List Frame} {meth : Method} {c : Code} {H : Heap} {locs : List Loc} {cells slots : Nat} {Q : State → Prop} {cc : ByteArray} {pc : Nat} {ls : Array Slot} {D : va_G} {A : Nat → Prop} {rv : Option Value}
theorem ro_i (hx : p.tables.exec = Jvm.exec) (hb : c.code = cc) (hr : meth.sig.returnType = some .int) (hlocks : meth.locks = false) (hq : ∀ (g : JFrame), W p l e R s m args below meth c s.heap [] 0 0 (MQ below (RQc rv) args s 0 0 (fun _ => False)) g → W p l e R s m args below meth c s.heap [] 0 0 Q g) {v : Int32} (hdg : decode cc pc = .ok (.ireturn, 1)) (hv : some (.int v) = rv) : W p l e R s m args below meth c s.heap [] 0 0 Q (F0 m pc ls [.int v]) :=
  hq _ (W.iret hx hb hr (fun t ht _ => ⟨by rw [hv], ht⟩) (fun q h => by cases h) hdg hlocks)
theorem ro_z (hx : p.tables.exec = Jvm.exec) (hb : c.code = cc) (hr : meth.sig.returnType = some .boolean) (hlocks : meth.locks = false) (hq : ∀ (g : JFrame), W p l e R s m args below meth c s.heap [] 0 0 (MQ below (RQc rv) args s 0 0 (fun _ => False)) g → W p l e R s m args below meth c s.heap [] 0 0 Q g) {v : Int32} (hn : narrow .boolean (.int v) = .int v) (hdg : decode cc pc = .ok (.ireturn, 1)) (hv : some (.int v) = rv) : W p l e R s m args below meth c s.heap [] 0 0 Q (F0 m pc ls [.int v]) :=
  hq _ (W.zret hx hb hr hn (fun t ht _ => ⟨by rw [hv], ht⟩) (fun q h => by cases h) hdg hlocks)
theorem ro_l (hx : p.tables.exec = Jvm.exec) (hb : c.code = cc) (hr : meth.sig.returnType = some .long) (hlocks : meth.locks = false) (hq : ∀ (g : JFrame), W p l e R s m args below meth c s.heap [] 0 0 (MQ below (RQc rv) args s 0 0 (fun _ => False)) g → W p l e R s m args below meth c s.heap [] 0 0 Q g) {v : Int64} (hdg : decode cc pc = .ok (.lreturn, 1)) (hv : some (.long v) = rv) : W p l e R s m args below meth c s.heap [] 0 0 Q (F0 m pc ls [.long v]) :=
  hq _ (W.lret hx hb hr (fun t ht _ => ⟨by rw [hv], ht⟩) (fun q h => by cases h) hdg hlocks)
theorem ro_a (hx : p.tables.exec = Jvm.exec) (hb : c.code = cc) {rt : FieldType} (hr : meth.sig.returnType = some rt) (hrt : (∃ n, rt = .object n) ∨ ∃ t, rt = .array t) (hlocks : meth.locks = false) (hq : ∀ (g : JFrame), W p l e R s m args below meth c s.heap [] 0 0 (MQ below (RQc rv) args s 0 0 (fun _ => False)) g → W p l e R s m args below meth c s.heap [] 0 0 Q g) {v : Value} (hvr : v = .null ∨ ∃ a, v = .ref a) (hdg : decode cc pc = .ok (.areturn, 1)) (hv : some v = rv) : W p l e R s m args below meth c s.heap [] 0 0 Q (F0 m pc ls [v]) :=
  hq _ (W.aret hx hb hr hrt hvr (fun t ht _ => ⟨by rw [hv], ht⟩) (fun q h => by cases h) hdg hlocks)
theorem ro_v (hx : p.tables.exec = Jvm.exec) (hb : c.code = cc) (hr : meth.sig.returnType = none) (hlocks : meth.locks = false) (hq : ∀ (g : JFrame), W p l e R s m args below meth c s.heap [] 0 0 (MQ below (RQc rv) args s 0 0 (fun _ => False)) g → W p l e R s m args below meth c s.heap [] 0 0 Q g) (hdg : decode cc pc = .ok (.return_, 1)) (hv : none = rv) : W p l e R s m args below meth c s.heap [] 0 0 Q (F0 m pc ls []) :=
  hq _ (W.vret hx hb hr (fun t ht _ => ⟨by rw [hv], ht⟩) (fun q h => by cases h) hdg hlocks)
variable {S : Type} {val : S → Option Value} {post : S → Prop} {B : S → va_W}
abbrev fs_hq (p : Program) (l : Launch) (e : Env) (R : Room) (s : State) (m : MethodId) (args : Array Value) (below : List Frame) (meth : Method) (c : Code) (cells slots : Nat) (Q : State → Prop) (D : va_G) (A : Nat → Prop) {S : Type} (val : S → Option Value) (post : S → Prop) (B : S → va_W) : Prop := ∀ (H : Heap) (locs : List Loc) (g : JFrame), va_S A s.heap H locs → W p l e R s m args below meth c H locs cells slots (MQ below (fun _ st o t => (∃ u : S, o = .returned (val u) ∧ post u ∧ va_P D vwCl (B u) t.heap ∧ va_D A (B u)) ∧ t.heap = H) args s cells slots A) g → W p l e R s m args below meth c H locs cells slots Q g
theorem fs_i (hx : p.tables.exec = Jvm.exec) (hb : c.code = cc) (hr : meth.sig.returnType = some .int) (hlocks : meth.locks = false) (hq : fs_hq p l e R s m args below meth c cells slots Q D A val post B) (u : S) (hu : post u) (hP : va_P D vwCl (B u) H) (hD : va_D A (B u)) (hS : va_S A s.heap H locs) {v : Int32} (hdg : decode cc pc = .ok (.ireturn, 1)) (hv : some (.int v) = val u) : W p l e R s m args below meth c H locs cells slots Q (F0 m pc ls [.int v]) :=
  hq _ _ _ hS (W.iret hx hb hr (fun t ht _ => ⟨⟨u, by rw [hv], hu, by rw [ht]; exact hP, hD⟩, ht⟩) hS.2.2 hdg hlocks)
theorem fs_z (hx : p.tables.exec = Jvm.exec) (hb : c.code = cc) (hr : meth.sig.returnType = some .boolean) (hlocks : meth.locks = false) (hq : fs_hq p l e R s m args below meth c cells slots Q D A val post B) (u : S) (hu : post u) (hP : va_P D vwCl (B u) H) (hD : va_D A (B u)) (hS : va_S A s.heap H locs) {v : Int32} (hn : narrow .boolean (.int v) = .int v) (hdg : decode cc pc = .ok (.ireturn, 1)) (hv : some (.int v) = val u) : W p l e R s m args below meth c H locs cells slots Q (F0 m pc ls [.int v]) :=
  hq _ _ _ hS (W.zret hx hb hr hn (fun t ht _ => ⟨⟨u, by rw [hv], hu, by rw [ht]; exact hP, hD⟩, ht⟩) hS.2.2 hdg hlocks)
theorem fs_l (hx : p.tables.exec = Jvm.exec) (hb : c.code = cc) (hr : meth.sig.returnType = some .long) (hlocks : meth.locks = false) (hq : fs_hq p l e R s m args below meth c cells slots Q D A val post B) (u : S) (hu : post u) (hP : va_P D vwCl (B u) H) (hD : va_D A (B u)) (hS : va_S A s.heap H locs) {v : Int64} (hdg : decode cc pc = .ok (.lreturn, 1)) (hv : some (.long v) = val u) : W p l e R s m args below meth c H locs cells slots Q (F0 m pc ls [.long v]) :=
  hq _ _ _ hS (W.lret hx hb hr (fun t ht _ => ⟨⟨u, by rw [hv], hu, by rw [ht]; exact hP, hD⟩, ht⟩) hS.2.2 hdg hlocks)
theorem fs_v (hx : p.tables.exec = Jvm.exec) (hb : c.code = cc) (hr : meth.sig.returnType = none) (hlocks : meth.locks = false) (hq : fs_hq p l e R s m args below meth c cells slots Q D A val post B) (u : S) (hu : post u) (hP : va_P D vwCl (B u) H) (hD : va_D A (B u)) (hS : va_S A s.heap H locs) (hdg : decode cc pc = .ok (.return_, 1)) (hv : none = val u) : W p l e R s m args below meth c H locs cells slots Q (F0 m pc ls []) :=
  hq _ _ _ hS (W.vret hx hb hr (fun t ht _ => ⟨⟨u, by rw [hv], hu, by rw [ht]; exact hP, hD⟩, ht⟩) hS.2.2 hdg hlocks)
theorem fs_a (hx : p.tables.exec = Jvm.exec) (hb : c.code = cc) {rt : FieldType} (hr : meth.sig.returnType = some rt) (hrt : (∃ n, rt = .object n) ∨ ∃ t, rt = .array t) (hlocks : meth.locks = false) (hq : fs_hq p l e R s m args below meth c cells slots Q D A val post B) (u : S) (hu : post u) (hP : va_P D vwCl (B u) H) (hD : va_D A (B u)) (hS : va_S A s.heap H locs) {v : Value} (hvr : v = .null ∨ ∃ a, v = .ref a) (hdg : decode cc pc = .ok (.areturn, 1)) (hv : some v = val u) : W p l e R s m args below meth c H locs cells slots Q (F0 m pc ls [v]) :=
  hq _ _ _ hS (W.aret hx hb hr hrt hvr (fun t ht _ => ⟨⟨u, by rw [hv], hu, by rw [ht]; exact hP, hD⟩, ht⟩) hS.2.2 hdg hlocks)
end RET
