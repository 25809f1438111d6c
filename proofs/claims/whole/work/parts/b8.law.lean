/-! ===== the law: what holds all along, and at a call's end ===== -/
abbrev AA (s : State) : Nat → Prop := fun q => s.heap.size ≤ q
def LC (p : Program) (s : State) (m : MethodId) (c : Code) (args : Array Value) (b L : Nat) (xs : Nat → Int32) (D : va_G) (k : Nat → ClassId) (kz : Nat) (ke sK sV : Nat → Nat) (dz mi : Nat) (sx : Nat → Nat) : Prop :=
  p.tables.exec = Jvm.exec ∧ c.code = cL_law ∧ c.maxLocals = 7 ∧ s.vm.findClass RL = some m.cls ∧ (∀ w ∈ BW, w.before args s = true) ∧ va_K D vwCl (TY k) s ∧ GAT kz ke sK sV dz mi sx (AA s) s s.heap ∧ va_X b L xs s s.heap ∧ b < s.heap.size
/-- the chest, the reference, the row for answers -/
abbrev LW (k : Nat → ClassId) (dz : Nat) (q : Nat → Nat → Nat) (d1 d2 : Int32) (u : CSt) (h : Nat) (qm : Nat → Nat) (v : MSt) (ad : Nat) (fo : Nat → Int64) : va_W := bX k dz q d1 d2 u ++ (MwU h qm k v ++ [(ad, .inl (k 3, 1, .inr (.inl fo)))])
abbrev LV (b x0 h ad N : Nat) : List (Nat × Value) := [(0, .ref b), (1, .ref x0), (2, .ref h), (3, .ref ad), (4, .int (nI (6 * N)))]
/-- what is asked behind call N -/
def LK (p : Program) (l : Launch) (e : Env) (s : State) (m : MethodId) (args : Array Value) (below : List Frame) (meth : Method) (c : Code) (Q : State → Prop) (b : Nat) (D : va_G) (k : Nat → ClassId) (dz x0 h : Nat) (qm : Nat → Nat) (ad N cells slots : Nat) : Prop :=
  ∀ (q : Nat → Nat → Nat) (d1 d2 : Int32) (u : CSt) (v : MSt) (g : GH) (fo : Nat → Int64) (H : Heap) (locs : List Loc) (ls : Array Slot), q 6 0 = x0 → Rel (N + 1) u v g → RX v → va_P D vwCl (LW k dz q d1 d2 u h qm v ad fo) H → va_D (AA s) (LW k dz q d1 d2 u h qm v ad fo) → va_S (AA s) s.heap H locs → lv_has ls 7 (LV b x0 h ad N) → W p l e room_1 s m args below meth c H locs cells slots Q (F0 m 920 ls [])
section LAWB
variable {p : Program} {l : Launch} {e : Env} {s : State} {m : MethodId} {args : Array Value} {below : List Frame} {meth : Method} {c : Code} {Q : State → Prop} {b L : Nat} {xs : Nat → Int32} {D : va_G} {k : Nat → ClassId} {kz : Nat} {ke sK sV : Nat → Nat} {dz mi : Nat} {sx : Nat → Nat} {N : Nat} {H : Heap} {locs : List Loc} {cells slots : Nat} {ls : Array Slot}
theorem law_arg (C : LC p s m c args b L xs D k kz ke sK sV dz mi sx) (hS : va_S (AA s) s.heap H locs) (hN : 6 * N + 6 ≤ L) (hL : L ≤ 3072) (hl0 : ls[0]? = some (.val (.ref b))) (hl4 : ls[4]? = some (.val (.int (nI (6 * N))))) (j : Nat) (hj : j ≤ 5) {pc : Nat} {st : List Value} (e1 : decode cL_law pc = .ok (.aload_n 0, 1)) (e2 : decode cL_law (pc + 1) = .ok (.iload 4, 2)) {n : Int} (e3 : decode cL_law (pc + 3) = .ok (.iconst n, 1)) (hn : Int32.ofInt n = nI j) (e4 : decode cL_law (pc + 4) = .ok (.iadd, 1)) (e5 : decode cL_law (pc + 5) = .ok (.iaload, 1))
    (kk : W p l e room_1 s m args below meth c H locs cells slots Q (F0 m (pc + 6) ls (.int (xs (6 * N + j)) :: st))) : W p l e room_1 s m args below meth c H locs cells slots Q (F0 m pc ls st) := by
  obtain ⟨hx, hb, hml, hown, hts, hK, hG, hX, hbl⟩ := id C
  have hbA : ¬ (AA s) b := Nat.not_le.mpr hbl
  refine lv_aload_n hx hb e1 rfl hl0 ?_
  refine lv_iload hx hb e2 hl4 ?_
  refine lv_iconst (v := nI j) hx hb e3 hn ?_
  refine lv_iadd hx hb e4 ?_
  refine rw_topi (nI_add (6 * N) j) ?_
  refine va_sld hx hb hX hbl hbA hS (pk_in (6 * N + j) L (by omega)) e5 ?_
  rw [nI_clamp (by omega)]
  exact kk
end LAWB
section LAWH
variable {p : Program} {l : Launch} {e : Env} {R : Room} {s : State} {m : MethodId} {args : Array Value} {below : List Frame} {meth : Method} {c : Code} {H H0 : Heap} {locs : List Loc} {cells slots : Nat} {Q : State → Prop}
  {cc bytes : ByteArray} {nL maxL index n mc ms d pc : Nat} {own C : String} {y : MethodName} {ret : Option FieldType} {hh : List (Nat × Nat × Nat × Nat)} {As rest st0 : List Value} {ls : Array Slot} {D : va_G} {tys : TyL} {G : Gr} {A : Nat → Prop} {ws : va_W}
/-- a static call of a method with a table of its own -/
theorem fsw_S {S0 : Type} {val : S0 → Option Value} {post : S0 → Prop} {B : S0 → va_W} (w1 w2 : va_W) (S : CallFix p m c cc nL s args BW own) (gd : Gd G) (hG : G A s s.heap) (hS : va_S A s.heap H locs) (hA : ∀ q, s.heap.size ≤ q → A q) (hK : va_K D vwCl tys s) (hP : va_P D vwCl (w1 ++ (ws ++ w2)) H) (hD : va_D A (w1 ++ (ws ++ w2))) (hM : FsW l y bytes maxL ret hh d mc ms D tys G As ws val post B) (hc : Cond.codeWith y bytes maxL ret hh ∈ BW) (hi : Cond.initialized y.cls ∈ BW) (hy : y.cls ≠ "java/lang/invoke/MethodHandle" ∧ y.cls ≠ "java/lang/invoke/VarHandle") (hlen : (parseMethodDescriptor y.desc).map (fun d => d.parameters.length) = some n) (hst : Cond.static y ∈ BW) (hl : Cond.methodLink own index y ∈ BW) (hR : d + 1 ≤ R.frames ∧ 8 + (maxL + 11) + 30 * d ≤ R.locals)
    (hn : As.length = n) (hsize : ls.size = nL) (h0 : st0 = As.reverse ++ rest) (hW : (rest.map fun v => v.category).sum ≤ 8) (hcs : cells + mc ≤ R.cells ∧ slots + ms ≤ R.slots) (hdg : decode cc pc = .ok (.invokestatic index, 3))
    (kk : ∀ (u : S0) (H1 : Heap) (locs1 : List Loc), post u → va_P D vwCl (w1 ++ (B u ++ w2)) H1 → va_D A (w1 ++ (B u ++ w2)) → va_S A s.heap H1 locs1 → W p l e R s m args below meth c H1 locs1 (cells + mc) (slots + ms) Q (F0 m (pc + 3) ls ((val u).toList ++ rest))) : W p l e R s m args below meth c H locs cells slots Q (F0 m pc ls st0) := by
  have hts := S.2.2.2.2
  have hPc : va_P D vwCl ws H := va_P_mid hP
  have hF := va_A_mid hD hS hA
  have hcw : vx_CSW R s args own index y bytes maxL ret hh (Cond.codeWith y bytes maxL ret hh :: BW) (rmd d mc ms) mc ms n := by
    refine ⟨⟨rfl, rfl, hR.1, hR.2, pay_in hts (fun w hw => ?_), List.mem_cons_self⟩, hts _ hc, hts _ hi, hy, fun sig h => ?_, hts _ hl, hts _ hst⟩
    · rcases List.mem_cons.mp hw with h | h
      · subst h; exact ⟨hc, bw_good _ hc⟩
      · exact ⟨h, bw_good _ h⟩
    · rw [h] at hlen
      exact (Option.some.inj hlen).symm
  exact fs_go (vx_runSW (rest := rest) S (hM H.size) hcw ⟨FPc_blind gd, FPc_in gd hG hS hK hPc (va_D_mid hD) hF⟩ (g := F0 m pc ls st0) rfl hn hsize h0 (lv_room hW) hdg hcs) hP hD hS hF kk
end LAWH
theorem gT_600 : gT 600 ≤ 2500 := by decide +kernel
theorem ew_le {x : Int32} {gn : Nat → Nat} {g1 : Nat → Nat → Int32} : ∀ (r i : Nat) (u : EWS), (∀ j, i ≤ j → j < i + r → gn j ≤ 3) → (lp (ewStep x gn g1) r i u).2.2.1 ≤ u.2.2.1 + 3 * r
  | 0, _, _, _ => Nat.le_refl _
  | r + 1, i, u, h => by
    have h1 := ew_le (x := x) (gn := gn) (g1 := g1) r (i + 1) (ewStep x gn g1 i u) (fun j a b => h j (by omega) (by omega))
    have h2 := (ewStep_le (x := x) (gn := gn) (g1 := g1) (j := i) u).2
    have h3 := h i (Nat.le_refl _) (by omega)
    show (lp (ewStep x gn g1) r (i + 1) (ewStep x gn g1 i u)).2.2.1 ≤ _
    omega
theorem next_ms {u : CSt} (hu : XB u) : 1200 + (gT (ewAll (nI u.wk) u.n u.gn (u.gr 1) u.E).2.2.1 - gT u.mm) ≤ 3700 := by
  obtain ⟨h1, h2, h3, h4, h5, h6, h7, h8, h9⟩ := hu
  have e1 := ew_le (x := nI u.wk) (gn := u.gn) (g1 := u.gr 1) u.n 0 u.E (fun j _ hj => h9 j (by omega))
  have e2 : (ewAll (nI u.wk) u.n u.gn (u.gr 1) u.E).2.2.1 ≤ 600 := by
    have e3 : (ewAll (nI u.wk) u.n u.gn (u.gr 1) u.E).2.2.1 ≤ u.mm + 3 * u.n := e1
    omega
  have e4 := gT_mono e2
  have e5 := gT_600
  omega
theorem gSl_le {n : Nat} (h : n ≤ 100) : gSl n ≤ 160 := by
  unfold gSl
  split
  · omega
  · split <;> omega
