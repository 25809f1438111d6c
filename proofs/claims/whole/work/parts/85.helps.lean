/-! ===== methods with a table of their own that catch what a callee throws ===== -/
def FsW {S : Type} (l : Launch) (y : MethodName) (cc : ByteArray) (n : Nat) (ret : Option FieldType) (hh : List (Nat × Nat × Nat × Nat)) (d mc ms : Nat) (D : va_G) (tys : TyL) (G : Gr) (av : List Value) (ws : va_W) (val : S → Option Value) (post : S → Prop) (B : S → va_W) : Prop :=
  ∀ sz : Nat, Met l y (Cond.codeWith y cc n ret hh :: BW) (rmd d mc ms) (FPc D tys G av ws sz) (FQc D ws sz val post B) mc ms (va_A ws sz)
section HLP
variable {l : Launch} {cc : ByteArray} {n d mc ms : Nat} {y : MethodName} {ret : Option FieldType} {hh : List (Nat × Nat × Nat × Nat)} {D : va_G} {tys : TyL} {G : Gr} {av : List Value} {ws : va_W}
theorem fsw_body {S : Type} {val : S → Option Value} {post : S → Prop} {B : S → va_W} (hy : plainName y.cls = true) (hn : (lg_sl av).length ≤ n)
    (body : ∀ (p : Program) (e : Env) (s : State) (m : MethodId) (args : Array Value) (below : List Frame) (meth : Method) (c : Code) (Q : State → Prop) (A : Nat → Prop), p.tables.exec = Jvm.exec → c.code = cc → c.maxLocals = n → s.vm.findClass y.cls = some m.cls → (∀ w ∈ BW, w.before args s = true) → c.exceptionTable.toList = tableOf hh → va_K D vwCl tys s → va_P D vwCl ws s.heap → va_D A ws → va_S A s.heap s.heap [] → (∀ q, s.heap.size ≤ q → A q) → G A s s.heap →
      meth.sig.returnType = ret → (∀ (H : Heap) (locs : List Loc) (g : JFrame), va_S A s.heap H locs → W p l e (rmd d mc ms) s m args below meth c H locs mc ms (MQ below (fun _ st o t => (∃ u : S, o = .returned (val u) ∧ post u ∧ va_P D vwCl (B u) t.heap ∧ va_D A (B u)) ∧ t.heap = H) args s mc ms A) g → W p l e (rmd d mc ms) s m args below meth c H locs mc ms Q g) → meth.locks = false → ∀ ls : Array Slot, lv_has ls n (lv_args 0 av) → W p l e (rmd d mc ms) s m args below meth c s.heap [] 0 0 Q (F0 m 0 ls [])) : FsW l y cc n ret hh d mc ms D tys G av ws val post B := by
  intro sz
  refine va_MetW (cc := cc) (maxL := n) (ret := ret) (hh := hh) hy rfl ?_
  intro p e s m args below meth c s₁ Bd hml hv
  have hw := atoms_spec (ws := Cond.codeWith y cc n ret hh :: BW) Bd.pre
  have htab := vx_table (x := y) Bd (hw _ List.mem_cons_self)
  obtain ⟨rfl, hsz, hP, hK, hD, hG⟩ := hv
  subst hsz
  have hl := lv_entry av (n := n) hn
  rw [lg_entry_eq]
  refine body p e s m av.toArray below meth c _ (va_A ws s.heap.size) Bd.exec Bd.bytes hml (findClass_of_methodNamed Bd.named) (fun w hw9 => hw w (List.mem_cons_of_mem _ hw9)) htab hK hP hD.self va_S.rf (fun q h => Or.inr h) hG Bd.returns (fun H locs g hS h => ?_) Bd.notSynchronized _ hl
  intro T hT X
  obtain ⟨t, a1, o, b1, b2, ⟨⟨u, hu⟩, b4⟩, b5⟩ := h T hT X
  exact ⟨t, a1, o, b1, b2, ⟨⟨u, hu⟩, hS.F b4⟩, b5⟩
end HLP
section HLR
variable {p : Program} {l : Launch} {e : Env} {R : Room} {s : State} {m : MethodId} {args : Array Value} {below : List Frame} {meth : Method} {c : Code} {H : Heap} {locs : List Loc} {cells slots : Nat} {Q : State → Prop}
  {cc bytes : ByteArray} {nL maxL index n d pc : Nat} {own C : String} {y : MethodName} {b : Addr} {As rest st0 : List Value} {ls : Array Slot} {D : va_G} {tys : TyL} {G : Gr} {A : Nat → Prop} {wc : va_W} {o : Option Int32}
/-- a call that reads alone and answers or throws -/
theorem rx_V (S : CallFix p m c cc nL s args BW own) (gd : Gd G) (hG : G A s s.heap) (hS : va_S A s.heap H locs) (hK : va_K D vwCl tys s) (hM : Rx l y bytes maxL (some .int) d D tys G (.ref b :: As) wc o) (mi : MI C y bytes maxL (some .int) n) (hin : Cond.instanceMethod y ∈ BW) (hse : Cond.selects C y y ∈ BW) (hl : Cond.methodLink own index y ∈ BW) (hR : d + 1 ≤ R.frames ∧ 8 + (maxL + 11) + 30 * d ≤ R.locals)
    (hP : va_P D vwCl wc H) (q0 : Nat) {ci : Nat} {fs : List Value} {T : u_T} {N : Nat} (he : wc[q0]? = some (b, .inr (ci, fs))) (hc : vwCl[ci]? = some (C, T, N)) (hn : As.length = n) (hsize : ls.size = nL) (h0 : st0 = As.reverse ++ .ref b :: rest) (hW : (rest.map fun v => v.category).sum ≤ 8) (hcs : cells + 1 ≤ R.cells ∧ slots + 6 ≤ R.slots) (hdg : decode cc pc = .ok (.invokevirtual index, 3))
    (kk : ∀ v : Int32, o = some v → W p l e R s m args below meth c H locs (cells + 1) (slots + 6) Q (F0 m (pc + 3) ls (.int v :: rest)))
    (kx : ∀ (ce : Cell) (q9 : Addr) (H1 : Heap), o = none → H.size ≤ H1.size → (∀ q : Nat, q < H.size → H1[q]? = H[q]?) → H1[q9]? = some ce → ce.vm = .none → s.vm.findClass NSE = some ce.cls → vx_W p l e R s m args below meth c H1 locs (cells + 1) (slots + 6) Q (F0 m pc ls rest) q9) : W p l e R s m args below meth c H locs cells slots Q (F0 m pc ls st0) := by
  have hts := S.2.2.2.2
  have hr : vx_Run p l e R s m args below meth c H locs cells slots 1 6 (F0 m pc ls st0) rest (XQ o (Value.ref b :: As).toArray) (XX o) (fun _ => False) := vx_runV (rest := rest) S hM ⟨mi_B mi hts hl hR, hts _ hin, hts _ hse⟩ ⟨RPc_blind gd, va_recv hK hP hc he, RPc_in gd hG hS hK hP⟩ (g := F0 m pc ls st0) rfl hn hsize h0 (lv_room hW) hdg hcs
  intro T0 hT X
  rcases hr T0 hT X with ⟨v, st₀, t, T', L, h1, X', hL, e1, e2, ⟨v9, ho, hv, hh⟩, st⟩ | ⟨q, st₀, t, T', L, E, ce, h1, X', hL, e1, e2, ⟨ho, hE, hz, hk⟩, hce, hcv, hcl, st⟩
  · cases hv
    obtain ⟨t2, a1, b1⟩ := kk v9 ho T' (by rw [e1, hh, h1]) (Stand.forget X' (fun q h => (hL q h).elim))
    exact ⟨t2, st t2 a1, b1⟩
  · subst hE
    rw [h1] at hz hk
    obtain ⟨t2, a1, b1⟩ := kx ce q t.heap ho hz hk hce hcv hcl T' e1 (Stand.forget X' (fun q h => (hL q h).elim))
    exact ⟨t2, st.trans a1, b1⟩
theorem va_S.grow {H1 : Heap} (hS : va_S A s.heap H locs) (hz : H.size ≤ H1.size) (hk : ∀ q : Nat, q < H.size → H1[q]? = H[q]?) : va_S A s.heap H1 locs :=
  ⟨Nat.le_trans hS.1 hz, fun q h1 h2 => (hk q (Nat.lt_of_lt_of_le h1 hS.1)).trans (hS.2.1 q h1 h2), hS.2.2⟩
theorem va_P.grow {H1 : Heap} {ws : va_W} (hP : va_P D vwCl ws H) (hk : ∀ q : Nat, q < H.size → H1[q]? = H[q]?) : va_P D vwCl ws H1 := hP.kept (fun k x hx => hk x.1 ((hP k x hx).lt))
end HLR
def hV (o : Option Int32) : Int32 := match o with | some _ => 0 | none => 1
def hO (o : Option Int32) (f : Nat → Int64) : Nat → Int64 := match o with | some v => vp_updL f 0 v.toInt64 | none => f
