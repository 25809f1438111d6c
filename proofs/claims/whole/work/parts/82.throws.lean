/-! ===== methods that read alone and answer or throw ===== -/
def XQ (o : Option Int32) : Array Value → State → Outcome → State → Prop := fun _ st out t => ∃ v, o = some v ∧ out = .returned (some (.int v)) ∧ t.heap = st.heap
def XX (o : Option Int32) : String → State → State → Prop := fun E st t => o = none ∧ E = NSE ∧ st.heap.size ≤ t.heap.size ∧ ∀ q : Nat, q < st.heap.size → t.heap[q]? = st.heap[q]?
def Rx (l : Launch) (y : MethodName) (cc : ByteArray) (n : Nat) (ret : Option FieldType) (d : Nat) (D : va_G) (tys : TyL) (G : Gr) (av : List Value) (ws : va_W) (o : Option Int32) : Prop :=
  vx_Met l y (cw y cc n ret) (rmd d 1 6) (RPc D tys G av ws) (XQ o) (XX o) 1 6 (fun _ => False)
/-- what throws rest on: two statics of Throwable, the texts -/
def GT (sx : Nat → Nat) : Gr := fun A U H => vx_Zq Bundle.tN "UNASSIGNED_STACK" Bundle.steD A U H ∧ vx_Zq Bundle.tN "SUPPRESSED_SENTINEL" Bundle.listD A U H ∧ va_Nw (.castable NSE NSE) U ∧ va_Nw (.declares (Bundle.initS "java/lang/RuntimeException")) U ∧ va_Nw (.declares (Bundle.initS "java/lang/Exception")) U ∧ va_Nw (.declares (Bundle.initS Bundle.tN)) U ∧ vk_R RX8 140 "no such loan" (sx 0) U ∧ vk_R RX8 177 "no such thing is told of a loan" (sx 1) U ∧ vk_R RX8 179 "no such surety" (sx 2) U ∧ vk_R RX8 181 "no such loan or fund" (sx 3) U ∧ vk_R RX8 186 "no such person" (sx 4) U ∧ vk_R RX8 206 "no such thing is told of a person" (sx 5) U
theorem GdT {sx : Nat → Nat} : Gd (GT sx) := by
  refine ⟨fun A u U H hW h => ?_, fun A U H H1 hk h => ?_, fun A B U H hn h => ?_⟩
  · obtain ⟨h1, h2, h3, h4, h5, h6, s0, s1, s2, s3, s4, s5⟩ := h
    exact ⟨vx_Zq.moved hW.alike h1, vx_Zq.moved hW.alike h2, va_Nw.warmC hW h3, va_Nw.warmD hW h4, va_Nw.warmD hW h5, va_Nw.warmD hW h6, vk_R.warm hW s0, vk_R.warm hW s1, vk_R.warm hW s2, vk_R.warm hW s3, vk_R.warm hW s4, vk_R.warm hW s5⟩
  · obtain ⟨h1, h2, h3⟩ := h
    exact ⟨h1.kept hk, h2.kept hk, h3⟩
  · obtain ⟨h1, h2, h3⟩ := h
    exact ⟨h1.narrow hn, h2.narrow hn, h3⟩
abbrev GAT (kz : Nat) (ke sK sV : Nat → Nat) (dz mi : Nat) (sx : Nat → Nat) : Gr := fun A U H => GA kz ke sK sV dz mi A U H ∧ GT sx A U H
theorem GdAT {kz : Nat} {ke sK sV : Nat → Nat} {dz mi : Nat} {sx : Nat → Nat} : Gd (GAT kz ke sK sV dz mi sx) :=
  ⟨fun A u U H hW h => ⟨GdA.1 A u U H hW h.1, GdT.1 A u U H hW h.2⟩, fun A U H H1 hk h => ⟨GdA.2.1 A U H H1 hk h.1, GdT.2.1 A U H H1 hk h.2⟩, fun A B U H hn h => ⟨GdA.2.2 A B U H hn h.1, GdT.2.2 A B U H hn h.2⟩⟩
def thrA : List Cond := (thrW RX8 142).filter vx_no
theorem tw_good0 : ∀ w ∈ thrA.filter goodWord, w ∈ lw_tbl := by decide +kernel
theorem tw_good : ∀ w ∈ thrA.filter goodWord, w ∈ BW := fun w hw => List.mem_filter.mpr ⟨tw_good0 w hw, (List.mem_filter.mp hw).2⟩
theorem tw_rest : ∀ w ∈ thrA.filter (fun w => !goodWord w), w ∈ [Cond.castable NSE NSE, Cond.declares (Bundle.initS "java/lang/RuntimeException"), Cond.declares (Bundle.initS "java/lang/Exception"), Cond.declares (Bundle.initS Bundle.tN)] := by decide +kernel
theorem tw_ot : ∀ w ∈ Cond.classLink RX8 138 NSE :: Cond.initialized NSE :: thrA, vx_ot w = true := by decide +kernel
section NXT
variable {p : Program} {l : Launch} {e : Env} {R : Room} {s : State} {m : MethodId} {args : Array Value} {below : List Frame} {meth : Method} {c : Code} {H : Heap} {locs : List Loc} {cells slots mc ms : Nat} {free : Addr → Prop} {ls : Array Slot} {rest : List Value} {Qc : Array Value → State → Outcome → State → Prop} {XC : String → State → State → Prop}
/-- 'throw new NoSuchElementException("text")' in LoanChest: new; dup; ldc; invokespecial; athrow -/
theorem nx_throw {cc : ByteArray} {pc : Nat} (hexec : p.tables.exec = Jvm.exec) (hb : c.code = cc) (hl : l.stackTraces = false) {text : String} {is sa : Nat} {A : Nat → Prop} (hown : s.vm.findClass RX8 = some m.cls)
    (hk : (Cond.classLink RX8 138 NSE).before args s = true) (hini : (Cond.initialized NSE).before args s = true) (hstr : vk_R RX8 is text sa s) (hat : ∀ w ∈ thrA, w.before args s = true)
    (hU : vx_Zq Bundle.tN "UNASSIGNED_STACK" Bundle.steD A s s.heap) (hN : vx_Zq Bundle.tN "SUPPRESSED_SENTINEL" Bundle.listD A s s.heap) (hS : va_S A s.heap H locs) (hsize : ls.size = c.maxLocals)
    (d0 : decode cc pc = .ok (.new 138, 3)) (d3 : decode cc (pc + 3) = .ok (.dup, 1)) (d4 : decode cc (pc + 4) = .ok (.ldc is, 2)) (d6 : decode cc (pc + 6) = .ok (.invokespecial 142, 3)) (d9 : decode cc (pc + 9) = .ok (.athrow, 1))
    (hout : ∀ x ∈ c.exceptionTable.toList, covers x (pc + 9) = false)
    (hRframes : 5 < R.frames) (hRlocals : (rest.map fun v => v.category).sum + 82 ≤ R.locals) (hRcells : cells + 1 ≤ R.cells) (hRslots : slots + 6 ≤ R.slots) (hlocks : meth.locks = false)
    (hx : ∀ t : State, s.vm.Alike t.vm → H.size ≤ t.heap.size → (∀ q : Nat, q < H.size → t.heap[q]? = H[q]?) → XC NSE s t)
    (hf : ∀ z ∈ locs, free z.base) (hc : cells + 1 ≤ mc) (hs : slots + 6 ≤ ms) :
    W p l e R s m args below meth c H locs cells slots (vx_MQ below Qc XC args s mc ms free) (F0 m pc ls rest) := by
  intro T hT X
  have htr : e.platform.stackTraces = false := (show e.platform.stackTraces = l.stackTraces by rw [X.admits.platform]).trans hl
  have Y := vx_rebase X (R' := { frames := R.frames, locals := R.locals, cells := 1, slots := 6 }) (Nat.le_refl _) (Nat.le_refl _) hRcells hRslots
  obtain ⟨s', hA⟩ : ∃ z, z = (T.setVm s.vm).setFrames (.invoking m args :: below) := ⟨_, rfl⟩
  rw [← hA] at Y
  have hvm : s'.vm = s.vm := by rw [hA]; rfl
  have hhp : s'.heap = H := by rw [hA]; exact hT
  have hW0 : s.WarmedH s'.vm := by rw [hvm]; exact State.WarmedH.refl s
  have hat' : ∀ w ∈ thrA, w.before args s' = true := fun w hw => vx_ot_at hW0 hvm.symm (tw_ot w (List.mem_cons_of_mem _ (List.mem_cons_of_mem _ hw))) (hat w hw)
  have hk' : (Cond.classLink RX8 138 NSE).before args s' = true := vx_ot_at hW0 hvm.symm (tw_ot _ List.mem_cons_self) hk
  have hini' : (Cond.initialized NSE).before args s' = true := vx_ot_at hW0 hvm.symm (tw_ot _ (List.mem_cons_of_mem _ List.mem_cons_self)) hini
  have hU' : vx_Zq Bundle.tN "UNASSIGNED_STACK" Bundle.steD A s' s'.heap := by rw [hhp]; exact vx_Zq.moved hW0.alike (hU.kept hS.2.1)
  have hN' : vx_Zq Bundle.tN "SUPPRESSED_SENTINEL" Bundle.listD A s' s'.heap := by rw [hhp]; exact vx_Zq.moved hW0.alike (hN.kept hS.2.1)
  have h : ∀ w ∈ thrW RX8 142, w.before args s' = true := vx_own hat' (vx_isRefq hU'.1) (vx_isRefq hN'.1) hU'.2.word hN'.2.word
  have hown' : s'.vm.findClass RX8 = some m.cls := by rw [hvm]; exact hown
  have hins : (Cond.instantiable NSE 6).before args s' = true := h _ (List.mem_append_right _ (List.mem_append_right _ (List.mem_append_right _ (List.mem_append_right _ (by simp [thrL])))))
  obtain ⟨vm₁, cX, kX, hfX, hkX, -, -, X₁, st1⟩ := Y.newCold hexec (own := RX8) (C := NSE) (index := 138) (n := 6) hown' hk' hins hini'
    (g := F0 m pc ls rest) rfl (by rw [hb]; exact d0) (Nat.le_refl _) (Nat.le_refl _)
  generalize hT1 : (T.setVm vm₁).pushCell { cls := cX, slots := kX.instanceTypes.map defaultValue, vm := .none } = T1 at X₁ st1
  have hcat : (Value.ref T.heap.size).category = 1 := rfl
  have hcellA : T1.heap[T.heap.size]? = some (freshCell cX kX) := by rw [← hT1]; exact State.heap_pushCell_size _ _
  have d3' : decode c.code (pc + 3) = .ok (.dup, 1) := by rw [hb]; exact d3
  have d4' : decode c.code (pc + 4) = .ok (.ldc is, 2) := by rw [hb]; exact d4
  have hstr' : vk_R RX8 is text sa s' := vk_R.warm hW0 hstr
  obtain ⟨U, hsteps, hrun, hend, hW, hsame, ce, hce, hcv, hcl9⟩ := nsThrow X₁ hexec htr (own := RX8) (ic := 142) hown' h (fun x hx => nomatch hx) hfX hkX hcellA (by rw [hhp, hT]; exact Nat.le_refl _) (msg := .ref sa) rfl
    (g := { method := m, pc := pc + 6, locals := ls, stack := .ref sa :: .ref T.heap.size :: .ref T.heap.size :: rest, locked := none }) rfl hsize rfl rfl (rest := rest) rfl
    (by rw [hb]; exact d6) (by rw [hb]; exact d9) hout hRframes (by
      show 2 * 0 + ((Value.ref T.heap.size :: rest).map fun v => v.category).sum + 81 ≤ R.locals
      simp only [List.map_cons, List.sum_cons, hcat]
      omega) hlocks
  obtain ⟨f1, f2⟩ := vx_frame hsame
  rw [hhp] at f1 f2
  have hWs : s.WarmedH U.vm := State.WarmedH.trans hW0 hW
  have hcl : s.vm.findClass NSE = some ce.cls := by
    rw [hvm] at hcl9
    exact hcl9
  have hall : s.sameButNew ({ U with vm := s.vm } : State) locs mc ms := by
    subst hA
    obtain ⟨e1, e2⟩ := hsame
    rw [State.setFrames_setFrames] at e1
    have h2 : (T.setVm s.vm).sameButNew ({ U with vm := s.vm } : State) [] (0 + 1) (0 + 6) := ⟨e1, e2⟩
    have h3 := X.same.trans h2
    rw [List.append_nil] at h3
    exact h3.mono hc hs
  refine ⟨U, ?_, .threw T.heap.size, hrun, hend, Or.inr ⟨T.heap.size, rfl, NSE, ce, locs, hx U hWs.alike f1 (fun q hq => f2 q hq (fun z hz => nomatch hz)), hce, hcv, hcl, hWs, hall, hf⟩⟩
  refine st1 _ ?_
  show Steps p.tables e below (T1.setTop { method := m, pc := pc + 3, locals := ls, stack := .ref T.heap.size :: rest, locked := none }) _
  jvm_step X₁.here [X₁.here.top, hexec, d3', Value.category]
  exact X₁.ldcString hexec (own := RX8) (text := text) (index := is) (a := sa) hown' hstr'.1 hstr'.2
    (g := { method := m, pc := pc + 4, locals := ls, stack := .ref T.heap.size :: .ref T.heap.size :: rest, locked := none }) rfl d4' _ hsteps
end NXT
section RX
variable {p : Program} {l : Launch} {e : Env} {R : Room} {s : State} {m : MethodId} {args : Array Value} {below : List Frame} {meth : Method} {c : Code} {cc : ByteArray} {pc n d : Nat} {ls : Array Slot} {rest : List Value} {o : Option Int32} {y : MethodName} {ret : Option FieldType} {D : va_G} {tys : TyL} {G : Gr} {av : List Value} {ws : va_W} {sx : Nat → Nat}
theorem rx_body (hy : plainName y.cls = true) (hn : (lg_sl av).length ≤ n)
    (body : ∀ (p : Program) (e : Env) (s : State) (m : MethodId) (args : Array Value) (below : List Frame) (meth : Method) (c : Code), p.tables.exec = Jvm.exec → c.code = cc → c.maxLocals = n → s.vm.findClass y.cls = some m.cls → (∀ w ∈ BW, w.before args s = true) → va_K D vwCl tys s → va_P D vwCl ws s.heap → va_S (fun _ => False) s.heap s.heap [] → G (fun _ => False) s s.heap →
      meth.sig.returnType = ret → (∀ x ∈ c.exceptionTable.toList, False) → meth.locks = false → ∀ ls : Array Slot, lv_has ls n (lv_args 0 av) → W p l e (rmd d 1 6) s m args below meth c s.heap [] 0 0 (vx_MQ below (XQ o) (XX o) args s 1 6 (fun _ => False)) (F0 m 0 ls [])) : Rx l y cc n ret d D tys G av ws o := by
  refine vx_ofW (cc := cc) (maxL := n) (ret := ret) hy rfl ?_
  intro p e s m args below meth c s₁ B hml ht hv
  obtain ⟨rfl, hP, hK, hG⟩ := hv
  have hl := lv_entry av (n := n) hn
  rw [lg_entry_eq]
  exact body p e s m av.toArray below meth c B.exec B.bytes hml (findClass_of_methodNamed B.named) (fun w hw => atoms_spec (ws := cw y cc n ret) B.pre w (List.mem_cons_of_mem _ hw)) hK hP va_S.rf hG B.returns ht B.notSynchronized _ hl
theorem rx_i (hx : p.tables.exec = Jvm.exec) (hb : c.code = cc) (hr : meth.sig.returnType = some .int) (hlocks : meth.locks = false) {v : Int32} (hdg : decode cc pc = .ok (.ireturn, 1)) (ho : o = some v) : W p l e R s m args below meth c s.heap [] 0 0 (vx_MQ below (XQ o) (XX o) args s 1 6 (fun _ => False)) (F0 m pc ls [.int v]) :=
  W.widen (k := 1) (n := 6) (by omega) (by omega) (vx_ret (W.iret hx hb hr (fun t ht _ => ⟨v, ho, rfl, ht⟩) (fun q h => by cases h) hdg hlocks))
theorem rx_t (hst : l.stackTraces = false) (hx : p.tables.exec = Jvm.exec) (hb : c.code = cc) (hown : s.vm.findClass RX8 = some m.cls) (hts : ∀ w ∈ BW, w.before args s = true) (hG : GT sx (fun _ => False) s s.heap) {is sa : Nat} {text : String} (hstr : vk_R RX8 is text sa s) (hS : va_S (fun _ => False) s.heap s.heap []) (hsize : ls.size = c.maxLocals)
    (hk : Cond.classLink RX8 138 NSE ∈ BW) (hini : Cond.initialized NSE ∈ BW)
    (d0 : decode cc pc = .ok (.new 138, 3)) (d3 : decode cc (pc + 3) = .ok (.dup, 1)) (d4 : decode cc (pc + 4) = .ok (.ldc is, 2)) (d6 : decode cc (pc + 6) = .ok (.invokespecial 142, 3)) (d9 : decode cc (pc + 9) = .ok (.athrow, 1))
    (hout : ∀ x ∈ c.exceptionTable.toList, False) (hlocks : meth.locks = false) (ho : o = none) : W p l e (rmd 6 1 6) s m args below meth c s.heap [] 0 0 (vx_MQ below (XQ o) (XX o) args s 1 6 (fun _ => False)) (F0 m pc ls []) := by
  obtain ⟨h1, h2, h3, h4, h5, h6, -⟩ := hG
  refine nx_throw (text := text) (is := is) (sa := sa) (A := fun _ => False) hx hb hst hown (hts _ hk) (hts _ hini) hstr ?_ h1 h2 hS hsize d0 d3 d4 d6 d9 (fun x hx9 => (hout x hx9).elim) (by decide) (by decide) (by decide) (by decide) hlocks (fun t _ k1 k2 => ⟨ho, rfl, k1, k2⟩) (fun z hz => by cases hz) (by omega) (by omega)
  exact vx_hat (fun w hw => hts w (tw_good w hw)) tw_rest (vx_c (va_Nw.use rfl h3) (vx_c (va_Nw.use rfl h4) (vx_c (va_Nw.use rfl h5) (vx_c (va_Nw.use rfl h6) vx_n))))
end RX
