/-! ===== methods that read alone and answer or throw ===== -/
abbrev NSE : String := "java/util/NoSuchElementException"
abbrev NSn : List String := ["java/lang/RuntimeException", "java/lang/Exception"]
def XQ (o : Option Int32) : Array Value → State → Outcome → State → Prop := fun _ st out t => ∃ v, o = some v ∧ out = .returned (some (.int v)) ∧ t.heap = st.heap
def XX (o : Option Int32) : String → State → State → Prop := fun E st t => o = none ∧ E = NSE ∧ st.heap.size ≤ t.heap.size ∧ ∀ q : Nat, q < st.heap.size → t.heap[q]? = st.heap[q]?
def Rx (l : Launch) (y : MethodName) (cc : ByteArray) (n : Nat) (ret : Option FieldType) (d : Nat) (D : va_G) (tys : TyL) (G : Gr) (av : List Value) (ws : va_W) (o : Option Int32) : Prop :=
  vx_Met l y (cw y cc n ret) (rmd d 1 6) (RPc D tys G av ws) (XQ o) (XX o) 1 6 (fun _ => False)
/-- what throws rest on: two statics of Throwable, the texts -/
def GT (sx : Nat → Nat) : Gr := fun A U H => vx_Zq Bundle.tN "UNASSIGNED_STACK" Bundle.steD A U H ∧ vx_Zq Bundle.tN "SUPPRESSED_SENTINEL" Bundle.listD A U H ∧ va_Nw (.castable NSE NSE) U ∧ va_Nw (.declares (Bundle.initS "java/lang/RuntimeException")) U ∧ va_Nw (.declares (Bundle.initS "java/lang/Exception")) U ∧ va_Nw (.declares (Bundle.initS Bundle.tN)) U ∧ vk_R RX8 140 "no such loan" (sx 0) U ∧ vk_R RX8 177 "no such thing is told of a loan" (sx 1) U ∧ vk_R RX8 179 "no such surety" (sx 2) U ∧ vk_R RX8 181 "no such loan or fund" (sx 3) U ∧ vk_R RX8 186 "no such person" (sx 4) U ∧ vk_R RX8 206 "no such thing is told of a person" (sx 5) U
theorem GdT {sx : Nat → Nat} : Gd (GT sx) := by
  refine ⟨fun A u U H hW h => ?_, fun A U H H1 hk h => ?_, fun A B U H hn h => ?_⟩
  · obtain ⟨h1, h2, h3, h4, h5, h6, s0, s1, s2, s3, s4, s5⟩ := h
    exact ⟨vx_Zq.moved hW.alike h1, vx_Zq.moved hW.alike h2, va_Nw.warmC hW h3, va_Nw.warmD hW h4, va_Nw.warmD hW h5, va_Nw.warmD hW h6, vk_R.warm hW s0, vk_R.warm hW s1, vk_R.warm hW s2, vk_R.warm hW s3, vk_R.warm hW s4, vk_R.warm hW s5⟩
  · obtain ⟨h1, h2, h3⟩ := h
    exact ⟨h1.kept hk, h2.kept hk, h3⟩
  · obtain ⟨h1, h2, h3⟩ := h
    exact ⟨h1.narrow hn, h2.narrow hn, h3⟩
abbrev GAT (kz : Nat) (ke sK sV : Nat → Nat) (dz mi : Nat) (sx : Nat → Nat) : Gr := fun A U H => GA kz ke sK sV dz mi A U H ∧ GT sx A U H
theorem GdAT {kz : Nat} {ke sK sV : Nat → Nat} {dz mi : Nat} {sx : Nat → Nat} : Gd (GAT kz ke sK sV dz mi sx) :=
  ⟨fun A u U H hW h => ⟨GdA.1 A u U H hW h.1, GdT.1 A u U H hW h.2⟩, fun A U H H1 hk h => ⟨GdA.2.1 A U H H1 hk h.1, GdT.2.1 A U H H1 hk h.2⟩, fun A B U H hn h => ⟨GdA.2.2 A B U H hn h.1, GdT.2.2 A B U H hn h.2⟩⟩
theorem tw_good : ∀ w ∈ (vx_atS RX8 142 NSE NSn).filter goodWord, w ∈ BW := by decide +kernel
theorem tw_rest : ∀ w ∈ (vx_atS RX8 142 NSE NSn).filter (fun w => !goodWord w), w ∈ [Cond.castable NSE NSE, Cond.declares (Bundle.initS "java/lang/RuntimeException"), Cond.declares (Bundle.initS "java/lang/Exception"), Cond.declares (Bundle.initS Bundle.tN)] := by decide +kernel
theorem tw_ot : ∀ w ∈ Cond.classLink RX8 138 NSE :: Cond.initialized NSE :: vx_atS RX8 142 NSE NSn, vx_ot w = true := by decide +kernel
section RX
variable {p : Program} {l : Launch} {e : Env} {R : Room} {s : State} {m : MethodId} {args : Array Value} {below : List Frame} {meth : Method} {c : Code} {cc : ByteArray} {pc n d : Nat} {ls : Array Slot} {rest : List Value} {o : Option Int32} {y : MethodName} {ret : Option FieldType} {D : va_G} {tys : TyL} {G : Gr} {av : List Value} {ws : va_W} {sx : Nat → Nat}
theorem rx_body (hy : plainName y.cls = true) (hn : (lg_sl av).length ≤ n)
    (body : ∀ (p : Program) (e : Env) (s : State) (m : MethodId) (args : Array Value) (below : List Frame) (meth : Method) (c : Code), p.tables.exec = Jvm.exec → c.code = cc → c.maxLocals = n → s.vm.findClass y.cls = some m.cls → (∀ w ∈ BW, w.before args s = true) → va_K D vwCl tys s → va_P D vwCl ws s.heap → va_S (fun _ => False) s.heap s.heap [] → G (fun _ => False) s s.heap →
      meth.sig.returnType = ret → (∀ x ∈ c.exceptionTable.toList, False) → meth.locks = false → ∀ ls : Array Slot, lv_has ls n (lv_args 0 av) → W p l e (rmd d 1 6) s m args below meth c s.heap [] 0 0 (vx_MQ below (XQ o) (XX o) args s 1 6 (fun _ => False)) (F0 m 0 ls [])) : Rx l y cc n ret d D tys G av ws o := by
  refine vx_ofW (cc := cc) (maxL := n) (ret := ret) hy rfl ?_
  intro p e s m args below meth c s₁ B hml ht hv
  obtain ⟨rfl, hP, hK, hG⟩ := hv
  have hl := lv_entry av (n := n) hn
  rw [lg_entry_eq]
  exact body p e s m av.toArray below meth c B.exec B.bytes hml (findClass_of_methodNamed B.named) (fun w hw => atoms_spec (ws := cw y cc n ret) B.pre w (List.mem_cons_of_mem _ hw)) hK hP va_S.rf hG B.returns ht B.notSynchronized _ hl
theorem rx_i (hx : p.tables.exec = Jvm.exec) (hb : c.code = cc) (hr : meth.sig.returnType = some .int) (hlocks : meth.locks = false) {v : Int32} (hdg : decode cc pc = .ok (.ireturn, 1)) (ho : o = some v) : W p l e R s m args below meth c s.heap [] 0 0 (vx_MQ below (XQ o) (XX o) args s 1 6 (fun _ => False)) (F0 m pc ls [.int v]) :=
  W.widen (k := 1) (n := 6) (by omega) (by omega) (vx_ret (W.iret hx hb hr (fun t ht _ => ⟨v, ho, rfl, ht⟩) (fun q h => by cases h) hdg hlocks))
theorem rx_t (hst : l.stackTraces = false) (hx : p.tables.exec = Jvm.exec) (hb : c.code = cc) (hown : s.vm.findClass RX8 = some m.cls) (hts : ∀ w ∈ BW, w.before args s = true) (hG : GT sx (fun _ => False) s s.heap) {is sa : Nat} {text : String} (hstr : vk_R RX8 is text sa s) (hS : va_S (fun _ => False) s.heap s.heap []) (hsize : ls.size = c.maxLocals)
    (hk : Cond.classLink RX8 138 NSE ∈ BW) (hini : Cond.initialized NSE ∈ BW)
    (d0 : decode cc pc = .ok (.new 138, 3)) (d3 : decode cc (pc + 3) = .ok (.dup, 1)) (d4 : decode cc (pc + 4) = .ok (.ldc is, 2)) (d6 : decode cc (pc + 6) = .ok (.invokespecial 142, 3)) (d9 : decode cc (pc + 9) = .ok (.athrow, 1))
    (hout : ∀ x ∈ c.exceptionTable.toList, False) (hlocks : meth.locks = false) (ho : o = none) : W p l e (rmd 6 1 6) s m args below meth c s.heap [] 0 0 (vx_MQ below (XQ o) (XX o) args s 1 6 (fun _ => False)) (F0 m pc ls []) := by
  obtain ⟨h1, h2, h3, h4, h5, h6, -⟩ := hG
  refine vx_throwS (text := text) (names := NSn) (ik := 138) (is := is) (ic := 142) (sa := sa) (A := fun _ => False) hx hb hst hown (by decide +kernel) (by decide +kernel) (hts _ hk) (hts _ hini) hstr ?_ tw_ot h1 h2 hS hsize d0 d3 d4 d6 d9 (fun x hx9 => (hout x hx9).elim) (by decide) (by decide) (by decide) (by decide) hlocks (fun t _ k1 k2 => ⟨ho, rfl, k1, k2⟩) (fun z hz => by cases hz) (by omega) (by omega)
  exact vx_hat (fun w hw => hts w (tw_good w hw)) tw_rest (vx_c (va_Nw.use rfl h3) (vx_c (va_Nw.use rfl h4) (vx_c (va_Nw.use rfl h5) (vx_c (va_Nw.use rfl h6) vx_n))))
end RX
