/-! ===== texts: a call by an object of the ground, answers of other small types ===== -/
section STRS
variable {p : Program} {l : Launch} {e : Env} {R : Room} {s : State} {m : MethodId} {args : Array Value} {below : List Frame} {meth : Method} {c : Code} {H H0 : Heap} {locs : List Loc} {cells slots : Nat} {Q : State → Prop}
  {cc bytes : ByteArray} {nL maxL index n mc ms d pc : Nat} {own C : String} {y : MethodName} {ret : Option FieldType} {b : Addr} {As rest st0 st1 : List Value} {ls : Array Slot} {D : va_G} {tys : TyL} {G : Gr} {A : Nat → Prop} {wc : va_W} {rv : Option Value}
/-- a call that reads alone, by an object that isn't of the world -/
theorem ro_Vr (hrc : ∃ cell : Cell, H[b]? = some cell ∧ cell.vm.isStatics = false ∧ s.vm.findClass C = some cell.cls) (S : CallFix p m c cc nL s args BW own) (gd : Gd G) (hG : G A s s.heap) (hS : va_S A s.heap H locs) (hK : va_K D vwCl tys s) (hM : Ro l y bytes maxL ret d D tys G (.ref b :: As) wc rv) (mi : MI C y bytes maxL ret n) (hin : Cond.instanceMethod y ∈ BW) (hse : Cond.selects C y y ∈ BW) (hl : Cond.methodLink own index y ∈ BW) (hR : d + 1 ≤ R.frames ∧ 8 + (maxL + 11) + 30 * d ≤ R.locals)
    (hP : va_P D vwCl wc H) (hn : As.length = n) (hsize : ls.size = nL) (h0 : st0 = As.reverse ++ .ref b :: rest) (hW : (rest.map fun v => v.category).sum ≤ 8) (h1 : rv.toList ++ rest = st1) (hcs : cells ≤ R.cells ∧ slots ≤ R.slots) (hdg : decode cc pc = .ok (.invokevirtual index, 3))
    (kk : W p l e R s m args below meth c H locs cells slots Q (F0 m (pc + 3) ls st1)) : W p l e R s m args below meth c H locs cells slots Q (F0 m pc ls st0) := by
  have hts := S.2.2.2.2
  exact ro_go (W.runV (rest := rest) S hM ⟨mi_B mi hts hl hR, hts _ hin, hts _ hse⟩ ⟨RPc_blind gd, hrc, RPc_in gd hG hS hK hP⟩ rfl hn hsize h0 (lv_room hW) hdg hcs) h1 kk
theorem ro_t {ty : FieldType} (hx : p.tables.exec = Jvm.exec) (hb : c.code = cc) (hr : meth.sig.returnType = some ty) (hlocks : meth.locks = false) (hq : ∀ (g : JFrame), W p l e R s m args below meth c s.heap [] 0 0 (MQ below (RQc rv) args s 0 0 (fun _ => False)) g → W p l e R s m args below meth c s.heap [] 0 0 Q g) {v : Int32} (hn : narrow ty (.int v) = .int v) (hdg : decode cc pc = .ok (.ireturn, 1)) (hv : some (.int v) = rv) : W p l e R s m args below meth c s.heap [] 0 0 Q (F0 m pc ls [.int v]) :=
  hq _ (W.zret hx hb hr hn (fun t ht _ => ⟨by rw [hv], ht⟩) (fun q h => by cases h) hdg hlocks)
end STRS
def kL (i : Nat) : Nat := kLen.getD i 0
def kB (i j : Nat) : Int32 := (kByt.getD i []).getD j 0
theorem kB_ok : ∀ i, i < 9 → ∀ j, j < kL i → kB i j &&& 255 = kB i j ∧ ((kB i j &&& 255).toUInt32 % 65536).toInt32 = kB i j ∧ narrow .char (.int (kB i j)) = .int (kB i j) := by decide +kernel
theorem kL_le : ∀ i, i < 9 → kL i ≤ 8 := by decide +kernel
