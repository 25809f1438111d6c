/-! ===== calls between nest mates ===== -/
section NEST
variable {p : Program} {l : Launch} {e : Env} {R : Room} {s : State} {m : MethodId} {args : Array Value} {below : List Frame} {meth : Method} {c : Code} {H H0 : Heap} {locs : List Loc} {cells slots : Nat} {Q : State → Prop}
  {cc bytes : ByteArray} {nL maxL index n mc ms d pc : Nat} {own C : String} {y : MethodName} {ret : Option FieldType} {b : Addr} {As rest st0 st1 : List Value} {ls : Array Slot} {D : va_G} {tys : TyL} {G : Gr} {A : Nat → Prop} {ws wc w1 w2 : va_W} {rv : Option Value}
theorem cn_B {host : String} (mi : MI C y bytes maxL ret n) (ht : ∀ w ∈ BW, w.before args s = true) (hl : va_Nw (.methodLinkNest own index y host) s) (hR : d + 1 ≤ R.frames ∧ 8 + (maxL + 11) + 30 * d ≤ R.locals) : va_CN R s args own index y host bytes maxL ret (cw y bytes maxL ret) (rmd d mc ms) mc ms n := by
  obtain ⟨⟨h1, h2⟩, hC, h3, h4, h5⟩ := mi
  subst hC
  refine ⟨⟨rfl, rfl, hR.1, hR.2, bw_pay ht h2, List.mem_cons_self⟩, ht _ h2, ht _ h1, ⟨h3, h4⟩, fun sig h => ?_, va_Nw.use rfl hl⟩
  rw [h] at h5
  exact (Option.some.inj h5).symm
theorem ro_goN {args0 : Array Value} (hr : va_Run p l e R s m args below meth c H locs cells slots 0 0 (F0 m pc ls st0) rest (RQc rv args0) (fun _ => False)) (h1 : rv.toList ++ rest = st1)
    (kk : W p l e R s m args below meth c H locs cells slots Q (F0 m (pc + 3) ls st1)) : W p l e R s m args below meth c H locs cells slots Q (F0 m pc ls st0) := by
  intro T hT X
  obtain ⟨v, st₀, t, T', L, h0, X', hL, e1, e2, ⟨hv, hh⟩, st⟩ := hr T hT X
  cases hv
  subst h1
  obtain ⟨t2, a1, b1⟩ := kk T' (by rw [e1, hh, h0]) (Stand.forget X' (fun q h => (hL q h).elim))
  exact ⟨t2, st t2 a1, b1⟩
theorem ro_SN (S : CallFix p m c cc nL s args BW own) (gd : Gd G) (hG : G A s s.heap) (hS : va_S A s.heap H locs) (hK : va_K D vwCl tys s) (hM : Ro l y bytes maxL ret d D tys G As wc rv) (mi : MI C y bytes maxL ret n) (hst : Cond.static y ∈ BW) {host : String} (hl : va_Nw (.methodLinkNest own index y host) s) (hR : d + 1 ≤ R.frames ∧ 8 + (maxL + 11) + 30 * d ≤ R.locals)
    (hP : va_P D vwCl wc H) (hn : As.length = n) (hsize : ls.size = nL) (h0 : st0 = As.reverse ++ rest) (hW : (rest.map fun v => v.category).sum ≤ 8) (h1 : rv.toList ++ rest = st1) (hcs : cells ≤ R.cells ∧ slots ≤ R.slots) (hdg : decode cc pc = .ok (.invokestatic index, 3))
    (kk : W p l e R s m args below meth c H locs cells slots Q (F0 m (pc + 3) ls st1)) : W p l e R s m args below meth c H locs cells slots Q (F0 m pc ls st0) := by
  have hts := S.2.2.2.2
  refine ro_goN (va_runSN (rest := rest) S hM ⟨cn_B mi hts hl hR, hts _ hst, trivial⟩ ⟨RPc_blind gd, RPc_in gd hG hS hK hP⟩ rfl hn hsize h0 (lv_room hW) hdg hcs) h1 kk
theorem fs_IfN {S0 : Type} {val : S0 → Option Value} {post : S0 → Prop} {B : S0 → va_W} (w1 w2 : va_W) (S : CallFix p m c cc nL s args BW own) (gd : Gd G) (hG : G A s s.heap) (hS : va_S A s.heap H locs) (hA : ∀ q, s.heap.size ≤ q → A q) (hK : va_K D vwCl tys s) (hP : va_P D vwCl (w1 ++ (ws ++ w2)) H) (hD : va_D A (w1 ++ (ws ++ w2))) (hM : Fs l y bytes maxL none d mc ms D tys G (.ref b :: As) ws val post B) (mi : MI C y bytes maxL none n) (hin : Cond.instanceMethod y ∈ BW) {host : String} (hl : va_Nw (.methodLinkNest own index y host) s) (hy1 : y.name = "<init>") (hR : d + 1 ≤ R.frames ∧ 8 + (maxL + 11) + 30 * d ≤ R.locals)
    (hn : As.length = n) (hsize : ls.size = nL) (h0 : st0 = As.reverse ++ .ref b :: rest) (hW : (rest.map fun v => v.category).sum ≤ 8) (hcs : cells + mc ≤ R.cells ∧ slots + ms ≤ R.slots) (hdg : decode cc pc = .ok (.invokespecial index, 3))
    (kk : ∀ (u : S0) (H1 : Heap) (locs1 : List Loc), post u → va_P D vwCl (w1 ++ (B u ++ w2)) H1 → va_D A (w1 ++ (B u ++ w2)) → va_S A s.heap H1 locs1 → W p l e R s m args below meth c H1 locs1 (cells + mc) (slots + ms) Q (F0 m (pc + 3) ls ((val u).toList ++ rest))) : W p l e R s m args below meth c H locs cells slots Q (F0 m pc ls st0) := by
  have hts := S.2.2.2.2
  have hPc : va_P D vwCl ws H := va_P_mid hP
  have hF := va_A_mid hD hS hA
  exact fs_go (va_runIN (rest := rest) S (hM H.size) ⟨cn_B mi hts hl hR, hy1, hts _ hin⟩ ⟨FPc_blind gd, FPc_in gd hG hS hK hPc (va_D_mid hD) hF⟩ rfl hn hsize h0 (lv_room hW) hdg hcs) hP hD hS hF kk
end NEST
theorem lg_cmp0 {a b : Int64} : lg_cmp a b = 0 ↔ a = b := by
  unfold lg_cmp
  by_cases h : a = b
  · subst h
    simp
  · constructor
    · intro h1
      simp only [if_neg h] at h1
      split at h1 <;> exact absurd h1 (by decide)
    · intro h1
      exact absurd h1 h
