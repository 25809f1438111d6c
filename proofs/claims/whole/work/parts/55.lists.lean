/-! ===== worlds up to order; segments; lists ===== -/
noncomputable abbrev dqW : DecidableEq (Nat × va_E) := fun a b => Classical.propDecidable (a = b)
noncomputable def cn (x : Nat × va_E) (l : va_W) : Nat := @List.count _ (@instBEqOfDecidableEq _ dqW) x l
noncomputable def cn1 (x y : Nat × va_E) : Nat := cn x [y]
theorem cn_nil (x : Nat × va_E) : cn x [] = 0 := rfl
theorem cn_app (x : Nat × va_E) (a b : va_W) : cn x (a ++ b) = cn x a + cn x b := by
  unfold cn
  exact @List.count_append _ (@instBEqOfDecidableEq _ dqW) x a b
theorem cn_cons (x y : Nat × va_E) (b : va_W) : cn x (y :: b) = cn1 x y + cn x b := by
  rw [show y :: b = [y] ++ b from rfl, cn_app]
  rfl
theorem prm_of {a b : va_W} (h : ∀ x, cn x a = cn x b) : a.Perm b := by
  refine (@List.perm_iff_count _ (@instBEqOfDecidableEq _ dqW) ?_ a b).mpr h
  infer_instance
theorem cn_perm {a b : va_W} (h : a.Perm b) (x : Nat × va_E) : cn x a = cn x b := by
  unfold cn
  exact @List.Perm.count_eq _ (@instBEqOfDecidableEq _ dqW) a b h x
theorem va_P.prm {D : va_G} {cl : List vw_C} {a b : va_W} {H : Heap} (h : va_P D cl a H) (p : ∀ x, cn x a = cn x b) : va_P D cl b H := fun k q hk => by
  have h1 : q ∈ a := ((prm_of p).mem_iff).mpr (List.mem_of_getElem? hk)
  obtain ⟨j, hj⟩ := List.getElem?_of_mem h1
  exact h j q hj
theorem va_P.low {D : va_G} {cl : List vw_C} {a b : va_W} {H : Heap} (h : va_P D cl a H) (p : ∀ c ∈ b, c ∈ a) : va_P D cl b H := fun k q hk => by
  obtain ⟨j, hj⟩ := List.getElem?_of_mem (p q (List.mem_of_getElem? hk))
  exact h j q hj
theorem va_P.mem {D : va_G} {cl : List vw_C} {a : va_W} {H : Heap} {c : Nat × va_E} (h : va_P D cl a H) (p : c ∈ a) : va_P D cl [c] H := h.low (fun d hd => by rw [List.mem_singleton.mp hd]; exact p)
theorem va_P.mem2 {D : va_G} {cl : List vw_C} {a : va_W} {H : Heap} {c d : Nat × va_E} (h : va_P D cl a H) (p : c ∈ a) (q : d ∈ a) : va_P D cl [c, d] H := h.low (fun e he => by
  rcases List.mem_cons.mp he with h1 | h1
  · rw [h1]; exact p
  · rw [List.mem_singleton.mp h1]; exact q)
theorem va_D_nd {A : Nat → Prop} {ws : va_W} : va_D A ws ↔ (ws.map Prod.fst).Nodup ∧ ∀ q ∈ ws, A q.1 := by
  constructor
  · intro h
    refine ⟨?_, fun q hq => ?_⟩
    · refine List.pairwise_iff_getElem.mpr (fun i j hi hj hij he => ?_)
      rw [List.length_map] at hi hj
      rw [List.getElem_map, List.getElem_map] at he
      have := h.1 i j _ _ (List.getElem?_eq_getElem hi) (List.getElem?_eq_getElem hj) he
      omega
    · obtain ⟨k, hk⟩ := List.getElem?_of_mem hq
      exact h.2 k q hk
  · intro h
    refine ⟨fun i j p q hp hq e => ?_, fun k q hk => h.2 q (List.mem_of_getElem? hk)⟩
    have hn := List.pairwise_iff_getElem.mp h.1
    obtain ⟨hi, ei⟩ := List.getElem?_eq_some_iff.mp hp
    obtain ⟨hj, ej⟩ := List.getElem?_eq_some_iff.mp hq
    rcases Nat.lt_trichotomy i j with h1 | h1 | h1
    · refine absurd ?_ (hn i j (by rw [List.length_map]; exact hi) (by rw [List.length_map]; exact hj) h1)
      rw [List.getElem_map, List.getElem_map, ei, ej]
      exact e
    · exact h1
    · refine absurd ?_ (hn j i (by rw [List.length_map]; exact hj) (by rw [List.length_map]; exact hi) h1)
      rw [List.getElem_map, List.getElem_map, ei, ej]
      exact e.symm
theorem va_D.prm {A : Nat → Prop} {a b : va_W} (h : va_D A a) (p : ∀ x, cn x a = cn x b) : va_D A b := by
  have hp := prm_of p
  have h1 := va_D_nd.mp h
  exact va_D_nd.mpr ⟨(hp.map Prod.fst).nodup_iff.mp h1.1, fun q hq => h1.2 q (hp.mem_iff.mpr hq)⟩
theorem va_D.tail {A : Nat → Prop} {a : va_W} {c : Nat × va_E} (h : va_D A (c :: a)) : va_D A a := by
  have h1 := va_D_nd.mp h
  rw [List.map_cons, List.nodup_cons] at h1
  exact va_D_nd.mpr ⟨h1.1.2, fun q hq => h1.2 q (List.mem_cons_of_mem _ hq)⟩
theorem va_P.tail {D : va_G} {cl : List vw_C} {a : va_W} {c : Nat × va_E} {H : Heap} (h : va_P D cl (c :: a) H) : va_P D cl a H := h.low (fun d hd => List.mem_cons_of_mem _ hd)
/-- n blocks -/
def sg (n : Nat) (f : Nat → va_W) : va_W := (List.range n).flatMap f
def sgx (n : Nat) (f : Nat → va_W) (i : Nat) : va_W := ((List.range n).erase i).flatMap f
theorem sg_0 (f : Nat → va_W) : sg 0 f = [] := rfl
theorem sg_congr {n : Nat} {f g : Nat → va_W} (h : ∀ i, i < n → f i = g i) : sg n f = sg n g := by
  unfold sg
  rw [List.flatMap_def, List.flatMap_def]
  congr 1
  exact List.map_congr_left (fun i hi => h i (List.mem_range.mp hi))
theorem sg_succ (n : Nat) (f : Nat → va_W) : sg (n + 1) f = sg n f ++ f n := by
  unfold sg
  rw [List.range_succ, List.flatMap_append]
  simp
theorem sg_push (n : Nat) (f : Nat → va_W) (b : va_W) : sg (n + 1) (up f n b) = sg n f ++ b := by
  rw [sg_succ, up_eq, sg_congr (g := f) (fun i hi => up_ne f b (by omega))]
theorem mem_sg {n i : Nat} {f : Nat → va_W} {c : Nat × va_E} (hi : i < n) (hc : c ∈ f i) : c ∈ sg n f := List.mem_flatMap.mpr ⟨i, List.mem_range.mpr hi, hc⟩
theorem sg_ext {n i : Nat} (hi : i < n) (f : Nat → va_W) (x : Nat × va_E) : cn x (sg n f) = cn x (f i) + cn x (sgx n f i) := by
  have h1 : (List.range n).Perm (i :: (List.range n).erase i) := List.perm_cons_erase (List.mem_range.mpr hi)
  have h2 := cn_perm (h1.flatMap_right f) x
  show cn x ((List.range n).flatMap f) = _
  rw [h2, List.flatMap_cons, cn_app]
  rfl
theorem sgx_congr {n i : Nat} {f g : Nat → va_W} (h : ∀ j, j < n → j ≠ i → f j = g j) : sgx n f i = sgx n g i := by
  unfold sgx
  rw [List.flatMap_def, List.flatMap_def]
  congr 1
  refine List.map_congr_left (fun j hj => ?_)
  have := (List.Nodup.mem_erase_iff (List.nodup_range)).mp hj
  exact h j (List.mem_range.mp this.2) this.1
/-- a list's places -/
def els (n : Nat) (pl : Nat → Nat) : Nat → Option Nat := fun i => if i < n then some (pl i) else none
theorem els_push (n : Nat) (pl : Nat → Nat) : va_up (els n pl) n (some (pl n)) = els (n + 1) pl := by
  funext i
  unfold va_up els
  by_cases h : i = n
  · subst h
    rw [if_pos rfl, if_pos (by omega)]
  · rw [if_neg h]
    by_cases h2 : i < n
    · rw [if_pos h2, if_pos (by omega)]
    · rw [if_neg h2, if_neg (by omega)]
theorem els_cpy (n : Nat) (pl : Nat → Nat) : va_cpy (els n pl) (fun _ => none) 0 0 n = els n pl := by
  funext i
  unfold va_cpy els
  by_cases h : i < n
  · rw [if_pos ⟨Nat.zero_le _, by omega⟩, if_pos (by omega), if_pos h, Nat.zero_add, Nat.sub_zero]
  · rw [if_neg (by omega), if_neg h]
def capOf : Nat → Nat
  | 0 => 0
  | n + 1 => if n = 0 then 10 else if capOf n = n then n + n / 2 else capOf n
theorem capOf_ok : ∀ n, n ≤ capOf n ∧ capOf n ≤ 10 + n + n / 2 ∧ (0 < n → 10 ≤ capOf n)
  | 0 => ⟨Nat.le_refl _, Nat.zero_le _, fun h => absurd h (Nat.lt_irrefl _)⟩
  | n + 1 => by
    have h := capOf_ok n
    unfold capOf
    split
    · rename_i e
      subst e
      exact ⟨by omega, by omega, fun _ => by omega⟩
    · split
      · have := h.2.2 (by omega)
        exact ⟨by omega, by omega, fun _ => by omega⟩
      · have := h.2.2 (by omega)
        exact ⟨by omega, by omega, fun _ => by omega⟩
/-- places that are made where one more comes to n -/
def gSl (n : Nat) : Nat := if n = 0 then 10 else if capOf n = n then n + n / 2 else 0
def lO (la qa dz : Nat) (md : Int32) (n : Nat) : Nat × va_E := (la, .inr (0, [.int md, .ref (if n = 0 then dz else qa), .int (nI n)]))
def lA (qa : Nat) (k : Nat → ClassId) (n : Nat) (pl : Nat → Nat) : Nat × va_E := (qa, .inl (k 2, capOf n, .inr (.inr (.inr (.inr (els n pl))))))
def bA (la qa dz : Nat) (md : Int32) (k : Nat → ClassId) (n : Nat) (pl : Nat → Nat) : va_W := if n = 0 then [lO la qa dz md n] else [lO la qa dz md n, lA qa k n pl]
theorem bA_o {la qa dz : Nat} {md : Int32} {k : Nat → ClassId} {n : Nat} {pl : Nat → Nat} : lO la qa dz md n ∈ bA la qa dz md k n pl := by
  unfold bA
  split
  · exact List.mem_cons_self
  · exact List.mem_cons_self
theorem bA_a {la qa dz : Nat} {md : Int32} {k : Nat → ClassId} {n : Nat} {pl : Nat → Nat} (h : 0 < n) : lA qa k n pl ∈ bA la qa dz md k n pl := by
  unfold bA
  rw [if_neg (by omega)]
  exact List.mem_cons_of_mem _ List.mem_cons_self
/-- what lists rest on -/
def GL (dz mi : Nat) : Gr := fun A U H => va_Z "java/util/ArrayList" "DEFAULTCAPACITY_EMPTY_ELEMENTDATA" "[Ljava/lang/Object;" (.ref dz) A U H ∧ va_T (.object "java/lang/Object") dz 0 (fun _ => .null) A U H ∧ va_AO "java/lang/Object" U ∧ va_Mi "[Ljava/lang/Object;" mi U ∧ va_Dc U ∧ va_Nw (.castable RX4 "java/lang/Object") U ∧ va_Nw (.castable RX0 "java/lang/Object") U
theorem GdL {dz mi : Nat} : Gd (GL dz mi) := by
  refine ⟨fun A u U H hW h => ?_, fun A U H H1 hk h => ?_, fun A B U H hn h => ?_⟩
  · obtain ⟨h1, h2, h3, h4, h5, h6, h7⟩ := h
    exact ⟨va_Z.moved hW.alike h1, va_T.moved hW.alike h2, va_AO.moved hW.alike h3, va_Mi.moved hW.alike h4, va_Dc.moved hW.alike h5, va_Nw.warmC hW h6, va_Nw.warmC hW h7⟩
  · obtain ⟨h1, h2, h3⟩ := h
    exact ⟨h1.kept hk, h2.kept hk, h3⟩
  · obtain ⟨h1, h2, h3⟩ := h
    exact ⟨h1.narrow hn, h2.narrow hn, h3⟩
abbrev GA (kz : Nat) (ke sK sV : Nat → Nat) (dz mi : Nat) : Gr := fun A U H => GK kz ke sK sV A U H ∧ GL dz mi A U H
theorem GdA {kz : Nat} {ke sK sV : Nat → Nat} {dz mi : Nat} : Gd (GA kz ke sK sV dz mi) :=
  ⟨fun A u U H hW h => ⟨GdK.1 A u U H hW h.1, GdL.1 A u U H hW h.2⟩, fun A U H H1 hk h => ⟨GdK.2.1 A U H H1 hk h.1, GdL.2.1 A U H H1 hk h.2⟩, fun A B U H hn h => ⟨GdK.2.2 A B U H hn h.1, GdL.2.2 A B U H hn h.2⟩⟩
section LROWS
variable {p : Program} {l : Launch} {e : Env} {R : Room} {s : State} {m : MethodId} {args : Array Value} {below : List Frame} {meth : Method} {c : Code} {H H0 : Heap} {locs : List Loc} {cells slots : Nat} {Q : State → Prop} {cc : ByteArray} {pc : Nat} {ls : Array Slot} {rest : List Value} {D : va_G} {A : Nat → Prop} {ws : va_W} {k : Nat → ClassId}
theorem ra_newq (hexec : p.tables.exec = Jvm.exec) (hb : c.code = cc) {own : String} {index : Nat} (hown : s.vm.findClass own = some m.cls) (hclink : (Cond.classLink own index "java/lang/Object").before args s = true) (hover : va_AO "java/lang/Object" s) (hK : va_K D vwCl (TY k) s) (hP : va_P D vwCl ws H) (hD : va_D A ws) (hS : va_S A H0 H locs) (hA : ∀ q, H0.size ≤ q → A q)
    {n : Int32} {N' : Nat} (hn : ¬ n < 0) (hN : n.toNatClampNeg = N') (hbytes : N' * 4 ≤ 536870912) (hcells : cells + 1 ≤ R.cells) (hslots : slots + N' ≤ R.slots) (hdg : decode cc pc = .ok (.anewarray index, 3))
    (kk : ∀ (q : Nat) (H1 : Heap), va_P D vwCl (ws ++ [(q, .inl (k 2, N', .inr (.inr (.inr (.inr (fun _ => none))))))]) H1 → va_D A (ws ++ [(q, .inl (k 2, N', .inr (.inr (.inr (.inr (fun _ => none))))))]) → va_S A H0 H1 locs →
      W p l e R s m args below meth c H1 locs (cells + 1) (slots + N') Q (F0 m (pc + 3) ls (.ref q :: rest))) : W p l e R s m args below meth c H locs cells slots Q (F0 m pc ls (.int n :: rest)) := by
  refine va_newq hexec hb hown hclink hover hK hP hD hS hA hn hN hbytes hcells hslots hdg (fun q cA H1 hK1 hP1 hD1 hS1 => ?_)
  obtain ⟨k1, c1, -, -, -, h1⟩ : va_RA s cA (.object "java/lang/Object") := (hK1.2 4 (cA, .object "java/lang/Object") rfl).2
  obtain ⟨k2, c2, -, -, -, h2⟩ : va_RA s (k 2) (.object "java/lang/Object") := (hK.2 2 (k 2, .object "java/lang/Object") rfl).2
  have e9 : cA = k 2 := Option.some.inj (h1.symm.trans h2)
  subst e9
  exact kk q H1 hP1 hD1 hS1
/-- an array of objects is of its class -/
theorem ra_isq (hK : va_K D vwCl (TY k) s) {a n : Nat} {f : Nat → Option Nat} (hP : va_P D vwCl [(a, .inl (k 2, n, .inr (.inr (.inr (.inr f)))))] H) : ∃ cell : Cell, H[a]? = some cell ∧ cell.vm.isStatics = false ∧ s.vm.findClass "[Ljava/lang/Object;" = some cell.cls := by
  obtain ⟨k2, c2, -, -, -, h2⟩ : va_RA s (k 2) (.object "java/lang/Object") := (hK.2 2 (k 2, .object "java/lang/Object") rfl).2
  exact ⟨_, hP 0 _ rfl, rfl, h2⟩
end LROWS
