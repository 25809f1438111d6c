/-! ===== a LOAN more ===== -/
section GE
variable {k : Nat → ClassId} {dz : Nat} {q : Nat → Nat → Nat} {n : Nat} {gt : Nat → Int64} {gn : Nat → Nat} {gr : Nat → Nat → Nat → Int32} {ga : Nat → Nat → Int32} {lost : Int32} {mm : Nat} {gc : Nat → Nat → Int32} {gl : Nat → Nat} {d1 d2 : Int32}
def neQ (q : Nat → Nat → Nat) (n p rs rt ra u : Nat) : Nat → Nat → Nat := up (up (up (up (up q 0 (up (q 0) n p)) 1 (up (q 1) n rs)) 2 (up (q 2) n rt)) 3 (up (q 3) n ra)) 5 (up (q 5) 3 u)
def neR (gr : Nat → Nat → Nat → Int32) (n : Nat) (f0 f1 f2 : Nat → Int32) : Nat → Nat → Nat → Int32 := up (up (up gr 1 (up (gr 1) n f0)) 2 (up (gr 2) n f1)) 3 (up (gr 3) n f2)
def neC (k : Nat → ClassId) (p : Nat) (F : Nat → Int32) (rs rt ra : Nat) (bt : Int64) (c : Nat) (f0 f1 f2 : Nat → Int32) : va_W := [cL p F rs rt ra bt] ++ [(rs, .inl (k 0, c, .inl f0)), (rt, .inl (k 0, 6, .inl f1)), (ra, .inl (k 0, 6, .inl f2))]
def lV (q : Nat → Nat → Nat) (ga : Nat → Nat → Int32) (gt : Nat → Int64) (i : Nat) : List Value := [.int (ga i 0), .int (ga i 1), .int (ga i 2), .int (ga i 3), .ref (q 1 i), .long (gt i), .int (ga i 6), .int (ga i 7), .int (ga i 8), .ref (q 2 i), .ref (q 3 i), .int (ga i 11), .int (ga i 12), .int (ga i 13), .int (ga i 14), .int (ga i 15), .int (ga i 16), .int (ga i 17)]
def gxE (k : Nat → ClassId) (dz : Nat) (q : Nat → Nat → Nat) (n : Nat) (gn : Nat → Nat) (gr : Nat → Nat → Nat → Int32) (lost : Int32) (mm : Nat) (gc : Nat → Nat → Int32) (gl : Nat → Nat) (d2 : Int32) (rs rt ra c : Nat) (f0 f1 f2 : Nat → Int32) : va_W := [gO q lost] ++ (bA (q 5 2) (q 5 4) dz d2 k mm (q 4) ++ (sK q mm gc gl ++ (sR q k n gn gr ++ [(rs, .inl (k 0, c, .inl f0)), (rt, .inl (k 0, 6, .inl f1)), (ra, .inl (k 0, 6, .inl f2))])))
theorem sL_push (p : Nat) (F : Nat → Int32) (rs rt ra u : Nat) (bt : Int64) : sL (neQ q n p rs rt ra u) (n + 1) (up ga n F) (up gt n bt) = sL q n ga gt ++ [cL p F rs rt ra bt] := by
  unfold sL
  rw [sg_succ]
  have e1 : ∀ i, eL (neQ q n p rs rt ra u) (up ga n F) (up gt n bt) i = cL (up (q 0) n p i) (up ga n F i) (up (q 1) n rs i) (up (q 2) n rt i) (up (q 3) n ra i) (up gt n bt i) := fun _ => rfl
  rw [e1 n, up_eq, up_eq, up_eq, up_eq, up_eq, up_eq]
  rw [sg_congr (g := fun i => [eL q ga gt i]) (fun i hi => by rw [e1 i, up_ne _ _ (by omega), up_ne _ _ (by omega), up_ne _ _ (by omega), up_ne _ _ (by omega), up_ne _ _ (by omega), up_ne _ _ (by omega)]; rfl)]
theorem sR_push (p rs rt ra u c : Nat) (f0 f1 f2 : Nat → Int32) : sR (neQ q n p rs rt ra u) k (n + 1) (up gn n c) (neR gr n f0 f1 f2) = sR q k n gn gr ++ [(rs, .inl (k 0, c, .inl f0)), (rt, .inl (k 0, 6, .inl f1)), (ra, .inl (k 0, 6, .inl f2))] := by
  unfold sR
  rw [sg_succ]
  have e1 : ∀ i, eR (neQ q n p rs rt ra u) k (up gn n c) (neR gr n f0 f1 f2) i = ([(up (q 1) n rs i, .inl (k 0, up gn n c i, .inl (up (gr 1) n f0 i))), (up (q 2) n rt i, .inl (k 0, 6, .inl (up (gr 2) n f1 i))), (up (q 3) n ra i, .inl (k 0, 6, .inl (up (gr 3) n f2 i)))] : va_W) := fun _ => rfl
  rw [e1 n, up_eq, up_eq, up_eq, up_eq, up_eq, up_eq, up_eq]
  rw [sg_congr (g := fun i => eR q k gn gr i) (fun i hi => by rw [e1 i, up_ne _ _ (by omega), up_ne _ _ (by omega), up_ne _ _ (by omega), up_ne _ _ (by omega), up_ne _ _ (by omega), up_ne _ _ (by omega), up_ne _ _ (by omega)]; rfl)]
theorem sK_push (p rs rt ra u : Nat) (hgl : ∀ i, i < mm → gl i < n) : sK (neQ q n p rs rt ra u) mm gc gl = sK q mm gc gl := by
  unfold sK
  refine sg_congr (fun i hi => ?_)
  have := hgl i hi
  have e1 : eK (neQ q n p rs rt ra u) gc gl i = cK (q 4 i) (gc i 0) (up (q 0) n p (gl i)) (gc i 2) (gc i 3) := rfl
  rw [e1, up_ne _ _ (by omega)]
  rfl
theorem bE_x (p : Nat) (F : Nat → Int32) (rs rt ra : Nat) (bt : Int64) (c : Nat) (f0 f1 f2 : Nat → Int32) (u : Nat) (x : Nat × va_E) : cn x (bG k dz q n gt gn gr ga lost mm gc gl d1 d2 ++ neC k p F rs rt ra bt c f0 f1 f2) = cn x ([] ++ ((bA (q 5 1) (q 5 3) dz d1 k n (up (q 0) n p) ++ sL (neQ q n p rs rt ra u) (n + 1) (up ga n F) (up gt n bt)) ++ gxE k dz q n gn gr lost mm gc gl d2 rs rt ra c f0 f1 f2)) := by
  rw [sL_push, ← bA_congr (pl := q 0) (pl' := up (q 0) n p) (fun i hi => (up_ne (q 0) p (by omega)).symm)]
  unfold bG neC gxE
  simp only [cn_app, cn_nil]
  omega
theorem bE_y (p : Nat) (F : Nat → Int32) (rs rt ra : Nat) (bt : Int64) (c : Nat) (f0 f1 f2 : Nat → Int32) (u : Nat) (md : Int32) (hgl : ∀ i, i < mm → gl i < n) (x : Nat × va_E) : cn x ([] ++ ((bA (q 5 1) u dz md k (n + 1) (up (q 0) n p) ++ sL (neQ q n p rs rt ra u) (n + 1) (up ga n F) (up gt n bt)) ++ gxE k dz q n gn gr lost mm gc gl d2 rs rt ra c f0 f1 f2)) = cn x (bG k dz (neQ q n p rs rt ra u) (n + 1) (up gt n bt) (up gn n c) (neR gr n f0 f1 f2) (up ga n F) lost mm gc gl md d2) := by
  have e1 : bG k dz (neQ q n p rs rt ra u) (n + 1) (up gt n bt) (up gn n c) (neR gr n f0 f1 f2) (up ga n F) lost mm gc gl md d2 = [gO q lost] ++ (bA (q 5 1) u dz md k (n + 1) (up (q 0) n p) ++ (bA (q 5 2) (q 5 4) dz d2 k mm (q 4) ++ (sL (neQ q n p rs rt ra u) (n + 1) (up ga n F) (up gt n bt) ++ (sK (neQ q n p rs rt ra u) mm gc gl ++ sR (neQ q n p rs rt ra u) k (n + 1) (up gn n c) (neR gr n f0 f1 f2))))) := rfl
  rw [e1, sK_push p rs rt ra u hgl, sR_push]
  unfold gxE
  simp only [cn_app, cn_nil]
  omega
end GE
