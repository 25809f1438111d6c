/-! ===== the ledger: its object, two lists, the loans, the calls, the loans' rows ===== -/
/-- q: addresses: 0 loans, 1 2 3 their rows, 4 calls, 5 (0 ledger, 1 2 the lists, 3 4 their arrays) -/
def gO (q : Nat → Nat → Nat) (lost : Int32) : Nat × va_E := (q 5 0, .inr (3, [.ref (q 5 1), .ref (q 5 2), .int lost]))
def eL (q : Nat → Nat → Nat) (ga : Nat → Nat → Int32) (gt : Nat → Int64) (i : Nat) : Nat × va_E := cL (q 0 i) (ga i) (q 1 i) (q 2 i) (q 3 i) (gt i)
def eK (q : Nat → Nat → Nat) (gc : Nat → Nat → Int32) (gl : Nat → Nat) (i : Nat) : Nat × va_E := cK (q 4 i) (gc i 0) (q 0 (gl i)) (gc i 2) (gc i 3)
def eR (q : Nat → Nat → Nat) (k : Nat → ClassId) (gn : Nat → Nat) (gr : Nat → Nat → Nat → Int32) (i : Nat) : va_W := [(q 1 i, .inl (k 0, gn i, .inl (gr 1 i))), (q 2 i, .inl (k 0, 6, .inl (gr 2 i))), (q 3 i, .inl (k 0, 6, .inl (gr 3 i)))]
def sL (q : Nat → Nat → Nat) (n : Nat) (ga : Nat → Nat → Int32) (gt : Nat → Int64) : va_W := sg n (fun i => [eL q ga gt i])
def sK (q : Nat → Nat → Nat) (mm : Nat) (gc : Nat → Nat → Int32) (gl : Nat → Nat) : va_W := sg mm (fun i => [eK q gc gl i])
def sR (q : Nat → Nat → Nat) (k : Nat → ClassId) (n : Nat) (gn : Nat → Nat) (gr : Nat → Nat → Nat → Int32) : va_W := sg n (fun i => eR q k gn gr i)
def bG (k : Nat → ClassId) (dz : Nat) (q : Nat → Nat → Nat) (n : Nat) (gt : Nat → Int64) (gn : Nat → Nat) (gr : Nat → Nat → Nat → Int32) (ga : Nat → Nat → Int32) (lost : Int32) (mm : Nat) (gc : Nat → Nat → Int32) (gl : Nat → Nat) (d1 d2 : Int32) : va_W :=
  [gO q lost] ++ (bA (q 5 1) (q 5 3) dz d1 k n (q 0) ++ (bA (q 5 2) (q 5 4) dz d2 k mm (q 4) ++ (sL q n ga gt ++ (sK q mm gc gl ++ sR q k n gn gr))))
section GMEM
variable {k : Nat → ClassId} {dz : Nat} {q : Nat → Nat → Nat} {n : Nat} {gt : Nat → Int64} {gn : Nat → Nat} {gr : Nat → Nat → Nat → Int32} {ga : Nat → Nat → Int32} {lost : Int32} {mm : Nat} {gc : Nat → Nat → Int32} {gl : Nat → Nat} {d1 d2 : Int32} {i : Nat}
theorem bG_o : gO q lost ∈ bG k dz q n gt gn gr ga lost mm gc gl d1 d2 := List.mem_cons_self
theorem bG_l : lO (q 5 1) (q 5 3) dz d1 n ∈ bG k dz q n gt gn gr ga lost mm gc gl d1 d2 := List.mem_append_right _ (List.mem_append_left _ bA_o)
theorem bG_c : lO (q 5 2) (q 5 4) dz d2 mm ∈ bG k dz q n gt gn gr ga lost mm gc gl d1 d2 := List.mem_append_right _ (List.mem_append_right _ (List.mem_append_left _ bA_o))
theorem lO_pos {la qa dz : Nat} {md : Int32} {n : Nat} (h : 0 < n) : lO la qa dz md n = (la, .inr (0, [.int md, .ref qa, .int (nI n)])) := by
  unfold lO
  rw [if_neg (by omega)]
theorem bG_lp (h : 0 < n) : ((q 5 1, .inr (0, [.int d1, .ref (q 5 3), .int (nI n)])) : Nat × va_E) ∈ bG k dz q n gt gn gr ga lost mm gc gl d1 d2 := by
  rw [← lO_pos (dz := dz) h]
  exact bG_l
theorem bG_cp (h : 0 < mm) : ((q 5 2, .inr (0, [.int d2, .ref (q 5 4), .int (nI mm)])) : Nat × va_E) ∈ bG k dz q n gt gn gr ga lost mm gc gl d1 d2 := by
  rw [← lO_pos (dz := dz) h]
  exact bG_c
theorem bG_la (h : 0 < n) : ((q 5 3, .inl (k 2, capOf n, .inr (.inr (.inr (.inr (els n (q 0))))))) : Nat × va_E) ∈ bG k dz q n gt gn gr ga lost mm gc gl d1 d2 := List.mem_append_right _ (List.mem_append_left _ (bA_a h))
theorem bG_ca (h : 0 < mm) : ((q 5 4, .inl (k 2, capOf mm, .inr (.inr (.inr (.inr (els mm (q 4))))))) : Nat × va_E) ∈ bG k dz q n gt gn gr ga lost mm gc gl d1 d2 := List.mem_append_right _ (List.mem_append_right _ (List.mem_append_left _ (bA_a h)))
theorem bG_L (h : i < n) : eL q ga gt i ∈ bG k dz q n gt gn gr ga lost mm gc gl d1 d2 := List.mem_append_right _ (List.mem_append_right _ (List.mem_append_right _ (List.mem_append_left _ (mem_sg h List.mem_cons_self))))
theorem bG_K (h : i < mm) : eK q gc gl i ∈ bG k dz q n gt gn gr ga lost mm gc gl d1 d2 := List.mem_append_right _ (List.mem_append_right _ (List.mem_append_right _ (List.mem_append_right _ (List.mem_append_left _ (mem_sg h List.mem_cons_self)))))
theorem bG_R (h : i < n) {x : Nat × va_E} (hx : x ∈ eR q k gn gr i) : x ∈ bG k dz q n gt gn gr ga lost mm gc gl d1 d2 := List.mem_append_right _ (List.mem_append_right _ (List.mem_append_right _ (List.mem_append_right _ (List.mem_append_right _ (mem_sg h hx)))))
end GMEM
/-- an object that may be none -/
def oR (f : Nat → Nat) (o : Option Nat) : Value := match o with | none => .null | some i => .ref (f i)
