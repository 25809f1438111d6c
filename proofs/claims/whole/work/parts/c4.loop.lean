/-! ===== the law's loop ===== -/
theorem law_gt {L N : Nat} (h : L < 6 * N + 6) (hb : 6 * N + L < 2 ^ 29) : Int32.ofNat L - 6 < nI (6 * N) := by
  apply Int32.lt_iff_toInt_lt.mpr
  have e1 : (Int32.ofNat L - 6).toInt = (L : Int) - 6 := pk_sub_toInt (a := L) (b := 6) (by omega) (by decide)
  rw [e1, nI_toInt (by omega)]
  omega
section LOOP
variable {p : Program} {l : Launch} {e : Env} {s : State} {m : MethodId} {below : List Frame} {meth : Method} {c : Code} {b L : Nat} {xs : Nat → Int32} {D : va_G} {k : Nat → ClassId} {kz : Nat} {ke sK sV : Nat → Nat} {dz mi : Nat} {sx : Nat → Nat} {h_ : Nat} {qm : Nat → Nat} {ad : Nat}
set_option maxHeartbeats 4000000 in
set_option maxRecDepth 100000 in
theorem law_loop (C : LC p s m c #[Value.ref b] b L xs D k kz ke sK sV dz mi sx) (hst : l.stackTraces = false) (hL : L ≤ 3072) (hr : meth.sig.returnType = ret) (hlocks : meth.locks = false) : ∀ (r N : Nat) (q : Nat → Nat → Nat) (d1 d2 : Int32) (u : CSt) (v : MSt) (g : GH) (fo : Nat → Int64) (H : Heap) (locs : List Loc) (cells slots : Nat) (ls : Array Slot), L < 6 * (N + r) + 6 → 6 * N ≤ 3072 → Rel N u v g → RX v → va_P D vwCl (LW k dz q d1 d2 u h_ qm v ad fo) H → va_D (AA s) (LW k dz q d1 d2 u h_ qm v ad fo) → va_S (AA s) s.heap H locs → lv_has ls 7 (LV b (q 6 0) h_ ad N) → cells ≤ 100 + 600 * N → slots ≤ 9000 + 3700 * N → W p l e room_1 s m #[Value.ref b] below meth c H locs cells slots (lw_Z below #[Value.ref b] s) (F0 m 23 ls []) := by
  intro r
  induction r with
  | zero =>
    intro N q d1 d2 u v g fo H locs cells slots ls hf hN0 h hx9 hP hD hS hl hc1 hc2
    obtain ⟨hx, hb, hml, hown, hts, hK, hG, hX, hbl⟩ := id C
    have hbA : ¬ (AA s) b := Nat.not_le.mpr hbl
    refine lv_iload hx hb dL_law_23 (lv_at hl 4 rfl) ?_
    refine lv_aload_n hx hb dL_law_25 rfl (lv_at hl 0 rfl) ?_
    refine va_slen hx hb hX hbl hbA hS dL_law_26 ?_
    refine lv_bipush (v := 6) hx hb dL_law_27 (by decide) ?_
    refine lv_isub hx hb dL_law_29 ?_
    refine lv_icmp_gt (tgt := 926) hx hb dL_law_30 (by decide) (fun _ => ?_) (fun c9 => absurd (law_gt (by omega) (by omega)) c9)
    refine va_forget hS.2.2 ?_
    refine W.widen (k := 601024) (n := 7293034) (by omega) (by omega) ?_
    refine lv_iconst (v := 1) hx hb dL_law_926 (by decide) ?_
    exact lw_ret hx hb hr hlocks dL_law_927
  | succ r ih =>
    intro N q d1 d2 u v g fo H locs cells slots ls hf hN0 h hx9 hP hD hS hl hc1 hc2
    obtain ⟨hx, hb, hml, hown, hts, hK, hG, hX, hbl⟩ := id C
    have hbA : ¬ (AA s) b := Nat.not_le.mpr hbl
    refine lv_iload hx hb dL_law_23 (lv_at hl 4 rfl) ?_
    refine lv_aload_n hx hb dL_law_25 rfl (lv_at hl 0 rfl) ?_
    refine va_slen hx hb hX hbl hbA hS dL_law_26 ?_
    refine lv_bipush (v := 6) hx hb dL_law_27 (by decide) ?_
    refine lv_isub hx hb dL_law_29 ?_
    refine lv_icmp_gt (tgt := 926) hx hb dL_law_30 (by decide) (fun _ => ?_) (fun c9 => ?_)
    · refine va_forget hS.2.2 ?_
      refine W.widen (k := 601024) (n := 7293034) (by omega) (by omega) ?_
      refine lv_iconst (v := 1) hx hb dL_law_926 (by decide) ?_
      exact lw_ret hx hb hr hlocks dL_law_927
    · have hN : 6 * N + 6 ≤ L := by
        rcases Nat.lt_or_ge L (6 * N + 6) with z | z
        · exact absurd (law_gt z (by omega)) c9
        · exact z
      have KK : LK p l e s m #[Value.ref b] below meth c (lw_Z below #[Value.ref b] s) b D k dz (q 6 0) h_ qm ad N (cells + 600) (slots + 3700) := by
        intro q' d1' d2' u' v' g' fo' H' locs' ls' e6 h' hx' hP' hD' hS' hl'
        refine lv_iinc (v := nI (6 * (N + 1))) (lv' := [(4, .int (nI (6 * (N + 1)))), (0, .ref b), (1, .ref (q 6 0)), (2, .ref h_), (3, .ref ad)]) hx hb dL_law_920 hl' (k := 4) rfl (nI_add (6 * N) 6) (by decide) rfl (fun ls hl => ?_)
        refine lv_goto (tgt := 23) hx hb dL_law_923 (by decide) ?_
        exact ih (N + 1) q' d1' d2' u' v' g' fo' H' locs' _ _ ls (by omega) (by omega) h' hx' hP' hD' hS' (by rw [e6]; exact lv_sub hl [1, 2, 3, 4, 0] rfl) (by omega) (by omega)
      refine lv_aload_n hx hb dL_law_33 rfl (lv_at hl 0 rfl) ?_
      refine lv_iload hx hb dL_law_34 (lv_at hl 4 rfl) ?_
      refine va_sld hx hb hX hbl hbA hS (pk_in (6 * N) L (by omega)) dL_law_36 ?_
      rw [nI_clamp (by omega)]
      refine lv_bipush (v := 31) hx hb dL_law_37 (by decide) ?_
      refine lv_iand hx hb dL_law_39 ?_
      obtain ⟨j, hj, ej⟩ := pk_andE (xs (6 * N)) (m := 31) 5 (by decide)
      refine rw_topi ej ?_
      replace hj : j < 32 := hj
      by_cases hj2 : j < 20
      · rcases (show j = 0 ∨ j = 1 ∨ j = 2 ∨ j = 3 ∨ j = 4 ∨ j = 5 ∨ j = 6 ∨ j = 7 ∨ j = 8 ∨ j = 9 ∨ j = 10 ∨ j = 11 ∨ j = 12 ∨ j = 13 ∨ j = 14 ∨ j = 15 ∨ j = 16 ∨ j = 17 ∨ j = 18 ∨ j = 19 by omega) with e | e | e | e | e | e | e | e | e | e | e | e | e | e | e | e | e | e | e | e
        all_goals subst e
        · refine lv_tableIn (tgt := 136) (off := 96) hx hb dL_law_40 (by decide) (by decide) (by decide) (by decide) ?_
          exact law_feed C hN hL h hx9 hP hD hS hl (by omega) (by omega) KK
        · refine lv_tableIn (tgt := 209) (off := 169) hx hb dL_law_40 (by decide) (by decide) (by decide) (by decide) ?_
          exact law_end C hN hL h hx9 hP hD hS hl (by omega) (by omega) KK
        · refine lv_tableIn (tgt := 234) (off := 194) hx hb dL_law_40 (by decide) (by decide) (by decide) (by decide) ?_
          exact law_rules C hN hL h hx9 hP hD hS hl (by omega) (by omega) KK
        · refine lv_tableIn (tgt := 247) (off := 207) hx hb dL_law_40 (by decide) (by decide) (by decide) (by decide) ?_
          exact law_fault C hN hL h hx9 hP hD hS hl (by omega) (by omega) KK
        · refine lv_tableIn (tgt := 260) (off := 220) hx hb dL_law_40 (by decide) (by decide) (by decide) (by decide) ?_
          exact law_rule C hN hL h hx9 hP hD hS hl (by omega) (by omega) KK
        · refine lv_tableIn (tgt := 285) (off := 245) hx hb dL_law_40 (by decide) (by decide) (by decide) (by decide) ?_
          exact law_person C hN hL h hx9 hP hD hS hl (by omega) (by omega) KK
        · refine lv_tableIn (tgt := 310) (off := 270) hx hb dL_law_40 (by decide) (by decide) (by decide) (by decide) ?_
          exact law_tag C hN hL h hx9 hP hD hS hl (by omega) (by omega) KK
        · refine lv_tableIn (tgt := 375) (off := 335) hx hb dL_law_40 (by decide) (by decide) (by decide) (by decide) ?_
          exact law_fund C hN hL h hx9 hP hD hS hl (by omega) (by omega) KK
        · refine lv_tableIn (tgt := 412) (off := 372) hx hb dL_law_40 (by decide) (by decide) (by decide) (by decide) ?_
          exact law_gift C hN hL h hx9 hP hD hS hl (by omega) (by omega) KK
        · refine lv_tableIn (tgt := 449) (off := 409) hx hb dL_law_40 (by decide) (by decide) (by decide) (by decide) ?_
          exact law_ask C hN hL h hx9 hP hD hS hl (by omega) (by omega) KK
        · refine lv_tableIn (tgt := 486) (off := 446) hx hb dL_law_40 (by decide) (by decide) (by decide) (by decide) ?_
          exact law_pay C hN hL h hx9 hP hD hS hl (by omega) (by omega) KK
        · refine lv_tableIn (tgt := 523) (off := 483) hx hb dL_law_40 (by decide) (by decide) (by decide) (by decide) ?_
          exact law_owes C hN hL h hx9 hP hD hS hl (by omega) (by omega) KK
        · refine lv_tableIn (tgt := 548) (off := 508) hx hb dL_law_40 (by decide) (by decide) (by decide) (by decide) ?_
          exact law_next C hN hL h hx9 hP hD hS hl (by omega) (by omega) KK
        · refine lv_tableIn (tgt := 561) (off := 521) hx hb dL_law_40 (by decide) (by decide) (by decide) (by decide) ?_
          exact law_chest C hN hL h hx9 hP hD hS hl (by omega) (by omega) KK
        · refine lv_tableIn (tgt := 598) (off := 558) hx hb dL_law_40 (by decide) (by decide) (by decide) (by decide) ?_
          exact law_loan C hst hN hL h hx9 hP hD hS hl (by omega) (by omega) KK
        · refine lv_tableIn (tgt := 666) (off := 626) hx hb dL_law_40 (by decide) (by decide) (by decide) (by decide) ?_
          exact law_surety C hst hN hL h hx9 hP hD hS hl (by omega) (by omega) KK
        · refine lv_tableIn (tgt := 734) (off := 694) hx hb dL_law_40 (by decide) (by decide) (by decide) (by decide) ?_
          exact law_taken C hst hN hL h hx9 hP hD hS hl (by omega) (by omega) KK
        · refine lv_tableIn (tgt := 802) (off := 762) hx hb dL_law_40 (by decide) (by decide) (by decide) (by decide) ?_
          exact law_about C hst hN hL h hx9 hP hD hS hl (by omega) (by omega) KK
        · refine lv_tableIn (tgt := 870) (off := 830) hx hb dL_law_40 (by decide) (by decide) (by decide) (by decide) ?_
          exact law_ring C hN hL h hx9 hP hD hS hl (by omega) (by omega) KK
        · refine lv_tableIn (tgt := 895) (off := 855) hx hb dL_law_40 (by decide) (by decide) (by decide) (by decide) ?_
          exact law_count C hN hL h hx9 hP hD hS hl (by omega) (by omega) KK
      · refine lv_tableOut (tgt := 920) hx hb dL_law_40 (Or.inr (by rw [nI_toInt (by omega)]; omega)) (by decide) ?_
        refine W.widen (k := cells + 600) (n := slots + 3700) (by omega) (by omega) ?_
        exact KK q d1 d2 u v g fo H locs ls rfl h.upN hx9 hP hD hS hl
end LOOP
