set_option maxHeartbeats 4000000 in
set_option maxRecDepth 100000 in
theorem c_X9_spelt (l : Launch) (D : va_G) (k : Nat → ClassId) (x y z w t : Int32) : Ro l yX9_spelt cX9_spelt 7 (some .long) 0 D (TY k) G0 [.int x, .int y, .int z, .int w, .int t] ([]) (some (.long (spel x y z w t))) := by
  refine ro_body (by decide +kernel) (Nat.le_of_ble_eq_true rfl) ?_
  intro p e s m args below meth c_ Q hx hb hml hown hts hK hP hS hG hr hq hlocks ls hl
  replace hl : lv_has ls 7 [(0, .int x), (1, .int y), (2, .int z), (3, .int w), (4, .int t)] := hl
  change s.vm.findClass RX9 = some m.cls at hown
  refine lv_ldc2 (v := 27) hx hb hown (hts _ wd_5_136) dX9_spelt_0 ?_
  refine lv_iload_n hx hb dX9_spelt_3 rfl (lv_at hl 0 rfl) ?_
  refine lv_i2l (v := (x).toInt64) hx hb dX9_spelt_4 rfl ?_
  refine lv_ldc2 (v := 96) hx hb hown (hts _ wd_5_137) dX9_spelt_5 ?_
  refine lv_lsub hx hb dX9_spelt_8 ?_
  refine lv_lmul hx hb dX9_spelt_9 ?_
  refine lv_iload_n hx hb dX9_spelt_10 rfl (lv_at hl 1 rfl) ?_
  refine lv_i2l (v := (y).toInt64) hx hb dX9_spelt_11 rfl ?_
  refine lv_ladd hx hb dX9_spelt_12 ?_
  refine lv_ldc2 (v := 96) hx hb hown (hts _ wd_5_137) dX9_spelt_13 ?_
  refine lv_lsub hx hb dX9_spelt_16 ?_
  refine lv_lstore (lv' := [(5, .long (((27 * (((x).toInt64) - 96)) + ((y).toInt64)) - 96)), (0, .int x), (1, .int y), (2, .int z), (3, .int w), (4, .int t)]) hx hb dX9_spelt_17 hl (by decide) rfl (fun ls hl => ?_)
  refine lv_ldc2 (v := 27) hx hb hown (hts _ wd_5_136) dX9_spelt_19 ?_
  refine lv_lload hx hb dX9_spelt_22 (lv_at hl 0 rfl) ?_
  refine lv_lmul hx hb dX9_spelt_24 ?_
  refine lv_iload_n hx hb dX9_spelt_25 rfl (lv_at hl 3 rfl) ?_
  refine lv_i2l (v := (z).toInt64) hx hb dX9_spelt_26 rfl ?_
  refine lv_ladd hx hb dX9_spelt_27 ?_
  refine lv_ldc2 (v := 96) hx hb hown (hts _ wd_5_137) dX9_spelt_28 ?_
  refine lv_lsub hx hb dX9_spelt_31 ?_
  refine lv_lstore (lv' := [(5, .long (((27 * (((27 * (((x).toInt64) - 96)) + ((y).toInt64)) - 96)) + ((z).toInt64)) - 96)), (0, .int x), (1, .int y), (2, .int z), (3, .int w), (4, .int t)]) hx hb dX9_spelt_32 hl (by decide) rfl (fun ls hl => ?_)
  refine lv_iload_n hx hb dX9_spelt_34 rfl (lv_at hl 4 rfl) ?_
  refine lv_if_le (tgt := 53) hx hb dX9_spelt_35 (by decide) (fun c35 => ?_) (fun c35 => ?_)
  · refine lv_iload hx hb dX9_spelt_53 (lv_at hl 5 rfl) ?_
    refine lv_if_le (tgt := 74) hx hb dX9_spelt_55 (by decide) (fun c55 => ?_) (fun c55 => ?_)
    · refine lv_lload hx hb dX9_spelt_74 (lv_at hl 0 rfl) ?_
      exact ro_l hx hb hr hlocks hq dX9_spelt_76 (by rw [spel, spel4, if_pos c55, if_pos c35]; rfl)
    · refine lv_ldc2 (v := 27) hx hb hown (hts _ wd_5_136) dX9_spelt_58 ?_
      refine lv_lload hx hb dX9_spelt_61 (lv_at hl 0 rfl) ?_
      refine lv_lmul hx hb dX9_spelt_63 ?_
      refine lv_iload hx hb dX9_spelt_64 (lv_at hl 5 rfl) ?_
      refine lv_i2l (v := (t).toInt64) hx hb dX9_spelt_66 rfl ?_
      refine lv_ladd hx hb dX9_spelt_67 ?_
      refine lv_ldc2 (v := 96) hx hb hown (hts _ wd_5_137) dX9_spelt_68 ?_
      refine lv_lsub hx hb dX9_spelt_71 ?_
      refine lv_lstore (lv' := [(5, .long (((27 * (((27 * (((27 * (((x).toInt64) - 96)) + ((y).toInt64)) - 96)) + ((z).toInt64)) - 96)) + ((t).toInt64)) - 96)), (0, .int x), (1, .int y), (2, .int z), (3, .int w), (4, .int t)]) hx hb dX9_spelt_72 hl (by decide) rfl (fun ls hl => ?_)
      refine lv_lload hx hb dX9_spelt_74 (lv_at hl 0 rfl) ?_
      exact ro_l hx hb hr hlocks hq dX9_spelt_76 (by rw [spel, spel4, if_neg c55, if_pos c35]; rfl)
  · refine lv_ldc2 (v := 27) hx hb hown (hts _ wd_5_136) dX9_spelt_38 ?_
    refine lv_lload hx hb dX9_spelt_41 (lv_at hl 0 rfl) ?_
    refine lv_lmul hx hb dX9_spelt_43 ?_
    refine lv_iload_n hx hb dX9_spelt_44 rfl (lv_at hl 4 rfl) ?_
    refine lv_i2l (v := (w).toInt64) hx hb dX9_spelt_45 rfl ?_
    refine lv_ladd hx hb dX9_spelt_46 ?_
    refine lv_ldc2 (v := 96) hx hb hown (hts _ wd_5_137) dX9_spelt_47 ?_
    refine lv_lsub hx hb dX9_spelt_50 ?_
    refine lv_lstore (lv' := [(5, .long (((27 * (((27 * (((27 * (((x).toInt64) - 96)) + ((y).toInt64)) - 96)) + ((z).toInt64)) - 96)) + ((w).toInt64)) - 96)), (0, .int x), (1, .int y), (2, .int z), (3, .int w), (4, .int t)]) hx hb dX9_spelt_51 hl (by decide) rfl (fun ls hl => ?_)
    refine lv_iload hx hb dX9_spelt_53 (lv_at hl 5 rfl) ?_
    refine lv_if_le (tgt := 74) hx hb dX9_spelt_55 (by decide) (fun c55 => ?_) (fun c55 => ?_)
    · refine lv_lload hx hb dX9_spelt_74 (lv_at hl 0 rfl) ?_
      exact ro_l hx hb hr hlocks hq dX9_spelt_76 (by rw [spel, spel4, if_pos c55, if_neg c35]; rfl)
    · refine lv_ldc2 (v := 27) hx hb hown (hts _ wd_5_136) dX9_spelt_58 ?_
      refine lv_lload hx hb dX9_spelt_61 (lv_at hl 0 rfl) ?_
      refine lv_lmul hx hb dX9_spelt_63 ?_
      refine lv_iload hx hb dX9_spelt_64 (lv_at hl 5 rfl) ?_
      refine lv_i2l (v := (t).toInt64) hx hb dX9_spelt_66 rfl ?_
      refine lv_ladd hx hb dX9_spelt_67 ?_
      refine lv_ldc2 (v := 96) hx hb hown (hts _ wd_5_137) dX9_spelt_68 ?_
      refine lv_lsub hx hb dX9_spelt_71 ?_
      refine lv_lstore (lv' := [(5, .long (((27 * (((27 * (((27 * (((27 * (((x).toInt64) - 96)) + ((y).toInt64)) - 96)) + ((z).toInt64)) - 96)) + ((w).toInt64)) - 96)) + ((t).toInt64)) - 96)), (0, .int x), (1, .int y), (2, .int z), (3, .int w), (4, .int t)]) hx hb dX9_spelt_72 hl (by decide) rfl (fun ls hl => ?_)
      refine lv_lload hx hb dX9_spelt_74 (lv_at hl 0 rfl) ?_
      exact ro_l hx hb hr hlocks hq dX9_spelt_76 (by rw [spel, spel4, if_neg c55, if_neg c35]; rfl)
set_option maxHeartbeats 4000000 in
set_option maxRecDepth 100000 in
theorem c_X9_ruleAtHand (l : Launch) (D : va_G) (h : Nat) (q : Nat → Nat) (k : Nat → ClassId) (c : Nat → Nat) (v : Nat → Int32) (nm : Int64) (a : Nat → Nat → Int32) : Ro l yX9_ruleAtHand cX9_ruleAtHand 1 (some .int) 1 D (TY k) G0 [.ref h] (Mw h q k c v nm a) (some (.int (oI (ruleAt (c, v, nm, a))))) := by
  refine ro_body (by decide +kernel) (Nat.le_of_ble_eq_true rfl) ?_
  intro p e s m args below meth c_ Q hx hb hml hown hts hK hP hS hG hr hq hlocks ls hl
  replace hl : lv_has ls 1 [(0, .ref h)] := hl
  change s.vm.findClass RX9 = some m.cls at hown
  refine lv_aload_n hx hb dX9_ruleAtHand_0 rfl (lv_at hl 0 rfl) ?_
  refine mg_13 (x := v 13) hx hb hts hown hK hP rfl dX9_ruleAtHand_1 ?_
  refine lv_iconst (v := 2) hx hb dX9_ruleAtHand_4 (by decide) ?_
  refine lv_icmp_eq (tgt := 10) hx hb dX9_ruleAtHand_5 (by decide) (fun c5 => ?_) (fun c5 => ?_)
  · refine lv_aload_n hx hb dX9_ruleAtHand_10 rfl (lv_at hl 0 rfl) ?_
    refine mg_15 (x := nm) hx hb hts hown hK hP rfl dX9_ruleAtHand_11 ?_
    refine lv_bipush (v := 109) hx hb dX9_ruleAtHand_14 (by decide) ?_
    refine lv_bipush (v := 111) hx hb dX9_ruleAtHand_16 (by decide) ?_
    refine lv_bipush (v := 115) hx hb dX9_ruleAtHand_18 (by decide) ?_
    refine lv_bipush (v := 116) hx hb dX9_ruleAtHand_20 (by decide) ?_
    refine lv_iconst (v := 0) hx hb dX9_ruleAtHand_22 (by decide) ?_
    refine ro_S (rest := [.long nm]) (st1 := [.long (spel 109 111 115 116 0), .long nm]) (As := [.int 109, .int 111, .int 115, .int 116, .int 0]) ⟨hx, hb, hml, hown, hts⟩ Gd0 trivial hS hK (c_X9_spelt l D k 109 111 115 116 0) mi_X9_spelt wd_5_144 wd_5_143 ⟨Nat.le_of_ble_eq_true rfl, Nat.le_of_ble_eq_true rfl⟩ (fun k9 q9 h9 => by simp at h9) rfl hl.1 rfl (Nat.le_of_ble_eq_true rfl) rfl ⟨Nat.le_of_ble_eq_true rfl, Nat.le_of_ble_eq_true rfl⟩ dX9_ruleAtHand_23 ?_
    refine W.lcmp hx hb dX9_ruleAtHand_26 ?_
    refine lv_if_ne (tgt := 32) hx hb dX9_ruleAtHand_27 (by decide) (fun c27 => ?_) (fun c27 => ?_)
    · refine lv_aload_n hx hb dX9_ruleAtHand_32 rfl (lv_at hl 0 rfl) ?_
      refine mg_15 (x := nm) hx hb hts hown hK hP rfl dX9_ruleAtHand_33 ?_
      refine lv_bipush (v := 119) hx hb dX9_ruleAtHand_36 (by decide) ?_
      refine lv_bipush (v := 101) hx hb dX9_ruleAtHand_38 (by decide) ?_
      refine lv_bipush (v := 101) hx hb dX9_ruleAtHand_40 (by decide) ?_
      refine lv_bipush (v := 107) hx hb dX9_ruleAtHand_42 (by decide) ?_
      refine lv_bipush (v := 115) hx hb dX9_ruleAtHand_44 (by decide) ?_
      refine ro_S (rest := [.long nm]) (st1 := [.long (spel 119 101 101 107 115), .long nm]) (As := [.int 119, .int 101, .int 101, .int 107, .int 115]) ⟨hx, hb, hml, hown, hts⟩ Gd0 trivial hS hK (c_X9_spelt l D k 119 101 101 107 115) mi_X9_spelt wd_5_144 wd_5_143 ⟨Nat.le_of_ble_eq_true rfl, Nat.le_of_ble_eq_true rfl⟩ (fun k9 q9 h9 => by simp at h9) rfl hl.1 rfl (Nat.le_of_ble_eq_true rfl) rfl ⟨Nat.le_of_ble_eq_true rfl, Nat.le_of_ble_eq_true rfl⟩ dX9_ruleAtHand_46 ?_
      refine W.lcmp hx hb dX9_ruleAtHand_49 ?_
      refine lv_if_ne (tgt := 55) hx hb dX9_ruleAtHand_50 (by decide) (fun c50 => ?_) (fun c50 => ?_)
      · refine lv_aload_n hx hb dX9_ruleAtHand_55 rfl (lv_at hl 0 rfl) ?_
        refine mg_15 (x := nm) hx hb hts hown hK hP rfl dX9_ruleAtHand_56 ?_
        refine lv_ldc2 (v := 27) hx hb hown (hts _ wd_5_136) dX9_ruleAtHand_59 ?_
        refine lv_ldc2 (v := 27) hx hb hown (hts _ wd_5_136) dX9_ruleAtHand_62 ?_
        refine lv_ldc2 (v := 27) hx hb hown (hts _ wd_5_136) dX9_ruleAtHand_65 ?_
        refine lv_bipush (v := 115) hx hb dX9_ruleAtHand_68 (by decide) ?_
        refine lv_bipush (v := 117) hx hb dX9_ruleAtHand_70 (by decide) ?_
        refine lv_bipush (v := 114) hx hb dX9_ruleAtHand_72 (by decide) ?_
        refine lv_bipush (v := 101) hx hb dX9_ruleAtHand_74 (by decide) ?_
        refine lv_bipush (v := 116) hx hb dX9_ruleAtHand_76 (by decide) ?_
        refine ro_S (rest := [.long 27, .long 27, .long 27, .long nm]) (st1 := [.long (spel 115 117 114 101 116), .long 27, .long 27, .long 27, .long nm]) (As := [.int 115, .int 117, .int 114, .int 101, .int 116]) ⟨hx, hb, hml, hown, hts⟩ Gd0 trivial hS hK (c_X9_spelt l D k 115 117 114 101 116) mi_X9_spelt wd_5_144 wd_5_143 ⟨Nat.le_of_ble_eq_true rfl, Nat.le_of_ble_eq_true rfl⟩ (fun k9 q9 h9 => by simp at h9) rfl hl.1 rfl (Nat.le_of_ble_eq_true rfl) rfl ⟨Nat.le_of_ble_eq_true rfl, Nat.le_of_ble_eq_true rfl⟩ dX9_ruleAtHand_78 ?_
        refine lv_lmul hx hb dX9_ruleAtHand_81 ?_
        refine lv_ldc2 (v := 9) hx hb hown (hts _ wd_5_146) dX9_ruleAtHand_82 ?_
        refine lv_ladd hx hb dX9_ruleAtHand_85 ?_
        refine lv_lmul hx hb dX9_ruleAtHand_86 ?_
        refine lv_ldc2 (v := 5) hx hb hown (hts _ wd_5_147) dX9_ruleAtHand_87 ?_
        refine lv_ladd hx hb dX9_ruleAtHand_90 ?_
        refine lv_lmul hx hb dX9_ruleAtHand_91 ?_
        refine lv_ldc2 (v := 19) hx hb hown (hts _ wd_5_148) dX9_ruleAtHand_92 ?_
        refine lv_ladd hx hb dX9_ruleAtHand_95 ?_
        refine W.lcmp hx hb dX9_ruleAtHand_96 ?_
        refine lv_if_ne (tgt := 102) hx hb dX9_ruleAtHand_97 (by decide) (fun c97 => ?_) (fun c97 => ?_)
        · refine lv_aload_n hx hb dX9_ruleAtHand_102 rfl (lv_at hl 0 rfl) ?_
          refine mg_15 (x := nm) hx hb hts hown hK hP rfl dX9_ruleAtHand_103 ?_
          refine lv_ldc2 (v := 27) hx hb hown (hts _ wd_5_136) dX9_ruleAtHand_106 ?_
          refine lv_bipush (v := 115) hx hb dX9_ruleAtHand_109 (by decide) ?_
          refine lv_bipush (v := 116) hx hb dX9_ruleAtHand_111 (by decide) ?_
          refine lv_bipush (v := 97) hx hb dX9_ruleAtHand_113 (by decide) ?_
          refine lv_bipush (v := 110) hx hb dX9_ruleAtHand_115 (by decide) ?_
          refine lv_bipush (v := 100) hx hb dX9_ruleAtHand_117 (by decide) ?_
          refine ro_S (rest := [.long 27, .long nm]) (st1 := [.long (spel 115 116 97 110 100), .long 27, .long nm]) (As := [.int 115, .int 116, .int 97, .int 110, .int 100]) ⟨hx, hb, hml, hown, hts⟩ Gd0 trivial hS hK (c_X9_spelt l D k 115 116 97 110 100) mi_X9_spelt wd_5_144 wd_5_143 ⟨Nat.le_of_ble_eq_true rfl, Nat.le_of_ble_eq_true rfl⟩ (fun k9 q9 h9 => by simp at h9) rfl hl.1 rfl (Nat.le_of_ble_eq_true rfl) rfl ⟨Nat.le_of_ble_eq_true rfl, Nat.le_of_ble_eq_true rfl⟩ dX9_ruleAtHand_119 ?_
          refine lv_lmul hx hb dX9_ruleAtHand_122 ?_
          refine lv_ldc2 (v := 19) hx hb hown (hts _ wd_5_148) dX9_ruleAtHand_123 ?_
          refine lv_ladd hx hb dX9_ruleAtHand_126 ?_
          refine W.lcmp hx hb dX9_ruleAtHand_127 ?_
          refine lv_if_ne (tgt := 133) hx hb dX9_ruleAtHand_128 (by decide) (fun c128 => ?_) (fun c128 => ?_)
          · refine lv_aload_n hx hb dX9_ruleAtHand_133 rfl (lv_at hl 0 rfl) ?_
            refine mg_15 (x := nm) hx hb hts hown hK hP rfl dX9_ruleAtHand_134 ?_
            refine lv_bipush (v := 108) hx hb dX9_ruleAtHand_137 (by decide) ?_
            refine lv_bipush (v := 97) hx hb dX9_ruleAtHand_139 (by decide) ?_
            refine lv_bipush (v := 116) hx hb dX9_ruleAtHand_141 (by decide) ?_
            refine lv_bipush (v := 101) hx hb dX9_ruleAtHand_143 (by decide) ?_
            refine lv_iconst (v := 0) hx hb dX9_ruleAtHand_145 (by decide) ?_
            refine ro_S (rest := [.long nm]) (st1 := [.long (spel 108 97 116 101 0), .long nm]) (As := [.int 108, .int 97, .int 116, .int 101, .int 0]) ⟨hx, hb, hml, hown, hts⟩ Gd0 trivial hS hK (c_X9_spelt l D k 108 97 116 101 0) mi_X9_spelt wd_5_144 wd_5_143 ⟨Nat.le_of_ble_eq_true rfl, Nat.le_of_ble_eq_true rfl⟩ (fun k9 q9 h9 => by simp at h9) rfl hl.1 rfl (Nat.le_of_ble_eq_true rfl) rfl ⟨Nat.le_of_ble_eq_true rfl, Nat.le_of_ble_eq_true rfl⟩ dX9_ruleAtHand_146 ?_
            refine W.lcmp hx hb dX9_ruleAtHand_149 ?_
            refine lv_if_ne (tgt := 155) hx hb dX9_ruleAtHand_150 (by decide) (fun c150 => ?_) (fun c150 => ?_)
            · refine lv_aload_n hx hb dX9_ruleAtHand_155 rfl (lv_at hl 0 rfl) ?_
              refine mg_15 (x := nm) hx hb hts hown hK hP rfl dX9_ruleAtHand_156 ?_
              refine lv_bipush (v := 99) hx hb dX9_ruleAtHand_159 (by decide) ?_
              refine lv_bipush (v := 97) hx hb dX9_ruleAtHand_161 (by decide) ?_
              refine lv_bipush (v := 108) hx hb dX9_ruleAtHand_163 (by decide) ?_
              refine lv_bipush (v := 108) hx hb dX9_ruleAtHand_165 (by decide) ?_
              refine lv_iconst (v := 0) hx hb dX9_ruleAtHand_167 (by decide) ?_
              refine ro_S (rest := [.long nm]) (st1 := [.long (spel 99 97 108 108 0), .long nm]) (As := [.int 99, .int 97, .int 108, .int 108, .int 0]) ⟨hx, hb, hml, hown, hts⟩ Gd0 trivial hS hK (c_X9_spelt l D k 99 97 108 108 0) mi_X9_spelt wd_5_144 wd_5_143 ⟨Nat.le_of_ble_eq_true rfl, Nat.le_of_ble_eq_true rfl⟩ (fun k9 q9 h9 => by simp at h9) rfl hl.1 rfl (Nat.le_of_ble_eq_true rfl) rfl ⟨Nat.le_of_ble_eq_true rfl, Nat.le_of_ble_eq_true rfl⟩ dX9_ruleAtHand_168 ?_
              refine W.lcmp hx hb dX9_ruleAtHand_171 ?_
              refine lv_if_ne (tgt := 177) hx hb dX9_ruleAtHand_172 (by decide) (fun c172 => ?_) (fun c172 => ?_)
              · refine lv_aload_n hx hb dX9_ruleAtHand_177 rfl (lv_at hl 0 rfl) ?_
                refine mg_15 (x := nm) hx hb hts hown hK hP rfl dX9_ruleAtHand_178 ?_
                refine lv_bipush (v := 107) hx hb dX9_ruleAtHand_181 (by decide) ?_
                refine lv_bipush (v := 101) hx hb dX9_ruleAtHand_183 (by decide) ?_
                refine lv_bipush (v := 101) hx hb dX9_ruleAtHand_185 (by decide) ?_
                refine lv_bipush (v := 112) hx hb dX9_ruleAtHand_187 (by decide) ?_
                refine lv_iconst (v := 0) hx hb dX9_ruleAtHand_189 (by decide) ?_
                refine ro_S (rest := [.long nm]) (st1 := [.long (spel 107 101 101 112 0), .long nm]) (As := [.int 107, .int 101, .int 101, .int 112, .int 0]) ⟨hx, hb, hml, hown, hts⟩ Gd0 trivial hS hK (c_X9_spelt l D k 107 101 101 112 0) mi_X9_spelt wd_5_144 wd_5_143 ⟨Nat.le_of_ble_eq_true rfl, Nat.le_of_ble_eq_true rfl⟩ (fun k9 q9 h9 => by simp at h9) rfl hl.1 rfl (Nat.le_of_ble_eq_true rfl) rfl ⟨Nat.le_of_ble_eq_true rfl, Nat.le_of_ble_eq_true rfl⟩ dX9_ruleAtHand_190 ?_
                refine W.lcmp hx hb dX9_ruleAtHand_193 ?_
                refine lv_if_ne (tgt := 200) hx hb dX9_ruleAtHand_194 (by decide) (fun c194 => ?_) (fun c194 => ?_)
                · refine lv_aload_n hx hb dX9_ruleAtHand_200 rfl (lv_at hl 0 rfl) ?_
                  refine mg_15 (x := nm) hx hb hts hown hK hP rfl dX9_ruleAtHand_201 ?_
                  refine lv_bipush (v := 114) hx hb dX9_ruleAtHand_204 (by decide) ?_
                  refine lv_bipush (v := 105) hx hb dX9_ruleAtHand_206 (by decide) ?_
                  refine lv_bipush (v := 110) hx hb dX9_ruleAtHand_208 (by decide) ?_
                  refine lv_bipush (v := 103) hx hb dX9_ruleAtHand_210 (by decide) ?_
                  refine lv_iconst (v := 0) hx hb dX9_ruleAtHand_212 (by decide) ?_
                  refine ro_S (rest := [.long nm]) (st1 := [.long (spel 114 105 110 103 0), .long nm]) (As := [.int 114, .int 105, .int 110, .int 103, .int 0]) ⟨hx, hb, hml, hown, hts⟩ Gd0 trivial hS hK (c_X9_spelt l D k 114 105 110 103 0) mi_X9_spelt wd_5_144 wd_5_143 ⟨Nat.le_of_ble_eq_true rfl, Nat.le_of_ble_eq_true rfl⟩ (fun k9 q9 h9 => by simp at h9) rfl hl.1 rfl (Nat.le_of_ble_eq_true rfl) rfl ⟨Nat.le_of_ble_eq_true rfl, Nat.le_of_ble_eq_true rfl⟩ dX9_ruleAtHand_213 ?_
                  refine W.lcmp hx hb dX9_ruleAtHand_216 ?_
                  refine lv_if_ne (tgt := 223) hx hb dX9_ruleAtHand_217 (by decide) (fun c217 => ?_) (fun c217 => ?_)
                  · refine lv_aload_n hx hb dX9_ruleAtHand_223 rfl (lv_at hl 0 rfl) ?_
                    refine mg_15 (x := nm) hx hb hts hown hK hP rfl dX9_ruleAtHand_224 ?_
                    refine lv_bipush (v := 98) hx hb dX9_ruleAtHand_227 (by decide) ?_
                    refine lv_bipush (v := 97) hx hb dX9_ruleAtHand_229 (by decide) ?_
                    refine lv_bipush (v := 114) hx hb dX9_ruleAtHand_231 (by decide) ?_
                    refine lv_iconst (v := 0) hx hb dX9_ruleAtHand_233 (by decide) ?_
                    refine lv_iconst (v := 0) hx hb dX9_ruleAtHand_234 (by decide) ?_
                    refine ro_S (rest := [.long nm]) (st1 := [.long (spel 98 97 114 0 0), .long nm]) (As := [.int 98, .int 97, .int 114, .int 0, .int 0]) ⟨hx, hb, hml, hown, hts⟩ Gd0 trivial hS hK (c_X9_spelt l D k 98 97 114 0 0) mi_X9_spelt wd_5_144 wd_5_143 ⟨Nat.le_of_ble_eq_true rfl, Nat.le_of_ble_eq_true rfl⟩ (fun k9 q9 h9 => by simp at h9) rfl hl.1 rfl (Nat.le_of_ble_eq_true rfl) rfl ⟨Nat.le_of_ble_eq_true rfl, Nat.le_of_ble_eq_true rfl⟩ dX9_ruleAtHand_235 ?_
                    refine W.lcmp hx hb dX9_ruleAtHand_238 ?_
                    refine lv_if_ne (tgt := 247) hx hb dX9_ruleAtHand_239 (by decide) (fun c239 => ?_) (fun c239 => ?_)
                    · refine lv_iconst (v := (-1)) hx hb dX9_ruleAtHand_247 (by decide) ?_
                      exact ro_i hx hb hr hlocks hq dX9_ruleAtHand_248 (by rw [ruleAt, if_pos c5]; show _ = some (Value.int (oI (ruleOf nm))); rw [ruleOf, if_neg c27, if_neg c50, if_neg c97, if_neg c128, if_neg c150, if_neg c172, if_neg c194, if_neg c217, if_neg c239]; rfl)
                    · refine lv_bipush (v := 8) hx hb dX9_ruleAtHand_242 (by decide) ?_
                      refine lv_goto (tgt := 248) hx hb dX9_ruleAtHand_244 (by decide) ?_
                      exact ro_i hx hb hr hlocks hq dX9_ruleAtHand_248 (by rw [ruleAt, if_pos c5]; show _ = some (Value.int (oI (ruleOf nm))); rw [ruleOf, if_neg c27, if_neg c50, if_neg c97, if_neg c128, if_neg c150, if_neg c172, if_neg c194, if_neg c217, if_pos c239]; rfl)
                  · refine lv_bipush (v := 7) hx hb dX9_ruleAtHand_220 (by decide) ?_
                    exact ro_i hx hb hr hlocks hq dX9_ruleAtHand_222 (by rw [ruleAt, if_pos c5]; show _ = some (Value.int (oI (ruleOf nm))); rw [ruleOf, if_neg c27, if_neg c50, if_neg c97, if_neg c128, if_neg c150, if_neg c172, if_neg c194, if_pos c217]; rfl)
                · refine lv_bipush (v := 6) hx hb dX9_ruleAtHand_197 (by decide) ?_
                  exact ro_i hx hb hr hlocks hq dX9_ruleAtHand_199 (by rw [ruleAt, if_pos c5]; show _ = some (Value.int (oI (ruleOf nm))); rw [ruleOf, if_neg c27, if_neg c50, if_neg c97, if_neg c128, if_neg c150, if_neg c172, if_pos c194]; rfl)
              · refine lv_iconst (v := 5) hx hb dX9_ruleAtHand_175 (by decide) ?_
                exact ro_i hx hb hr hlocks hq dX9_ruleAtHand_176 (by rw [ruleAt, if_pos c5]; show _ = some (Value.int (oI (ruleOf nm))); rw [ruleOf, if_neg c27, if_neg c50, if_neg c97, if_neg c128, if_neg c150, if_pos c172]; rfl)
            · refine lv_iconst (v := 4) hx hb dX9_ruleAtHand_153 (by decide) ?_
              exact ro_i hx hb hr hlocks hq dX9_ruleAtHand_154 (by rw [ruleAt, if_pos c5]; show _ = some (Value.int (oI (ruleOf nm))); rw [ruleOf, if_neg c27, if_neg c50, if_neg c97, if_neg c128, if_pos c150]; rfl)
          · refine lv_iconst (v := 3) hx hb dX9_ruleAtHand_131 (by decide) ?_
            exact ro_i hx hb hr hlocks hq dX9_ruleAtHand_132 (by rw [ruleAt, if_pos c5]; show _ = some (Value.int (oI (ruleOf nm))); rw [ruleOf, if_neg c27, if_neg c50, if_neg c97, if_pos c128]; rfl)
        · refine lv_iconst (v := 2) hx hb dX9_ruleAtHand_100 (by decide) ?_
          exact ro_i hx hb hr hlocks hq dX9_ruleAtHand_101 (by rw [ruleAt, if_pos c5]; show _ = some (Value.int (oI (ruleOf nm))); rw [ruleOf, if_neg c27, if_neg c50, if_pos c97]; rfl)
      · refine lv_iconst (v := 1) hx hb dX9_ruleAtHand_53 (by decide) ?_
        exact ro_i hx hb hr hlocks hq dX9_ruleAtHand_54 (by rw [ruleAt, if_pos c5]; show _ = some (Value.int (oI (ruleOf nm))); rw [ruleOf, if_neg c27, if_pos c50]; rfl)
    · refine lv_iconst (v := 0) hx hb dX9_ruleAtHand_30 (by decide) ?_
      exact ro_i hx hb hr hlocks hq dX9_ruleAtHand_31 (by rw [ruleAt, if_pos c5]; show _ = some (Value.int (oI (ruleOf nm))); rw [ruleOf, if_pos c27]; rfl)
  · refine lv_iconst (v := (-1)) hx hb dX9_ruleAtHand_8 (by decide) ?_
    exact ro_i hx hb hr hlocks hq dX9_ruleAtHand_9 (by rw [ruleAt, if_neg c5]; rfl)
set_option maxHeartbeats 4000000 in
set_option maxRecDepth 100000 in
theorem c_X9_bad (l : Launch) (D : va_G) (h : Nat) (q : Nat → Nat) (k : Nat → ClassId) (c : Nat → Nat) (v : Nat → Int32) (nm : Int64) (a : Nat → Nat → Int32) (x : Int32) : Fs (S := Int32 × MSt) l yX9_bad cX9_bad 2 (some .boolean) 0 0 0 D (TY k) G0 [.ref h, .int x] (Mw h q k c v nm a) (fun u => some (.int u.1)) (fun u => u = mBad x (c, v, nm, a)) (fun u => MwU h q k u.2) := by
  refine fs_body (by decide +kernel) (Nat.le_of_ble_eq_true rfl) ?_
  intro p e s m args below meth c_ Q A hx hb hml hown hts hK hP hD hS hA hG hin hr hq hlocks ls hl
  replace hl : lv_has ls 2 [(0, .ref h), (1, .int x)] := hl
  change s.vm.findClass RX9 = some m.cls at hown
  refine lv_aload_n hx hb dX9_bad_0 rfl (lv_at hl 0 rfl) ?_
  refine lv_aload_n hx hb dX9_bad_1 rfl (lv_at hl 0 rfl) ?_
  refine mg_13 (x := v 13) hx hb hts hown hK hP rfl dX9_bad_2 ?_
  refine lv_iconst (v := 1) hx hb dX9_bad_5 (by decide) ?_
  refine lv_icmp_ne (tgt := 13) hx hb dX9_bad_6 (by decide) (fun c6 => ?_) (fun c6 => ?_)
  · refine lv_iload_n hx hb dX9_bad_13 rfl (lv_at hl 1 rfl) ?_
    refine mp_8 hx hb hts hown hK hP hD hS x dX9_bad_14 (fun H locs hP hD hS => ?_)
    refine lv_aload_n hx hb dX9_bad_17 rfl (lv_at hl 0 rfl) ?_
    refine lv_aload_n hx hb dX9_bad_18 rfl (lv_at hl 0 rfl) ?_
    refine mg_12 (x := nI (c 12)) hx hb hts hown hK hP rfl dX9_bad_19 ?_
    refine mp_9 hx hb hts hown hK hP hD hS (c 12) rfl dX9_bad_22 (fun H locs hP hD hS => ?_)
    refine lv_iconst (v := 0) hx hb dX9_bad_25 (by decide) ?_
    exact fs_z hx hb hr hlocks hq (0, (up c 9 (c 12), up v 8 x, nm, a)) (by rw [mBad, if_neg c6]) hP hD hS (rfl) dX9_bad_26 rfl
  · refine lv_iconst (v := 1) hx hb dX9_bad_9 (by decide) ?_
    refine lv_goto (tgt := 14) hx hb dX9_bad_10 (by decide) ?_
    refine mp_8 hx hb hts hown hK hP hD hS 1 dX9_bad_14 (fun H locs hP hD hS => ?_)
    refine lv_aload_n hx hb dX9_bad_17 rfl (lv_at hl 0 rfl) ?_
    refine lv_aload_n hx hb dX9_bad_18 rfl (lv_at hl 0 rfl) ?_
    refine mg_12 (x := nI (c 12)) hx hb hts hown hK hP rfl dX9_bad_19 ?_
    refine mp_9 hx hb hts hown hK hP hD hS (c 12) rfl dX9_bad_22 (fun H locs hP hD hS => ?_)
    refine lv_iconst (v := 0) hx hb dX9_bad_25 (by decide) ?_
    exact fs_z hx hb hr hlocks hq (0, (up c 9 (c 12), up v 8 1, nm, a)) (by rw [mBad, if_pos c6]) hP hD hS (rfl) dX9_bad_26 rfl
