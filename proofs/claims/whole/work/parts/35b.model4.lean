set_option maxHeartbeats 4000000 in
set_option maxRecDepth 100000 in
theorem mX10_met_L92 (l : Launch) (G : jG) (z : Nat) (z4 : Nat) (z5 : Nat) (z6 : Nat) (z9 : Nat) (z10 : Nat) (z11 : Nat) (z12 : Nat) (z14 : Nat) (z15 : Nat) (z16 : Nat) (z19 : Nat) (z20 : Nat) (z21 : Nat) (z22 : Nat) (z23 : Nat) (z25 : Nat) (z26 : Nat) (z27 : Nat) (z28 : Nat) (z30 : Nat) (z31 : Nat) (z32 : Nat) (st : Nat) (th : Nat) (za : Int64) (zb : Int64) (el : Nat) (be : Nat) (gz : Bool) (mm : Nat) (tt : Nat) (gm : Nat) (rn : Nat) (mb : Nat → Nat) (md : Nat → Nat) (tm : Nat → Nat) (td : Nat → Nat) (tk : Nat → Bool) (x : Int32) (d : Int32) (w : Int32) (hbe : be ≤ 16) (hmm : mm ≤ 100) (htt : tt ≤ 200) (htm : ∀ k, tm k < 100) (htd : ∀ k, td k < 10000) (hmb : ∀ k, mb k < 16) (hmd : ∀ k, md k < 10000) (κ : jK) (X : CX κ l yX10_met cX10_met 8 RX10 wsX10_met (some .int) ({ frames := 1, cells := 0, slots := 0, locals := 21 }) G (va_A [(z, .inr (10, [.int (nI st), .int (nI th), .long za, .long zb, .ref z4, .ref z5, .ref z6, .int (nI el), .int (nI be), .ref z9, .ref z10, .ref z11, .ref z12, .int (b2i gz), .ref z14, .ref z15, .ref z16, .int (nI mm), .int (nI tt), .ref z19, .ref z20, .ref z21, .ref z22, .ref z23, .int (nI gm), .ref z25, .ref z26, .ref z27, .ref z28, .int (nI rn), .ref z30, .ref z31, .ref z32])), kI G z19 100 (nF mb), kI G z20 100 (nF md), kI G z21 200 (nF tm), kI G z22 200 (nF td), kZ G z23 200 (bF tk)] (js κ).heap.size)) (no52 : Nat) (hK52 : ∀ (j : Nat) (k : Nat) (m : Nat) (i : Nat) (hxj : x = nI j) (hdk : d = nI k) (hwm : w = nI m) (hj : j < 16) (hk : k < 10000) (hm : m ≤ 2) (hi : i ≤ mm) (hS : sMet be mm tt mb md tm td tk (nI j) (nI k) (nI m) = (some (metC mb md tm td tk tt j k m mm), 0)) (_ : mm - i < no52), JJ κ 8 G (va_A [(z, .inr (10, [.int (nI st), .int (nI th), .long za, .long zb, .ref z4, .ref z5, .ref z6, .int (nI el), .int (nI be), .ref z9, .ref z10, .ref z11, .ref z12, .int (b2i gz), .ref z14, .ref z15, .ref z16, .int (nI mm), .int (nI tt), .ref z19, .ref z20, .ref z21, .ref z22, .ref z23, .int (nI gm), .ref z25, .ref z26, .ref z27, .ref z28, .int (nI rn), .ref z30, .ref z31, .ref z32])), kI G z19 100 (nF mb), kI G z20 100 (nF md), kI G z21 200 (nF tm), kI G z22 200 (nF td), kZ G z23 200 (bF tk)] (js κ).heap.size) 0 0 (jQ κ G [(z, .inr (10, [.int (nI st), .int (nI th), .long za, .long zb, .ref z4, .ref z5, .ref z6, .int (nI el), .int (nI be), .ref z9, .ref z10, .ref z11, .ref z12, .int (b2i gz), .ref z14, .ref z15, .ref z16, .int (nI mm), .int (nI tt), .ref z19, .ref z20, .ref z21, .ref z22, .ref z23, .int (nI gm), .ref z25, .ref z26, .ref z27, .ref z28, .int (nI rn), .ref z30, .ref z31, .ref z32])), kI G z19 100 (nF mb), kI G z20 100 (nF md), kI G z21 200 (nF tm), kI G z22 200 (nF td), kZ G z23 200 (bF tk)] (fun r w' => r = some (.int (oI ((sMet be mm tt mb md tm td tk x d w).1))) ∧ w' = [(z, .inr (10, [.int (nI ((sMet be mm tt mb md tm td tk x d w).2)), .int (nI 0), .long za, .long zb, .ref z4, .ref z5, .ref z6, .int (nI el), .int (nI be), .ref z9, .ref z10, .ref z11, .ref z12, .int (b2i gz), .ref z14, .ref z15, .ref z16, .int (nI mm), .int (nI tt), .ref z19, .ref z20, .ref z21, .ref z22, .ref z23, .int (nI gm), .ref z25, .ref z26, .ref z27, .ref z28, .int (nI rn), .ref z30, .ref z31, .ref z32])), kI G z19 100 (nF mb), kI G z20 100 (nF md), kI G z21 200 (nF tm), kI G z22 200 (nF td), kZ G z23 200 (bF tk)]) 0 0) 52 [(0, .ref z), (1, .int (nI j)), (2, .int (nI k)), (3, .int (nI m)), (4, .int (nI (metC mb md tm td tk tt j k m i))), (5, .int (nI i))] [] [(z, .inr (10, [.int (nI 0), .int (nI 0), .long za, .long zb, .ref z4, .ref z5, .ref z6, .int (nI el), .int (nI be), .ref z9, .ref z10, .ref z11, .ref z12, .int (b2i gz), .ref z14, .ref z15, .ref z16, .int (nI mm), .int (nI tt), .ref z19, .ref z20, .ref z21, .ref z22, .ref z23, .int (nI gm), .ref z25, .ref z26, .ref z27, .ref z28, .int (nI rn), .ref z30, .ref z31, .ref z32])), kI G z19 100 (nF mb), kI G z20 100 (nF md), kI G z21 200 (nF tm), kI G z22 200 (nF td), kZ G z23 200 (bF tk)])  (j : Nat) (k : Nat) (m : Nat) (i : Nat) (hxj : x = nI j) (hdk : d = nI k) (hwm : w = nI m) (hj : j < 16) (hk : k < 10000) (hm : m ≤ 2) (hi : i ≤ mm) (hS : sMet be mm tt mb md tm td tk (nI j) (nI k) (nI m) = (some (metC mb md tm td tk tt j k m mm), 0)) (hm52 : mm - i < no52 + 1) : ∀ (fu : Nat) (t : Nat) (ct : Option Nat) (ht : t ≤ tt) (him : i < mm) (hbi : mb i = j) (hdi : md i ≤ k) (hct : ct = knw tm td i k t) (hob : ob 200 ct) (_ : tt - t < fu), JJ κ 8 G (va_A [(z, .inr (10, [.int (nI st), .int (nI th), .long za, .long zb, .ref z4, .ref z5, .ref z6, .int (nI el), .int (nI be), .ref z9, .ref z10, .ref z11, .ref z12, .int (b2i gz), .ref z14, .ref z15, .ref z16, .int (nI mm), .int (nI tt), .ref z19, .ref z20, .ref z21, .ref z22, .ref z23, .int (nI gm), .ref z25, .ref z26, .ref z27, .ref z28, .int (nI rn), .ref z30, .ref z31, .ref z32])), kI G z19 100 (nF mb), kI G z20 100 (nF md), kI G z21 200 (nF tm), kI G z22 200 (nF td), kZ G z23 200 (bF tk)] (js κ).heap.size) 0 0 (jQ κ G [(z, .inr (10, [.int (nI st), .int (nI th), .long za, .long zb, .ref z4, .ref z5, .ref z6, .int (nI el), .int (nI be), .ref z9, .ref z10, .ref z11, .ref z12, .int (b2i gz), .ref z14, .ref z15, .ref z16, .int (nI mm), .int (nI tt), .ref z19, .ref z20, .ref z21, .ref z22, .ref z23, .int (nI gm), .ref z25, .ref z26, .ref z27, .ref z28, .int (nI rn), .ref z30, .ref z31, .ref z32])), kI G z19 100 (nF mb), kI G z20 100 (nF md), kI G z21 200 (nF tm), kI G z22 200 (nF td), kZ G z23 200 (bF tk)] (fun r w' => r = some (.int (oI ((sMet be mm tt mb md tm td tk x d w).1))) ∧ w' = [(z, .inr (10, [.int (nI ((sMet be mm tt mb md tm td tk x d w).2)), .int (nI 0), .long za, .long zb, .ref z4, .ref z5, .ref z6, .int (nI el), .int (nI be), .ref z9, .ref z10, .ref z11, .ref z12, .int (b2i gz), .ref z14, .ref z15, .ref z16, .int (nI mm), .int (nI tt), .ref z19, .ref z20, .ref z21, .ref z22, .ref z23, .int (nI gm), .ref z25, .ref z26, .ref z27, .ref z28, .int (nI rn), .ref z30, .ref z31, .ref z32])), kI G z19 100 (nF mb), kI G z20 100 (nF md), kI G z21 200 (nF tm), kI G z22 200 (nF td), kZ G z23 200 (bF tk)]) 0 0) 92 [(0, .ref z), (1, .int (nI j)), (2, .int (nI k)), (3, .int (nI m)), (4, .int (nI (metC mb md tm td tk tt j k m i))), (5, .int (nI i)), (6, .int (oI ct)), (7, .int (nI t))] [] [(z, .inr (10, [.int (nI 0), .int (nI 0), .long za, .long zb, .ref z4, .ref z5, .ref z6, .int (nI el), .int (nI be), .ref z9, .ref z10, .ref z11, .ref z12, .int (b2i gz), .ref z14, .ref z15, .ref z16, .int (nI mm), .int (nI tt), .ref z19, .ref z20, .ref z21, .ref z22, .ref z23, .int (nI gm), .ref z25, .ref z26, .ref z27, .ref z28, .int (nI rn), .ref z30, .ref z31, .ref z32])), kI G z19 100 (nF mb), kI G z20 100 (nF md), kI G z21 200 (nF tm), kI G z22 200 (nF td), kZ G z23 200 (bF tk)] := by
  have i_X10 : ∀ w ∈ wsX100, w ∈ wsX10_met := by decide +kernel
  subst hxj
  subst hdk
  subst hwm
  intro fu
  induction fu with
  | zero => intro t ct ht him hbi hdi hct hob hms; exact absurd hms (Nat.not_lt_zero _)
  | succ fu ih =>
    intro t ct ht him hbi hdi hct hob hms
    refine j_iload (pc := 92) X dX10_met_92 7 rfl ?_
    refine j_aload_n (pc := 94) X dX10_met_94 rfl 0 rfl ?_
    refine j_get (pc := 95) X 10 i_X10 0 rfl rfl 18 (by decide) (by decide +kernel) rfl dX10_met_95 ?_
    refine j_icmpN_ge (pc := 98) X (a := t) (b := tt) (by first | omega | exact Nat.lt_of_lt_of_le (htm _) (by decide) | exact Nat.lt_of_lt_of_le (htd _) (by decide) | exact Nat.lt_of_lt_of_le (hmb _) (by decide) | exact Nat.lt_of_lt_of_le (hmd _) (by decide)) (by first | omega | exact Nat.lt_of_lt_of_le (htm _) (by decide) | exact Nat.lt_of_lt_of_le (htd _) (by decide) | exact Nat.lt_of_lt_of_le (hmb _) (by decide) | exact Nat.lt_of_lt_of_le (hmd _) (by decide)) (tgt := 156) dX10_met_98 (by decide) (fun c_98 => ?_) (fun c_98 => ?_)
    · skip
      refine j_iload (pc := 156) X dX10_met_156 4 rfl ?_
      refine j_iload_n (pc := 158) X dX10_met_158 rfl 3 rfl ?_
      refine j_iload (pc := 159) X dX10_met_159 6 rfl ?_
      refine j_ifO_ge (pc := 161) X (a := ct) (by exact hob.big (by decide)) (tgt := 168) dX10_met_161 (by decide) (fun c_161 => ?_) (fun c_161 => ?_)
      · skip
        obtain ⟨w2, rfl⟩ := Option.ne_none_iff_exists'.mp c_161; have hw2 := hob w2 rfl; have hq_c : knw tm td i k tt = some w2 := (by rw [hct, show t = tt by omega])
        refine j_aload_n (pc := 168) X dX10_met_168 rfl 0 rfl ?_
        refine j_get (pc := 169) X 10 i_X10 0 rfl rfl 23 (by decide) (by decide +kernel) rfl dX10_met_169 ?_
        refine j_iload (pc := 172) X dX10_met_172 6 rfl ?_
        refine j_zald (pc := 174) X 5 rfl (vp_in_nI (by omega) (by decide)) (v := b2i (tk w2)) (congrArg (bF tk) (nI_clamp (by omega))) dX10_met_174 ?_
        refine j_ifb_eq (pc := 175) X (B := tk w2) (tgt := 182) dX10_met_175 (by decide) (fun c_175 => ?_) (fun c_175 => ?_)
        · skip
          refine j_iconst (pc := 182) X (v := nI 1) dX10_met_182 (by decide) ?_
          refine j_icmpN_ne (pc := 183) X (a := m) (b := 1) (by first | omega | exact Nat.lt_of_lt_of_le (htm _) (by decide) | exact Nat.lt_of_lt_of_le (htd _) (by decide) | exact Nat.lt_of_lt_of_le (hmb _) (by decide) | exact Nat.lt_of_lt_of_le (hmd _) (by decide)) (by first | omega | exact Nat.lt_of_lt_of_le (htm _) (by decide) | exact Nat.lt_of_lt_of_le (htd _) (by decide) | exact Nat.lt_of_lt_of_le (hmb _) (by decide) | exact Nat.lt_of_lt_of_le (hmd _) (by decide)) (tgt := 190) dX10_met_183 (by decide) (fun c_183 => ?_) (fun c_183 => ?_)
          · skip
            refine j_iconst (pc := 190) X (v := nI 0) dX10_met_190 (by decide) ?_
            refine j_iadd (pc := 191) X dX10_met_191 ?_
            refine j_topi (z := nI (metC mb md tm td tk tt j k m i + 0)) (nI_add _ _) ?_
            refine j_istore (pc := 192) X (lv' := [(4, .int (nI (metC mb md tm td tk tt j k m i + 0))), (0, .ref z), (1, .int (nI j)), (2, .int (nI k)), (3, .int (nI m)), (5, .int (nI i)), (6, .int (nI w2)), (7, .int (nI t))]) dX10_met_192 (by decide) rfl ?_
            refine j_iinc (pc := 194) X (v := nI (i + 1)) (lv' := [(5, .int (nI (i + 1))), (4, .int (nI (metC mb md tm td tk tt j k m i + 0))), (0, .ref z), (1, .int (nI j)), (2, .int (nI k)), (3, .int (nI m)), (6, .int (nI w2)), (7, .int (nI t))]) dX10_met_194 5 rfl (nI_1 _) (by decide) rfl ?_
            refine j_goto (pc := 197) X (tgt := 52) dX10_met_197 (by decide) ?_
            refine j_lv [2, 3, 4, 5, 1, 0] (lv' := [(0, .ref z), (1, .int (nI j)), (2, .int (nI k)), (3, .int (nI m)), (4, .int (nI (metC mb md tm td tk tt j k m i + 0))), (5, .int (nI (i + 1)))]) rfl ?_
            refine j_lvq (lv' := [(0, .ref z), (1, .int (nI j)), (2, .int (nI k)), (3, .int (nI m)), (4, .int (nI (metC mb md tm td tk tt j k m (i + 1)))), (5, .int (nI (i + 1)))]) ?_ ?_
            · first | rfl | (rw [show (metC mb md tm td tk tt j k m i + 0) = metC mb md tm td tk tt j k m (i + 1) from by (first | (simp only [metC]; simp [c_98, c_161, c_175, c_183]; done) | (simp only [metC]; rw [hq_c]; simp [knwS, hbi, hdi, c_98, c_161, c_175, c_183]; done) | (simp only [metC]; rw [hq_c]; simp [knwS, hbi, hdi, c_98, c_161, c_175, c_183]; omega))])
            exact hK52 j k m (i + 1) (rfl) (rfl) (rfl) (by omega) (by omega) (by omega) (by omega) (by first | exact hS | (have h9 : ¬ nI 2 < nI m := Int32.not_lt.mpr c_37; simp [sMet, tN, hq_j, hq_k, hq_m, c_15, c_28, c_32, h9])) (by omega)
          · skip
            refine j_iconst (pc := 186) X (v := nI 1) dX10_met_186 (by decide) ?_
            refine j_goto (pc := 187) X (tgt := 191) dX10_met_187 (by decide) ?_
            refine j_iadd (pc := 191) X dX10_met_191 ?_
            refine j_topi (z := nI (metC mb md tm td tk tt j k m i + 1)) (nI_add _ _) ?_
            refine j_istore (pc := 192) X (lv' := [(4, .int (nI (metC mb md tm td tk tt j k m i + 1))), (0, .ref z), (1, .int (nI j)), (2, .int (nI k)), (3, .int (nI m)), (5, .int (nI i)), (6, .int (nI w2)), (7, .int (nI t))]) dX10_met_192 (by decide) rfl ?_
            refine j_iinc (pc := 194) X (v := nI (i + 1)) (lv' := [(5, .int (nI (i + 1))), (4, .int (nI (metC mb md tm td tk tt j k m i + 1))), (0, .ref z), (1, .int (nI j)), (2, .int (nI k)), (3, .int (nI m)), (6, .int (nI w2)), (7, .int (nI t))]) dX10_met_194 5 rfl (nI_1 _) (by decide) rfl ?_
            refine j_goto (pc := 197) X (tgt := 52) dX10_met_197 (by decide) ?_
            refine j_lv [2, 3, 4, 5, 1, 0] (lv' := [(0, .ref z), (1, .int (nI j)), (2, .int (nI k)), (3, .int (nI m)), (4, .int (nI (metC mb md tm td tk tt j k m i + 1))), (5, .int (nI (i + 1)))]) rfl ?_
            refine j_lvq (lv' := [(0, .ref z), (1, .int (nI j)), (2, .int (nI k)), (3, .int (nI m)), (4, .int (nI (metC mb md tm td tk tt j k m (i + 1)))), (5, .int (nI (i + 1)))]) ?_ ?_
            · first | rfl | (rw [show (metC mb md tm td tk tt j k m i + 1) = metC mb md tm td tk tt j k m (i + 1) from by (first | (simp only [metC]; simp [c_98, c_161, c_175, c_183]; done) | (simp only [metC]; rw [hq_c]; simp [knwS, hbi, hdi, c_98, c_161, c_175, c_183]; done) | (simp only [metC]; rw [hq_c]; simp [knwS, hbi, hdi, c_98, c_161, c_175, c_183]; omega))])
            exact hK52 j k m (i + 1) (rfl) (rfl) (rfl) (by omega) (by omega) (by omega) (by omega) (by first | exact hS | (have h9 : ¬ nI 2 < nI m := Int32.not_lt.mpr c_37; simp [sMet, tN, hq_j, hq_k, hq_m, c_15, c_28, c_32, h9])) (by omega)
        · skip
          refine j_iconst (pc := 178) X (v := nI 0) dX10_met_178 (by decide) ?_
          refine j_goto (pc := 179) X (tgt := 183) dX10_met_179 (by decide) ?_
          refine j_icmpN_ne (pc := 183) X (a := m) (b := 0) (by first | omega | exact Nat.lt_of_lt_of_le (htm _) (by decide) | exact Nat.lt_of_lt_of_le (htd _) (by decide) | exact Nat.lt_of_lt_of_le (hmb _) (by decide) | exact Nat.lt_of_lt_of_le (hmd _) (by decide)) (by first | omega | exact Nat.lt_of_lt_of_le (htm _) (by decide) | exact Nat.lt_of_lt_of_le (htd _) (by decide) | exact Nat.lt_of_lt_of_le (hmb _) (by decide) | exact Nat.lt_of_lt_of_le (hmd _) (by decide)) (tgt := 190) dX10_met_183 (by decide) (fun c_183 => ?_) (fun c_183 => ?_)
          · skip
            refine j_iconst (pc := 190) X (v := nI 0) dX10_met_190 (by decide) ?_
            refine j_iadd (pc := 191) X dX10_met_191 ?_
            refine j_topi (z := nI (metC mb md tm td tk tt j k m i + 0)) (nI_add _ _) ?_
            refine j_istore (pc := 192) X (lv' := [(4, .int (nI (metC mb md tm td tk tt j k m i + 0))), (0, .ref z), (1, .int (nI j)), (2, .int (nI k)), (3, .int (nI m)), (5, .int (nI i)), (6, .int (nI w2)), (7, .int (nI t))]) dX10_met_192 (by decide) rfl ?_
            refine j_iinc (pc := 194) X (v := nI (i + 1)) (lv' := [(5, .int (nI (i + 1))), (4, .int (nI (metC mb md tm td tk tt j k m i + 0))), (0, .ref z), (1, .int (nI j)), (2, .int (nI k)), (3, .int (nI m)), (6, .int (nI w2)), (7, .int (nI t))]) dX10_met_194 5 rfl (nI_1 _) (by decide) rfl ?_
            refine j_goto (pc := 197) X (tgt := 52) dX10_met_197 (by decide) ?_
            refine j_lv [2, 3, 4, 5, 1, 0] (lv' := [(0, .ref z), (1, .int (nI j)), (2, .int (nI k)), (3, .int (nI m)), (4, .int (nI (metC mb md tm td tk tt j k m i + 0))), (5, .int (nI (i + 1)))]) rfl ?_
            refine j_lvq (lv' := [(0, .ref z), (1, .int (nI j)), (2, .int (nI k)), (3, .int (nI m)), (4, .int (nI (metC mb md tm td tk tt j k m (i + 1)))), (5, .int (nI (i + 1)))]) ?_ ?_
            · first | rfl | (rw [show (metC mb md tm td tk tt j k m i + 0) = metC mb md tm td tk tt j k m (i + 1) from by (first | (simp only [metC]; simp [c_98, c_161, c_175, c_183]; done) | (simp only [metC]; rw [hq_c]; simp [knwS, hbi, hdi, c_98, c_161, c_175, c_183]; done) | (simp only [metC]; rw [hq_c]; simp [knwS, hbi, hdi, c_98, c_161, c_175, c_183]; omega))])
            exact hK52 j k m (i + 1) (rfl) (rfl) (rfl) (by omega) (by omega) (by omega) (by omega) (by first | exact hS | (have h9 : ¬ nI 2 < nI m := Int32.not_lt.mpr c_37; simp [sMet, tN, hq_j, hq_k, hq_m, c_15, c_28, c_32, h9])) (by omega)
          · skip
            refine j_iconst (pc := 186) X (v := nI 1) dX10_met_186 (by decide) ?_
            refine j_goto (pc := 187) X (tgt := 191) dX10_met_187 (by decide) ?_
            refine j_iadd (pc := 191) X dX10_met_191 ?_
            refine j_topi (z := nI (metC mb md tm td tk tt j k m i + 1)) (nI_add _ _) ?_
            refine j_istore (pc := 192) X (lv' := [(4, .int (nI (metC mb md tm td tk tt j k m i + 1))), (0, .ref z), (1, .int (nI j)), (2, .int (nI k)), (3, .int (nI m)), (5, .int (nI i)), (6, .int (nI w2)), (7, .int (nI t))]) dX10_met_192 (by decide) rfl ?_
            refine j_iinc (pc := 194) X (v := nI (i + 1)) (lv' := [(5, .int (nI (i + 1))), (4, .int (nI (metC mb md tm td tk tt j k m i + 1))), (0, .ref z), (1, .int (nI j)), (2, .int (nI k)), (3, .int (nI m)), (6, .int (nI w2)), (7, .int (nI t))]) dX10_met_194 5 rfl (nI_1 _) (by decide) rfl ?_
            refine j_goto (pc := 197) X (tgt := 52) dX10_met_197 (by decide) ?_
            refine j_lv [2, 3, 4, 5, 1, 0] (lv' := [(0, .ref z), (1, .int (nI j)), (2, .int (nI k)), (3, .int (nI m)), (4, .int (nI (metC mb md tm td tk tt j k m i + 1))), (5, .int (nI (i + 1)))]) rfl ?_
            refine j_lvq (lv' := [(0, .ref z), (1, .int (nI j)), (2, .int (nI k)), (3, .int (nI m)), (4, .int (nI (metC mb md tm td tk tt j k m (i + 1)))), (5, .int (nI (i + 1)))]) ?_ ?_
            · first | rfl | (rw [show (metC mb md tm td tk tt j k m i + 1) = metC mb md tm td tk tt j k m (i + 1) from by (first | (simp only [metC]; simp [c_98, c_161, c_175, c_183]; done) | (simp only [metC]; rw [hq_c]; simp [knwS, hbi, hdi, c_98, c_161, c_175, c_183]; done) | (simp only [metC]; rw [hq_c]; simp [knwS, hbi, hdi, c_98, c_161, c_175, c_183]; omega))])
            exact hK52 j k m (i + 1) (rfl) (rfl) (rfl) (by omega) (by omega) (by omega) (by omega) (by first | exact hS | (have h9 : ¬ nI 2 < nI m := Int32.not_lt.mpr c_37; simp [sMet, tN, hq_j, hq_k, hq_m, c_15, c_28, c_32, h9])) (by omega)
      · skip
        have hq_c : knw tm td i k tt = none := (by rw [← c_161, hct, show t = tt by omega])
        refine j_iconst (pc := 164) X (v := nI 2) dX10_met_164 (by decide) ?_
        refine j_goto (pc := 165) X (tgt := 183) dX10_met_165 (by decide) ?_
        refine j_icmpN_ne (pc := 183) X (a := m) (b := 2) (by first | omega | exact Nat.lt_of_lt_of_le (htm _) (by decide) | exact Nat.lt_of_lt_of_le (htd _) (by decide) | exact Nat.lt_of_lt_of_le (hmb _) (by decide) | exact Nat.lt_of_lt_of_le (hmd _) (by decide)) (by first | omega | exact Nat.lt_of_lt_of_le (htm _) (by decide) | exact Nat.lt_of_lt_of_le (htd _) (by decide) | exact Nat.lt_of_lt_of_le (hmb _) (by decide) | exact Nat.lt_of_lt_of_le (hmd _) (by decide)) (tgt := 190) dX10_met_183 (by decide) (fun c_183 => ?_) (fun c_183 => ?_)
        · skip
          refine j_iconst (pc := 190) X (v := nI 0) dX10_met_190 (by decide) ?_
          refine j_iadd (pc := 191) X dX10_met_191 ?_
          refine j_topi (z := nI (metC mb md tm td tk tt j k m i + 0)) (nI_add _ _) ?_
          refine j_istore (pc := 192) X (lv' := [(4, .int (nI (metC mb md tm td tk tt j k m i + 0))), (0, .ref z), (1, .int (nI j)), (2, .int (nI k)), (3, .int (nI m)), (5, .int (nI i)), (6, .int (oI ct)), (7, .int (nI t))]) dX10_met_192 (by decide) rfl ?_
          refine j_iinc (pc := 194) X (v := nI (i + 1)) (lv' := [(5, .int (nI (i + 1))), (4, .int (nI (metC mb md tm td tk tt j k m i + 0))), (0, .ref z), (1, .int (nI j)), (2, .int (nI k)), (3, .int (nI m)), (6, .int (oI ct)), (7, .int (nI t))]) dX10_met_194 5 rfl (nI_1 _) (by decide) rfl ?_
          refine j_goto (pc := 197) X (tgt := 52) dX10_met_197 (by decide) ?_
          refine j_lv [2, 3, 4, 5, 1, 0] (lv' := [(0, .ref z), (1, .int (nI j)), (2, .int (nI k)), (3, .int (nI m)), (4, .int (nI (metC mb md tm td tk tt j k m i + 0))), (5, .int (nI (i + 1)))]) rfl ?_
          refine j_lvq (lv' := [(0, .ref z), (1, .int (nI j)), (2, .int (nI k)), (3, .int (nI m)), (4, .int (nI (metC mb md tm td tk tt j k m (i + 1)))), (5, .int (nI (i + 1)))]) ?_ ?_
          · first | rfl | (rw [show (metC mb md tm td tk tt j k m i + 0) = metC mb md tm td tk tt j k m (i + 1) from by (first | (simp only [metC]; simp [c_98, c_161, c_183]; done) | (simp only [metC]; rw [hq_c]; simp [knwS, hbi, hdi, c_98, c_161, c_183]; done) | (simp only [metC]; rw [hq_c]; simp [knwS, hbi, hdi, c_98, c_161, c_183]; omega))])
          exact hK52 j k m (i + 1) (rfl) (rfl) (rfl) (by omega) (by omega) (by omega) (by omega) (by first | exact hS | (have h9 : ¬ nI 2 < nI m := Int32.not_lt.mpr c_37; simp [sMet, tN, hq_j, hq_k, hq_m, c_15, c_28, c_32, h9])) (by omega)
        · skip
          refine j_iconst (pc := 186) X (v := nI 1) dX10_met_186 (by decide) ?_
          refine j_goto (pc := 187) X (tgt := 191) dX10_met_187 (by decide) ?_
          refine j_iadd (pc := 191) X dX10_met_191 ?_
          refine j_topi (z := nI (metC mb md tm td tk tt j k m i + 1)) (nI_add _ _) ?_
          refine j_istore (pc := 192) X (lv' := [(4, .int (nI (metC mb md tm td tk tt j k m i + 1))), (0, .ref z), (1, .int (nI j)), (2, .int (nI k)), (3, .int (nI m)), (5, .int (nI i)), (6, .int (oI ct)), (7, .int (nI t))]) dX10_met_192 (by decide) rfl ?_
          refine j_iinc (pc := 194) X (v := nI (i + 1)) (lv' := [(5, .int (nI (i + 1))), (4, .int (nI (metC mb md tm td tk tt j k m i + 1))), (0, .ref z), (1, .int (nI j)), (2, .int (nI k)), (3, .int (nI m)), (6, .int (oI ct)), (7, .int (nI t))]) dX10_met_194 5 rfl (nI_1 _) (by decide) rfl ?_
          refine j_goto (pc := 197) X (tgt := 52) dX10_met_197 (by decide) ?_
          refine j_lv [2, 3, 4, 5, 1, 0] (lv' := [(0, .ref z), (1, .int (nI j)), (2, .int (nI k)), (3, .int (nI m)), (4, .int (nI (metC mb md tm td tk tt j k m i + 1))), (5, .int (nI (i + 1)))]) rfl ?_
          refine j_lvq (lv' := [(0, .ref z), (1, .int (nI j)), (2, .int (nI k)), (3, .int (nI m)), (4, .int (nI (metC mb md tm td tk tt j k m (i + 1)))), (5, .int (nI (i + 1)))]) ?_ ?_
          · first | rfl | (rw [show (metC mb md tm td tk tt j k m i + 1) = metC mb md tm td tk tt j k m (i + 1) from by (first | (simp only [metC]; simp [c_98, c_161, c_183]; done) | (simp only [metC]; rw [hq_c]; simp [knwS, hbi, hdi, c_98, c_161, c_183]; done) | (simp only [metC]; rw [hq_c]; simp [knwS, hbi, hdi, c_98, c_161, c_183]; omega))])
          exact hK52 j k m (i + 1) (rfl) (rfl) (rfl) (by omega) (by omega) (by omega) (by omega) (by first | exact hS | (have h9 : ¬ nI 2 < nI m := Int32.not_lt.mpr c_37; simp [sMet, tN, hq_j, hq_k, hq_m, c_15, c_28, c_32, h9])) (by omega)
    · skip
      refine j_aload_n (pc := 101) X dX10_met_101 rfl 0 rfl ?_
      refine j_get (pc := 102) X 10 i_X10 0 rfl rfl 21 (by decide) (by decide +kernel) rfl dX10_met_102 ?_
      refine j_iload (pc := 105) X dX10_met_105 7 rfl ?_
      refine j_iald (pc := 107) X 3 rfl (vp_in_nI (by omega) (by decide)) (v := nI (tm t)) (congrArg (nF tm) (nI_clamp (by omega))) dX10_met_107 ?_
      refine j_iload (pc := 108) X dX10_met_108 5 rfl ?_
      refine j_icmpN_ne (pc := 110) X (a := (tm t)) (b := i) (by first | omega | exact Nat.lt_of_lt_of_le (htm _) (by decide) | exact Nat.lt_of_lt_of_le (htd _) (by decide) | exact Nat.lt_of_lt_of_le (hmb _) (by decide) | exact Nat.lt_of_lt_of_le (hmd _) (by decide)) (by first | omega | exact Nat.lt_of_lt_of_le (htm _) (by decide) | exact Nat.lt_of_lt_of_le (htd _) (by decide) | exact Nat.lt_of_lt_of_le (hmb _) (by decide) | exact Nat.lt_of_lt_of_le (hmd _) (by decide)) (tgt := 150) dX10_met_110 (by decide) (fun c_110 => ?_) (fun c_110 => ?_)
      · skip
        refine j_iinc (pc := 150) X (v := nI (t + 1)) (lv' := [(7, .int (nI (t + 1))), (0, .ref z), (1, .int (nI j)), (2, .int (nI k)), (3, .int (nI m)), (4, .int (nI (metC mb md tm td tk tt j k m i))), (5, .int (nI i)), (6, .int (oI ct))]) dX10_met_150 7 rfl (nI_1 _) (by decide) rfl ?_
        refine j_goto (pc := 153) X (tgt := 92) dX10_met_153 (by decide) ?_
        refine j_lv [1, 2, 3, 4, 5, 6, 7, 0] (lv' := [(0, .ref z), (1, .int (nI j)), (2, .int (nI k)), (3, .int (nI m)), (4, .int (nI (metC mb md tm td tk tt j k m i))), (5, .int (nI i)), (6, .int (oI ct)), (7, .int (nI (t + 1)))]) rfl ?_
        exact ih (t + 1) ct (by omega) (by omega) (hbi) (hdi) (by simp [knw, knO, ← hct, c_98, c_110]; try omega) (by first | exact hob | exact ob_s (by omega) | exact ob_n) (by omega)
      · skip
        refine j_aload_n (pc := 113) X dX10_met_113 rfl 0 rfl ?_
        refine j_get (pc := 114) X 10 i_X10 0 rfl rfl 22 (by decide) (by decide +kernel) rfl dX10_met_114 ?_
        refine j_iload (pc := 117) X dX10_met_117 7 rfl ?_
        refine j_iald (pc := 119) X 4 rfl (vp_in_nI (by omega) (by decide)) (v := nI (td t)) (congrArg (nF td) (nI_clamp (by omega))) dX10_met_119 ?_
        refine j_iload_n (pc := 120) X dX10_met_120 rfl 2 rfl ?_
        refine j_icmpN_gt (pc := 121) X (a := (td t)) (b := k) (by first | omega | exact Nat.lt_of_lt_of_le (htm _) (by decide) | exact Nat.lt_of_lt_of_le (htd _) (by decide) | exact Nat.lt_of_lt_of_le (hmb _) (by decide) | exact Nat.lt_of_lt_of_le (hmd _) (by decide)) (by first | omega | exact Nat.lt_of_lt_of_le (htm _) (by decide) | exact Nat.lt_of_lt_of_le (htd _) (by decide) | exact Nat.lt_of_lt_of_le (hmb _) (by decide) | exact Nat.lt_of_lt_of_le (hmd _) (by decide)) (tgt := 150) dX10_met_121 (by decide) (fun c_121 => ?_) (fun c_121 => ?_)
        · skip
          refine j_iinc (pc := 150) X (v := nI (t + 1)) (lv' := [(7, .int (nI (t + 1))), (0, .ref z), (1, .int (nI j)), (2, .int (nI k)), (3, .int (nI m)), (4, .int (nI (metC mb md tm td tk tt j k m i))), (5, .int (nI i)), (6, .int (oI ct))]) dX10_met_150 7 rfl (nI_1 _) (by decide) rfl ?_
          refine j_goto (pc := 153) X (tgt := 92) dX10_met_153 (by decide) ?_
          refine j_lv [1, 2, 3, 4, 5, 6, 7, 0] (lv' := [(0, .ref z), (1, .int (nI j)), (2, .int (nI k)), (3, .int (nI m)), (4, .int (nI (metC mb md tm td tk tt j k m i))), (5, .int (nI i)), (6, .int (oI ct)), (7, .int (nI (t + 1)))]) rfl ?_
          exact ih (t + 1) ct (by omega) (by omega) (hbi) (hdi) (by simp [knw, knO, ← hct, c_98, c_110, c_121]; try omega) (by first | exact hob | exact ob_s (by omega) | exact ob_n) (by omega)
        · skip
          refine j_iload (pc := 124) X dX10_met_124 6 rfl ?_
          refine j_ifO_lt (pc := 126) X (a := ct) (by exact hob.big (by decide)) (tgt := 146) dX10_met_126 (by decide) (fun c_126 => ?_) (fun c_126 => ?_)
          · skip
            refine j_iload (pc := 146) X dX10_met_146 7 rfl ?_
            refine j_istore (pc := 148) X (lv' := [(6, .int (nI t)), (0, .ref z), (1, .int (nI j)), (2, .int (nI k)), (3, .int (nI m)), (4, .int (nI (metC mb md tm td tk tt j k m i))), (5, .int (nI i)), (7, .int (nI t))]) dX10_met_148 (by decide) rfl ?_
            refine j_iinc (pc := 150) X (v := nI (t + 1)) (lv' := [(7, .int (nI (t + 1))), (6, .int (nI t)), (0, .ref z), (1, .int (nI j)), (2, .int (nI k)), (3, .int (nI m)), (4, .int (nI (metC mb md tm td tk tt j k m i))), (5, .int (nI i))]) dX10_met_150 7 rfl (nI_1 _) (by decide) rfl ?_
            refine j_goto (pc := 153) X (tgt := 92) dX10_met_153 (by decide) ?_
            refine j_lv [2, 3, 4, 5, 6, 7, 1, 0] (lv' := [(0, .ref z), (1, .int (nI j)), (2, .int (nI k)), (3, .int (nI m)), (4, .int (nI (metC mb md tm td tk tt j k m i))), (5, .int (nI i)), (6, .int (nI t)), (7, .int (nI (t + 1)))]) rfl ?_
            refine j_lvq (lv' := [(0, .ref z), (1, .int (nI j)), (2, .int (nI k)), (3, .int (nI m)), (4, .int (nI (metC mb md tm td tk tt j k m i))), (5, .int (nI i)), (6, .int (oI (some t))), (7, .int (nI (t + 1)))]) rfl ?_
            exact ih (t + 1) (some t) (by omega) (by omega) (hbi) (hdi) (by simp [knw, knO, ← hct, c_98, c_110, c_121, c_126]; try omega) (by first | exact hob | exact ob_s (by omega) | exact ob_n) (by omega)
          · skip
            obtain ⟨w2, rfl⟩ := Option.ne_none_iff_exists'.mp c_126; have hw2 := hob w2 rfl
            refine j_aload_n (pc := 129) X dX10_met_129 rfl 0 rfl ?_
            refine j_get (pc := 130) X 10 i_X10 0 rfl rfl 22 (by decide) (by decide +kernel) rfl dX10_met_130 ?_
            refine j_iload (pc := 133) X dX10_met_133 7 rfl ?_
            refine j_iald (pc := 135) X 4 rfl (vp_in_nI (by omega) (by decide)) (v := nI (td t)) (congrArg (nF td) (nI_clamp (by omega))) dX10_met_135 ?_
            refine j_aload_n (pc := 136) X dX10_met_136 rfl 0 rfl ?_
            refine j_get (pc := 137) X 10 i_X10 0 rfl rfl 22 (by decide) (by decide +kernel) rfl dX10_met_137 ?_
            refine j_iload (pc := 140) X dX10_met_140 6 rfl ?_
            refine j_iald (pc := 142) X 4 rfl (vp_in_nI (by omega) (by decide)) (v := nI (td w2)) (congrArg (nF td) (nI_clamp (by omega))) dX10_met_142 ?_
            refine j_icmpN_lt (pc := 143) X (a := (td t)) (b := (td w2)) (by first | omega | exact Nat.lt_of_lt_of_le (htm _) (by decide) | exact Nat.lt_of_lt_of_le (htd _) (by decide) | exact Nat.lt_of_lt_of_le (hmb _) (by decide) | exact Nat.lt_of_lt_of_le (hmd _) (by decide)) (by first | omega | exact Nat.lt_of_lt_of_le (htm _) (by decide) | exact Nat.lt_of_lt_of_le (htd _) (by decide) | exact Nat.lt_of_lt_of_le (hmb _) (by decide) | exact Nat.lt_of_lt_of_le (hmd _) (by decide)) (tgt := 150) dX10_met_143 (by decide) (fun c_143 => ?_) (fun c_143 => ?_)
            · skip
              refine j_iinc (pc := 150) X (v := nI (t + 1)) (lv' := [(7, .int (nI (t + 1))), (0, .ref z), (1, .int (nI j)), (2, .int (nI k)), (3, .int (nI m)), (4, .int (nI (metC mb md tm td tk tt j k m i))), (5, .int (nI i)), (6, .int (nI w2))]) dX10_met_150 7 rfl (nI_1 _) (by decide) rfl ?_
              refine j_goto (pc := 153) X (tgt := 92) dX10_met_153 (by decide) ?_
              refine j_lv [1, 2, 3, 4, 5, 6, 7, 0] (lv' := [(0, .ref z), (1, .int (nI j)), (2, .int (nI k)), (3, .int (nI m)), (4, .int (nI (metC mb md tm td tk tt j k m i))), (5, .int (nI i)), (6, .int (nI w2)), (7, .int (nI (t + 1)))]) rfl ?_
              refine j_lvq (lv' := [(0, .ref z), (1, .int (nI j)), (2, .int (nI k)), (3, .int (nI m)), (4, .int (nI (metC mb md tm td tk tt j k m i))), (5, .int (nI i)), (6, .int (oI (some w2))), (7, .int (nI (t + 1)))]) rfl ?_
              exact ih (t + 1) (some w2) (by omega) (by omega) (hbi) (hdi) (by simp [knw, knO, ← hct, c_98, c_110, c_121, c_126, c_143]; try omega) (by first | exact hob | exact ob_s (by omega) | exact ob_n) (by omega)
            · skip
              refine j_iload (pc := 146) X dX10_met_146 7 rfl ?_
              refine j_istore (pc := 148) X (lv' := [(6, .int (nI t)), (0, .ref z), (1, .int (nI j)), (2, .int (nI k)), (3, .int (nI m)), (4, .int (nI (metC mb md tm td tk tt j k m i))), (5, .int (nI i)), (7, .int (nI t))]) dX10_met_148 (by decide) rfl ?_
              refine j_iinc (pc := 150) X (v := nI (t + 1)) (lv' := [(7, .int (nI (t + 1))), (6, .int (nI t)), (0, .ref z), (1, .int (nI j)), (2, .int (nI k)), (3, .int (nI m)), (4, .int (nI (metC mb md tm td tk tt j k m i))), (5, .int (nI i))]) dX10_met_150 7 rfl (nI_1 _) (by decide) rfl ?_
              refine j_goto (pc := 153) X (tgt := 92) dX10_met_153 (by decide) ?_
              refine j_lv [2, 3, 4, 5, 6, 7, 1, 0] (lv' := [(0, .ref z), (1, .int (nI j)), (2, .int (nI k)), (3, .int (nI m)), (4, .int (nI (metC mb md tm td tk tt j k m i))), (5, .int (nI i)), (6, .int (nI t)), (7, .int (nI (t + 1)))]) rfl ?_
              refine j_lvq (lv' := [(0, .ref z), (1, .int (nI j)), (2, .int (nI k)), (3, .int (nI m)), (4, .int (nI (metC mb md tm td tk tt j k m i))), (5, .int (nI i)), (6, .int (oI (some t))), (7, .int (nI (t + 1)))]) rfl ?_
              exact ih (t + 1) (some t) (by omega) (by omega) (hbi) (hdi) (by simp [knw, knO, ← hct, c_98, c_110, c_121, c_126, c_143]; try omega) (by first | exact hob | exact ob_s (by omega) | exact ob_n) (by omega)
set_option maxHeartbeats 4000000 in
set_option maxRecDepth 100000 in
theorem mX10_met_L52 (l : Launch) (G : jG) (z : Nat) (z4 : Nat) (z5 : Nat) (z6 : Nat) (z9 : Nat) (z10 : Nat) (z11 : Nat) (z12 : Nat) (z14 : Nat) (z15 : Nat) (z16 : Nat) (z19 : Nat) (z20 : Nat) (z21 : Nat) (z22 : Nat) (z23 : Nat) (z25 : Nat) (z26 : Nat) (z27 : Nat) (z28 : Nat) (z30 : Nat) (z31 : Nat) (z32 : Nat) (st : Nat) (th : Nat) (za : Int64) (zb : Int64) (el : Nat) (be : Nat) (gz : Bool) (mm : Nat) (tt : Nat) (gm : Nat) (rn : Nat) (mb : Nat → Nat) (md : Nat → Nat) (tm : Nat → Nat) (td : Nat → Nat) (tk : Nat → Bool) (x : Int32) (d : Int32) (w : Int32) (hbe : be ≤ 16) (hmm : mm ≤ 100) (htt : tt ≤ 200) (htm : ∀ k, tm k < 100) (htd : ∀ k, td k < 10000) (hmb : ∀ k, mb k < 16) (hmd : ∀ k, md k < 10000) (κ : jK) (X : CX κ l yX10_met cX10_met 8 RX10 wsX10_met (some .int) ({ frames := 1, cells := 0, slots := 0, locals := 21 }) G (va_A [(z, .inr (10, [.int (nI st), .int (nI th), .long za, .long zb, .ref z4, .ref z5, .ref z6, .int (nI el), .int (nI be), .ref z9, .ref z10, .ref z11, .ref z12, .int (b2i gz), .ref z14, .ref z15, .ref z16, .int (nI mm), .int (nI tt), .ref z19, .ref z20, .ref z21, .ref z22, .ref z23, .int (nI gm), .ref z25, .ref z26, .ref z27, .ref z28, .int (nI rn), .ref z30, .ref z31, .ref z32])), kI G z19 100 (nF mb), kI G z20 100 (nF md), kI G z21 200 (nF tm), kI G z22 200 (nF td), kZ G z23 200 (bF tk)] (js κ).heap.size))    : ∀ (fu : Nat) (j : Nat) (k : Nat) (m : Nat) (i : Nat) (hxj : x = nI j) (hdk : d = nI k) (hwm : w = nI m) (hj : j < 16) (hk : k < 10000) (hm : m ≤ 2) (hi : i ≤ mm) (hS : sMet be mm tt mb md tm td tk (nI j) (nI k) (nI m) = (some (metC mb md tm td tk tt j k m mm), 0)) (_ : mm - i < fu), JJ κ 8 G (va_A [(z, .inr (10, [.int (nI st), .int (nI th), .long za, .long zb, .ref z4, .ref z5, .ref z6, .int (nI el), .int (nI be), .ref z9, .ref z10, .ref z11, .ref z12, .int (b2i gz), .ref z14, .ref z15, .ref z16, .int (nI mm), .int (nI tt), .ref z19, .ref z20, .ref z21, .ref z22, .ref z23, .int (nI gm), .ref z25, .ref z26, .ref z27, .ref z28, .int (nI rn), .ref z30, .ref z31, .ref z32])), kI G z19 100 (nF mb), kI G z20 100 (nF md), kI G z21 200 (nF tm), kI G z22 200 (nF td), kZ G z23 200 (bF tk)] (js κ).heap.size) 0 0 (jQ κ G [(z, .inr (10, [.int (nI st), .int (nI th), .long za, .long zb, .ref z4, .ref z5, .ref z6, .int (nI el), .int (nI be), .ref z9, .ref z10, .ref z11, .ref z12, .int (b2i gz), .ref z14, .ref z15, .ref z16, .int (nI mm), .int (nI tt), .ref z19, .ref z20, .ref z21, .ref z22, .ref z23, .int (nI gm), .ref z25, .ref z26, .ref z27, .ref z28, .int (nI rn), .ref z30, .ref z31, .ref z32])), kI G z19 100 (nF mb), kI G z20 100 (nF md), kI G z21 200 (nF tm), kI G z22 200 (nF td), kZ G z23 200 (bF tk)] (fun r w' => r = some (.int (oI ((sMet be mm tt mb md tm td tk x d w).1))) ∧ w' = [(z, .inr (10, [.int (nI ((sMet be mm tt mb md tm td tk x d w).2)), .int (nI 0), .long za, .long zb, .ref z4, .ref z5, .ref z6, .int (nI el), .int (nI be), .ref z9, .ref z10, .ref z11, .ref z12, .int (b2i gz), .ref z14, .ref z15, .ref z16, .int (nI mm), .int (nI tt), .ref z19, .ref z20, .ref z21, .ref z22, .ref z23, .int (nI gm), .ref z25, .ref z26, .ref z27, .ref z28, .int (nI rn), .ref z30, .ref z31, .ref z32])), kI G z19 100 (nF mb), kI G z20 100 (nF md), kI G z21 200 (nF tm), kI G z22 200 (nF td), kZ G z23 200 (bF tk)]) 0 0) 52 [(0, .ref z), (1, .int (nI j)), (2, .int (nI k)), (3, .int (nI m)), (4, .int (nI (metC mb md tm td tk tt j k m i))), (5, .int (nI i))] [] [(z, .inr (10, [.int (nI 0), .int (nI 0), .long za, .long zb, .ref z4, .ref z5, .ref z6, .int (nI el), .int (nI be), .ref z9, .ref z10, .ref z11, .ref z12, .int (b2i gz), .ref z14, .ref z15, .ref z16, .int (nI mm), .int (nI tt), .ref z19, .ref z20, .ref z21, .ref z22, .ref z23, .int (nI gm), .ref z25, .ref z26, .ref z27, .ref z28, .int (nI rn), .ref z30, .ref z31, .ref z32])), kI G z19 100 (nF mb), kI G z20 100 (nF md), kI G z21 200 (nF tm), kI G z22 200 (nF td), kZ G z23 200 (bF tk)] := by
  have i_X10 : ∀ w ∈ wsX100, w ∈ wsX10_met := by decide +kernel
  intro fu
  induction fu with
  | zero => intro j k m i hxj hdk hwm hj hk hm hi hS hms; exact absurd hms (Nat.not_lt_zero _)
  | succ fu ih =>
    intro j k m i hxj hdk hwm hj hk hm hi hS hms
    subst hxj
    subst hdk
    subst hwm
    refine j_iload (pc := 52) X dX10_met_52 5 rfl ?_
    refine j_aload_n (pc := 54) X dX10_met_54 rfl 0 rfl ?_
    refine j_get (pc := 55) X 10 i_X10 0 rfl rfl 17 (by decide) (by decide +kernel) rfl dX10_met_55 ?_
    refine j_icmpN_ge (pc := 58) X (a := i) (b := mm) (by first | omega | exact Nat.lt_of_lt_of_le (htm _) (by decide) | exact Nat.lt_of_lt_of_le (htd _) (by decide) | exact Nat.lt_of_lt_of_le (hmb _) (by decide) | exact Nat.lt_of_lt_of_le (hmd _) (by decide)) (by first | omega | exact Nat.lt_of_lt_of_le (htm _) (by decide) | exact Nat.lt_of_lt_of_le (htd _) (by decide) | exact Nat.lt_of_lt_of_le (hmb _) (by decide) | exact Nat.lt_of_lt_of_le (hmd _) (by decide)) (tgt := 200) dX10_met_58 (by decide) (fun c_58 => ?_) (fun c_58 => ?_)
    · skip
      refine j_iload (pc := 200) X dX10_met_200 4 rfl ?_
      have hs : sMet be mm tt mb md tm td tk (nI j) (nI k) (nI m) = (some (metC mb md tm td tk tt j k m i), 0) := by rw [hS, show i = mm by omega]
      refine j_iret (pc := 202) X dX10_met_202 ?_
      rw [hs]; exact ⟨rfl, rfl⟩
    · skip
      refine j_aload_n (pc := 61) X dX10_met_61 rfl 0 rfl ?_
      refine j_get (pc := 62) X 10 i_X10 0 rfl rfl 19 (by decide) (by decide +kernel) rfl dX10_met_62 ?_
      refine j_iload (pc := 65) X dX10_met_65 5 rfl ?_
      refine j_iald (pc := 67) X 1 rfl (vp_in_nI (by omega) (by decide)) (v := nI (mb i)) (congrArg (nF mb) (nI_clamp (by omega))) dX10_met_67 ?_
      refine j_iload_n (pc := 68) X dX10_met_68 rfl 1 rfl ?_
      refine j_icmpN_ne (pc := 69) X (a := (mb i)) (b := j) (by first | omega | exact Nat.lt_of_lt_of_le (htm _) (by decide) | exact Nat.lt_of_lt_of_le (htd _) (by decide) | exact Nat.lt_of_lt_of_le (hmb _) (by decide) | exact Nat.lt_of_lt_of_le (hmd _) (by decide)) (by first | omega | exact Nat.lt_of_lt_of_le (htm _) (by decide) | exact Nat.lt_of_lt_of_le (htd _) (by decide) | exact Nat.lt_of_lt_of_le (hmb _) (by decide) | exact Nat.lt_of_lt_of_le (hmd _) (by decide)) (tgt := 194) dX10_met_69 (by decide) (fun c_69 => ?_) (fun c_69 => ?_)
      · skip
        refine j_iinc (pc := 194) X (v := nI (i + 1)) (lv' := [(5, .int (nI (i + 1))), (0, .ref z), (1, .int (nI j)), (2, .int (nI k)), (3, .int (nI m)), (4, .int (nI (metC mb md tm td tk tt j k m i)))]) dX10_met_194 5 rfl (nI_1 _) (by decide) rfl ?_
        refine j_goto (pc := 197) X (tgt := 52) dX10_met_197 (by decide) ?_
        refine j_lv [1, 2, 3, 4, 5, 0] (lv' := [(0, .ref z), (1, .int (nI j)), (2, .int (nI k)), (3, .int (nI m)), (4, .int (nI (metC mb md tm td tk tt j k m i))), (5, .int (nI (i + 1)))]) rfl ?_
        refine j_lvq (lv' := [(0, .ref z), (1, .int (nI j)), (2, .int (nI k)), (3, .int (nI m)), (4, .int (nI (metC mb md tm td tk tt j k m (i + 1)))), (5, .int (nI (i + 1)))]) ?_ ?_
        · rw [show (metC mb md tm td tk tt j k m i) = metC mb md tm td tk tt j k m (i + 1) from by (first | (simp only [metC]; simp [c_58, c_69]; done) | (simp only [metC]; rw [hq_c]; simp [knwS, hbi, hdi, c_58, c_69]; done) | (simp only [metC]; rw [hq_c]; simp [knwS, hbi, hdi, c_58, c_69]; omega))]
        exact ih j k m (i + 1) (rfl) (rfl) (rfl) (by omega) (by omega) (by omega) (by omega) (by first | exact hS | (have h9 : ¬ nI 2 < nI m := Int32.not_lt.mpr c_37; simp [sMet, tN, hq_j, hq_k, hq_m, c_15, c_28, c_32, h9])) (by omega)
      · skip
        refine j_aload_n (pc := 72) X dX10_met_72 rfl 0 rfl ?_
        refine j_get (pc := 73) X 10 i_X10 0 rfl rfl 20 (by decide) (by decide +kernel) rfl dX10_met_73 ?_
        refine j_iload (pc := 76) X dX10_met_76 5 rfl ?_
        refine j_iald (pc := 78) X 2 rfl (vp_in_nI (by omega) (by decide)) (v := nI (md i)) (congrArg (nF md) (nI_clamp (by omega))) dX10_met_78 ?_
        refine j_iload_n (pc := 79) X dX10_met_79 rfl 2 rfl ?_
        refine j_icmpN_le (pc := 80) X (a := (md i)) (b := k) (by first | omega | exact Nat.lt_of_lt_of_le (htm _) (by decide) | exact Nat.lt_of_lt_of_le (htd _) (by decide) | exact Nat.lt_of_lt_of_le (hmb _) (by decide) | exact Nat.lt_of_lt_of_le (hmd _) (by decide)) (by first | omega | exact Nat.lt_of_lt_of_le (htm _) (by decide) | exact Nat.lt_of_lt_of_le (htd _) (by decide) | exact Nat.lt_of_lt_of_le (hmb _) (by decide) | exact Nat.lt_of_lt_of_le (hmd _) (by decide)) (tgt := 86) dX10_met_80 (by decide) (fun c_80 => ?_) (fun c_80 => ?_)
        · skip
          refine j_iconst (pc := 86) X (v := oI none) dX10_met_86 (by decide) ?_
          refine j_istore (pc := 87) X (lv' := [(6, .int (oI none)), (0, .ref z), (1, .int (nI j)), (2, .int (nI k)), (3, .int (nI m)), (4, .int (nI (metC mb md tm td tk tt j k m i))), (5, .int (nI i))]) dX10_met_87 (by decide) rfl ?_
          refine j_iconst (pc := 89) X (v := nI 0) dX10_met_89 (by decide) ?_
          refine j_istore (pc := 90) X (lv' := [(7, .int (nI 0)), (6, .int (oI none)), (0, .ref z), (1, .int (nI j)), (2, .int (nI k)), (3, .int (nI m)), (4, .int (nI (metC mb md tm td tk tt j k m i))), (5, .int (nI i))]) dX10_met_90 (by decide) rfl ?_
          refine j_lv [2, 3, 4, 5, 6, 7, 1, 0] (lv' := [(0, .ref z), (1, .int (nI j)), (2, .int (nI k)), (3, .int (nI m)), (4, .int (nI (metC mb md tm td tk tt j k m i))), (5, .int (nI i)), (6, .int (oI none)), (7, .int (nI 0))]) rfl ?_
          exact mX10_met_L92 l G z z4 z5 z6 z9 z10 z11 z12 z14 z15 z16 z19 z20 z21 z22 z23 z25 z26 z27 z28 z30 z31 z32 st th za zb el be gz mm tt gm rn mb md tm td tk (nI j) (nI k) (nI m) hbe hmm htt htm htd hmb hmd κ X fu ih j k m i rfl rfl rfl hj hk hm hi hS hms (tt - 0 + 1) 0 none (by omega) (by omega) (c_69) (c_80) (by rfl) (ob_n) (Nat.lt_succ_self _)
        · skip
          refine j_goto (pc := 83) X (tgt := 194) dX10_met_83 (by decide) ?_
          refine j_iinc (pc := 194) X (v := nI (i + 1)) (lv' := [(5, .int (nI (i + 1))), (0, .ref z), (1, .int (nI j)), (2, .int (nI k)), (3, .int (nI m)), (4, .int (nI (metC mb md tm td tk tt j k m i)))]) dX10_met_194 5 rfl (nI_1 _) (by decide) rfl ?_
          refine j_goto (pc := 197) X (tgt := 52) dX10_met_197 (by decide) ?_
          refine j_lv [1, 2, 3, 4, 5, 0] (lv' := [(0, .ref z), (1, .int (nI j)), (2, .int (nI k)), (3, .int (nI m)), (4, .int (nI (metC mb md tm td tk tt j k m i))), (5, .int (nI (i + 1)))]) rfl ?_
          refine j_lvq (lv' := [(0, .ref z), (1, .int (nI j)), (2, .int (nI k)), (3, .int (nI m)), (4, .int (nI (metC mb md tm td tk tt j k m (i + 1)))), (5, .int (nI (i + 1)))]) ?_ ?_
          · rw [show (metC mb md tm td tk tt j k m i) = metC mb md tm td tk tt j k m (i + 1) from by (first | (simp only [metC]; simp [c_58, c_69, c_80]; done) | (simp only [metC]; rw [hq_c]; simp [knwS, hbi, hdi, c_58, c_69, c_80]; done) | (simp only [metC]; rw [hq_c]; simp [knwS, hbi, hdi, c_58, c_69, c_80]; omega))]
          exact ih j k m (i + 1) (rfl) (rfl) (rfl) (by omega) (by omega) (by omega) (by omega) (by first | exact hS | (have h9 : ¬ nI 2 < nI m := Int32.not_lt.mpr c_37; simp [sMet, tN, hq_j, hq_k, hq_m, c_15, c_28, c_32, h9])) (by omega)
set_option maxHeartbeats 4000000 in
set_option maxRecDepth 100000 in
theorem mX10_met (l : Launch) (G : jG) (z : Nat) (z4 : Nat) (z5 : Nat) (z6 : Nat) (z9 : Nat) (z10 : Nat) (z11 : Nat) (z12 : Nat) (z14 : Nat) (z15 : Nat) (z16 : Nat) (z19 : Nat) (z20 : Nat) (z21 : Nat) (z22 : Nat) (z23 : Nat) (z25 : Nat) (z26 : Nat) (z27 : Nat) (z28 : Nat) (z30 : Nat) (z31 : Nat) (z32 : Nat) (st : Nat) (th : Nat) (za : Int64) (zb : Int64) (el : Nat) (be : Nat) (gz : Bool) (mm : Nat) (tt : Nat) (gm : Nat) (rn : Nat) (mb : Nat → Nat) (md : Nat → Nat) (tm : Nat → Nat) (td : Nat → Nat) (tk : Nat → Bool) (x : Int32) (d : Int32) (w : Int32) (hbe : be ≤ 16) (hmm : mm ≤ 100) (htt : tt ≤ 200) (htm : ∀ k, tm k < 100) (htd : ∀ k, td k < 10000) (hmb : ∀ k, mb k < 16) (hmd : ∀ k, md k < 10000) : MV l yX10_met wsX10_met ({ frames := 1, cells := 0, slots := 0, locals := 21 }) G [.ref z, .int x, .int d, .int w] [(z, .inr (10, [.int (nI st), .int (nI th), .long za, .long zb, .ref z4, .ref z5, .ref z6, .int (nI el), .int (nI be), .ref z9, .ref z10, .ref z11, .ref z12, .int (b2i gz), .ref z14, .ref z15, .ref z16, .int (nI mm), .int (nI tt), .ref z19, .ref z20, .ref z21, .ref z22, .ref z23, .int (nI gm), .ref z25, .ref z26, .ref z27, .ref z28, .int (nI rn), .ref z30, .ref z31, .ref z32])), kI G z19 100 (nF mb), kI G z20 100 (nF md), kI G z21 200 (nF tm), kI G z22 200 (nF td), kZ G z23 200 (bF tk)] (some (.int (oI ((sMet be mm tt mb md tm td tk x d w).1)))) [(z, .inr (10, [.int (nI ((sMet be mm tt mb md tm td tk x d w).2)), .int (nI 0), .long za, .long zb, .ref z4, .ref z5, .ref z6, .int (nI el), .int (nI be), .ref z9, .ref z10, .ref z11, .ref z12, .int (b2i gz), .ref z14, .ref z15, .ref z16, .int (nI mm), .int (nI tt), .ref z19, .ref z20, .ref z21, .ref z22, .ref z23, .int (nI gm), .ref z25, .ref z26, .ref z27, .ref z28, .int (nI rn), .ref z30, .ref z31, .ref z32])), kI G z19 100 (nF mb), kI G z20 100 (nF md), kI G z21 200 (nF tm), kI G z22 200 (nF td), kZ G z23 200 (bF tk)] := by
  refine MF.ofJ (cc := cX10_met) (maxL := 8) (ret := (some .int)) (own := RX10) (lv := [(0, .ref z), (1, .int x), (2, .int d), (3, .int w)]) (by decide) rfl rfl (Nat.le_of_ble_eq_true rfl) rfl ?_
  intro κ X
  have i_X10 : ∀ w ∈ wsX100, w ∈ wsX10_met := by decide +kernel
  refine j_aload_n (pc := 0) X dX10_met_0 rfl 0 rfl ?_
  refine j_iconst (pc := 1) X (v := nI 0) dX10_met_1 (by decide) ?_
  refine j_put (pc := 2) X (v := .int (nI 0)) (ws' := [(z, .inr (10, [.int (nI st), .int (nI 0), .long za, .long zb, .ref z4, .ref z5, .ref z6, .int (nI el), .int (nI be), .ref z9, .ref z10, .ref z11, .ref z12, .int (b2i gz), .ref z14, .ref z15, .ref z16, .int (nI mm), .int (nI tt), .ref z19, .ref z20, .ref z21, .ref z22, .ref z23, .int (nI gm), .ref z25, .ref z26, .ref z27, .ref z28, .int (nI rn), .ref z30, .ref z31, .ref z32])), kI G z19 100 (nF mb), kI G z20 100 (nF md), kI G z21 200 (nF tm), kI G z22 200 (nF td), kZ G z23 200 (bF tk)]) 10 i_X10 tyX10 tyX10_ok nmX10 0 rfl rfl 1 (by decide) (by decide +kernel) (by decide) (rfl) (rfl) (Nat.le_of_ble_eq_true rfl) dX10_met_2 rfl ?_
  refine j_aload_n (pc := 5) X dX10_met_5 rfl 0 rfl ?_
  refine j_iconst (pc := 6) X (v := nI 0) dX10_met_6 (by decide) ?_
  refine j_put (pc := 7) X (v := .int (nI 0)) (ws' := [(z, .inr (10, [.int (nI 0), .int (nI 0), .long za, .long zb, .ref z4, .ref z5, .ref z6, .int (nI el), .int (nI be), .ref z9, .ref z10, .ref z11, .ref z12, .int (b2i gz), .ref z14, .ref z15, .ref z16, .int (nI mm), .int (nI tt), .ref z19, .ref z20, .ref z21, .ref z22, .ref z23, .int (nI gm), .ref z25, .ref z26, .ref z27, .ref z28, .int (nI rn), .ref z30, .ref z31, .ref z32])), kI G z19 100 (nF mb), kI G z20 100 (nF md), kI G z21 200 (nF tm), kI G z22 200 (nF td), kZ G z23 200 (bF tk)]) 10 i_X10 tyX10 tyX10_ok nmX10 0 rfl rfl 0 (by decide) (by decide +kernel) (by decide) (rfl) (rfl) (Nat.le_of_ble_eq_true rfl) dX10_met_7 rfl ?_
  refine j_aload_n (pc := 10) X dX10_met_10 rfl 0 rfl ?_
  refine j_iload_n (pc := 11) X dX10_met_11 rfl 1 rfl ?_
  refine j_ciP (pc := 12) X [0] rfl (j_rV X (b := z) (As := [.int x]) (ci := 10) (rest := []) 1 (mX10_isBeginner l G z z4 z5 z6 z9 z10 z11 z12 z14 z15 z16 z19 z20 z21 z22 z23 z25 z26 z27 z28 z30 z31 z32 0 0 za zb el be gz mm tt gm rn x ) gX10_met_X10_isBeginner rfl rfl rfl (by decide +kernel) ⟨Nat.le_of_ble_eq_true rfl, Nat.le_of_ble_eq_true rfl⟩ rfl rfl 0 rfl [0] rfl rfl rfl (Nat.le_of_ble_eq_true rfl) dX10_met_12 ⟨Nat.le_of_ble_eq_true rfl, Nat.le_of_ble_eq_true rfl⟩) ?_
  refine j_ifb_ne (pc := 15) X (B := inR x be) (tgt := 24) dX10_met_15 (by decide) (fun c_15 => ?_) (fun c_15 => ?_)
  · skip
    obtain ⟨j, hj, rfl⟩ := inR_of c_15 (by omega); have hq_j := nI_clamp (n := j) (by omega)
    refine j_iload_n (pc := 24) X dX10_met_24 rfl 2 rfl ?_
    refine j_ciP (pc := 25) X [] rfl (j_rS X (As := [.int d]) (rest := []) 1 (mX10_isDay l G d ) gX10_met_X10_isDay rfl rfl rfl (by decide +kernel) ⟨Nat.le_of_ble_eq_true rfl, Nat.le_of_ble_eq_true rfl⟩ rfl [] rfl rfl rfl (Nat.le_of_ble_eq_true rfl) dX10_met_25 ⟨Nat.le_of_ble_eq_true rfl, Nat.le_of_ble_eq_true rfl⟩) ?_
    refine j_ifb_eq (pc := 28) X (B := inC d 9999) (tgt := 40) dX10_met_28 (by decide) (fun c_28 => ?_) (fun c_28 => ?_)
    · skip
      refine j_aload_n (pc := 40) X dX10_met_40 rfl 0 rfl ?_
      refine j_iconst (pc := 41) X (v := nI 5) dX10_met_41 (by decide) ?_
      refine j_ci (pc := 42) X (ws' := [(z, .inr (10, [.int (nI 5), .int (nI 0), .long za, .long zb, .ref z4, .ref z5, .ref z6, .int (nI el), .int (nI be), .ref z9, .ref z10, .ref z11, .ref z12, .int (b2i gz), .ref z14, .ref z15, .ref z16, .int (nI mm), .int (nI tt), .ref z19, .ref z20, .ref z21, .ref z22, .ref z23, .int (nI gm), .ref z25, .ref z26, .ref z27, .ref z28, .int (nI rn), .ref z30, .ref z31, .ref z32])), kI G z19 100 (nF mb), kI G z20 100 (nF md), kI G z21 200 (nF tm), kI G z22 200 (nF td), kZ G z23 200 (bF tk)]) [0] rfl (j_rV X (b := z) (As := [.int (nI 5)]) (ci := 10) (rest := []) 1 (mX10_refuse l G z z4 z5 z6 z9 z10 z11 z12 z14 z15 z16 z19 z20 z21 z22 z23 z25 z26 z27 z28 z30 z31 z32 0 0 za zb el be gz mm tt gm rn 5 ) gX10_met_X10_refuse rfl rfl rfl (by decide +kernel) ⟨Nat.le_of_ble_eq_true rfl, Nat.le_of_ble_eq_true rfl⟩ rfl rfl 0 rfl [0] rfl rfl rfl (Nat.le_of_ble_eq_true rfl) dX10_met_42 ⟨Nat.le_of_ble_eq_true rfl, Nat.le_of_ble_eq_true rfl⟩) rfl rfl ?_
      have hs : sMet be mm tt mb md tm td tk (nI j) d w = (none, 5) := by first | (simp [sMet, tN, hq_j, c_15, c_28]; done) | (simp [sMet, c_15, c_28]; done)
      refine j_iret (pc := 45) X dX10_met_45 ?_
      rw [hs]; exact ⟨rfl, rfl⟩
    · skip
      obtain ⟨k, hk, rfl⟩ := inC_of c_28 (by decide); have hq_k := nI_clamp (n := k) (by omega)
      refine j_iload_n (pc := 31) X dX10_met_31 rfl 3 rfl ?_
      refine j_if_lt (pc := 32) X (x := w) (tgt := 40) dX10_met_32 (by decide) (fun c_32 => ?_) (fun c_32 => ?_)
      · skip
        refine j_aload_n (pc := 40) X dX10_met_40 rfl 0 rfl ?_
        refine j_iconst (pc := 41) X (v := nI 5) dX10_met_41 (by decide) ?_
        refine j_ci (pc := 42) X (ws' := [(z, .inr (10, [.int (nI 5), .int (nI 0), .long za, .long zb, .ref z4, .ref z5, .ref z6, .int (nI el), .int (nI be), .ref z9, .ref z10, .ref z11, .ref z12, .int (b2i gz), .ref z14, .ref z15, .ref z16, .int (nI mm), .int (nI tt), .ref z19, .ref z20, .ref z21, .ref z22, .ref z23, .int (nI gm), .ref z25, .ref z26, .ref z27, .ref z28, .int (nI rn), .ref z30, .ref z31, .ref z32])), kI G z19 100 (nF mb), kI G z20 100 (nF md), kI G z21 200 (nF tm), kI G z22 200 (nF td), kZ G z23 200 (bF tk)]) [0] rfl (j_rV X (b := z) (As := [.int (nI 5)]) (ci := 10) (rest := []) 1 (mX10_refuse l G z z4 z5 z6 z9 z10 z11 z12 z14 z15 z16 z19 z20 z21 z22 z23 z25 z26 z27 z28 z30 z31 z32 0 0 za zb el be gz mm tt gm rn 5 ) gX10_met_X10_refuse rfl rfl rfl (by decide +kernel) ⟨Nat.le_of_ble_eq_true rfl, Nat.le_of_ble_eq_true rfl⟩ rfl rfl 0 rfl [0] rfl rfl rfl (Nat.le_of_ble_eq_true rfl) dX10_met_42 ⟨Nat.le_of_ble_eq_true rfl, Nat.le_of_ble_eq_true rfl⟩) rfl rfl ?_
        have hs : sMet be mm tt mb md tm td tk (nI j) (nI k) w = (none, 5) := by first | (simp [sMet, tN, hq_j, hq_k, c_15, c_28, c_32]; done) | (simp [sMet, c_15, c_28, c_32]; done)
        refine j_iret (pc := 45) X dX10_met_45 ?_
        rw [hs]; exact ⟨rfl, rfl⟩
      · skip
        refine j_iload_n (pc := 35) X dX10_met_35 rfl 3 rfl ?_
        refine j_iconst (pc := 36) X (v := nI 2) dX10_met_36 (by decide) ?_
        refine j_icmp_le (pc := 37) X (x := w) (z := nI 2) (tgt := 46) dX10_met_37 (by decide) (fun c_37 => ?_) (fun c_37 => ?_)
        · skip
          obtain ⟨m, hm, rfl⟩ := rng_of c_32 c_37 (by decide); have hq_m := nI_clamp (n := m) (by omega)
          refine j_iconst (pc := 46) X (v := nI 0) dX10_met_46 (by decide) ?_
          refine j_istore (pc := 47) X (lv' := [(4, .int (nI 0)), (0, .ref z), (1, .int (nI j)), (2, .int (nI k)), (3, .int (nI m))]) dX10_met_47 (by decide) rfl ?_
          refine j_iconst (pc := 49) X (v := nI 0) dX10_met_49 (by decide) ?_
          refine j_istore (pc := 50) X (lv' := [(5, .int (nI 0)), (4, .int (nI 0)), (0, .ref z), (1, .int (nI j)), (2, .int (nI k)), (3, .int (nI m))]) dX10_met_50 (by decide) rfl ?_
          refine j_lv [2, 3, 4, 5, 1, 0] (lv' := [(0, .ref z), (1, .int (nI j)), (2, .int (nI k)), (3, .int (nI m)), (4, .int (nI 0)), (5, .int (nI 0))]) rfl ?_
          refine j_lvq (lv' := [(0, .ref z), (1, .int (nI j)), (2, .int (nI k)), (3, .int (nI m)), (4, .int (nI (metC mb md tm td tk tt j k m 0))), (5, .int (nI 0))]) ?_ ?_
          · first | rfl | (rw [show (0) = metC mb md tm td tk tt j k m 0 from by (first | (simp only [metC]; simp [c_15, c_28, c_32, c_37]; done) | (simp only [metC]; rw [hq_c]; simp [knwS, hbi, hdi, c_15, c_28, c_32, c_37]; done) | (simp only [metC]; rw [hq_c]; simp [knwS, hbi, hdi, c_15, c_28, c_32, c_37]; omega))])
          exact mX10_met_L52 l G z z4 z5 z6 z9 z10 z11 z12 z14 z15 z16 z19 z20 z21 z22 z23 z25 z26 z27 z28 z30 z31 z32 st th za zb el be gz mm tt gm rn mb md tm td tk (nI j) (nI k) (nI m) hbe hmm htt htm htd hmb hmd κ X    (mm - 0 + 1) j k m 0 (rfl) (rfl) (rfl) (by omega) (by omega) (by omega) (by omega) (by first | exact hS | (have h9 : ¬ nI 2 < nI m := Int32.not_lt.mpr c_37; simp [sMet, tN, hq_j, hq_k, hq_m, c_15, c_28, c_32, h9])) (Nat.lt_succ_self _)
        · skip
          refine j_aload_n (pc := 40) X dX10_met_40 rfl 0 rfl ?_
          refine j_iconst (pc := 41) X (v := nI 5) dX10_met_41 (by decide) ?_
          refine j_ci (pc := 42) X (ws' := [(z, .inr (10, [.int (nI 5), .int (nI 0), .long za, .long zb, .ref z4, .ref z5, .ref z6, .int (nI el), .int (nI be), .ref z9, .ref z10, .ref z11, .ref z12, .int (b2i gz), .ref z14, .ref z15, .ref z16, .int (nI mm), .int (nI tt), .ref z19, .ref z20, .ref z21, .ref z22, .ref z23, .int (nI gm), .ref z25, .ref z26, .ref z27, .ref z28, .int (nI rn), .ref z30, .ref z31, .ref z32])), kI G z19 100 (nF mb), kI G z20 100 (nF md), kI G z21 200 (nF tm), kI G z22 200 (nF td), kZ G z23 200 (bF tk)]) [0] rfl (j_rV X (b := z) (As := [.int (nI 5)]) (ci := 10) (rest := []) 1 (mX10_refuse l G z z4 z5 z6 z9 z10 z11 z12 z14 z15 z16 z19 z20 z21 z22 z23 z25 z26 z27 z28 z30 z31 z32 0 0 za zb el be gz mm tt gm rn 5 ) gX10_met_X10_refuse rfl rfl rfl (by decide +kernel) ⟨Nat.le_of_ble_eq_true rfl, Nat.le_of_ble_eq_true rfl⟩ rfl rfl 0 rfl [0] rfl rfl rfl (Nat.le_of_ble_eq_true rfl) dX10_met_42 ⟨Nat.le_of_ble_eq_true rfl, Nat.le_of_ble_eq_true rfl⟩) rfl rfl ?_
          have hs : sMet be mm tt mb md tm td tk (nI j) (nI k) w = (none, 5) := by first | (simp [sMet, tN, hq_j, hq_k, c_15, c_28, c_32, c_37]; done) | (simp [sMet, c_15, c_28, c_32, c_37]; done)
          refine j_iret (pc := 45) X dX10_met_45 ?_
          rw [hs]; exact ⟨rfl, rfl⟩
  · skip
    refine j_aload_n (pc := 18) X dX10_met_18 rfl 0 rfl ?_
    refine j_iconst (pc := 19) X (v := nI 2) dX10_met_19 (by decide) ?_
    refine j_ci (pc := 20) X (ws' := [(z, .inr (10, [.int (nI 2), .int (nI 0), .long za, .long zb, .ref z4, .ref z5, .ref z6, .int (nI el), .int (nI be), .ref z9, .ref z10, .ref z11, .ref z12, .int (b2i gz), .ref z14, .ref z15, .ref z16, .int (nI mm), .int (nI tt), .ref z19, .ref z20, .ref z21, .ref z22, .ref z23, .int (nI gm), .ref z25, .ref z26, .ref z27, .ref z28, .int (nI rn), .ref z30, .ref z31, .ref z32])), kI G z19 100 (nF mb), kI G z20 100 (nF md), kI G z21 200 (nF tm), kI G z22 200 (nF td), kZ G z23 200 (bF tk)]) [0] rfl (j_rV X (b := z) (As := [.int (nI 2)]) (ci := 10) (rest := []) 1 (mX10_refuse l G z z4 z5 z6 z9 z10 z11 z12 z14 z15 z16 z19 z20 z21 z22 z23 z25 z26 z27 z28 z30 z31 z32 0 0 za zb el be gz mm tt gm rn 2 ) gX10_met_X10_refuse rfl rfl rfl (by decide +kernel) ⟨Nat.le_of_ble_eq_true rfl, Nat.le_of_ble_eq_true rfl⟩ rfl rfl 0 rfl [0] rfl rfl rfl (Nat.le_of_ble_eq_true rfl) dX10_met_20 ⟨Nat.le_of_ble_eq_true rfl, Nat.le_of_ble_eq_true rfl⟩) rfl rfl ?_
    have hs : sMet be mm tt mb md tm td tk x d w = (none, 2) := by first | (simp [sMet, tN, c_15]; done) | (simp [sMet, c_15]; done)
    refine j_iret (pc := 23) X dX10_met_23 ?_
    rw [hs]; exact ⟨rfl, rfl⟩
