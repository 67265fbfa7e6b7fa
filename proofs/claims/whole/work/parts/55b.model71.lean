set_option maxHeartbeats 4000000 in
set_option maxRecDepth 100000 in
theorem mX10_countSteps_L135 (l : Launch) (G : jG) (z : Nat) (z4 : Nat) (z5 : Nat) (z6 : Nat) (z9 : Nat) (z10 : Nat) (z11 : Nat) (z12 : Nat) (z14 : Nat) (z15 : Nat) (z16 : Nat) (z19 : Nat) (z20 : Nat) (z21 : Nat) (z22 : Nat) (z23 : Nat) (z25 : Nat) (z26 : Nat) (z27 : Nat) (z28 : Nat) (z30 : Nat) (z31 : Nat) (z32 : Nat) (st : Nat) (th : Nat) (za : Int64) (zb : Int64) (el : Nat) (be : Nat) (gz : Bool) (mm : Nat) (tt : Nat) (gm : Nat) (rn : Nat) (gi : Nat → Option Nat) (pl : Nat → Nat) (le : Nat → Nat) (lb : Nat → Nat) (br : Nat → Bool) (sp : Nat → Nat) (lf : Nat) (hel : el ≤ 12) (hle : ∀ k, le k ≤ 100) (hlb : ∀ k, lb k ≤ 100) (hgi : ∀ k, ob 12 (gi k)) (hbe : be ≤ 16) (hpl : ∀ k, pl k ≤ 4) (hlf : lf < 12) (hcn : 1 ≤ cntO gi lf be) (hb1 : 1 ≤ be) (κ : jK) {A : Nat → Prop} {Q : State → Prop} (X : CX κ l yX10_countSteps cX10_countSteps 5 RX10 wsX10_countSteps none ({ frames := 2, cells := 0, slots := 0, locals := 45 }) G A)  (no90 : Nat) (hK90 : ∀ (j : Nat) (s1 : Nat → Nat) (hj : j + 1 ≤ be) (hs1 : s1 = spN pl le lb br gi el be lf sp j) (_ : be - j < no90), JJ κ 5 G A 0 0 Q 90 [(0, .ref z), (2, .int (nI (j + 2)))] [] [(z, .inr (10, [.int (nI st), .int (nI th), .long za, .long zb, .ref z4, .ref z5, .ref z6, .int (nI el), .int (nI be), .ref z9, .ref z10, .ref z11, .ref z12, .int (b2i gz), .ref z14, .ref z15, .ref z16, .int (nI mm), .int (nI tt), .ref z19, .ref z20, .ref z21, .ref z22, .ref z23, .int (nI gm), .ref z25, .ref z26, .ref z27, .ref z28, .int (nI rn), .ref z30, .ref z31, .ref z32])), kI G z14 16 (oF gi), kI G z9 12 (nF pl), kI G z10 192 (nF le), kI G z11 192 (nF lb), kZ G z12 192 (bF br), kI G z16 16 (nF s1)]) (j : Nat) (s1 : Nat → Nat) (hj : j + 1 ≤ be) (hs1 : s1 = spN pl le lb br gi el be lf sp j) (hm90 : be - j < no90 + 1) (no100 : Nat) (hK100 : ∀ (b : Nat) (hb : b ≤ be) (hjj : j + 2 ≤ be) (_ : be - b < no100), JJ κ 5 G A 0 0 Q 100 [(0, .ref z), (2, .int (nI (j + 2))), (3, .int (nI b))] [] [(z, .inr (10, [.int (nI st), .int (nI th), .long za, .long zb, .ref z4, .ref z5, .ref z6, .int (nI el), .int (nI be), .ref z9, .ref z10, .ref z11, .ref z12, .int (b2i gz), .ref z14, .ref z15, .ref z16, .int (nI mm), .int (nI tt), .ref z19, .ref z20, .ref z21, .ref z22, .ref z23, .int (nI gm), .ref z25, .ref z26, .ref z27, .ref z28, .int (nI rn), .ref z30, .ref z31, .ref z32])), kI G z14 16 (oF gi), kI G z9 12 (nF pl), kI G z10 192 (nF le), kI G z11 192 (nF lb), kZ G z12 192 (bF br), kI G z16 16 (nF (pf (rd2 le lb br gi be s1 j) s1 b))]) (b : Nat) (hb : b ≤ be) (hjj : j + 2 ≤ be) (hm100 : be - b < no100 + 1) : ∀ (fu : Nat) (c : Nat) (hc : c ≤ be) (hbb : b < be) (hgb : ¬ gi b = none) (hsb : 1000 ≤ s1 b) (_ : be - c < fu), JJ κ 5 G A 0 0 Q 135 [(0, .ref z), (2, .int (nI (j + 2))), (3, .int (nI b)), (4, .int (nI c))] [] [(z, .inr (10, [.int (nI st), .int (nI th), .long za, .long zb, .ref z4, .ref z5, .ref z6, .int (nI el), .int (nI be), .ref z9, .ref z10, .ref z11, .ref z12, .int (b2i gz), .ref z14, .ref z15, .ref z16, .int (nI mm), .int (nI tt), .ref z19, .ref z20, .ref z21, .ref z22, .ref z23, .int (nI gm), .ref z25, .ref z26, .ref z27, .ref z28, .int (nI rn), .ref z30, .ref z31, .ref z32])), kI G z14 16 (oF gi), kI G z9 12 (nF pl), kI G z10 192 (nF le), kI G z11 192 (nF lb), kZ G z12 192 (bF br), kI G z16 16 (nF (va_up (pf (rd2 le lb br gi be s1 j) s1 b) b (if anyN (stB le lb br gi s1 j b) c = true then j + 2 else s1 b)))] := by
  have i_X10 : ∀ w ∈ wsX100, w ∈ wsX10_countSteps := by decide +kernel
  intro fu
  induction fu with
  | zero => intro c hc hbb hgb hsb hms; exact absurd hms (Nat.not_lt_zero _)
  | succ fu ih =>
    intro c hc hbb hgb hsb hms
    refine j_iload (pc := 135) X dX10_countSteps_135 3 rfl ?_
    refine j_aload_n (pc := 137) X dX10_countSteps_137 rfl 0 rfl ?_
    refine j_get (pc := 138) X 10 i_X10 0 rfl rfl 8 (by decide) (by decide +kernel) rfl dX10_countSteps_138 ?_
    refine j_icmpN_ge (pc := 141) X (a := c) (b := be) (by first | omega | exact rd_le (by omega) (fun k hk => by rw [hs1]; exact sp_le hk (by omega)) (by omega) (by omega) if_two) (by first | omega | exact rd_le (by omega) (fun k hk => by rw [hs1]; exact sp_le hk (by omega)) (by omega) (by omega) if_two) (tgt := 211) dX10_countSteps_141 (by decide) (fun c_141 => ?_) (fun c_141 => ?_)
    · skip
      refine j_iinc (pc := 211) X (v := nI (b + 1)) (lv' := [(3, .int (nI (b + 1))), (0, .ref z), (2, .int (nI (j + 2))), (4, .int (nI c))]) dX10_countSteps_211 2 rfl (nI_1 _) (by decide) rfl ?_
      refine j_goto (pc := 214) X (tgt := 100) dX10_countSteps_214 (by decide) ?_
      refine j_lv [1, 2, 0] (lv' := [(0, .ref z), (2, .int (nI (j + 2))), (3, .int (nI (b + 1)))]) rfl ?_
      refine j_ws (ws' := [(z, .inr (10, [.int (nI st), .int (nI th), .long za, .long zb, .ref z4, .ref z5, .ref z6, .int (nI el), .int (nI be), .ref z9, .ref z10, .ref z11, .ref z12, .int (b2i gz), .ref z14, .ref z15, .ref z16, .int (nI mm), .int (nI tt), .ref z19, .ref z20, .ref z21, .ref z22, .ref z23, .int (nI gm), .ref z25, .ref z26, .ref z27, .ref z28, .int (nI rn), .ref z30, .ref z31, .ref z32])), kI G z14 16 (oF gi), kI G z9 12 (nF pl), kI G z10 192 (nF le), kI G z11 192 (nF lb), kZ G z12 192 (bF br), kI G z16 16 (nF (pf (rd2 le lb br gi be s1 j) s1 (b + 1)))]) ?_ ?_
      · (have hq_r : rd2 le lb br gi be s1 j b = if anyN (stB le lb br gi s1 j b) be = true then j + 2 else s1 b := (by rw [rd2, if_neg (by rintro (h9 | h9); exact hgb h9; omega)]); rw [← pf_s, hq_r, show c = be by omega])
      exact hK100 (b + 1) (by omega) (by omega) (by omega)
    · skip
      refine j_aload_n (pc := 144) X dX10_countSteps_144 rfl 0 rfl ?_
      refine j_get (pc := 145) X 10 i_X10 0 rfl rfl 14 (by decide) (by decide +kernel) rfl dX10_countSteps_145 ?_
      refine j_iload (pc := 148) X dX10_countSteps_148 3 rfl ?_
      refine j_iald (pc := 150) X 1 rfl (vp_in_nI (by omega) (by decide)) (v := oI (gi c)) (congrArg (oF gi) (nI_clamp (by omega))) dX10_countSteps_150 ?_
      refine j_ifO_lt (pc := 151) X (a := (gi c)) (by first | exact ob_n | exact ob_s (by omega) | exact (hgi _).big (by decide)) (tgt := 205) dX10_countSteps_151 (by decide) (fun c_151 => ?_) (fun c_151 => ?_)
      · skip
        refine j_iinc (pc := 205) X (v := nI (c + 1)) (lv' := [(4, .int (nI (c + 1))), (0, .ref z), (2, .int (nI (j + 2))), (3, .int (nI b))]) dX10_countSteps_205 3 rfl (nI_1 _) (by decide) rfl ?_
        refine j_goto (pc := 208) X (tgt := 135) dX10_countSteps_208 (by decide) ?_
        refine j_lv [1, 2, 3, 0] (lv' := [(0, .ref z), (2, .int (nI (j + 2))), (3, .int (nI b)), (4, .int (nI (c + 1)))]) rfl ?_
        refine j_ws (ws' := [(z, .inr (10, [.int (nI st), .int (nI th), .long za, .long zb, .ref z4, .ref z5, .ref z6, .int (nI el), .int (nI be), .ref z9, .ref z10, .ref z11, .ref z12, .int (b2i gz), .ref z14, .ref z15, .ref z16, .int (nI mm), .int (nI tt), .ref z19, .ref z20, .ref z21, .ref z22, .ref z23, .int (nI gm), .ref z25, .ref z26, .ref z27, .ref z28, .int (nI rn), .ref z30, .ref z31, .ref z32])), kI G z14 16 (oF gi), kI G z9 12 (nF pl), kI G z10 192 (nF le), kI G z11 192 (nF lb), kZ G z12 192 (bF br), kI G z16 16 (nF (va_up (pf (rd2 le lb br gi be s1 j) s1 b) b (if anyN (stB le lb br gi s1 j b) (c + 1) = true then j + 2 else s1 b)))]) ?_ ?_
        · (first | (rw [anyN, show stB le lb br gi s1 j b c = false by simp [stB, mayM, c_141, c_151], Bool.or_false]; done) | (rw [anyN, show stB le lb br gi s1 j b c = true by simp [stB, mayM, c_141, c_151], Bool.or_true, if_pos rfl, up_up]; done))
        exact ih (c + 1) (by omega) (by omega) (hgb) (hsb) (by omega)
      · skip
        obtain ⟨g, hq_h⟩ := Option.ne_none_iff_exists'.mp c_151; have hq_g := hq_h; have hg12 := hgi c g hq_g
        refine j_aload_n (pc := 154) X dX10_countSteps_154 rfl 0 rfl ?_
        refine j_get (pc := 155) X 10 i_X10 0 rfl rfl 16 (by decide) (by decide +kernel) rfl dX10_countSteps_155 ?_
        refine j_iload (pc := 158) X dX10_countSteps_158 3 rfl ?_
        refine j_iald (pc := 160) X 6 rfl (vp_in_nI (by omega) (by decide)) (v := nI ((va_up (pf (rd2 le lb br gi be s1 j) s1 b) b (if anyN (stB le lb br gi s1 j b) c = true then j + 2 else s1 b)) c)) (congrArg (nF (va_up (pf (rd2 le lb br gi be s1 j) s1 b) b (if anyN (stB le lb br gi s1 j b) c = true then j + 2 else s1 b))) (nI_clamp (by omega))) dX10_countSteps_160 ?_
        refine j_iload_n (pc := 161) X dX10_countSteps_161 rfl 1 rfl ?_
        refine j_iconst (pc := 162) X (v := nI 1) dX10_countSteps_162 (by decide) ?_
        refine j_isub (pc := 163) X dX10_countSteps_163 ?_
        refine j_topi (z := nI (j + 1)) (pk_sub (by omega)) ?_
        refine j_icmpN_ne (pc := 164) X (a := ((va_up (pf (rd2 le lb br gi be s1 j) s1 b) b (if anyN (stB le lb br gi s1 j b) c = true then j + 2 else s1 b)) c)) (b := (j + 1)) (by first | omega | exact rd_le (by omega) (fun k hk => by rw [hs1]; exact sp_le hk (by omega)) (by omega) (by omega) if_two) (by first | omega | exact rd_le (by omega) (fun k hk => by rw [hs1]; exact sp_le hk (by omega)) (by omega) (by omega) if_two) (tgt := 205) dX10_countSteps_164 (by decide) (fun c_164 => ?_) (fun c_164 => ?_)
        · skip
          have hq_s : ¬ s1 c = j + 1 := fun h9 => c_164 ((rd_is (by omega) hsb if_two).mpr h9)
          refine j_iinc (pc := 205) X (v := nI (c + 1)) (lv' := [(4, .int (nI (c + 1))), (0, .ref z), (2, .int (nI (j + 2))), (3, .int (nI b))]) dX10_countSteps_205 3 rfl (nI_1 _) (by decide) rfl ?_
          refine j_goto (pc := 208) X (tgt := 135) dX10_countSteps_208 (by decide) ?_
          refine j_lv [1, 2, 3, 0] (lv' := [(0, .ref z), (2, .int (nI (j + 2))), (3, .int (nI b)), (4, .int (nI (c + 1)))]) rfl ?_
          refine j_ws (ws' := [(z, .inr (10, [.int (nI st), .int (nI th), .long za, .long zb, .ref z4, .ref z5, .ref z6, .int (nI el), .int (nI be), .ref z9, .ref z10, .ref z11, .ref z12, .int (b2i gz), .ref z14, .ref z15, .ref z16, .int (nI mm), .int (nI tt), .ref z19, .ref z20, .ref z21, .ref z22, .ref z23, .int (nI gm), .ref z25, .ref z26, .ref z27, .ref z28, .int (nI rn), .ref z30, .ref z31, .ref z32])), kI G z14 16 (oF gi), kI G z9 12 (nF pl), kI G z10 192 (nF le), kI G z11 192 (nF lb), kZ G z12 192 (bF br), kI G z16 16 (nF (va_up (pf (rd2 le lb br gi be s1 j) s1 b) b (if anyN (stB le lb br gi s1 j b) (c + 1) = true then j + 2 else s1 b)))]) ?_ ?_
          · (first | (rw [anyN, show stB le lb br gi s1 j b c = false by simp [stB, mayM, hq_g, hq_s, c_141, c_151, ne_eq], Bool.or_false]; done) | (rw [anyN, show stB le lb br gi s1 j b c = true by simp [stB, mayM, hq_g, hq_s, c_141, c_151, ne_eq], Bool.or_true, if_pos rfl, up_up]; done))
          exact ih (c + 1) (by omega) (by omega) (hgb) (hsb) (by omega)
        · skip
          have hq_s : s1 c = j + 1 := (rd_is (by omega) hsb if_two).mp c_164
          refine j_aload_n (pc := 167) X dX10_countSteps_167 rfl 0 rfl ?_
          refine j_get (pc := 168) X 10 i_X10 0 rfl rfl 14 (by decide) (by decide +kernel) rfl dX10_countSteps_168 ?_
          refine j_iload (pc := 171) X dX10_countSteps_171 3 rfl ?_
          refine j_iald (pc := 173) X 1 rfl (vp_in_nI (by omega) (by decide)) (v := oI (gi c)) (congrArg (oF gi) (nI_clamp (by omega))) dX10_countSteps_173 ?_
          refine j_aload_n (pc := 174) X dX10_countSteps_174 rfl 0 rfl ?_
          refine j_get (pc := 175) X 10 i_X10 0 rfl rfl 14 (by decide) (by decide +kernel) rfl dX10_countSteps_175 ?_
          refine j_iload_n (pc := 178) X dX10_countSteps_178 rfl 2 rfl ?_
          refine j_iald (pc := 179) X 1 rfl (vp_in_nI (by omega) (by decide)) (v := oI (gi b)) (congrArg (oF gi) (nI_clamp (by omega))) dX10_countSteps_179 ?_
          refine j_icmpO_eq (pc := 180) X (a := (gi c)) (b := (gi b)) (by first | exact ob_n | exact ob_s (by omega) | exact (hgi _).big (by decide)) (by first | exact ob_n | exact ob_s (by omega) | exact (hgi _).big (by decide)) (tgt := 205) dX10_countSteps_180 (by decide) (fun c_180 => ?_) (fun c_180 => ?_)
          · skip
            have hq_n : gi b = some g := (by rw [← c_180]; exact hq_g)
            refine j_iinc (pc := 205) X (v := nI (c + 1)) (lv' := [(4, .int (nI (c + 1))), (0, .ref z), (2, .int (nI (j + 2))), (3, .int (nI b))]) dX10_countSteps_205 3 rfl (nI_1 _) (by decide) rfl ?_
            refine j_goto (pc := 208) X (tgt := 135) dX10_countSteps_208 (by decide) ?_
            refine j_lv [1, 2, 3, 0] (lv' := [(0, .ref z), (2, .int (nI (j + 2))), (3, .int (nI b)), (4, .int (nI (c + 1)))]) rfl ?_
            refine j_ws (ws' := [(z, .inr (10, [.int (nI st), .int (nI th), .long za, .long zb, .ref z4, .ref z5, .ref z6, .int (nI el), .int (nI be), .ref z9, .ref z10, .ref z11, .ref z12, .int (b2i gz), .ref z14, .ref z15, .ref z16, .int (nI mm), .int (nI tt), .ref z19, .ref z20, .ref z21, .ref z22, .ref z23, .int (nI gm), .ref z25, .ref z26, .ref z27, .ref z28, .int (nI rn), .ref z30, .ref z31, .ref z32])), kI G z14 16 (oF gi), kI G z9 12 (nF pl), kI G z10 192 (nF le), kI G z11 192 (nF lb), kZ G z12 192 (bF br), kI G z16 16 (nF (va_up (pf (rd2 le lb br gi be s1 j) s1 b) b (if anyN (stB le lb br gi s1 j b) (c + 1) = true then j + 2 else s1 b)))]) ?_ ?_
            · (first | (rw [anyN, show stB le lb br gi s1 j b c = false by simp [stB, mayM, hq_g, hq_s, hq_n, c_141, c_151, ne_eq, ne_eq], Bool.or_false]; done) | (rw [anyN, show stB le lb br gi s1 j b c = true by simp [stB, mayM, hq_g, hq_s, hq_n, c_141, c_151, ne_eq, ne_eq], Bool.or_true, if_pos rfl, up_up]; done))
            exact ih (c + 1) (by omega) (by omega) (hgb) (hsb) (by omega)
          · skip
            have hq_n : ¬ some g = gi b := (by rw [← hq_g]; exact c_180)
            refine j_aload_n (pc := 183) X dX10_countSteps_183 rfl 0 rfl ?_
            refine j_aload_n (pc := 184) X dX10_countSteps_184 rfl 0 rfl ?_
            refine j_get (pc := 185) X 10 i_X10 0 rfl rfl 14 (by decide) (by decide +kernel) rfl dX10_countSteps_185 ?_
            refine j_iload (pc := 188) X dX10_countSteps_188 3 rfl ?_
            refine j_iald (pc := 190) X 1 rfl (vp_in_nI (by omega) (by decide)) (v := nI g) ((congrArg (oF gi) (nI_clamp (by omega))).trans ((by show oI (gi c) = nI g; rw [hq_g]; rfl))) dX10_countSteps_190 ?_
            refine j_iload_n (pc := 191) X dX10_countSteps_191 rfl 2 rfl ?_
            refine j_ciP (pc := 192) X [0, 3, 4, 5] rfl (j_rV X (b := z) (As := [.int (nI g), .int (nI b)]) (ci := 10) (rest := []) 2 (mX10_can l G z z4 z5 z6 z9 z10 z11 z12 z14 z15 z16 z19 z20 z21 z22 z23 z25 z26 z27 z28 z30 z31 z32 st th za zb el be gz mm tt gm rn le lb br g b (by first | assumption | omega | exact ob_s (by omega) | exact ob_n) (by first | assumption | omega | exact ob_s (by omega) | exact ob_n) (by first | assumption | omega | exact ob_s (by omega) | exact ob_n) (by first | assumption | omega | exact ob_s (by omega) | exact ob_n)) gX10_countSteps_X10_can rfl rfl rfl (by decide +kernel) ⟨Nat.le_of_ble_eq_true rfl, Nat.le_of_ble_eq_true rfl⟩ rfl rfl 0 rfl [0, 3, 4, 5] rfl rfl rfl (Nat.le_of_ble_eq_true rfl) dX10_countSteps_192 ⟨Nat.le_of_ble_eq_true rfl, Nat.le_of_ble_eq_true rfl⟩) ?_
            refine j_ifb_eq (pc := 195) X (B := canB le lb br g b) (tgt := 205) dX10_countSteps_195 (by decide) (fun c_195 => ?_) (fun c_195 => ?_)
            · skip
              refine j_iinc (pc := 205) X (v := nI (c + 1)) (lv' := [(4, .int (nI (c + 1))), (0, .ref z), (2, .int (nI (j + 2))), (3, .int (nI b))]) dX10_countSteps_205 3 rfl (nI_1 _) (by decide) rfl ?_
              refine j_goto (pc := 208) X (tgt := 135) dX10_countSteps_208 (by decide) ?_
              refine j_lv [1, 2, 3, 0] (lv' := [(0, .ref z), (2, .int (nI (j + 2))), (3, .int (nI b)), (4, .int (nI (c + 1)))]) rfl ?_
              refine j_ws (ws' := [(z, .inr (10, [.int (nI st), .int (nI th), .long za, .long zb, .ref z4, .ref z5, .ref z6, .int (nI el), .int (nI be), .ref z9, .ref z10, .ref z11, .ref z12, .int (b2i gz), .ref z14, .ref z15, .ref z16, .int (nI mm), .int (nI tt), .ref z19, .ref z20, .ref z21, .ref z22, .ref z23, .int (nI gm), .ref z25, .ref z26, .ref z27, .ref z28, .int (nI rn), .ref z30, .ref z31, .ref z32])), kI G z14 16 (oF gi), kI G z9 12 (nF pl), kI G z10 192 (nF le), kI G z11 192 (nF lb), kZ G z12 192 (bF br), kI G z16 16 (nF (va_up (pf (rd2 le lb br gi be s1 j) s1 b) b (if anyN (stB le lb br gi s1 j b) (c + 1) = true then j + 2 else s1 b)))]) ?_ ?_
              · (first | (rw [anyN, show stB le lb br gi s1 j b c = false by simp [stB, mayM, hq_g, hq_s, hq_n, c_141, c_151, ne_eq, ne_eq, c_195], Bool.or_false]; done) | (rw [anyN, show stB le lb br gi s1 j b c = true by simp [stB, mayM, hq_g, hq_s, hq_n, c_141, c_151, ne_eq, ne_eq, c_195], Bool.or_true, if_pos rfl, up_up]; done))
              exact ih (c + 1) (by omega) (by omega) (hgb) (hsb) (by omega)
            · skip
              refine j_aload_n (pc := 198) X dX10_countSteps_198 rfl 0 rfl ?_
              refine j_get (pc := 199) X 10 i_X10 0 rfl rfl 16 (by decide) (by decide +kernel) rfl dX10_countSteps_199 ?_
              refine j_iload_n (pc := 202) X dX10_countSteps_202 rfl 2 rfl ?_
              refine j_iload_n (pc := 203) X dX10_countSteps_203 rfl 1 rfl ?_
              refine j_iast (pc := 204) X (f2 := (nF (va_up (va_up (pf (rd2 le lb br gi be s1 j) s1 b) b (if anyN (stB le lb br gi s1 j b) c = true then j + 2 else s1 b)) b (j + 2)))) (ws' := [(z, .inr (10, [.int (nI st), .int (nI th), .long za, .long zb, .ref z4, .ref z5, .ref z6, .int (nI el), .int (nI be), .ref z9, .ref z10, .ref z11, .ref z12, .int (b2i gz), .ref z14, .ref z15, .ref z16, .int (nI mm), .int (nI tt), .ref z19, .ref z20, .ref z21, .ref z22, .ref z23, .int (nI gm), .ref z25, .ref z26, .ref z27, .ref z28, .int (nI rn), .ref z30, .ref z31, .ref z32])), kI G z14 16 (oF gi), kI G z9 12 (nF pl), kI G z10 192 (nF le), kI G z11 192 (nF lb), kZ G z12 192 (bF br), kI G z16 16 (nF (va_up (va_up (pf (rd2 le lb br gi be s1 j) s1 b) b (if anyN (stB le lb br gi s1 j b) c = true then j + 2 else s1 b)) b (j + 2)))]) 6 rfl (vp_in_nI (by omega) (by decide)) dX10_countSteps_204 (by rw [nI_clamp (by omega)]; exact nF_up (va_up (pf (rd2 le lb br gi be s1 j) s1 b) b (if anyN (stB le lb br gi s1 j b) c = true then j + 2 else s1 b)) b (j + 2)) rfl ?_
              refine j_iinc (pc := 205) X (v := nI (c + 1)) (lv' := [(4, .int (nI (c + 1))), (0, .ref z), (2, .int (nI (j + 2))), (3, .int (nI b))]) dX10_countSteps_205 3 rfl (nI_1 _) (by decide) rfl ?_
              refine j_goto (pc := 208) X (tgt := 135) dX10_countSteps_208 (by decide) ?_
              refine j_lv [1, 2, 3, 0] (lv' := [(0, .ref z), (2, .int (nI (j + 2))), (3, .int (nI b)), (4, .int (nI (c + 1)))]) rfl ?_
              refine j_ws (ws' := [(z, .inr (10, [.int (nI st), .int (nI th), .long za, .long zb, .ref z4, .ref z5, .ref z6, .int (nI el), .int (nI be), .ref z9, .ref z10, .ref z11, .ref z12, .int (b2i gz), .ref z14, .ref z15, .ref z16, .int (nI mm), .int (nI tt), .ref z19, .ref z20, .ref z21, .ref z22, .ref z23, .int (nI gm), .ref z25, .ref z26, .ref z27, .ref z28, .int (nI rn), .ref z30, .ref z31, .ref z32])), kI G z14 16 (oF gi), kI G z9 12 (nF pl), kI G z10 192 (nF le), kI G z11 192 (nF lb), kZ G z12 192 (bF br), kI G z16 16 (nF (va_up (pf (rd2 le lb br gi be s1 j) s1 b) b (if anyN (stB le lb br gi s1 j b) (c + 1) = true then j + 2 else s1 b)))]) ?_ ?_
              · (first | (rw [anyN, show stB le lb br gi s1 j b c = false by simp [stB, mayM, hq_g, hq_s, hq_n, c_141, c_151, ne_eq, ne_eq, c_195], Bool.or_false]; done) | (rw [anyN, show stB le lb br gi s1 j b c = true by simp [stB, mayM, hq_g, hq_s, hq_n, c_141, c_151, ne_eq, ne_eq, c_195], Bool.or_true, if_pos rfl, up_up]; done))
              exact ih (c + 1) (by omega) (by omega) (hgb) (hsb) (by omega)
