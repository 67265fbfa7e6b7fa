set_option maxHeartbeats 4000000 in
set_option maxRecDepth 100000 in
theorem mX10_pour_L158 (l : Launch) (G : jG) (z : Nat) (z4 : Nat) (z5 : Nat) (z6 : Nat) (z9 : Nat) (z10 : Nat) (z11 : Nat) (z12 : Nat) (z14 : Nat) (z15 : Nat) (z16 : Nat) (z19 : Nat) (z20 : Nat) (z21 : Nat) (z22 : Nat) (z23 : Nat) (z25 : Nat) (z26 : Nat) (z27 : Nat) (z28 : Nat) (z30 : Nat) (z31 : Nat) (z32 : Nat) (st : Nat) (th : Nat) (za : Int64) (zb : Int64) (el : Nat) (be : Nat) (gz : Bool) (mm : Nat) (tt : Nat) (gm : Nat) (rn : Nat) (ts : Nat → Nat) (ym : Nat → Option Nat) (nu : Nat → Int64) (x : Int32) (i : Int32) (to_ : Int32) (j : Int32) (m : Int32) (hym : ∀ k, ob 41 (ym k)) (hts_ : ∀ k, ts k < 4) (κ : jK) (X : CX κ l yX10_pour cX10_pour 9 RX10 wsX10_pour (some .boolean) ({ frames := 1, cells := 0, slots := 0, locals := 21 }) G (va_A [(z, .inr (10, [.int (nI st), .int (nI th), .long za, .long zb, .ref z4, .ref z5, .ref z6, .int (nI el), .int (nI be), .ref z9, .ref z10, .ref z11, .ref z12, .int (b2i gz), .ref z14, .ref z15, .ref z16, .int (nI mm), .int (nI tt), .ref z19, .ref z20, .ref z21, .ref z22, .ref z23, .int (nI gm), .ref z25, .ref z26, .ref z27, .ref z28, .int (nI rn), .ref z30, .ref z31, .ref z32])), kI G z4 4 (nF ts), kI G z5 4 (oF ym), kJ G z6 160 nu] (js κ).heap.size))    : ∀ (fu : Nat) (a : Nat) (b : Nat) (i2 : Nat) (j2 : Nat) (m2 : Nat) (rs : Bool) (k : Nat) (hxa : x = nI a) (htb : to_ = nI b) (hii : i = nI i2) (hjj : j = nI j2) (hmm : m = nI m2) (ha4 : a < 4) (hb4 : b < 4) (h1 : i2 + m2 ≤ 40) (h2 : j2 + m2 ≤ 40) (hrs : rs = decide (i2 < j2)) (hk : k ≤ m2) (hS : sPourM ym ts nu (nI a) (nI i2) (nI b) (nI j2) (nI m2) = (true, 0, cpU nu (40 * a + i2) (40 * b + j2) m2)) (_ : m2 - k < fu), JJ κ 9 G (va_A [(z, .inr (10, [.int (nI st), .int (nI th), .long za, .long zb, .ref z4, .ref z5, .ref z6, .int (nI el), .int (nI be), .ref z9, .ref z10, .ref z11, .ref z12, .int (b2i gz), .ref z14, .ref z15, .ref z16, .int (nI mm), .int (nI tt), .ref z19, .ref z20, .ref z21, .ref z22, .ref z23, .int (nI gm), .ref z25, .ref z26, .ref z27, .ref z28, .int (nI rn), .ref z30, .ref z31, .ref z32])), kI G z4 4 (nF ts), kI G z5 4 (oF ym), kJ G z6 160 nu] (js κ).heap.size) 0 0 (jQ κ G [(z, .inr (10, [.int (nI st), .int (nI th), .long za, .long zb, .ref z4, .ref z5, .ref z6, .int (nI el), .int (nI be), .ref z9, .ref z10, .ref z11, .ref z12, .int (b2i gz), .ref z14, .ref z15, .ref z16, .int (nI mm), .int (nI tt), .ref z19, .ref z20, .ref z21, .ref z22, .ref z23, .int (nI gm), .ref z25, .ref z26, .ref z27, .ref z28, .int (nI rn), .ref z30, .ref z31, .ref z32])), kI G z4 4 (nF ts), kI G z5 4 (oF ym), kJ G z6 160 nu] (fun r w' => r = some (.int (b2i ((sPourM ym ts nu x i to_ j m).1))) ∧ w' = [(z, .inr (10, [.int (nI ((sPourM ym ts nu x i to_ j m).2.1)), .int (nI 0), .long za, .long zb, .ref z4, .ref z5, .ref z6, .int (nI el), .int (nI be), .ref z9, .ref z10, .ref z11, .ref z12, .int (b2i gz), .ref z14, .ref z15, .ref z16, .int (nI mm), .int (nI tt), .ref z19, .ref z20, .ref z21, .ref z22, .ref z23, .int (nI gm), .ref z25, .ref z26, .ref z27, .ref z28, .int (nI rn), .ref z30, .ref z31, .ref z32])), kI G z4 4 (nF ts), kI G z5 4 (oF ym), kJ G z6 160 ((sPourM ym ts nu x i to_ j m).2.2)]) 0 0) 158 [(0, .ref z), (1, .int (nI a)), (2, .int (nI i2)), (3, .int (nI b)), (4, .int (nI j2)), (5, .int (nI m2)), (6, .int (b2i rs)), (7, .int (nI k))] [] [(z, .inr (10, [.int (nI 0), .int (nI 0), .long za, .long zb, .ref z4, .ref z5, .ref z6, .int (nI el), .int (nI be), .ref z9, .ref z10, .ref z11, .ref z12, .int (b2i gz), .ref z14, .ref z15, .ref z16, .int (nI mm), .int (nI tt), .ref z19, .ref z20, .ref z21, .ref z22, .ref z23, .int (nI gm), .ref z25, .ref z26, .ref z27, .ref z28, .int (nI rn), .ref z30, .ref z31, .ref z32])), kI G z4 4 (nF ts), kI G z5 4 (oF ym), kJ G z6 160 (cpX rs nu (40 * a + i2) (40 * b + j2) m2 k)] := by
  have i_X10 : ∀ w ∈ wsX100, w ∈ wsX10_pour := by decide +kernel
  intro fu
  induction fu with
  | zero => intro a b i2 j2 m2 rs k hxa htb hii hjj hmm ha4 hb4 h1 h2 hrs hk hS hms; exact absurd hms (Nat.not_lt_zero _)
  | succ fu ih =>
    intro a b i2 j2 m2 rs k hxa htb hii hjj hmm ha4 hb4 h1 h2 hrs hk hS hms
    subst hxa
    subst htb
    subst hii
    subst hjj
    subst hmm
    refine j_iload (pc := 158) X dX10_pour_158 7 rfl ?_
    refine j_iload (pc := 160) X dX10_pour_160 5 rfl ?_
    refine j_icmpN_ge (pc := 162) X (a := k) (b := m2) (by first | omega | exact Nat.lt_of_lt_of_le (hts_ _) (by decide)) (by first | omega | exact Nat.lt_of_lt_of_le (hts_ _) (by decide)) (tgt := 219) dX10_pour_162 (by decide) (fun c_162 => ?_) (fun c_162 => ?_)
    · skip
      refine j_iconst (pc := 219) X (v := nI 1) dX10_pour_219 (by decide) ?_
      have hs : sPourM ym ts nu (nI a) (nI i2) (nI b) (nI j2) (nI m2) = (true, 0, cpX rs nu (40 * a + i2) (40 * b + j2) m2 k) := by rw [hS, show k = m2 by omega, cpX_n]
      refine j_zret (pc := 220) X (rfl) dX10_pour_220 ?_
      rw [hs]; exact ⟨rfl, rfl⟩
    · skip
      refine j_iload (pc := 165) X dX10_pour_165 6 rfl ?_
      refine j_ifb_eq (pc := 167) X (B := rs) (tgt := 180) dX10_pour_167 (by decide) (fun c_167 => ?_) (fun c_167 => ?_)
      · skip
        refine j_iload (pc := 180) X dX10_pour_180 7 rfl ?_
        refine j_istore (pc := 182) X (lv' := [(8, .int (nI k)), (0, .ref z), (1, .int (nI a)), (2, .int (nI i2)), (3, .int (nI b)), (4, .int (nI j2)), (5, .int (nI m2)), (6, .int (b2i rs)), (7, .int (nI k))]) dX10_pour_182 (by decide) rfl ?_
        refine j_aload_n (pc := 184) X dX10_pour_184 rfl 1 rfl ?_
        refine j_get (pc := 185) X 10 i_X10 0 rfl rfl 6 (by decide) (by decide +kernel) rfl dX10_pour_185 ?_
        refine j_bipush (pc := 188) X (v := nI 40) dX10_pour_188 (by decide) ?_
        refine j_iload_n (pc := 190) X dX10_pour_190 rfl 4 rfl ?_
        refine j_imul (pc := 191) X dX10_pour_191 ?_
        refine j_topi (z := nI (40 * b)) (pk_mul _ _) ?_
        refine j_iload (pc := 192) X dX10_pour_192 5 rfl ?_
        refine j_iadd (pc := 194) X dX10_pour_194 ?_
        refine j_topi (z := nI (40 * b + j2)) (nI_add _ _) ?_
        refine j_iload (pc := 195) X dX10_pour_195 0 rfl ?_
        refine j_iadd (pc := 197) X dX10_pour_197 ?_
        refine j_topi (z := nI (40 * b + j2 + k)) (nI_add _ _) ?_
        refine j_aload_n (pc := 198) X dX10_pour_198 rfl 1 rfl ?_
        refine j_get (pc := 199) X 10 i_X10 0 rfl rfl 6 (by decide) (by decide +kernel) rfl dX10_pour_199 ?_
        refine j_bipush (pc := 202) X (v := nI 40) dX10_pour_202 (by decide) ?_
        refine j_iload_n (pc := 204) X dX10_pour_204 rfl 2 rfl ?_
        refine j_imul (pc := 205) X dX10_pour_205 ?_
        refine j_topi (z := nI (40 * a)) (pk_mul _ _) ?_
        refine j_iload_n (pc := 206) X dX10_pour_206 rfl 3 rfl ?_
        refine j_iadd (pc := 207) X dX10_pour_207 ?_
        refine j_topi (z := nI (40 * a + i2)) (nI_add _ _) ?_
        refine j_iload (pc := 208) X dX10_pour_208 0 rfl ?_
        refine j_iadd (pc := 210) X dX10_pour_210 ?_
        refine j_topi (z := nI (40 * a + i2 + k)) (nI_add _ _) ?_
        refine j_lald (pc := 211) X 3 rfl (vp_in_nI (by omega) (by decide)) (v := (cpX rs nu (40 * a + i2) (40 * b + j2) m2 k) (40 * a + i2 + k)) (congrArg (cpX rs nu (40 * a + i2) (40 * b + j2) m2 k) (nI_clamp (by omega))) dX10_pour_211 ?_
        refine j_last (pc := 212) X (f2 := (va_up (cpX rs nu (40 * a + i2) (40 * b + j2) m2 k) (40 * b + j2 + k) ((cpX rs nu (40 * a + i2) (40 * b + j2) m2 k) (40 * a + i2 + k)))) (ws' := [(z, .inr (10, [.int (nI 0), .int (nI 0), .long za, .long zb, .ref z4, .ref z5, .ref z6, .int (nI el), .int (nI be), .ref z9, .ref z10, .ref z11, .ref z12, .int (b2i gz), .ref z14, .ref z15, .ref z16, .int (nI mm), .int (nI tt), .ref z19, .ref z20, .ref z21, .ref z22, .ref z23, .int (nI gm), .ref z25, .ref z26, .ref z27, .ref z28, .int (nI rn), .ref z30, .ref z31, .ref z32])), kI G z4 4 (nF ts), kI G z5 4 (oF ym), kJ G z6 160 (va_up (cpX rs nu (40 * a + i2) (40 * b + j2) m2 k) (40 * b + j2 + k) ((cpX rs nu (40 * a + i2) (40 * b + j2) m2 k) (40 * a + i2 + k)))]) 3 rfl (vp_in_nI (by omega) (by decide)) dX10_pour_212 (by rw [nI_clamp (by omega)]; exact lF_up _ _ _) rfl ?_
        refine j_iinc (pc := 213) X (v := nI (k + 1)) (lv' := [(7, .int (nI (k + 1))), (8, .int (nI k)), (0, .ref z), (1, .int (nI a)), (2, .int (nI i2)), (3, .int (nI b)), (4, .int (nI j2)), (5, .int (nI m2)), (6, .int (b2i rs))]) dX10_pour_213 8 rfl (nI_1 _) (by decide) rfl ?_
        refine j_goto (pc := 216) X (tgt := 158) dX10_pour_216 (by decide) ?_
        refine j_lv [2, 3, 4, 5, 6, 7, 8, 0] (lv' := [(0, .ref z), (1, .int (nI a)), (2, .int (nI i2)), (3, .int (nI b)), (4, .int (nI j2)), (5, .int (nI m2)), (6, .int (b2i rs)), (7, .int (nI (k + 1)))]) rfl ?_
        refine j_ws (ws' := [(z, .inr (10, [.int (nI 0), .int (nI 0), .long za, .long zb, .ref z4, .ref z5, .ref z6, .int (nI el), .int (nI be), .ref z9, .ref z10, .ref z11, .ref z12, .int (b2i gz), .ref z14, .ref z15, .ref z16, .int (nI mm), .int (nI tt), .ref z19, .ref z20, .ref z21, .ref z22, .ref z23, .int (nI gm), .ref z25, .ref z26, .ref z27, .ref z28, .int (nI rn), .ref z30, .ref z31, .ref z32])), kI G z4 4 (nF ts), kI G z5 4 (oF ym), kJ G z6 160 (cpX rs nu (40 * a + i2) (40 * b + j2) m2 (k + 1))]) ?_ ?_
        · (rw [c_167] at hrs ⊢; first | (have hlt : i2 < j2 := of_decide_eq_true hrs.symm; rw [cpX_t (by omega) (by omega)]; done) | (have hlt : ¬ i2 < j2 := of_decide_eq_false hrs.symm; rw [cpX_f (by omega)]; done))
        exact ih a b i2 j2 m2 rs (k + 1) (rfl) (rfl) (rfl) (rfl) (rfl) (by omega) (by omega) (by omega) (by omega) (hrs) (by omega) (hS) (by omega)
      · skip
        refine j_iload (pc := 170) X dX10_pour_170 5 rfl ?_
        refine j_iconst (pc := 172) X (v := nI 1) dX10_pour_172 (by decide) ?_
        refine j_isub (pc := 173) X dX10_pour_173 ?_
        refine j_topi (z := nI (m2 - 1)) (pk_sub (by omega)) ?_
        refine j_iload (pc := 174) X dX10_pour_174 7 rfl ?_
        refine j_isub (pc := 176) X dX10_pour_176 ?_
        refine j_topi (z := nI (m2 - 1 - k)) (pk_sub (by omega)) ?_
        refine j_goto (pc := 177) X (tgt := 182) dX10_pour_177 (by decide) ?_
        refine j_istore (pc := 182) X (lv' := [(8, .int (nI (m2 - 1 - k))), (0, .ref z), (1, .int (nI a)), (2, .int (nI i2)), (3, .int (nI b)), (4, .int (nI j2)), (5, .int (nI m2)), (6, .int (b2i rs)), (7, .int (nI k))]) dX10_pour_182 (by decide) rfl ?_
        refine j_aload_n (pc := 184) X dX10_pour_184 rfl 1 rfl ?_
        refine j_get (pc := 185) X 10 i_X10 0 rfl rfl 6 (by decide) (by decide +kernel) rfl dX10_pour_185 ?_
        refine j_bipush (pc := 188) X (v := nI 40) dX10_pour_188 (by decide) ?_
        refine j_iload_n (pc := 190) X dX10_pour_190 rfl 4 rfl ?_
        refine j_imul (pc := 191) X dX10_pour_191 ?_
        refine j_topi (z := nI (40 * b)) (pk_mul _ _) ?_
        refine j_iload (pc := 192) X dX10_pour_192 5 rfl ?_
        refine j_iadd (pc := 194) X dX10_pour_194 ?_
        refine j_topi (z := nI (40 * b + j2)) (nI_add _ _) ?_
        refine j_iload (pc := 195) X dX10_pour_195 0 rfl ?_
        refine j_iadd (pc := 197) X dX10_pour_197 ?_
        refine j_topi (z := nI (40 * b + j2 + (m2 - 1 - k))) (nI_add _ _) ?_
        refine j_aload_n (pc := 198) X dX10_pour_198 rfl 1 rfl ?_
        refine j_get (pc := 199) X 10 i_X10 0 rfl rfl 6 (by decide) (by decide +kernel) rfl dX10_pour_199 ?_
        refine j_bipush (pc := 202) X (v := nI 40) dX10_pour_202 (by decide) ?_
        refine j_iload_n (pc := 204) X dX10_pour_204 rfl 2 rfl ?_
        refine j_imul (pc := 205) X dX10_pour_205 ?_
        refine j_topi (z := nI (40 * a)) (pk_mul _ _) ?_
        refine j_iload_n (pc := 206) X dX10_pour_206 rfl 3 rfl ?_
        refine j_iadd (pc := 207) X dX10_pour_207 ?_
        refine j_topi (z := nI (40 * a + i2)) (nI_add _ _) ?_
        refine j_iload (pc := 208) X dX10_pour_208 0 rfl ?_
        refine j_iadd (pc := 210) X dX10_pour_210 ?_
        refine j_topi (z := nI (40 * a + i2 + (m2 - 1 - k))) (nI_add _ _) ?_
        refine j_lald (pc := 211) X 3 rfl (vp_in_nI (by omega) (by decide)) (v := (cpX rs nu (40 * a + i2) (40 * b + j2) m2 k) (40 * a + i2 + (m2 - 1 - k))) (congrArg (cpX rs nu (40 * a + i2) (40 * b + j2) m2 k) (nI_clamp (by omega))) dX10_pour_211 ?_
        refine j_last (pc := 212) X (f2 := (va_up (cpX rs nu (40 * a + i2) (40 * b + j2) m2 k) (40 * b + j2 + (m2 - 1 - k)) ((cpX rs nu (40 * a + i2) (40 * b + j2) m2 k) (40 * a + i2 + (m2 - 1 - k))))) (ws' := [(z, .inr (10, [.int (nI 0), .int (nI 0), .long za, .long zb, .ref z4, .ref z5, .ref z6, .int (nI el), .int (nI be), .ref z9, .ref z10, .ref z11, .ref z12, .int (b2i gz), .ref z14, .ref z15, .ref z16, .int (nI mm), .int (nI tt), .ref z19, .ref z20, .ref z21, .ref z22, .ref z23, .int (nI gm), .ref z25, .ref z26, .ref z27, .ref z28, .int (nI rn), .ref z30, .ref z31, .ref z32])), kI G z4 4 (nF ts), kI G z5 4 (oF ym), kJ G z6 160 (va_up (cpX rs nu (40 * a + i2) (40 * b + j2) m2 k) (40 * b + j2 + (m2 - 1 - k)) ((cpX rs nu (40 * a + i2) (40 * b + j2) m2 k) (40 * a + i2 + (m2 - 1 - k))))]) 3 rfl (vp_in_nI (by omega) (by decide)) dX10_pour_212 (by rw [nI_clamp (by omega)]; exact lF_up _ _ _) rfl ?_
        refine j_iinc (pc := 213) X (v := nI (k + 1)) (lv' := [(7, .int (nI (k + 1))), (8, .int (nI (m2 - 1 - k))), (0, .ref z), (1, .int (nI a)), (2, .int (nI i2)), (3, .int (nI b)), (4, .int (nI j2)), (5, .int (nI m2)), (6, .int (b2i rs))]) dX10_pour_213 8 rfl (nI_1 _) (by decide) rfl ?_
        refine j_goto (pc := 216) X (tgt := 158) dX10_pour_216 (by decide) ?_
        refine j_lv [2, 3, 4, 5, 6, 7, 8, 0] (lv' := [(0, .ref z), (1, .int (nI a)), (2, .int (nI i2)), (3, .int (nI b)), (4, .int (nI j2)), (5, .int (nI m2)), (6, .int (b2i rs)), (7, .int (nI (k + 1)))]) rfl ?_
        refine j_ws (ws' := [(z, .inr (10, [.int (nI 0), .int (nI 0), .long za, .long zb, .ref z4, .ref z5, .ref z6, .int (nI el), .int (nI be), .ref z9, .ref z10, .ref z11, .ref z12, .int (b2i gz), .ref z14, .ref z15, .ref z16, .int (nI mm), .int (nI tt), .ref z19, .ref z20, .ref z21, .ref z22, .ref z23, .int (nI gm), .ref z25, .ref z26, .ref z27, .ref z28, .int (nI rn), .ref z30, .ref z31, .ref z32])), kI G z4 4 (nF ts), kI G z5 4 (oF ym), kJ G z6 160 (cpX rs nu (40 * a + i2) (40 * b + j2) m2 (k + 1))]) ?_ ?_
        · (rw [c_167] at hrs ⊢; first | (have hlt : i2 < j2 := of_decide_eq_true hrs.symm; rw [cpX_t (by omega) (by omega)]; done) | (have hlt : ¬ i2 < j2 := of_decide_eq_false hrs.symm; rw [cpX_f (by omega)]; done))
        exact ih a b i2 j2 m2 rs (k + 1) (rfl) (rfl) (rfl) (rfl) (rfl) (by omega) (by omega) (by omega) (by omega) (hrs) (by omega) (hS) (by omega)
set_option maxHeartbeats 4000000 in
set_option maxRecDepth 100000 in
theorem mX10_pour (l : Launch) (G : jG) (z : Nat) (z4 : Nat) (z5 : Nat) (z6 : Nat) (z9 : Nat) (z10 : Nat) (z11 : Nat) (z12 : Nat) (z14 : Nat) (z15 : Nat) (z16 : Nat) (z19 : Nat) (z20 : Nat) (z21 : Nat) (z22 : Nat) (z23 : Nat) (z25 : Nat) (z26 : Nat) (z27 : Nat) (z28 : Nat) (z30 : Nat) (z31 : Nat) (z32 : Nat) (st : Nat) (th : Nat) (za : Int64) (zb : Int64) (el : Nat) (be : Nat) (gz : Bool) (mm : Nat) (tt : Nat) (gm : Nat) (rn : Nat) (ts : Nat → Nat) (ym : Nat → Option Nat) (nu : Nat → Int64) (x : Int32) (i : Int32) (to_ : Int32) (j : Int32) (m : Int32) (hym : ∀ k, ob 41 (ym k)) (hts_ : ∀ k, ts k < 4) : MV l yX10_pour wsX10_pour ({ frames := 1, cells := 0, slots := 0, locals := 21 }) G [.ref z, .int x, .int i, .int to_, .int j, .int m] [(z, .inr (10, [.int (nI st), .int (nI th), .long za, .long zb, .ref z4, .ref z5, .ref z6, .int (nI el), .int (nI be), .ref z9, .ref z10, .ref z11, .ref z12, .int (b2i gz), .ref z14, .ref z15, .ref z16, .int (nI mm), .int (nI tt), .ref z19, .ref z20, .ref z21, .ref z22, .ref z23, .int (nI gm), .ref z25, .ref z26, .ref z27, .ref z28, .int (nI rn), .ref z30, .ref z31, .ref z32])), kI G z4 4 (nF ts), kI G z5 4 (oF ym), kJ G z6 160 nu] (some (.int (b2i ((sPourM ym ts nu x i to_ j m).1)))) [(z, .inr (10, [.int (nI ((sPourM ym ts nu x i to_ j m).2.1)), .int (nI 0), .long za, .long zb, .ref z4, .ref z5, .ref z6, .int (nI el), .int (nI be), .ref z9, .ref z10, .ref z11, .ref z12, .int (b2i gz), .ref z14, .ref z15, .ref z16, .int (nI mm), .int (nI tt), .ref z19, .ref z20, .ref z21, .ref z22, .ref z23, .int (nI gm), .ref z25, .ref z26, .ref z27, .ref z28, .int (nI rn), .ref z30, .ref z31, .ref z32])), kI G z4 4 (nF ts), kI G z5 4 (oF ym), kJ G z6 160 ((sPourM ym ts nu x i to_ j m).2.2)] := by
  refine MF.ofJ (cc := cX10_pour) (maxL := 9) (ret := (some .boolean)) (own := RX10) (lv := [(0, .ref z), (1, .int x), (2, .int i), (3, .int to_), (4, .int j), (5, .int m)]) (by decide) rfl rfl (Nat.le_of_ble_eq_true rfl) rfl ?_
  intro κ X
  have i_X10 : ∀ w ∈ wsX100, w ∈ wsX10_pour := by decide +kernel
  refine j_aload_n (pc := 0) X dX10_pour_0 rfl 0 rfl ?_
  refine j_iconst (pc := 1) X (v := nI 0) dX10_pour_1 (by decide) ?_
  refine j_put (pc := 2) X (v := .int (nI 0)) (ws' := [(z, .inr (10, [.int (nI st), .int (nI 0), .long za, .long zb, .ref z4, .ref z5, .ref z6, .int (nI el), .int (nI be), .ref z9, .ref z10, .ref z11, .ref z12, .int (b2i gz), .ref z14, .ref z15, .ref z16, .int (nI mm), .int (nI tt), .ref z19, .ref z20, .ref z21, .ref z22, .ref z23, .int (nI gm), .ref z25, .ref z26, .ref z27, .ref z28, .int (nI rn), .ref z30, .ref z31, .ref z32])), kI G z4 4 (nF ts), kI G z5 4 (oF ym), kJ G z6 160 nu]) 10 i_X10 tyX10 tyX10_ok nmX10 0 rfl rfl 1 (by decide) (by decide +kernel) (by decide) (rfl) (rfl) (Nat.le_of_ble_eq_true rfl) dX10_pour_2 rfl ?_
  refine j_aload_n (pc := 5) X dX10_pour_5 rfl 0 rfl ?_
  refine j_iconst (pc := 6) X (v := nI 0) dX10_pour_6 (by decide) ?_
  refine j_put (pc := 7) X (v := .int (nI 0)) (ws' := [(z, .inr (10, [.int (nI 0), .int (nI 0), .long za, .long zb, .ref z4, .ref z5, .ref z6, .int (nI el), .int (nI be), .ref z9, .ref z10, .ref z11, .ref z12, .int (b2i gz), .ref z14, .ref z15, .ref z16, .int (nI mm), .int (nI tt), .ref z19, .ref z20, .ref z21, .ref z22, .ref z23, .int (nI gm), .ref z25, .ref z26, .ref z27, .ref z28, .int (nI rn), .ref z30, .ref z31, .ref z32])), kI G z4 4 (nF ts), kI G z5 4 (oF ym), kJ G z6 160 nu]) 10 i_X10 tyX10 tyX10_ok nmX10 0 rfl rfl 0 (by decide) (by decide +kernel) (by decide) (rfl) (rfl) (Nat.le_of_ble_eq_true rfl) dX10_pour_7 rfl ?_
  refine j_iload_n (pc := 10) X dX10_pour_10 rfl 1 rfl ?_
  refine j_if_lt (pc := 11) X (x := x) (tgt := 28) dX10_pour_11 (by decide) (fun c_11 => ?_) (fun c_11 => ?_)
  · skip
    have hq_x : inR x 4 = false := by simp [inR, c_11]
    refine j_aload_n (pc := 28) X dX10_pour_28 rfl 0 rfl ?_
    refine j_iconst (pc := 29) X (v := nI 1) dX10_pour_29 (by decide) ?_
    refine j_ci (pc := 30) X (ws' := [(z, .inr (10, [.int (nI 1), .int (nI 0), .long za, .long zb, .ref z4, .ref z5, .ref z6, .int (nI el), .int (nI be), .ref z9, .ref z10, .ref z11, .ref z12, .int (b2i gz), .ref z14, .ref z15, .ref z16, .int (nI mm), .int (nI tt), .ref z19, .ref z20, .ref z21, .ref z22, .ref z23, .int (nI gm), .ref z25, .ref z26, .ref z27, .ref z28, .int (nI rn), .ref z30, .ref z31, .ref z32])), kI G z4 4 (nF ts), kI G z5 4 (oF ym), kJ G z6 160 nu]) [0] rfl (j_rV X (b := z) (As := [.int (nI 1)]) (ci := 10) (rest := []) 1 (mX10_no l G z z4 z5 z6 z9 z10 z11 z12 z14 z15 z16 z19 z20 z21 z22 z23 z25 z26 z27 z28 z30 z31 z32 0 0 za zb el be gz mm tt gm rn 1 ) gX10_pour_X10_no rfl rfl rfl (by decide +kernel) ⟨Nat.le_of_ble_eq_true rfl, Nat.le_of_ble_eq_true rfl⟩ rfl rfl 0 rfl [0] rfl rfl rfl (Nat.le_of_ble_eq_true rfl) dX10_pour_30 ⟨Nat.le_of_ble_eq_true rfl, Nat.le_of_ble_eq_true rfl⟩) rfl rfl ?_
    have hs : sPourM ym ts nu x i to_ j m = (false, 1, nu) := by first | (simp [sPourM, poG, tN, hq_x, ne_eq]; done) | (simp [sPourM, poG, tN, hq_x, c_11]; done)
    refine j_zret (pc := 33) X (b2i_nar _) dX10_pour_33 ?_
    rw [hs]; exact ⟨rfl, rfl⟩
  · skip
    refine j_iload_n (pc := 14) X dX10_pour_14 rfl 1 rfl ?_
    refine j_iconst (pc := 15) X (v := nI 4) dX10_pour_15 (by decide) ?_
    refine j_icmp_ge (pc := 16) X (x := x) (z := nI 4) (tgt := 28) dX10_pour_16 (by decide) (fun c_16 => ?_) (fun c_16 => ?_)
    · skip
      have hq_x : inR x 4 = false := by simp [inR, c_16]
      refine j_aload_n (pc := 28) X dX10_pour_28 rfl 0 rfl ?_
      refine j_iconst (pc := 29) X (v := nI 1) dX10_pour_29 (by decide) ?_
      refine j_ci (pc := 30) X (ws' := [(z, .inr (10, [.int (nI 1), .int (nI 0), .long za, .long zb, .ref z4, .ref z5, .ref z6, .int (nI el), .int (nI be), .ref z9, .ref z10, .ref z11, .ref z12, .int (b2i gz), .ref z14, .ref z15, .ref z16, .int (nI mm), .int (nI tt), .ref z19, .ref z20, .ref z21, .ref z22, .ref z23, .int (nI gm), .ref z25, .ref z26, .ref z27, .ref z28, .int (nI rn), .ref z30, .ref z31, .ref z32])), kI G z4 4 (nF ts), kI G z5 4 (oF ym), kJ G z6 160 nu]) [0] rfl (j_rV X (b := z) (As := [.int (nI 1)]) (ci := 10) (rest := []) 1 (mX10_no l G z z4 z5 z6 z9 z10 z11 z12 z14 z15 z16 z19 z20 z21 z22 z23 z25 z26 z27 z28 z30 z31 z32 0 0 za zb el be gz mm tt gm rn 1 ) gX10_pour_X10_no rfl rfl rfl (by decide +kernel) ⟨Nat.le_of_ble_eq_true rfl, Nat.le_of_ble_eq_true rfl⟩ rfl rfl 0 rfl [0] rfl rfl rfl (Nat.le_of_ble_eq_true rfl) dX10_pour_30 ⟨Nat.le_of_ble_eq_true rfl, Nat.le_of_ble_eq_true rfl⟩) rfl rfl ?_
      have hs : sPourM ym ts nu x i to_ j m = (false, 1, nu) := by first | (simp [sPourM, poG, tN, hq_x, ne_eq]; done) | (simp [sPourM, poG, tN, hq_x, c_11, c_16]; done)
      refine j_zret (pc := 33) X (b2i_nar _) dX10_pour_33 ?_
      rw [hs]; exact ⟨rfl, rfl⟩
    · skip
      have hq_x : inR x 4 = true := (by simp [inR, c_11, c_16]); obtain ⟨a, ha, rfl⟩ := inR_of hq_x (by decide); have hq_ca := nI_clamp (n := a) (by omega)
      refine j_iload_n (pc := 19) X dX10_pour_19 rfl 3 rfl ?_
      refine j_if_lt (pc := 20) X (x := to_) (tgt := 28) dX10_pour_20 (by decide) (fun c_20 => ?_) (fun c_20 => ?_)
      · skip
        have hq_y : inR to_ 4 = false := by simp [inR, c_20]
        refine j_aload_n (pc := 28) X dX10_pour_28 rfl 0 rfl ?_
        refine j_iconst (pc := 29) X (v := nI 1) dX10_pour_29 (by decide) ?_
        refine j_ci (pc := 30) X (ws' := [(z, .inr (10, [.int (nI 1), .int (nI 0), .long za, .long zb, .ref z4, .ref z5, .ref z6, .int (nI el), .int (nI be), .ref z9, .ref z10, .ref z11, .ref z12, .int (b2i gz), .ref z14, .ref z15, .ref z16, .int (nI mm), .int (nI tt), .ref z19, .ref z20, .ref z21, .ref z22, .ref z23, .int (nI gm), .ref z25, .ref z26, .ref z27, .ref z28, .int (nI rn), .ref z30, .ref z31, .ref z32])), kI G z4 4 (nF ts), kI G z5 4 (oF ym), kJ G z6 160 nu]) [0] rfl (j_rV X (b := z) (As := [.int (nI 1)]) (ci := 10) (rest := []) 1 (mX10_no l G z z4 z5 z6 z9 z10 z11 z12 z14 z15 z16 z19 z20 z21 z22 z23 z25 z26 z27 z28 z30 z31 z32 0 0 za zb el be gz mm tt gm rn 1 ) gX10_pour_X10_no rfl rfl rfl (by decide +kernel) ⟨Nat.le_of_ble_eq_true rfl, Nat.le_of_ble_eq_true rfl⟩ rfl rfl 0 rfl [0] rfl rfl rfl (Nat.le_of_ble_eq_true rfl) dX10_pour_30 ⟨Nat.le_of_ble_eq_true rfl, Nat.le_of_ble_eq_true rfl⟩) rfl rfl ?_
        have hs : sPourM ym ts nu (nI a) i to_ j m = (false, 1, nu) := by first | (simp [sPourM, poG, tN, hq_x, hq_ca, hq_y, ne_eq]; done) | (simp [sPourM, poG, tN, hq_x, hq_ca, hq_y, c_11, c_16, c_20]; done)
        refine j_zret (pc := 33) X (b2i_nar _) dX10_pour_33 ?_
        rw [hs]; exact ⟨rfl, rfl⟩
      · skip
        refine j_iload_n (pc := 23) X dX10_pour_23 rfl 3 rfl ?_
        refine j_iconst (pc := 24) X (v := nI 4) dX10_pour_24 (by decide) ?_
        refine j_icmp_lt (pc := 25) X (x := to_) (z := nI 4) (tgt := 34) dX10_pour_25 (by decide) (fun c_25 => ?_) (fun c_25 => ?_)
        · skip
          have hq_y : inR to_ 4 = true := (by simp [inR, c_20, Int32.not_le.mpr c_25]); obtain ⟨b, hb, rfl⟩ := inR_of hq_y (by decide); have hq_cb := nI_clamp (n := b) (by omega)
          refine j_aload_n (pc := 34) X dX10_pour_34 rfl 0 rfl ?_
          refine j_get (pc := 35) X 10 i_X10 0 rfl rfl 5 (by decide) (by decide +kernel) rfl dX10_pour_35 ?_
          refine j_iload_n (pc := 38) X dX10_pour_38 rfl 1 rfl ?_
          refine j_iald (pc := 39) X 2 rfl (vp_in_nI (by omega) (by decide)) (v := oI (ym a)) (congrArg (oF ym) (nI_clamp (by omega))) dX10_pour_39 ?_
          refine j_ifO_lt (pc := 40) X (a := (ym a)) (by exact (hym _).big (by decide)) (tgt := 52) dX10_pour_40 (by decide) (fun c_40 => ?_) (fun c_40 => ?_)
          · skip
            have hq_a : msO ym a = true := msO_n c_40
            refine j_aload_n (pc := 52) X dX10_pour_52 rfl 0 rfl ?_
            refine j_iconst (pc := 53) X (v := nI 3) dX10_pour_53 (by decide) ?_
            refine j_ci (pc := 54) X (ws' := [(z, .inr (10, [.int (nI 3), .int (nI 0), .long za, .long zb, .ref z4, .ref z5, .ref z6, .int (nI el), .int (nI be), .ref z9, .ref z10, .ref z11, .ref z12, .int (b2i gz), .ref z14, .ref z15, .ref z16, .int (nI mm), .int (nI tt), .ref z19, .ref z20, .ref z21, .ref z22, .ref z23, .int (nI gm), .ref z25, .ref z26, .ref z27, .ref z28, .int (nI rn), .ref z30, .ref z31, .ref z32])), kI G z4 4 (nF ts), kI G z5 4 (oF ym), kJ G z6 160 nu]) [0] rfl (j_rV X (b := z) (As := [.int (nI 3)]) (ci := 10) (rest := []) 1 (mX10_no l G z z4 z5 z6 z9 z10 z11 z12 z14 z15 z16 z19 z20 z21 z22 z23 z25 z26 z27 z28 z30 z31 z32 0 0 za zb el be gz mm tt gm rn 3 ) gX10_pour_X10_no rfl rfl rfl (by decide +kernel) ⟨Nat.le_of_ble_eq_true rfl, Nat.le_of_ble_eq_true rfl⟩ rfl rfl 0 rfl [0] rfl rfl rfl (Nat.le_of_ble_eq_true rfl) dX10_pour_54 ⟨Nat.le_of_ble_eq_true rfl, Nat.le_of_ble_eq_true rfl⟩) rfl rfl ?_
            have hs : sPourM ym ts nu (nI a) i (nI b) j m = (false, 3, nu) := by first | (simp [sPourM, poG, tN, hq_x, hq_ca, hq_y, hq_cb, hq_a, ne_eq]; done) | (simp [sPourM, poG, tN, hq_x, hq_ca, hq_y, hq_cb, hq_a, c_11, c_16, c_20, c_25, c_40]; done)
            refine j_zret (pc := 57) X (b2i_nar _) dX10_pour_57 ?_
            rw [hs]; exact ⟨rfl, rfl⟩
          · skip
            obtain ⟨na, hna⟩ := Option.ne_none_iff_exists'.mp c_40; have hna41 := hym a na hna; have hq_a : msO ym a = false := msO_s hna; have hla : lnO ym a = na := lnO_s hna
            refine j_aload_n (pc := 43) X dX10_pour_43 rfl 0 rfl ?_
            refine j_get (pc := 44) X 10 i_X10 0 rfl rfl 5 (by decide) (by decide +kernel) rfl dX10_pour_44 ?_
            refine j_iload_n (pc := 47) X dX10_pour_47 rfl 3 rfl ?_
            refine j_iald (pc := 48) X 2 rfl (vp_in_nI (by omega) (by decide)) (v := oI (ym b)) (congrArg (oF ym) (nI_clamp (by omega))) dX10_pour_48 ?_
            refine j_ifO_ge (pc := 49) X (a := (ym b)) (by exact (hym _).big (by decide)) (tgt := 58) dX10_pour_49 (by decide) (fun c_49 => ?_) (fun c_49 => ?_)
            · skip
              obtain ⟨nb, hnb⟩ := Option.ne_none_iff_exists'.mp c_49; have hnb41 := hym b nb hnb; have hq_b : msO ym b = false := msO_s hnb; have hlb_ : lnO ym b = nb := lnO_s hnb
              refine j_aload_n (pc := 58) X dX10_pour_58 rfl 0 rfl ?_
              refine j_get (pc := 59) X 10 i_X10 0 rfl rfl 4 (by decide) (by decide +kernel) rfl dX10_pour_59 ?_
              refine j_iload_n (pc := 62) X dX10_pour_62 rfl 1 rfl ?_
              refine j_iald (pc := 63) X 1 rfl (vp_in_nI (by omega) (by decide)) (v := nI (ts a)) (congrArg (nF ts) (nI_clamp (by omega))) dX10_pour_63 ?_
              refine j_aload_n (pc := 64) X dX10_pour_64 rfl 0 rfl ?_
              refine j_get (pc := 65) X 10 i_X10 0 rfl rfl 4 (by decide) (by decide +kernel) rfl dX10_pour_65 ?_
              refine j_iload_n (pc := 68) X dX10_pour_68 rfl 3 rfl ?_
              refine j_iald (pc := 69) X 1 rfl (vp_in_nI (by omega) (by decide)) (v := nI (ts b)) (congrArg (nF ts) (nI_clamp (by omega))) dX10_pour_69 ?_
              refine j_icmpN_eq (pc := 70) X (a := (ts a)) (b := (ts b)) (by first | omega | exact Nat.lt_of_lt_of_le (hts_ _) (by decide)) (by first | omega | exact Nat.lt_of_lt_of_le (hts_ _) (by decide)) (tgt := 80) dX10_pour_70 (by decide) (fun c_70 => ?_) (fun c_70 => ?_)
              · skip
                have hq_s : ts a = ts b := c_70
                refine j_iload (pc := 80) X dX10_pour_80 5 rfl ?_
                refine j_if_ge (pc := 82) X (x := m) (tgt := 92) dX10_pour_82 (by decide) (fun c_82 => ?_) (fun c_82 => ?_)
                · skip
                  have hq_m : 0 ≤ m := c_82
                  refine j_iload_n (pc := 92) X dX10_pour_92 rfl 2 rfl ?_
                  refine j_if_lt (pc := 93) X (x := i) (tgt := 136) dX10_pour_93 (by decide) (fun c_93 => ?_) (fun c_93 => ?_)
                  · skip
                    have hq_i : hasP i m (lnO ym a) = false := hasP_neg c_93
                    refine j_aload_n (pc := 136) X dX10_pour_136 rfl 0 rfl ?_
                    refine j_iconst (pc := 137) X (v := nI 4) dX10_pour_137 (by decide) ?_
                    refine j_ci (pc := 138) X (ws' := [(z, .inr (10, [.int (nI 4), .int (nI 0), .long za, .long zb, .ref z4, .ref z5, .ref z6, .int (nI el), .int (nI be), .ref z9, .ref z10, .ref z11, .ref z12, .int (b2i gz), .ref z14, .ref z15, .ref z16, .int (nI mm), .int (nI tt), .ref z19, .ref z20, .ref z21, .ref z22, .ref z23, .int (nI gm), .ref z25, .ref z26, .ref z27, .ref z28, .int (nI rn), .ref z30, .ref z31, .ref z32])), kI G z4 4 (nF ts), kI G z5 4 (oF ym), kJ G z6 160 nu]) [0] rfl (j_rV X (b := z) (As := [.int (nI 4)]) (ci := 10) (rest := []) 1 (mX10_no l G z z4 z5 z6 z9 z10 z11 z12 z14 z15 z16 z19 z20 z21 z22 z23 z25 z26 z27 z28 z30 z31 z32 0 0 za zb el be gz mm tt gm rn 4 ) gX10_pour_X10_no rfl rfl rfl (by decide +kernel) ⟨Nat.le_of_ble_eq_true rfl, Nat.le_of_ble_eq_true rfl⟩ rfl rfl 0 rfl [0] rfl rfl rfl (Nat.le_of_ble_eq_true rfl) dX10_pour_138 ⟨Nat.le_of_ble_eq_true rfl, Nat.le_of_ble_eq_true rfl⟩) rfl rfl ?_
                    have hs : sPourM ym ts nu (nI a) i (nI b) j m = (false, 4, nu) := by first | (simp [sPourM, poG, tN, hq_x, hq_ca, hq_y, hq_cb, hq_a, hq_b, hq_s, hq_m, hq_i, ne_eq]; done) | (simp [sPourM, poG, tN, hq_x, hq_ca, hq_y, hq_cb, hq_a, hq_b, hq_s, hq_m, hq_i, c_11, c_16, c_20, c_25, c_40, c_49, c_70, c_82, c_93]; done)
                    refine j_zret (pc := 141) X (b2i_nar _) dX10_pour_141 ?_
                    rw [hs]; exact ⟨rfl, rfl⟩
                  · skip
                    refine j_iload (pc := 96) X dX10_pour_96 4 rfl ?_
                    refine j_if_lt (pc := 98) X (x := j) (tgt := 136) dX10_pour_98 (by decide) (fun c_98 => ?_) (fun c_98 => ?_)
                    · skip
                      have hq_i : hasP j m (lnO ym b) = false := hasP_neg c_98
                      refine j_aload_n (pc := 136) X dX10_pour_136 rfl 0 rfl ?_
                      refine j_iconst (pc := 137) X (v := nI 4) dX10_pour_137 (by decide) ?_
                      refine j_ci (pc := 138) X (ws' := [(z, .inr (10, [.int (nI 4), .int (nI 0), .long za, .long zb, .ref z4, .ref z5, .ref z6, .int (nI el), .int (nI be), .ref z9, .ref z10, .ref z11, .ref z12, .int (b2i gz), .ref z14, .ref z15, .ref z16, .int (nI mm), .int (nI tt), .ref z19, .ref z20, .ref z21, .ref z22, .ref z23, .int (nI gm), .ref z25, .ref z26, .ref z27, .ref z28, .int (nI rn), .ref z30, .ref z31, .ref z32])), kI G z4 4 (nF ts), kI G z5 4 (oF ym), kJ G z6 160 nu]) [0] rfl (j_rV X (b := z) (As := [.int (nI 4)]) (ci := 10) (rest := []) 1 (mX10_no l G z z4 z5 z6 z9 z10 z11 z12 z14 z15 z16 z19 z20 z21 z22 z23 z25 z26 z27 z28 z30 z31 z32 0 0 za zb el be gz mm tt gm rn 4 ) gX10_pour_X10_no rfl rfl rfl (by decide +kernel) ⟨Nat.le_of_ble_eq_true rfl, Nat.le_of_ble_eq_true rfl⟩ rfl rfl 0 rfl [0] rfl rfl rfl (Nat.le_of_ble_eq_true rfl) dX10_pour_138 ⟨Nat.le_of_ble_eq_true rfl, Nat.le_of_ble_eq_true rfl⟩) rfl rfl ?_
                      have hs : sPourM ym ts nu (nI a) i (nI b) j m = (false, 4, nu) := by first | (simp [sPourM, poG, tN, hq_x, hq_ca, hq_y, hq_cb, hq_a, hq_b, hq_s, hq_m, hq_i, ne_eq]; done) | (simp [sPourM, poG, tN, hq_x, hq_ca, hq_y, hq_cb, hq_a, hq_b, hq_s, hq_m, hq_i, c_11, c_16, c_20, c_25, c_40, c_49, c_70, c_82, c_93, c_98]; done)
                      refine j_zret (pc := 141) X (b2i_nar _) dX10_pour_141 ?_
                      rw [hs]; exact ⟨rfl, rfl⟩
                    · skip
                      obtain ⟨i2, hi2, rfl⟩ := nI_of c_93; obtain ⟨j2, hj2, rfl⟩ := nI_of c_98; obtain ⟨m2, hm2, rfl⟩ := nI_of (Int32.not_lt.mpr c_82); have hq_c1 := nI_clamp (n := i2) hi2; have hq_c2 := nI_clamp (n := j2) hj2; have hq_c3 := nI_clamp (n := m2) hm2
                      refine j_iload_n (pc := 101) X dX10_pour_101 rfl 2 rfl ?_
                      refine j_i2l (pc := 102) X (v := lN i2) dX10_pour_102 (nI_l hi2) ?_
                      refine j_iload (pc := 103) X dX10_pour_103 5 rfl ?_
                      refine j_i2l (pc := 105) X (v := lN m2) dX10_pour_105 (nI_l hm2) ?_
                      refine j_ladd (pc := 106) X dX10_pour_106 ?_
                      refine j_topl (z := lN (i2 + m2)) (lN_add _ _) ?_
                      refine j_aload_n (pc := 107) X dX10_pour_107 rfl 0 rfl ?_
                      refine j_get (pc := 108) X 10 i_X10 0 rfl rfl 5 (by decide) (by decide +kernel) rfl dX10_pour_108 ?_
                      refine j_iload_n (pc := 111) X dX10_pour_111 rfl 1 rfl ?_
                      refine j_iald (pc := 112) X 2 rfl (vp_in_nI (by omega) (by decide)) (v := nI na) ((congrArg (oF ym) (nI_clamp (by omega))).trans ((by show oI (ym a) = nI na; rw [hna]; rfl))) dX10_pour_112 ?_
                      refine j_i2l (pc := 113) X (v := lN na) dX10_pour_113 (nI_l (by omega)) ?_
                      refine j_lcmp (pc := 114) X dX10_pour_114 ?_
                      refine j_ifc_gt (pc := 115) X (tgt := 136) dX10_pour_115 (by decide) (fun c_115 => ?_) (fun c_115 => ?_)
                      · skip
                        have h115 := (pk_lLT (by omega) (by omega)).mp c_115; have hq_i : hasP (nI i2) (nI m2) (lnO ym a) = false := (by rw [hla]; exact hasP_big hi2 hm2 (by omega) h115)
                        refine j_aload_n (pc := 136) X dX10_pour_136 rfl 0 rfl ?_
                        refine j_iconst (pc := 137) X (v := nI 4) dX10_pour_137 (by decide) ?_
                        refine j_ci (pc := 138) X (ws' := [(z, .inr (10, [.int (nI 4), .int (nI 0), .long za, .long zb, .ref z4, .ref z5, .ref z6, .int (nI el), .int (nI be), .ref z9, .ref z10, .ref z11, .ref z12, .int (b2i gz), .ref z14, .ref z15, .ref z16, .int (nI mm), .int (nI tt), .ref z19, .ref z20, .ref z21, .ref z22, .ref z23, .int (nI gm), .ref z25, .ref z26, .ref z27, .ref z28, .int (nI rn), .ref z30, .ref z31, .ref z32])), kI G z4 4 (nF ts), kI G z5 4 (oF ym), kJ G z6 160 nu]) [0] rfl (j_rV X (b := z) (As := [.int (nI 4)]) (ci := 10) (rest := []) 1 (mX10_no l G z z4 z5 z6 z9 z10 z11 z12 z14 z15 z16 z19 z20 z21 z22 z23 z25 z26 z27 z28 z30 z31 z32 0 0 za zb el be gz mm tt gm rn 4 ) gX10_pour_X10_no rfl rfl rfl (by decide +kernel) ⟨Nat.le_of_ble_eq_true rfl, Nat.le_of_ble_eq_true rfl⟩ rfl rfl 0 rfl [0] rfl rfl rfl (Nat.le_of_ble_eq_true rfl) dX10_pour_138 ⟨Nat.le_of_ble_eq_true rfl, Nat.le_of_ble_eq_true rfl⟩) rfl rfl ?_
                        have hs : sPourM ym ts nu (nI a) (nI i2) (nI b) (nI j2) (nI m2) = (false, 4, nu) := by first | (simp [sPourM, poG, tN, hq_x, hq_ca, hq_y, hq_cb, hq_a, hq_b, hq_s, hq_m, hq_c1, hq_c2, hq_c3, hq_i, ne_eq]; done) | (simp [sPourM, poG, tN, hq_x, hq_ca, hq_y, hq_cb, hq_a, hq_b, hq_s, hq_m, hq_c1, hq_c2, hq_c3, hq_i, c_11, c_16, c_20, c_25, c_40, c_49, c_70, c_82, c_93, c_98, c_115]; done)
                        refine j_zret (pc := 141) X (b2i_nar _) dX10_pour_141 ?_
                        rw [hs]; exact ⟨rfl, rfl⟩
                      · skip
                        have h115 : i2 + m2 ≤ na := (by rcases Nat.lt_or_ge na (i2 + m2) with q | q; exact absurd ((pk_lLT (by omega) (by omega)).mpr q) c_115; exact q); have hq_i : hasP (nI i2) (nI m2) (lnO ym a) = true := (by rw [hla]; exact (hasP_nat hi2 hm2 (by omega)).mpr h115)
                        refine j_iload (pc := 118) X dX10_pour_118 4 rfl ?_
                        refine j_i2l (pc := 120) X (v := lN j2) dX10_pour_120 (nI_l hj2) ?_
                        refine j_iload (pc := 121) X dX10_pour_121 5 rfl ?_
                        refine j_i2l (pc := 123) X (v := lN m2) dX10_pour_123 (nI_l hm2) ?_
                        refine j_ladd (pc := 124) X dX10_pour_124 ?_
                        refine j_topl (z := lN (j2 + m2)) (lN_add _ _) ?_
                        refine j_aload_n (pc := 125) X dX10_pour_125 rfl 0 rfl ?_
                        refine j_get (pc := 126) X 10 i_X10 0 rfl rfl 5 (by decide) (by decide +kernel) rfl dX10_pour_126 ?_
                        refine j_iload_n (pc := 129) X dX10_pour_129 rfl 3 rfl ?_
                        refine j_iald (pc := 130) X 2 rfl (vp_in_nI (by omega) (by decide)) (v := nI nb) ((congrArg (oF ym) (nI_clamp (by omega))).trans ((by show oI (ym b) = nI nb; rw [hnb]; rfl))) dX10_pour_130 ?_
                        refine j_i2l (pc := 131) X (v := lN nb) dX10_pour_131 (nI_l (by omega)) ?_
                        refine j_lcmp (pc := 132) X dX10_pour_132 ?_
                        refine j_ifc_le (pc := 133) X (tgt := 142) dX10_pour_133 (by decide) (fun c_133 => ?_) (fun c_133 => ?_)
                        · skip
                          have h133 := (pk_lLE (by omega) (by omega)).mp c_133; have hq_j : hasP (nI j2) (nI m2) (lnO ym b) = true := (by rw [hlb_]; exact (hasP_nat hj2 hm2 (by omega)).mpr h133); have hS : sPourM ym ts nu (nI a) (nI i2) (nI b) (nI j2) (nI m2) = (true, 0, cpU nu (40 * a + i2) (40 * b + j2) m2) := (by simp [sPourM, poG, tN, hq_x, hq_y, hq_a, hq_b, hq_s, hq_m, hq_i, hq_j, hq_ca, hq_cb, hq_c1, hq_c2, hq_c3])
                          refine j_iload_n (pc := 142) X dX10_pour_142 rfl 2 rfl ?_
                          refine j_iload (pc := 143) X dX10_pour_143 4 rfl ?_
                          refine j_icmpN_ge (pc := 145) X (a := i2) (b := j2) (by first | omega | exact Nat.lt_of_lt_of_le (hts_ _) (by decide)) (by first | omega | exact Nat.lt_of_lt_of_le (hts_ _) (by decide)) (tgt := 152) dX10_pour_145 (by decide) (fun c_145 => ?_) (fun c_145 => ?_)
                          · skip
                            refine j_iconst (pc := 152) X (v := nI 0) dX10_pour_152 (by decide) ?_
                            refine j_istore (pc := 153) X (lv' := [(6, .int (nI 0)), (0, .ref z), (1, .int (nI a)), (2, .int (nI i2)), (3, .int (nI b)), (4, .int (nI j2)), (5, .int (nI m2))]) dX10_pour_153 (by decide) rfl ?_
                            refine j_iconst (pc := 155) X (v := nI 0) dX10_pour_155 (by decide) ?_
                            refine j_istore (pc := 156) X (lv' := [(7, .int (nI 0)), (6, .int (nI 0)), (0, .ref z), (1, .int (nI a)), (2, .int (nI i2)), (3, .int (nI b)), (4, .int (nI j2)), (5, .int (nI m2))]) dX10_pour_156 (by decide) rfl ?_
                            refine j_lv [2, 3, 4, 5, 6, 7, 1, 0] (lv' := [(0, .ref z), (1, .int (nI a)), (2, .int (nI i2)), (3, .int (nI b)), (4, .int (nI j2)), (5, .int (nI m2)), (6, .int (nI 0)), (7, .int (nI 0))]) rfl ?_
                            refine j_lvq (lv' := [(0, .ref z), (1, .int (nI a)), (2, .int (nI i2)), (3, .int (nI b)), (4, .int (nI j2)), (5, .int (nI m2)), (6, .int (b2i false)), (7, .int (nI 0))]) rfl ?_
                            refine j_ws (ws' := [(z, .inr (10, [.int (nI 0), .int (nI 0), .long za, .long zb, .ref z4, .ref z5, .ref z6, .int (nI el), .int (nI be), .ref z9, .ref z10, .ref z11, .ref z12, .int (b2i gz), .ref z14, .ref z15, .ref z16, .int (nI mm), .int (nI tt), .ref z19, .ref z20, .ref z21, .ref z22, .ref z23, .int (nI gm), .ref z25, .ref z26, .ref z27, .ref z28, .int (nI rn), .ref z30, .ref z31, .ref z32])), kI G z4 4 (nF ts), kI G z5 4 (oF ym), kJ G z6 160 (cpX false nu (40 * a + i2) (40 * b + j2) m2 0)]) ?_ ?_
                            · (rw [cpX_0])
                            exact mX10_pour_L158 l G z z4 z5 z6 z9 z10 z11 z12 z14 z15 z16 z19 z20 z21 z22 z23 z25 z26 z27 z28 z30 z31 z32 st th za zb el be gz mm tt gm rn ts ym nu (nI a) (nI i2) (nI b) (nI j2) (nI m2) hym hts_ κ X    (m2 - 0 + 1) a b i2 j2 m2 false 0 (rfl) (rfl) (rfl) (rfl) (rfl) (by omega) (by omega) (by omega) (by omega) (by first | exact (decide_eq_true (by omega)).symm | exact (decide_eq_false (by omega)).symm) (by omega) (hS) (Nat.lt_succ_self _)
                          · skip
                            refine j_iconst (pc := 148) X (v := nI 1) dX10_pour_148 (by decide) ?_
                            refine j_goto (pc := 149) X (tgt := 153) dX10_pour_149 (by decide) ?_
                            refine j_istore (pc := 153) X (lv' := [(6, .int (nI 1)), (0, .ref z), (1, .int (nI a)), (2, .int (nI i2)), (3, .int (nI b)), (4, .int (nI j2)), (5, .int (nI m2))]) dX10_pour_153 (by decide) rfl ?_
                            refine j_iconst (pc := 155) X (v := nI 0) dX10_pour_155 (by decide) ?_
                            refine j_istore (pc := 156) X (lv' := [(7, .int (nI 0)), (6, .int (nI 1)), (0, .ref z), (1, .int (nI a)), (2, .int (nI i2)), (3, .int (nI b)), (4, .int (nI j2)), (5, .int (nI m2))]) dX10_pour_156 (by decide) rfl ?_
                            refine j_lv [2, 3, 4, 5, 6, 7, 1, 0] (lv' := [(0, .ref z), (1, .int (nI a)), (2, .int (nI i2)), (3, .int (nI b)), (4, .int (nI j2)), (5, .int (nI m2)), (6, .int (nI 1)), (7, .int (nI 0))]) rfl ?_
                            refine j_lvq (lv' := [(0, .ref z), (1, .int (nI a)), (2, .int (nI i2)), (3, .int (nI b)), (4, .int (nI j2)), (5, .int (nI m2)), (6, .int (b2i true)), (7, .int (nI 0))]) rfl ?_
                            refine j_ws (ws' := [(z, .inr (10, [.int (nI 0), .int (nI 0), .long za, .long zb, .ref z4, .ref z5, .ref z6, .int (nI el), .int (nI be), .ref z9, .ref z10, .ref z11, .ref z12, .int (b2i gz), .ref z14, .ref z15, .ref z16, .int (nI mm), .int (nI tt), .ref z19, .ref z20, .ref z21, .ref z22, .ref z23, .int (nI gm), .ref z25, .ref z26, .ref z27, .ref z28, .int (nI rn), .ref z30, .ref z31, .ref z32])), kI G z4 4 (nF ts), kI G z5 4 (oF ym), kJ G z6 160 (cpX true nu (40 * a + i2) (40 * b + j2) m2 0)]) ?_ ?_
                            · (rw [cpX_0])
                            exact mX10_pour_L158 l G z z4 z5 z6 z9 z10 z11 z12 z14 z15 z16 z19 z20 z21 z22 z23 z25 z26 z27 z28 z30 z31 z32 st th za zb el be gz mm tt gm rn ts ym nu (nI a) (nI i2) (nI b) (nI j2) (nI m2) hym hts_ κ X    (m2 - 0 + 1) a b i2 j2 m2 true 0 (rfl) (rfl) (rfl) (rfl) (rfl) (by omega) (by omega) (by omega) (by omega) (by first | exact (decide_eq_true (by omega)).symm | exact (decide_eq_false (by omega)).symm) (by omega) (hS) (Nat.lt_succ_self _)
                        · skip
                          have h133 : nb < j2 + m2 := (by rcases Nat.lt_or_ge nb (j2 + m2) with q | q; exact q; exact absurd ((pk_lLE (by omega) (by omega)).mpr q) c_133); have hq_j : hasP (nI j2) (nI m2) (lnO ym b) = false := (by rw [hlb_]; exact hasP_big hj2 hm2 (by omega) h133)
                          refine j_aload_n (pc := 136) X dX10_pour_136 rfl 0 rfl ?_
                          refine j_iconst (pc := 137) X (v := nI 4) dX10_pour_137 (by decide) ?_
                          refine j_ci (pc := 138) X (ws' := [(z, .inr (10, [.int (nI 4), .int (nI 0), .long za, .long zb, .ref z4, .ref z5, .ref z6, .int (nI el), .int (nI be), .ref z9, .ref z10, .ref z11, .ref z12, .int (b2i gz), .ref z14, .ref z15, .ref z16, .int (nI mm), .int (nI tt), .ref z19, .ref z20, .ref z21, .ref z22, .ref z23, .int (nI gm), .ref z25, .ref z26, .ref z27, .ref z28, .int (nI rn), .ref z30, .ref z31, .ref z32])), kI G z4 4 (nF ts), kI G z5 4 (oF ym), kJ G z6 160 nu]) [0] rfl (j_rV X (b := z) (As := [.int (nI 4)]) (ci := 10) (rest := []) 1 (mX10_no l G z z4 z5 z6 z9 z10 z11 z12 z14 z15 z16 z19 z20 z21 z22 z23 z25 z26 z27 z28 z30 z31 z32 0 0 za zb el be gz mm tt gm rn 4 ) gX10_pour_X10_no rfl rfl rfl (by decide +kernel) ⟨Nat.le_of_ble_eq_true rfl, Nat.le_of_ble_eq_true rfl⟩ rfl rfl 0 rfl [0] rfl rfl rfl (Nat.le_of_ble_eq_true rfl) dX10_pour_138 ⟨Nat.le_of_ble_eq_true rfl, Nat.le_of_ble_eq_true rfl⟩) rfl rfl ?_
                          have hs : sPourM ym ts nu (nI a) (nI i2) (nI b) (nI j2) (nI m2) = (false, 4, nu) := by first | (simp [sPourM, poG, tN, hq_x, hq_ca, hq_y, hq_cb, hq_a, hq_b, hq_s, hq_m, hq_c1, hq_c2, hq_c3, hq_i, hq_j, ne_eq]; done) | (simp [sPourM, poG, tN, hq_x, hq_ca, hq_y, hq_cb, hq_a, hq_b, hq_s, hq_m, hq_c1, hq_c2, hq_c3, hq_i, hq_j, c_11, c_16, c_20, c_25, c_40, c_49, c_70, c_82, c_93, c_98, c_115, c_133]; done)
                          refine j_zret (pc := 141) X (b2i_nar _) dX10_pour_141 ?_
                          rw [hs]; exact ⟨rfl, rfl⟩
                · skip
                  have hq_m : ¬ 0 ≤ m := c_82
                  refine j_aload_n (pc := 85) X dX10_pour_85 rfl 0 rfl ?_
                  refine j_bipush (pc := 86) X (v := nI 6) dX10_pour_86 (by decide) ?_
                  refine j_ci (pc := 88) X (ws' := [(z, .inr (10, [.int (nI 6), .int (nI 0), .long za, .long zb, .ref z4, .ref z5, .ref z6, .int (nI el), .int (nI be), .ref z9, .ref z10, .ref z11, .ref z12, .int (b2i gz), .ref z14, .ref z15, .ref z16, .int (nI mm), .int (nI tt), .ref z19, .ref z20, .ref z21, .ref z22, .ref z23, .int (nI gm), .ref z25, .ref z26, .ref z27, .ref z28, .int (nI rn), .ref z30, .ref z31, .ref z32])), kI G z4 4 (nF ts), kI G z5 4 (oF ym), kJ G z6 160 nu]) [0] rfl (j_rV X (b := z) (As := [.int (nI 6)]) (ci := 10) (rest := []) 1 (mX10_no l G z z4 z5 z6 z9 z10 z11 z12 z14 z15 z16 z19 z20 z21 z22 z23 z25 z26 z27 z28 z30 z31 z32 0 0 za zb el be gz mm tt gm rn 6 ) gX10_pour_X10_no rfl rfl rfl (by decide +kernel) ⟨Nat.le_of_ble_eq_true rfl, Nat.le_of_ble_eq_true rfl⟩ rfl rfl 0 rfl [0] rfl rfl rfl (Nat.le_of_ble_eq_true rfl) dX10_pour_88 ⟨Nat.le_of_ble_eq_true rfl, Nat.le_of_ble_eq_true rfl⟩) rfl rfl ?_
                  have hs : sPourM ym ts nu (nI a) i (nI b) j m = (false, 6, nu) := by first | (simp [sPourM, poG, tN, hq_x, hq_ca, hq_y, hq_cb, hq_a, hq_b, hq_s, hq_m, ne_eq]; done) | (simp [sPourM, poG, tN, hq_x, hq_ca, hq_y, hq_cb, hq_a, hq_b, hq_s, hq_m, c_11, c_16, c_20, c_25, c_40, c_49, c_70, c_82]; done)
                  refine j_zret (pc := 91) X (b2i_nar _) dX10_pour_91 ?_
                  rw [hs]; exact ⟨rfl, rfl⟩
              · skip
                have hq_s : ¬ ts a = ts b := c_70
                refine j_aload_n (pc := 73) X dX10_pour_73 rfl 0 rfl ?_
                refine j_bipush (pc := 74) X (v := nI 11) dX10_pour_74 (by decide) ?_
                refine j_ci (pc := 76) X (ws' := [(z, .inr (10, [.int (nI 11), .int (nI 0), .long za, .long zb, .ref z4, .ref z5, .ref z6, .int (nI el), .int (nI be), .ref z9, .ref z10, .ref z11, .ref z12, .int (b2i gz), .ref z14, .ref z15, .ref z16, .int (nI mm), .int (nI tt), .ref z19, .ref z20, .ref z21, .ref z22, .ref z23, .int (nI gm), .ref z25, .ref z26, .ref z27, .ref z28, .int (nI rn), .ref z30, .ref z31, .ref z32])), kI G z4 4 (nF ts), kI G z5 4 (oF ym), kJ G z6 160 nu]) [0] rfl (j_rV X (b := z) (As := [.int (nI 11)]) (ci := 10) (rest := []) 1 (mX10_no l G z z4 z5 z6 z9 z10 z11 z12 z14 z15 z16 z19 z20 z21 z22 z23 z25 z26 z27 z28 z30 z31 z32 0 0 za zb el be gz mm tt gm rn 11 ) gX10_pour_X10_no rfl rfl rfl (by decide +kernel) ⟨Nat.le_of_ble_eq_true rfl, Nat.le_of_ble_eq_true rfl⟩ rfl rfl 0 rfl [0] rfl rfl rfl (Nat.le_of_ble_eq_true rfl) dX10_pour_76 ⟨Nat.le_of_ble_eq_true rfl, Nat.le_of_ble_eq_true rfl⟩) rfl rfl ?_
                have hs : sPourM ym ts nu (nI a) i (nI b) j m = (false, 11, nu) := by first | (simp [sPourM, poG, tN, hq_x, hq_ca, hq_y, hq_cb, hq_a, hq_b, hq_s, ne_eq]; done) | (simp [sPourM, poG, tN, hq_x, hq_ca, hq_y, hq_cb, hq_a, hq_b, hq_s, c_11, c_16, c_20, c_25, c_40, c_49, c_70]; done)
                refine j_zret (pc := 79) X (b2i_nar _) dX10_pour_79 ?_
                rw [hs]; exact ⟨rfl, rfl⟩
            · skip
              have hq_b : msO ym b = true := msO_n c_49
              refine j_aload_n (pc := 52) X dX10_pour_52 rfl 0 rfl ?_
              refine j_iconst (pc := 53) X (v := nI 3) dX10_pour_53 (by decide) ?_
              refine j_ci (pc := 54) X (ws' := [(z, .inr (10, [.int (nI 3), .int (nI 0), .long za, .long zb, .ref z4, .ref z5, .ref z6, .int (nI el), .int (nI be), .ref z9, .ref z10, .ref z11, .ref z12, .int (b2i gz), .ref z14, .ref z15, .ref z16, .int (nI mm), .int (nI tt), .ref z19, .ref z20, .ref z21, .ref z22, .ref z23, .int (nI gm), .ref z25, .ref z26, .ref z27, .ref z28, .int (nI rn), .ref z30, .ref z31, .ref z32])), kI G z4 4 (nF ts), kI G z5 4 (oF ym), kJ G z6 160 nu]) [0] rfl (j_rV X (b := z) (As := [.int (nI 3)]) (ci := 10) (rest := []) 1 (mX10_no l G z z4 z5 z6 z9 z10 z11 z12 z14 z15 z16 z19 z20 z21 z22 z23 z25 z26 z27 z28 z30 z31 z32 0 0 za zb el be gz mm tt gm rn 3 ) gX10_pour_X10_no rfl rfl rfl (by decide +kernel) ⟨Nat.le_of_ble_eq_true rfl, Nat.le_of_ble_eq_true rfl⟩ rfl rfl 0 rfl [0] rfl rfl rfl (Nat.le_of_ble_eq_true rfl) dX10_pour_54 ⟨Nat.le_of_ble_eq_true rfl, Nat.le_of_ble_eq_true rfl⟩) rfl rfl ?_
              have hs : sPourM ym ts nu (nI a) i (nI b) j m = (false, 3, nu) := by first | (simp [sPourM, poG, tN, hq_x, hq_ca, hq_y, hq_cb, hq_a, hq_b, ne_eq]; done) | (simp [sPourM, poG, tN, hq_x, hq_ca, hq_y, hq_cb, hq_a, hq_b, c_11, c_16, c_20, c_25, c_40, c_49]; done)
              refine j_zret (pc := 57) X (b2i_nar _) dX10_pour_57 ?_
              rw [hs]; exact ⟨rfl, rfl⟩
        · skip
          have hq_y : inR to_ 4 = false := by simp [inR, Int32.not_lt.mp c_25]
          refine j_aload_n (pc := 28) X dX10_pour_28 rfl 0 rfl ?_
          refine j_iconst (pc := 29) X (v := nI 1) dX10_pour_29 (by decide) ?_
          refine j_ci (pc := 30) X (ws' := [(z, .inr (10, [.int (nI 1), .int (nI 0), .long za, .long zb, .ref z4, .ref z5, .ref z6, .int (nI el), .int (nI be), .ref z9, .ref z10, .ref z11, .ref z12, .int (b2i gz), .ref z14, .ref z15, .ref z16, .int (nI mm), .int (nI tt), .ref z19, .ref z20, .ref z21, .ref z22, .ref z23, .int (nI gm), .ref z25, .ref z26, .ref z27, .ref z28, .int (nI rn), .ref z30, .ref z31, .ref z32])), kI G z4 4 (nF ts), kI G z5 4 (oF ym), kJ G z6 160 nu]) [0] rfl (j_rV X (b := z) (As := [.int (nI 1)]) (ci := 10) (rest := []) 1 (mX10_no l G z z4 z5 z6 z9 z10 z11 z12 z14 z15 z16 z19 z20 z21 z22 z23 z25 z26 z27 z28 z30 z31 z32 0 0 za zb el be gz mm tt gm rn 1 ) gX10_pour_X10_no rfl rfl rfl (by decide +kernel) ⟨Nat.le_of_ble_eq_true rfl, Nat.le_of_ble_eq_true rfl⟩ rfl rfl 0 rfl [0] rfl rfl rfl (Nat.le_of_ble_eq_true rfl) dX10_pour_30 ⟨Nat.le_of_ble_eq_true rfl, Nat.le_of_ble_eq_true rfl⟩) rfl rfl ?_
          have hs : sPourM ym ts nu (nI a) i to_ j m = (false, 1, nu) := by first | (simp [sPourM, poG, tN, hq_x, hq_ca, hq_y, ne_eq]; done) | (simp [sPourM, poG, tN, hq_x, hq_ca, hq_y, c_11, c_16, c_20, c_25]; done)
          refine j_zret (pc := 33) X (b2i_nar _) dX10_pour_33 ?_
          rw [hs]; exact ⟨rfl, rfl⟩
