set_option maxHeartbeats 4000000 in
set_option maxRecDepth 100000 in
theorem mX10_change_L201 (l : Launch) (G : jG) (z : Nat) (z4 : Nat) (z5 : Nat) (z6 : Nat) (z9 : Nat) (z10 : Nat) (z11 : Nat) (z12 : Nat) (z14 : Nat) (z15 : Nat) (z16 : Nat) (z19 : Nat) (z20 : Nat) (z21 : Nat) (z22 : Nat) (z23 : Nat) (z25 : Nat) (z26 : Nat) (z27 : Nat) (z28 : Nat) (z30 : Nat) (z31 : Nat) (z32 : Nat) (st : Nat) (th : Nat) (za : Int64) (zb : Int64) (el : Nat) (be : Nat) (gz : Bool) (mm : Nat) (tt : Nat) (gm : Nat) (rn : Nat) (gi : Nat → Option Nat) (pl : Nat → Nat) (le : Nat → Nat) (lb : Nat → Nat) (br : Nat → Bool) (sp : Nat → Nat) (fr : Nat → Bool) (x : Int32) (hel : el ≤ 12) (hle : ∀ k, le k ≤ 100) (hlb : ∀ k, lb k ≤ 100) (hgi : ∀ k, ob 12 (gi k)) (hbe : be ≤ 16) (hpl : ∀ k, pl k ≤ 4) (hgl_ : ∀ k, k < be → ob el (gi k)) (κ : jK) {A : Nat → Prop} {Q : State → Prop} (X : CX κ l yX10_change cX10_change 11 RX10 wsX10_change (some .int) ({ frames := 3, cells := 0, slots := 0, locals := 69 }) G A) (no162 : Nat) (hK162 : ∀ (b0 : Nat) (lf : Nat) (b1 : Nat → Bool) (s2 : Nat → Nat) (f1 : Nat → Bool) (n : Nat) (nw : Option Nat) (g1 : Nat → Option Nat) (hxb : x = nI b0) (hgz : gz = true) (hb0 : b0 < be) (hgl : gi b0 = some lf) (hb1 : b1 = va_up br (lf * 16 + b0) true) (hs2 : s2 = spN pl le lb b1 gi el be lf sp (be - 1)) (hne : ¬ s2 b0 = 1000) (hf1 : f1 = pf (isFr pl gi be lf) fr el) (hok : chOk gi s2 be n g1 nw) (hch : chF le lb b1 s2 f1 el be n g1 nw = chF le lb b1 s2 f1 el be (s2 b0) gi (some b0)) (_ : n < no162), JJ κ 11 G A 0 0 Q 162 [(0, .ref z), (5, .int (nI (s2 b0))), (6, .int (oI nw)), (7, .int (nI n))] [] [(z, .inr (10, [.int (nI 0), .int (nI 0), .long za, .long zb, .ref z4, .ref z5, .ref z6, .int (nI el), .int (nI be), .ref z9, .ref z10, .ref z11, .ref z12, .int (b2i gz), .ref z14, .ref z15, .ref z16, .int (nI mm), .int (nI tt), .ref z19, .ref z20, .ref z21, .ref z22, .ref z23, .int (nI gm), .ref z25, .ref z26, .ref z27, .ref z28, .int (nI rn), .ref z30, .ref z31, .ref z32])), kI G z14 16 (oF g1), kI G z9 12 (nF pl), kI G z10 192 (nF le), kI G z11 192 (nF lb), kZ G z12 192 (bF b1), kI G z16 16 (nF s2), kZ G z32 12 (bF f1)])  (b0 : Nat) (lf : Nat) (b1 : Nat → Bool) (s2 : Nat → Nat) (f1 : Nat → Bool) (n : Nat) (nw : Option Nat) (g1 : Nat → Option Nat) (hxb : x = nI b0) (hgz : gz = true) (hb0 : b0 < be) (hgl : gi b0 = some lf) (hb1 : b1 = va_up br (lf * 16 + b0) true) (hs2 : s2 = spN pl le lb b1 gi el be lf sp (be - 1)) (hne : ¬ s2 b0 = 1000) (hf1 : f1 = pf (isFr pl gi be lf) fr el) (hok : chOk gi s2 be n g1 nw) (hch : chF le lb b1 s2 f1 el be n g1 nw = chF le lb b1 s2 f1 el be (s2 b0) gi (some b0)) (hm162 : n < no162 + 1) : ∀ (fu : Nat) (j : Nat) (t : Nat) (m : Nat) (nx : Option Nat) (hn1 : 1 ≤ n) (hnj : nw = some j) (hj : j < be) (hsj : s2 j = n) (ht : ffn (tkB le lb b1 g1 s2 f1 be j n) el = some t) (htl : t < el) (hm : m ≤ be) (hnx : nx = fsd (nxP g1 s2 t n) m (be - m)) (hn2 : n ≤ 1 → nx = none) (_ : m < fu), JJ κ 11 G A 0 0 Q 201 [(0, .ref z), (5, .int (nI (s2 b0))), (6, .int (nI j)), (7, .int (nI n)), (8, .int (nI t)), (9, .int (oI nx)), (10, .int (oI (prd m)))] [] [(z, .inr (10, [.int (nI 0), .int (nI 0), .long za, .long zb, .ref z4, .ref z5, .ref z6, .int (nI el), .int (nI be), .ref z9, .ref z10, .ref z11, .ref z12, .int (b2i gz), .ref z14, .ref z15, .ref z16, .int (nI mm), .int (nI tt), .ref z19, .ref z20, .ref z21, .ref z22, .ref z23, .int (nI gm), .ref z25, .ref z26, .ref z27, .ref z28, .int (nI rn), .ref z30, .ref z31, .ref z32])), kI G z14 16 (oF g1), kI G z9 12 (nF pl), kI G z10 192 (nF le), kI G z11 192 (nF lb), kZ G z12 192 (bF b1), kI G z16 16 (nF s2), kZ G z32 12 (bF f1)] := by
  have i_X10 : ∀ w ∈ wsX100, w ∈ wsX10_change := by decide +kernel
  subst hxb
  intro fu
  induction fu with
  | zero => intro j t m nx hn1 hnj hj hsj ht htl hm hnx hn2 hms; exact absurd hms (Nat.not_lt_zero _)
  | succ fu ih =>
    intro j t m nx hn1 hnj hj hsj ht htl hm hnx hn2 hms
    refine j_iload (pc := 201) X dX10_change_201 6 rfl ?_
    refine j_ifO_lt (pc := 203) X (a := (prd m)) (by first | exact prd_ob (by omega) | exact (hok.2.2.2 _).big (by decide) | exact ob_s (by omega)) (tgt := 248) dX10_change_203 (by decide) (fun c_203 => ?_) (fun c_203 => ?_)
    · skip
      have hq_x : nx = nxC g1 s2 be t n := (by have h9 := prd_n c_203; rw [nxC]; split; exact hn2 (by omega); rw [hnx, h9, Nat.sub_zero, fsd_ffn])
      refine j_aload_n (pc := 248) X dX10_change_248 rfl 0 rfl ?_
      refine j_get (pc := 249) X 10 i_X10 0 rfl rfl 14 (by decide) (by decide +kernel) rfl dX10_change_249 ?_
      refine j_iload (pc := 252) X dX10_change_252 2 rfl ?_
      refine j_iload (pc := 254) X dX10_change_254 4 rfl ?_
      refine j_iast (pc := 256) X (f2 := (oF (va_up g1 j (some t)))) (ws' := [(z, .inr (10, [.int (nI 0), .int (nI 0), .long za, .long zb, .ref z4, .ref z5, .ref z6, .int (nI el), .int (nI be), .ref z9, .ref z10, .ref z11, .ref z12, .int (b2i gz), .ref z14, .ref z15, .ref z16, .int (nI mm), .int (nI tt), .ref z19, .ref z20, .ref z21, .ref z22, .ref z23, .int (nI gm), .ref z25, .ref z26, .ref z27, .ref z28, .int (nI rn), .ref z30, .ref z31, .ref z32])), kI G z14 16 (oF (va_up g1 j (some t))), kI G z9 12 (nF pl), kI G z10 192 (nF le), kI G z11 192 (nF lb), kZ G z12 192 (bF b1), kI G z16 16 (nF s2), kZ G z32 12 (bF f1)]) 1 rfl (vp_in_nI (by omega) (by decide)) dX10_change_256 (by rw [nI_clamp (by omega)]; exact oF_up g1 j (some t)) rfl ?_
      refine j_iload (pc := 257) X dX10_change_257 5 rfl ?_
      refine j_istore (pc := 259) X (lv' := [(6, .int (oI nx)), (0, .ref z), (5, .int (nI (s2 b0))), (7, .int (nI n)), (8, .int (nI t)), (9, .int (oI nx)), (10, .int (oI (prd m)))]) dX10_change_259 (by decide) rfl ?_
      refine j_iinc (pc := 261) X (v := nI (n - 1)) (lv' := [(7, .int (nI (n - 1))), (6, .int (oI nx)), (0, .ref z), (5, .int (nI (s2 b0))), (8, .int (nI t)), (9, .int (oI nx)), (10, .int (oI (prd m)))]) dX10_change_261 3 rfl (nI_dec (by omega)) (by decide) rfl ?_
      refine j_goto (pc := 264) X (tgt := 162) dX10_change_264 (by decide) ?_
      refine j_lv [2, 3, 1, 0] (lv' := [(0, .ref z), (5, .int (nI (s2 b0))), (6, .int (oI nx)), (7, .int (nI (n - 1)))]) rfl ?_
      exact hK162 b0 lf b1 s2 f1 (n - 1) nx (va_up g1 j (some t)) (rfl) (hgz) (by omega) (hgl) (hb1) (hs2) (hne) (hf1) (by rw [hq_x]; exact ch_nx hel (by rw [← hnj]; exact hok) hn1 ht) (by rw [hq_x, ← ch_st hn1 ht, ← hnj]; exact hch) (by omega)
    · skip
      obtain ⟨c, hq_c⟩ := Option.ne_none_iff_exists'.mp c_203; have hmc := prd_s hq_c
      refine j_lvq (lv' := [(0, .ref z), (5, .int (nI (s2 b0))), (6, .int (nI j)), (7, .int (nI n)), (8, .int (nI t)), (9, .int (oI nx)), (10, .int (nI c))]) (by rw [hq_c] <;> rfl) ?_
      refine j_iload (pc := 206) X dX10_change_206 3 rfl ?_
      refine j_iconst (pc := 208) X (v := nI 1) dX10_change_208 (by decide) ?_
      refine j_icmpN_le (pc := 209) X (a := n) (b := 1) (by first | omega | (have h9 := hok.1; omega) | (rw [hs2]; exact Nat.lt_of_le_of_lt (sp_le (by omega) (by omega)) (by decide))) (by first | omega | (have h9 := hok.1; omega) | (rw [hs2]; exact Nat.lt_of_le_of_lt (sp_le (by omega) (by omega)) (by decide))) (tgt := 248) dX10_change_209 (by decide) (fun c_209 => ?_) (fun c_209 => ?_)
      · skip
        have hq_x : nx = nxC g1 s2 be t n := (by rw [nxC, if_pos c_209]; exact hn2 c_209)
        refine j_aload_n (pc := 248) X dX10_change_248 rfl 0 rfl ?_
        refine j_get (pc := 249) X 10 i_X10 0 rfl rfl 14 (by decide) (by decide +kernel) rfl dX10_change_249 ?_
        refine j_iload (pc := 252) X dX10_change_252 2 rfl ?_
        refine j_iload (pc := 254) X dX10_change_254 4 rfl ?_
        refine j_iast (pc := 256) X (f2 := (oF (va_up g1 j (some t)))) (ws' := [(z, .inr (10, [.int (nI 0), .int (nI 0), .long za, .long zb, .ref z4, .ref z5, .ref z6, .int (nI el), .int (nI be), .ref z9, .ref z10, .ref z11, .ref z12, .int (b2i gz), .ref z14, .ref z15, .ref z16, .int (nI mm), .int (nI tt), .ref z19, .ref z20, .ref z21, .ref z22, .ref z23, .int (nI gm), .ref z25, .ref z26, .ref z27, .ref z28, .int (nI rn), .ref z30, .ref z31, .ref z32])), kI G z14 16 (oF (va_up g1 j (some t))), kI G z9 12 (nF pl), kI G z10 192 (nF le), kI G z11 192 (nF lb), kZ G z12 192 (bF b1), kI G z16 16 (nF s2), kZ G z32 12 (bF f1)]) 1 rfl (vp_in_nI (by omega) (by decide)) dX10_change_256 (by rw [nI_clamp (by omega)]; exact oF_up g1 j (some t)) rfl ?_
        refine j_iload (pc := 257) X dX10_change_257 5 rfl ?_
        refine j_istore (pc := 259) X (lv' := [(6, .int (oI nx)), (0, .ref z), (5, .int (nI (s2 b0))), (7, .int (nI n)), (8, .int (nI t)), (9, .int (oI nx)), (10, .int (nI c))]) dX10_change_259 (by decide) rfl ?_
        refine j_iinc (pc := 261) X (v := nI (n - 1)) (lv' := [(7, .int (nI (n - 1))), (6, .int (oI nx)), (0, .ref z), (5, .int (nI (s2 b0))), (8, .int (nI t)), (9, .int (oI nx)), (10, .int (nI c))]) dX10_change_261 3 rfl (nI_dec (by omega)) (by decide) rfl ?_
        refine j_goto (pc := 264) X (tgt := 162) dX10_change_264 (by decide) ?_
        refine j_lv [2, 3, 1, 0] (lv' := [(0, .ref z), (5, .int (nI (s2 b0))), (6, .int (oI nx)), (7, .int (nI (n - 1)))]) rfl ?_
        exact hK162 b0 lf b1 s2 f1 (n - 1) nx (va_up g1 j (some t)) (rfl) (hgz) (by omega) (hgl) (hb1) (hs2) (hne) (hf1) (by rw [hq_x]; exact ch_nx hel (by rw [← hnj]; exact hok) hn1 ht) (by rw [hq_x, ← ch_st hn1 ht, ← hnj]; exact hch) (by omega)
      · skip
        refine j_aload_n (pc := 212) X dX10_change_212 rfl 0 rfl ?_
        refine j_get (pc := 213) X 10 i_X10 0 rfl rfl 14 (by decide) (by decide +kernel) rfl dX10_change_213 ?_
        refine j_iload (pc := 216) X dX10_change_216 6 rfl ?_
        refine j_iald (pc := 218) X 1 rfl (vp_in_nI (by omega) (by decide)) (v := oI (g1 c)) (congrArg (oF g1) (nI_clamp (by omega))) dX10_change_218 ?_
        refine j_iload (pc := 219) X dX10_change_219 4 rfl ?_
        refine j_icmpO_ne (pc := 221) X (a := (g1 c)) (b := (some t)) (by first | exact prd_ob (by omega) | exact (hok.2.2.2 _).big (by decide) | exact ob_s (by omega)) (by first | exact prd_ob (by omega) | exact (hok.2.2.2 _).big (by decide) | exact ob_s (by omega)) (tgt := 242) dX10_change_221 (by decide) (fun c_221 => ?_) (fun c_221 => ?_)
        · skip
          refine j_iinc (pc := 242) X (v := oI (prd c)) (lv' := [(10, .int (oI (prd c))), (0, .ref z), (5, .int (nI (s2 b0))), (6, .int (nI j)), (7, .int (nI n)), (8, .int (nI t)), (9, .int (oI nx))]) dX10_change_242 6 rfl (prd_dec c) (by decide) rfl ?_
          refine j_goto (pc := 245) X (tgt := 201) dX10_change_245 (by decide) ?_
          refine j_lv [1, 2, 3, 4, 5, 6, 0] (lv' := [(0, .ref z), (5, .int (nI (s2 b0))), (6, .int (nI j)), (7, .int (nI n)), (8, .int (nI t)), (9, .int (oI nx)), (10, .int (oI (prd c)))]) rfl ?_
          exact ih j t c nx (by omega) (hnj) (by omega) (hsj) (ht) (by omega) (by omega) (by rw [show be - c = (be - m) + 1 by omega, fsd, ← hmc]; first | (rw [if_pos (by simp [nxP, ne_eq, ne_eq, c_221]; done)]; done) | (rw [if_neg (by simp [nxP, ne_eq, ne_eq, c_221]; done)]; exact hnx)) (fun h9 => absurd h9 c_209) (by omega)
        · skip
          refine j_aload_n (pc := 224) X dX10_change_224 rfl 0 rfl ?_
          refine j_get (pc := 225) X 10 i_X10 0 rfl rfl 16 (by decide) (by decide +kernel) rfl dX10_change_225 ?_
          refine j_iload (pc := 228) X dX10_change_228 6 rfl ?_
          refine j_iald (pc := 230) X 6 rfl (vp_in_nI (by omega) (by decide)) (v := nI (s2 c)) (congrArg (nF s2) (nI_clamp (by omega))) dX10_change_230 ?_
          refine j_iload (pc := 231) X dX10_change_231 3 rfl ?_
          refine j_iconst (pc := 233) X (v := nI 1) dX10_change_233 (by decide) ?_
          refine j_isub (pc := 234) X dX10_change_234 ?_
          refine j_topi (z := nI (n - 1)) (pk_sub (by omega)) ?_
          refine j_icmpN_ne (pc := 235) X (a := (s2 c)) (b := (n - 1)) (by first | omega | (have h9 := hok.1; omega) | (rw [hs2]; exact Nat.lt_of_le_of_lt (sp_le (by omega) (by omega)) (by decide))) (by first | omega | (have h9 := hok.1; omega) | (rw [hs2]; exact Nat.lt_of_le_of_lt (sp_le (by omega) (by omega)) (by decide))) (tgt := 242) dX10_change_235 (by decide) (fun c_235 => ?_) (fun c_235 => ?_)
          · skip
            refine j_iinc (pc := 242) X (v := oI (prd c)) (lv' := [(10, .int (oI (prd c))), (0, .ref z), (5, .int (nI (s2 b0))), (6, .int (nI j)), (7, .int (nI n)), (8, .int (nI t)), (9, .int (oI nx))]) dX10_change_242 6 rfl (prd_dec c) (by decide) rfl ?_
            refine j_goto (pc := 245) X (tgt := 201) dX10_change_245 (by decide) ?_
            refine j_lv [1, 2, 3, 4, 5, 6, 0] (lv' := [(0, .ref z), (5, .int (nI (s2 b0))), (6, .int (nI j)), (7, .int (nI n)), (8, .int (nI t)), (9, .int (oI nx)), (10, .int (oI (prd c)))]) rfl ?_
            exact ih j t c nx (by omega) (hnj) (by omega) (hsj) (ht) (by omega) (by omega) (by rw [show be - c = (be - m) + 1 by omega, fsd, ← hmc]; first | (rw [if_pos (by simp [nxP, ne_eq, ne_eq, c_221, c_235]; done)]; done) | (rw [if_neg (by simp [nxP, ne_eq, ne_eq, c_221, c_235]; done)]; exact hnx)) (fun h9 => absurd h9 c_209) (by omega)
          · skip
            refine j_iload (pc := 238) X dX10_change_238 6 rfl ?_
            refine j_istore (pc := 240) X (lv' := [(9, .int (nI c)), (0, .ref z), (5, .int (nI (s2 b0))), (6, .int (nI j)), (7, .int (nI n)), (8, .int (nI t)), (10, .int (nI c))]) dX10_change_240 (by decide) rfl ?_
            refine j_iinc (pc := 242) X (v := oI (prd c)) (lv' := [(10, .int (oI (prd c))), (9, .int (nI c)), (0, .ref z), (5, .int (nI (s2 b0))), (6, .int (nI j)), (7, .int (nI n)), (8, .int (nI t))]) dX10_change_242 6 rfl (prd_dec c) (by decide) rfl ?_
            refine j_goto (pc := 245) X (tgt := 201) dX10_change_245 (by decide) ?_
            refine j_lv [2, 3, 4, 5, 6, 1, 0] (lv' := [(0, .ref z), (5, .int (nI (s2 b0))), (6, .int (nI j)), (7, .int (nI n)), (8, .int (nI t)), (9, .int (nI c)), (10, .int (oI (prd c)))]) rfl ?_
            refine j_lvq (lv' := [(0, .ref z), (5, .int (nI (s2 b0))), (6, .int (nI j)), (7, .int (nI n)), (8, .int (nI t)), (9, .int (oI (some c))), (10, .int (oI (prd c)))]) rfl ?_
            exact ih j t c (some c) (by omega) (hnj) (by omega) (hsj) (ht) (by omega) (by omega) (by rw [show be - c = (be - m) + 1 by omega, fsd, ← hmc]; first | (rw [if_pos (by simp [nxP, ne_eq, ne_eq, c_221, c_235]; done)]; done) | (rw [if_neg (by simp [nxP, ne_eq, ne_eq, c_221, c_235]; done)]; exact hnx)) (fun h9 => absurd h9 c_209) (by omega)
