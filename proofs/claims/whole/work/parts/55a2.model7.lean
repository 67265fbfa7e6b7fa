set_option maxHeartbeats 4000000 in
set_option maxRecDepth 100000 in
theorem mX10_takes_L36 (l : Launch) (G : jG) (z : Nat) (z4 : Nat) (z5 : Nat) (z6 : Nat) (z9 : Nat) (z10 : Nat) (z11 : Nat) (z12 : Nat) (z14 : Nat) (z15 : Nat) (z16 : Nat) (z19 : Nat) (z20 : Nat) (z21 : Nat) (z22 : Nat) (z23 : Nat) (z25 : Nat) (z26 : Nat) (z27 : Nat) (z28 : Nat) (z30 : Nat) (z31 : Nat) (z32 : Nat) (st : Nat) (th : Nat) (za : Int64) (zb : Int64) (el : Nat) (be : Nat) (gz : Bool) (mm : Nat) (tt : Nat) (gm : Nat) (rn : Nat) (gi : Nat → Option Nat) (le : Nat → Nat) (lb : Nat → Nat) (br : Nat → Bool) (sp : Nat → Nat) (fr : Nat → Bool) (b : Nat) (e : Nat) (n : Nat) (hel : el ≤ 12) (hle : ∀ k, le k ≤ 100) (hlb : ∀ k, lb k ≤ 100) (hgi : ∀ k, ob 12 (gi k)) (hbe : be ≤ 16) (hb : b < 16) (he : e < 12) (hn0 : 1 ≤ n) (hn : n ≤ 16) (hsp : ∀ k, k < be → sp k ≤ 1000) (κ : jK) (X : CX κ l yX10_takes cX10_takes 5 RX10 wsX10_takes (some .boolean) ({ frames := 1, cells := 0, slots := 0, locals := 23 }) G (va_A [(z, .inr (10, [.int (nI st), .int (nI th), .long za, .long zb, .ref z4, .ref z5, .ref z6, .int (nI el), .int (nI be), .ref z9, .ref z10, .ref z11, .ref z12, .int (b2i gz), .ref z14, .ref z15, .ref z16, .int (nI mm), .int (nI tt), .ref z19, .ref z20, .ref z21, .ref z22, .ref z23, .int (nI gm), .ref z25, .ref z26, .ref z27, .ref z28, .int (nI rn), .ref z30, .ref z31, .ref z32])), kI G z14 16 (oF gi), kI G z10 192 (nF le), kI G z11 192 (nF lb), kZ G z12 192 (bF br), kI G z16 16 (nF sp), kZ G z32 12 (bF fr)] (js κ).heap.size))    : ∀ (fu : Nat) (c : Nat) (hc : c ≤ be) (hma : mayM le lb br gi b e = true) (hn1 : ¬ n = 1) (hff : anyN (nxP gi sp e n) c = false) (_ : be - c < fu), JJ κ 5 G (va_A [(z, .inr (10, [.int (nI st), .int (nI th), .long za, .long zb, .ref z4, .ref z5, .ref z6, .int (nI el), .int (nI be), .ref z9, .ref z10, .ref z11, .ref z12, .int (b2i gz), .ref z14, .ref z15, .ref z16, .int (nI mm), .int (nI tt), .ref z19, .ref z20, .ref z21, .ref z22, .ref z23, .int (nI gm), .ref z25, .ref z26, .ref z27, .ref z28, .int (nI rn), .ref z30, .ref z31, .ref z32])), kI G z14 16 (oF gi), kI G z10 192 (nF le), kI G z11 192 (nF lb), kZ G z12 192 (bF br), kI G z16 16 (nF sp), kZ G z32 12 (bF fr)] (js κ).heap.size) 0 0 (jQ κ G [(z, .inr (10, [.int (nI st), .int (nI th), .long za, .long zb, .ref z4, .ref z5, .ref z6, .int (nI el), .int (nI be), .ref z9, .ref z10, .ref z11, .ref z12, .int (b2i gz), .ref z14, .ref z15, .ref z16, .int (nI mm), .int (nI tt), .ref z19, .ref z20, .ref z21, .ref z22, .ref z23, .int (nI gm), .ref z25, .ref z26, .ref z27, .ref z28, .int (nI rn), .ref z30, .ref z31, .ref z32])), kI G z14 16 (oF gi), kI G z10 192 (nF le), kI G z11 192 (nF lb), kZ G z12 192 (bF br), kI G z16 16 (nF sp), kZ G z32 12 (bF fr)] (fun r w' => r = some (.int (b2i (tkB le lb br gi sp fr be b n e))) ∧ w' = [(z, .inr (10, [.int (nI st), .int (nI th), .long za, .long zb, .ref z4, .ref z5, .ref z6, .int (nI el), .int (nI be), .ref z9, .ref z10, .ref z11, .ref z12, .int (b2i gz), .ref z14, .ref z15, .ref z16, .int (nI mm), .int (nI tt), .ref z19, .ref z20, .ref z21, .ref z22, .ref z23, .int (nI gm), .ref z25, .ref z26, .ref z27, .ref z28, .int (nI rn), .ref z30, .ref z31, .ref z32])), kI G z14 16 (oF gi), kI G z10 192 (nF le), kI G z11 192 (nF lb), kZ G z12 192 (bF br), kI G z16 16 (nF sp), kZ G z32 12 (bF fr)]) 0 0) 36 [(0, .ref z), (2, .int (nI e)), (3, .int (nI n)), (4, .int (nI c))] [] [(z, .inr (10, [.int (nI st), .int (nI th), .long za, .long zb, .ref z4, .ref z5, .ref z6, .int (nI el), .int (nI be), .ref z9, .ref z10, .ref z11, .ref z12, .int (b2i gz), .ref z14, .ref z15, .ref z16, .int (nI mm), .int (nI tt), .ref z19, .ref z20, .ref z21, .ref z22, .ref z23, .int (nI gm), .ref z25, .ref z26, .ref z27, .ref z28, .int (nI rn), .ref z30, .ref z31, .ref z32])), kI G z14 16 (oF gi), kI G z10 192 (nF le), kI G z11 192 (nF lb), kZ G z12 192 (bF br), kI G z16 16 (nF sp), kZ G z32 12 (bF fr)] := by
  have i_X10 : ∀ w ∈ wsX100, w ∈ wsX10_takes := by decide +kernel
  intro fu
  induction fu with
  | zero => intro c hc hma hn1 hff hms; exact absurd hms (Nat.not_lt_zero _)
  | succ fu ih =>
    intro c hc hma hn1 hff hms
    refine j_iload (pc := 36) X dX10_takes_36 3 rfl ?_
    refine j_aload_n (pc := 38) X dX10_takes_38 rfl 0 rfl ?_
    refine j_get (pc := 39) X 10 i_X10 0 rfl rfl 8 (by decide) (by decide +kernel) rfl dX10_takes_39 ?_
    refine j_icmpN_ge (pc := 42) X (a := c) (b := be) (by first | omega | (have h9 := hsp c (by omega); omega)) (by first | omega | (have h9 := hsp c (by omega); omega)) (tgt := 77) dX10_takes_42 (by decide) (fun c_42 => ?_) (fun c_42 => ?_)
    · skip
      refine j_iconst (pc := 77) X (v := nI 0) dX10_takes_77 (by decide) ?_
      exact j_zret (pc := 78) X (rfl) dX10_takes_78 ⟨r0 (by rw [tkB, if_neg hn1, show be = c by omega, hff, Bool.and_false]), rfl⟩
    · skip
      refine j_aload_n (pc := 45) X dX10_takes_45 rfl 0 rfl ?_
      refine j_get (pc := 46) X 10 i_X10 0 rfl rfl 14 (by decide) (by decide +kernel) rfl dX10_takes_46 ?_
      refine j_iload (pc := 49) X dX10_takes_49 3 rfl ?_
      refine j_iald (pc := 51) X 1 rfl (vp_in_nI (by omega) (by decide)) (v := oI (gi c)) (congrArg (oF gi) (nI_clamp (by omega))) dX10_takes_51 ?_
      refine j_iload_n (pc := 52) X dX10_takes_52 rfl 1 rfl ?_
      refine j_icmpO_ne (pc := 53) X (a := (gi c)) (b := (some e)) (by first | exact ob_n | exact ob_s (by omega) | exact (hgi _).big (by decide)) (by first | exact ob_n | exact ob_s (by omega) | exact (hgi _).big (by decide)) (tgt := 71) dX10_takes_53 (by decide) (fun c_53 => ?_) (fun c_53 => ?_)
      · skip
        refine j_iinc (pc := 71) X (v := nI (c + 1)) (lv' := [(4, .int (nI (c + 1))), (0, .ref z), (2, .int (nI e)), (3, .int (nI n))]) dX10_takes_71 3 rfl (nI_1 _) (by decide) rfl ?_
        refine j_goto (pc := 74) X (tgt := 36) dX10_takes_74 (by decide) ?_
        refine j_lv [1, 2, 3, 0] (lv' := [(0, .ref z), (2, .int (nI e)), (3, .int (nI n)), (4, .int (nI (c + 1)))]) rfl ?_
        exact ih (c + 1) (by omega) (hma) (hn1) (by simp [anyN, nxP, hff, c_42, c_53]) (by omega)
      · skip
        refine j_aload_n (pc := 56) X dX10_takes_56 rfl 0 rfl ?_
        refine j_get (pc := 57) X 10 i_X10 0 rfl rfl 16 (by decide) (by decide +kernel) rfl dX10_takes_57 ?_
        refine j_iload (pc := 60) X dX10_takes_60 3 rfl ?_
        refine j_iald (pc := 62) X 5 rfl (vp_in_nI (by omega) (by decide)) (v := nI (sp c)) (congrArg (nF sp) (nI_clamp (by omega))) dX10_takes_62 ?_
        refine j_iload_n (pc := 63) X dX10_takes_63 rfl 2 rfl ?_
        refine j_iconst (pc := 64) X (v := nI 1) dX10_takes_64 (by decide) ?_
        refine j_isub (pc := 65) X dX10_takes_65 ?_
        refine j_topi (z := nI (n - 1)) (pk_sub (by omega)) ?_
        refine j_icmpN_ne (pc := 66) X (a := (sp c)) (b := (n - 1)) (by first | omega | (have h9 := hsp c (by omega); omega)) (by first | omega | (have h9 := hsp c (by omega); omega)) (tgt := 71) dX10_takes_66 (by decide) (fun c_66 => ?_) (fun c_66 => ?_)
        · skip
          refine j_iinc (pc := 71) X (v := nI (c + 1)) (lv' := [(4, .int (nI (c + 1))), (0, .ref z), (2, .int (nI e)), (3, .int (nI n))]) dX10_takes_71 3 rfl (nI_1 _) (by decide) rfl ?_
          refine j_goto (pc := 74) X (tgt := 36) dX10_takes_74 (by decide) ?_
          refine j_lv [1, 2, 3, 0] (lv' := [(0, .ref z), (2, .int (nI e)), (3, .int (nI n)), (4, .int (nI (c + 1)))]) rfl ?_
          exact ih (c + 1) (by omega) (hma) (hn1) (by simp [anyN, nxP, hff, c_42, c_53, c_66]) (by omega)
        · skip
          refine j_iconst (pc := 69) X (v := nI 1) dX10_takes_69 (by decide) ?_
          exact j_zret (pc := 70) X (rfl) dX10_takes_70 ⟨r1 (by rw [tkB, hma, if_neg hn1, anyN_iff.mpr ⟨c, by omega, by simp [nxP, c_42, c_53, c_66]⟩]; rfl), rfl⟩
set_option maxHeartbeats 4000000 in
set_option maxRecDepth 100000 in
theorem mX10_takes (l : Launch) (G : jG) (z : Nat) (z4 : Nat) (z5 : Nat) (z6 : Nat) (z9 : Nat) (z10 : Nat) (z11 : Nat) (z12 : Nat) (z14 : Nat) (z15 : Nat) (z16 : Nat) (z19 : Nat) (z20 : Nat) (z21 : Nat) (z22 : Nat) (z23 : Nat) (z25 : Nat) (z26 : Nat) (z27 : Nat) (z28 : Nat) (z30 : Nat) (z31 : Nat) (z32 : Nat) (st : Nat) (th : Nat) (za : Int64) (zb : Int64) (el : Nat) (be : Nat) (gz : Bool) (mm : Nat) (tt : Nat) (gm : Nat) (rn : Nat) (gi : Nat → Option Nat) (le : Nat → Nat) (lb : Nat → Nat) (br : Nat → Bool) (sp : Nat → Nat) (fr : Nat → Bool) (b : Nat) (e : Nat) (n : Nat) (hel : el ≤ 12) (hle : ∀ k, le k ≤ 100) (hlb : ∀ k, lb k ≤ 100) (hgi : ∀ k, ob 12 (gi k)) (hbe : be ≤ 16) (hb : b < 16) (he : e < 12) (hn0 : 1 ≤ n) (hn : n ≤ 16) (hsp : ∀ k, k < be → sp k ≤ 1000) : MV l yX10_takes wsX10_takes ({ frames := 1, cells := 0, slots := 0, locals := 23 }) G [.ref z, .int (nI b), .int (nI e), .int (nI n)] [(z, .inr (10, [.int (nI st), .int (nI th), .long za, .long zb, .ref z4, .ref z5, .ref z6, .int (nI el), .int (nI be), .ref z9, .ref z10, .ref z11, .ref z12, .int (b2i gz), .ref z14, .ref z15, .ref z16, .int (nI mm), .int (nI tt), .ref z19, .ref z20, .ref z21, .ref z22, .ref z23, .int (nI gm), .ref z25, .ref z26, .ref z27, .ref z28, .int (nI rn), .ref z30, .ref z31, .ref z32])), kI G z14 16 (oF gi), kI G z10 192 (nF le), kI G z11 192 (nF lb), kZ G z12 192 (bF br), kI G z16 16 (nF sp), kZ G z32 12 (bF fr)] (some (.int (b2i (tkB le lb br gi sp fr be b n e)))) [(z, .inr (10, [.int (nI st), .int (nI th), .long za, .long zb, .ref z4, .ref z5, .ref z6, .int (nI el), .int (nI be), .ref z9, .ref z10, .ref z11, .ref z12, .int (b2i gz), .ref z14, .ref z15, .ref z16, .int (nI mm), .int (nI tt), .ref z19, .ref z20, .ref z21, .ref z22, .ref z23, .int (nI gm), .ref z25, .ref z26, .ref z27, .ref z28, .int (nI rn), .ref z30, .ref z31, .ref z32])), kI G z14 16 (oF gi), kI G z10 192 (nF le), kI G z11 192 (nF lb), kZ G z12 192 (bF br), kI G z16 16 (nF sp), kZ G z32 12 (bF fr)] := by
  refine MF.ofJ (cc := cX10_takes) (maxL := 5) (ret := (some .boolean)) (own := RX10) (lv := [(0, .ref z), (1, .int (nI b)), (2, .int (nI e)), (3, .int (nI n))]) (by decide) rfl rfl (Nat.le_of_ble_eq_true rfl) rfl ?_
  intro κ X
  have i_X10 : ∀ w ∈ wsX100, w ∈ wsX10_takes := by decide +kernel
  refine j_iload_n (pc := 0) X dX10_takes_0 rfl 2 rfl ?_
  refine j_aload_n (pc := 1) X dX10_takes_1 rfl 0 rfl ?_
  refine j_get (pc := 2) X 10 i_X10 0 rfl rfl 14 (by decide) (by decide +kernel) rfl dX10_takes_2 ?_
  refine j_iload_n (pc := 5) X dX10_takes_5 rfl 1 rfl ?_
  refine j_iald (pc := 6) X 1 rfl (vp_in_nI (by omega) (by decide)) (v := oI (gi b)) (congrArg (oF gi) (nI_clamp (by omega))) dX10_takes_6 ?_
  refine j_icmpO_eq (pc := 7) X (a := (some e)) (b := (gi b)) (by first | exact ob_n | exact ob_s (by omega) | exact (hgi _).big (by decide)) (by first | exact ob_n | exact ob_s (by omega) | exact (hgi _).big (by decide)) (tgt := 19) dX10_takes_7 (by decide) (fun c_7 => ?_) (fun c_7 => ?_)
  · skip
    refine j_iconst (pc := 19) X (v := nI 0) dX10_takes_19 (by decide) ?_
    exact j_zret (pc := 20) X (rfl) dX10_takes_20 ⟨r0 (by simp [tkB, mayM, c_7]), rfl⟩
  · skip
    refine j_aload_n (pc := 10) X dX10_takes_10 rfl 0 rfl ?_
    refine j_iload_n (pc := 11) X dX10_takes_11 rfl 2 rfl ?_
    refine j_iload_n (pc := 12) X dX10_takes_12 rfl 1 rfl ?_
    refine j_ciP (pc := 13) X [0, 2, 3, 4] rfl (j_rV X (b := z) (As := [.int (nI e), .int (nI b)]) (ci := 10) (rest := []) 2 (mX10_can l G z z4 z5 z6 z9 z10 z11 z12 z14 z15 z16 z19 z20 z21 z22 z23 z25 z26 z27 z28 z30 z31 z32 st th za zb el be gz mm tt gm rn le lb br e b (by first | assumption | omega | exact ob_s (by omega) | exact ob_n) (by first | assumption | omega | exact ob_s (by omega) | exact ob_n) (by first | assumption | omega | exact ob_s (by omega) | exact ob_n) (by first | assumption | omega | exact ob_s (by omega) | exact ob_n)) gX10_takes_X10_can rfl rfl rfl (by decide +kernel) ⟨Nat.le_of_ble_eq_true rfl, Nat.le_of_ble_eq_true rfl⟩ rfl rfl 0 rfl [0, 2, 3, 4] rfl rfl rfl (Nat.le_of_ble_eq_true rfl) dX10_takes_13 ⟨Nat.le_of_ble_eq_true rfl, Nat.le_of_ble_eq_true rfl⟩) ?_
    refine j_ifb_ne (pc := 16) X (B := canB le lb br e b) (tgt := 21) dX10_takes_16 (by decide) (fun c_16 => ?_) (fun c_16 => ?_)
    · skip
      refine j_iload_n (pc := 21) X dX10_takes_21 rfl 3 rfl ?_
      refine j_iconst (pc := 22) X (v := nI 1) dX10_takes_22 (by decide) ?_
      refine j_icmpN_ne (pc := 23) X (a := n) (b := 1) (by omega) (by omega) (tgt := 33) dX10_takes_23 (by decide) (fun c_23 => ?_) (fun c_23 => ?_)
      · skip
        refine j_iconst (pc := 33) X (v := nI 0) dX10_takes_33 (by decide) ?_
        refine j_istore (pc := 34) X (lv' := [(4, .int (nI 0)), (0, .ref z), (1, .int (nI b)), (2, .int (nI e)), (3, .int (nI n))]) dX10_takes_34 (by decide) rfl ?_
        refine j_lv [1, 3, 4, 0] (lv' := [(0, .ref z), (2, .int (nI e)), (3, .int (nI n)), (4, .int (nI 0))]) rfl ?_
        exact mX10_takes_L36 l G z z4 z5 z6 z9 z10 z11 z12 z14 z15 z16 z19 z20 z21 z22 z23 z25 z26 z27 z28 z30 z31 z32 st th za zb el be gz mm tt gm rn gi le lb br sp fr b e n hel hle hlb hgi hbe hb he hn0 hn hsp κ X    (be - 0 + 1) 0 (by omega) (by simp [mayM, c_7, c_16]) (c_23) (by rfl) (Nat.lt_succ_self _)
      · skip
        refine j_aload_n (pc := 26) X dX10_takes_26 rfl 0 rfl ?_
        refine j_get (pc := 27) X 10 i_X10 0 rfl rfl 32 (by decide) (by decide +kernel) rfl dX10_takes_27 ?_
        refine j_iload_n (pc := 30) X dX10_takes_30 rfl 2 rfl ?_
        refine j_zald (pc := 31) X 6 rfl (vp_in_nI (by omega) (by decide)) (v := b2i (fr e)) (congrArg (bF fr) (nI_clamp (by omega))) dX10_takes_31 ?_
        exact j_zret (pc := 32) X (b2i_nar _) dX10_takes_32 ⟨by simp [tkB, mayM, c_7, c_16, c_23], rfl⟩
    · skip
      refine j_iconst (pc := 19) X (v := nI 0) dX10_takes_19 (by decide) ?_
      exact j_zret (pc := 20) X (rfl) dX10_takes_20 ⟨r0 (by simp [tkB, mayM, c_7, c_16]), rfl⟩
