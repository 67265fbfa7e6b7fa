set_option maxHeartbeats 4000000 in
set_option maxRecDepth 100000 in
theorem mX10_countSteps_L33 (l : Launch) (G : jG) (z : Nat) (z4 : Nat) (z5 : Nat) (z6 : Nat) (z9 : Nat) (z10 : Nat) (z11 : Nat) (z12 : Nat) (z14 : Nat) (z15 : Nat) (z16 : Nat) (z19 : Nat) (z20 : Nat) (z21 : Nat) (z22 : Nat) (z23 : Nat) (z25 : Nat) (z26 : Nat) (z27 : Nat) (z28 : Nat) (z30 : Nat) (z31 : Nat) (z32 : Nat) (st : Nat) (th : Nat) (za : Int64) (zb : Int64) (el : Nat) (be : Nat) (gz : Bool) (mm : Nat) (tt : Nat) (gm : Nat) (rn : Nat) (gi : Nat → Option Nat) (pl : Nat → Nat) (le : Nat → Nat) (lb : Nat → Nat) (br : Nat → Bool) (sp : Nat → Nat) (lf : Nat) (hel : el ≤ 12) (hle : ∀ k, le k ≤ 100) (hlb : ∀ k, lb k ≤ 100) (hgi : ∀ k, ob 12 (gi k)) (hbe : be ≤ 16) (hpl : ∀ k, pl k ≤ 4) (hlf : lf < 12) (hcn : 1 ≤ cntO gi lf be) (hb1 : 1 ≤ be) (κ : jK) {A : Nat → Prop} {Q : State → Prop} (X : CX κ l yX10_countSteps cX10_countSteps 5 RX10 wsX10_countSteps none ({ frames := 2, cells := 0, slots := 0, locals := 45 }) G A) (no2 : Nat) (hK2 : ∀ (b : Nat) (hb : b ≤ be) (_ : be - b < no2), JJ κ 5 G A 0 0 Q 2 [(0, .ref z), (1, .int (nI lf)), (2, .int (nI b))] [] [(z, .inr (10, [.int (nI st), .int (nI th), .long za, .long zb, .ref z4, .ref z5, .ref z6, .int (nI el), .int (nI be), .ref z9, .ref z10, .ref z11, .ref z12, .int (b2i gz), .ref z14, .ref z15, .ref z16, .int (nI mm), .int (nI tt), .ref z19, .ref z20, .ref z21, .ref z22, .ref z23, .int (nI gm), .ref z25, .ref z26, .ref z27, .ref z28, .int (nI rn), .ref z30, .ref z31, .ref z32])), kI G z14 16 (oF gi), kI G z9 12 (nF pl), kI G z10 192 (nF le), kI G z11 192 (nF lb), kZ G z12 192 (bF br), kI G z16 16 (nF (pf (st1 pl le lb br gi el be lf) sp b))])  (b : Nat) (hb : b ≤ be) (hm2 : be - b < no2 + 1) : ∀ (fu : Nat) (e : Nat) (he : e ≤ el) (hbb : b < be) (hg : ¬ gi b = none) (_ : el - e < fu), JJ κ 5 G A 0 0 Q 33 [(0, .ref z), (1, .int (nI lf)), (2, .int (nI b)), (3, .int (nI e))] [] [(z, .inr (10, [.int (nI st), .int (nI th), .long za, .long zb, .ref z4, .ref z5, .ref z6, .int (nI el), .int (nI be), .ref z9, .ref z10, .ref z11, .ref z12, .int (b2i gz), .ref z14, .ref z15, .ref z16, .int (nI mm), .int (nI tt), .ref z19, .ref z20, .ref z21, .ref z22, .ref z23, .int (nI gm), .ref z25, .ref z26, .ref z27, .ref z28, .int (nI rn), .ref z30, .ref z31, .ref z32])), kI G z14 16 (oF gi), kI G z9 12 (nF pl), kI G z10 192 (nF le), kI G z11 192 (nF lb), kZ G z12 192 (bF br), kI G z16 16 (nF (va_up (pf (st1 pl le lb br gi el be lf) sp b) b (if anyN (tmB pl le lb br gi be lf b) e = true then 1 else 1000)))] := by
  have i_X10 : ∀ w ∈ wsX100, w ∈ wsX10_countSteps := by decide +kernel
  intro fu
  induction fu with
  | zero => intro e he hbb hg hms; exact absurd hms (Nat.not_lt_zero _)
  | succ fu ih =>
    intro e he hbb hg hms
    refine j_iload_n (pc := 33) X dX10_countSteps_33 rfl 3 rfl ?_
    refine j_aload_n (pc := 34) X dX10_countSteps_34 rfl 0 rfl ?_
    refine j_get (pc := 35) X 10 i_X10 0 rfl rfl 7 (by decide) (by decide +kernel) rfl dX10_countSteps_35 ?_
    refine j_icmpN_ge (pc := 38) X (a := e) (b := el) (by omega) (by omega) (tgt := 82) dX10_countSteps_38 (by decide) (fun c_38 => ?_) (fun c_38 => ?_)
    · skip
      refine j_iinc (pc := 82) X (v := nI (b + 1)) (lv' := [(2, .int (nI (b + 1))), (0, .ref z), (1, .int (nI lf)), (3, .int (nI e))]) dX10_countSteps_82 2 rfl (nI_1 _) (by decide) rfl ?_
      refine j_goto (pc := 85) X (tgt := 2) dX10_countSteps_85 (by decide) ?_
      refine j_lv [1, 2, 0] (lv' := [(0, .ref z), (1, .int (nI lf)), (2, .int (nI (b + 1)))]) rfl ?_
      refine j_ws (ws' := [(z, .inr (10, [.int (nI st), .int (nI th), .long za, .long zb, .ref z4, .ref z5, .ref z6, .int (nI el), .int (nI be), .ref z9, .ref z10, .ref z11, .ref z12, .int (b2i gz), .ref z14, .ref z15, .ref z16, .int (nI mm), .int (nI tt), .ref z19, .ref z20, .ref z21, .ref z22, .ref z23, .int (nI gm), .ref z25, .ref z26, .ref z27, .ref z28, .int (nI rn), .ref z30, .ref z31, .ref z32])), kI G z14 16 (oF gi), kI G z9 12 (nF pl), kI G z10 192 (nF le), kI G z11 192 (nF lb), kZ G z12 192 (bF br), kI G z16 16 (nF (pf (st1 pl le lb br gi el be lf) sp (b + 1)))]) ?_ ?_
      · (rw [← pf_s, show e = el by omega]; simp only [st1, if_neg hg])
      exact hK2 (b + 1) (by omega) (by omega)
    · skip
      refine j_iload_n (pc := 41) X dX10_countSteps_41 rfl 3 rfl ?_
      refine j_aload_n (pc := 42) X dX10_countSteps_42 rfl 0 rfl ?_
      refine j_get (pc := 43) X 10 i_X10 0 rfl rfl 14 (by decide) (by decide +kernel) rfl dX10_countSteps_43 ?_
      refine j_iload_n (pc := 46) X dX10_countSteps_46 rfl 2 rfl ?_
      refine j_iald (pc := 47) X 1 rfl (vp_in_nI (by omega) (by decide)) (v := oI (gi b)) (congrArg (oF gi) (nI_clamp (by omega))) dX10_countSteps_47 ?_
      refine j_icmpO_eq (pc := 48) X (a := (some e)) (b := (gi b)) (by first | exact ob_n | exact ob_s (by omega) | exact (hgi _).big (by decide)) (by first | exact ob_n | exact ob_s (by omega) | exact (hgi _).big (by decide)) (tgt := 76) dX10_countSteps_48 (by decide) (fun c_48 => ?_) (fun c_48 => ?_)
      · skip
        refine j_iinc (pc := 76) X (v := nI (e + 1)) (lv' := [(3, .int (nI (e + 1))), (0, .ref z), (1, .int (nI lf)), (2, .int (nI b))]) dX10_countSteps_76 3 rfl (nI_1 _) (by decide) rfl ?_
        refine j_goto (pc := 79) X (tgt := 33) dX10_countSteps_79 (by decide) ?_
        refine j_lv [1, 2, 3, 0] (lv' := [(0, .ref z), (1, .int (nI lf)), (2, .int (nI b)), (3, .int (nI (e + 1)))]) rfl ?_
        refine j_ws (ws' := [(z, .inr (10, [.int (nI st), .int (nI th), .long za, .long zb, .ref z4, .ref z5, .ref z6, .int (nI el), .int (nI be), .ref z9, .ref z10, .ref z11, .ref z12, .int (b2i gz), .ref z14, .ref z15, .ref z16, .int (nI mm), .int (nI tt), .ref z19, .ref z20, .ref z21, .ref z22, .ref z23, .int (nI gm), .ref z25, .ref z26, .ref z27, .ref z28, .int (nI rn), .ref z30, .ref z31, .ref z32])), kI G z14 16 (oF gi), kI G z9 12 (nF pl), kI G z10 192 (nF le), kI G z11 192 (nF lb), kZ G z12 192 (bF br), kI G z16 16 (nF (va_up (pf (st1 pl le lb br gi el be lf) sp b) b (if anyN (tmB pl le lb br gi be lf b) (e + 1) = true then 1 else 1000)))]) ?_ ?_
        · (simp [anyN, tmB, mayM, up_up, c_38, c_48])
        exact ih (e + 1) (by omega) (by omega) (hg) (by omega)
      · skip
        refine j_aload_n (pc := 51) X dX10_countSteps_51 rfl 0 rfl ?_
        refine j_iload_n (pc := 52) X dX10_countSteps_52 rfl 3 rfl ?_
        refine j_iload_n (pc := 53) X dX10_countSteps_53 rfl 2 rfl ?_
        refine j_ciP (pc := 54) X [0, 3, 4, 5] rfl (j_rV X (b := z) (As := [.int (nI e), .int (nI b)]) (ci := 10) (rest := []) 2 (mX10_can l G z z4 z5 z6 z9 z10 z11 z12 z14 z15 z16 z19 z20 z21 z22 z23 z25 z26 z27 z28 z30 z31 z32 st th za zb el be gz mm tt gm rn le lb br e b (by first | assumption | omega | exact ob_s (by omega) | exact ob_n) (by first | assumption | omega | exact ob_s (by omega) | exact ob_n) (by first | assumption | omega | exact ob_s (by omega) | exact ob_n) (by first | assumption | omega | exact ob_s (by omega) | exact ob_n)) gX10_countSteps_X10_can rfl rfl rfl (by decide +kernel) ⟨Nat.le_of_ble_eq_true rfl, Nat.le_of_ble_eq_true rfl⟩ rfl rfl 0 rfl [0, 3, 4, 5] rfl rfl rfl (Nat.le_of_ble_eq_true rfl) dX10_countSteps_54 ⟨Nat.le_of_ble_eq_true rfl, Nat.le_of_ble_eq_true rfl⟩) ?_
        refine j_ifb_eq (pc := 57) X (B := canB le lb br e b) (tgt := 76) dX10_countSteps_57 (by decide) (fun c_57 => ?_) (fun c_57 => ?_)
        · skip
          refine j_iinc (pc := 76) X (v := nI (e + 1)) (lv' := [(3, .int (nI (e + 1))), (0, .ref z), (1, .int (nI lf)), (2, .int (nI b))]) dX10_countSteps_76 3 rfl (nI_1 _) (by decide) rfl ?_
          refine j_goto (pc := 79) X (tgt := 33) dX10_countSteps_79 (by decide) ?_
          refine j_lv [1, 2, 3, 0] (lv' := [(0, .ref z), (1, .int (nI lf)), (2, .int (nI b)), (3, .int (nI (e + 1)))]) rfl ?_
          refine j_ws (ws' := [(z, .inr (10, [.int (nI st), .int (nI th), .long za, .long zb, .ref z4, .ref z5, .ref z6, .int (nI el), .int (nI be), .ref z9, .ref z10, .ref z11, .ref z12, .int (b2i gz), .ref z14, .ref z15, .ref z16, .int (nI mm), .int (nI tt), .ref z19, .ref z20, .ref z21, .ref z22, .ref z23, .int (nI gm), .ref z25, .ref z26, .ref z27, .ref z28, .int (nI rn), .ref z30, .ref z31, .ref z32])), kI G z14 16 (oF gi), kI G z9 12 (nF pl), kI G z10 192 (nF le), kI G z11 192 (nF lb), kZ G z12 192 (bF br), kI G z16 16 (nF (va_up (pf (st1 pl le lb br gi el be lf) sp b) b (if anyN (tmB pl le lb br gi be lf b) (e + 1) = true then 1 else 1000)))]) ?_ ?_
          · (simp [anyN, tmB, mayM, up_up, c_38, c_48, c_57])
          exact ih (e + 1) (by omega) (by omega) (hg) (by omega)
        · skip
          refine j_aload_n (pc := 60) X dX10_countSteps_60 rfl 0 rfl ?_
          refine j_iload_n (pc := 61) X dX10_countSteps_61 rfl 3 rfl ?_
          refine j_iload_n (pc := 62) X dX10_countSteps_62 rfl 1 rfl ?_
          refine j_ciP (pc := 63) X [0, 1, 2] rfl (j_rV X (b := z) (As := [.int (nI e), .int (nI lf)]) (ci := 10) (rest := []) 2 (mX10_isFree l G z z4 z5 z6 z9 z10 z11 z12 z14 z15 z16 z19 z20 z21 z22 z23 z25 z26 z27 z28 z30 z31 z32 st th za zb el be gz mm tt gm rn gi pl e lf (by first | assumption | omega | exact ob_s (by omega) | exact ob_n) (by first | assumption | omega | exact ob_s (by omega) | exact ob_n) (by first | assumption | omega | exact ob_s (by omega) | exact ob_n) (by first | assumption | omega | exact ob_s (by omega) | exact ob_n) (by first | assumption | omega | exact ob_s (by omega) | exact ob_n) (by first | assumption | omega | exact ob_s (by omega) | exact ob_n)) gX10_countSteps_X10_isFree rfl rfl rfl (by decide +kernel) ⟨Nat.le_of_ble_eq_true rfl, Nat.le_of_ble_eq_true rfl⟩ rfl rfl 0 rfl [0, 1, 2] rfl rfl rfl (Nat.le_of_ble_eq_true rfl) dX10_countSteps_63 ⟨Nat.le_of_ble_eq_true rfl, Nat.le_of_ble_eq_true rfl⟩) ?_
          refine j_ifb_eq (pc := 66) X (B := isFr pl gi be lf e) (tgt := 76) dX10_countSteps_66 (by decide) (fun c_66 => ?_) (fun c_66 => ?_)
          · skip
            refine j_iinc (pc := 76) X (v := nI (e + 1)) (lv' := [(3, .int (nI (e + 1))), (0, .ref z), (1, .int (nI lf)), (2, .int (nI b))]) dX10_countSteps_76 3 rfl (nI_1 _) (by decide) rfl ?_
            refine j_goto (pc := 79) X (tgt := 33) dX10_countSteps_79 (by decide) ?_
            refine j_lv [1, 2, 3, 0] (lv' := [(0, .ref z), (1, .int (nI lf)), (2, .int (nI b)), (3, .int (nI (e + 1)))]) rfl ?_
            refine j_ws (ws' := [(z, .inr (10, [.int (nI st), .int (nI th), .long za, .long zb, .ref z4, .ref z5, .ref z6, .int (nI el), .int (nI be), .ref z9, .ref z10, .ref z11, .ref z12, .int (b2i gz), .ref z14, .ref z15, .ref z16, .int (nI mm), .int (nI tt), .ref z19, .ref z20, .ref z21, .ref z22, .ref z23, .int (nI gm), .ref z25, .ref z26, .ref z27, .ref z28, .int (nI rn), .ref z30, .ref z31, .ref z32])), kI G z14 16 (oF gi), kI G z9 12 (nF pl), kI G z10 192 (nF le), kI G z11 192 (nF lb), kZ G z12 192 (bF br), kI G z16 16 (nF (va_up (pf (st1 pl le lb br gi el be lf) sp b) b (if anyN (tmB pl le lb br gi be lf b) (e + 1) = true then 1 else 1000)))]) ?_ ?_
            · (simp [anyN, tmB, mayM, up_up, c_38, c_48, c_57, c_66])
            exact ih (e + 1) (by omega) (by omega) (hg) (by omega)
          · skip
            refine j_aload_n (pc := 69) X dX10_countSteps_69 rfl 0 rfl ?_
            refine j_get (pc := 70) X 10 i_X10 0 rfl rfl 16 (by decide) (by decide +kernel) rfl dX10_countSteps_70 ?_
            refine j_iload_n (pc := 73) X dX10_countSteps_73 rfl 2 rfl ?_
            refine j_iconst (pc := 74) X (v := nI 1) dX10_countSteps_74 (by decide) ?_
            refine j_iast (pc := 75) X (f2 := (nF (va_up (va_up (pf (st1 pl le lb br gi el be lf) sp b) b (if anyN (tmB pl le lb br gi be lf b) e = true then 1 else 1000)) b 1))) (ws' := [(z, .inr (10, [.int (nI st), .int (nI th), .long za, .long zb, .ref z4, .ref z5, .ref z6, .int (nI el), .int (nI be), .ref z9, .ref z10, .ref z11, .ref z12, .int (b2i gz), .ref z14, .ref z15, .ref z16, .int (nI mm), .int (nI tt), .ref z19, .ref z20, .ref z21, .ref z22, .ref z23, .int (nI gm), .ref z25, .ref z26, .ref z27, .ref z28, .int (nI rn), .ref z30, .ref z31, .ref z32])), kI G z14 16 (oF gi), kI G z9 12 (nF pl), kI G z10 192 (nF le), kI G z11 192 (nF lb), kZ G z12 192 (bF br), kI G z16 16 (nF (va_up (va_up (pf (st1 pl le lb br gi el be lf) sp b) b (if anyN (tmB pl le lb br gi be lf b) e = true then 1 else 1000)) b 1))]) 6 rfl (vp_in_nI (by omega) (by decide)) dX10_countSteps_75 (by rw [nI_clamp (by omega)]; exact nF_up (va_up (pf (st1 pl le lb br gi el be lf) sp b) b (if anyN (tmB pl le lb br gi be lf b) e = true then 1 else 1000)) b 1) rfl ?_
            refine j_iinc (pc := 76) X (v := nI (e + 1)) (lv' := [(3, .int (nI (e + 1))), (0, .ref z), (1, .int (nI lf)), (2, .int (nI b))]) dX10_countSteps_76 3 rfl (nI_1 _) (by decide) rfl ?_
            refine j_goto (pc := 79) X (tgt := 33) dX10_countSteps_79 (by decide) ?_
            refine j_lv [1, 2, 3, 0] (lv' := [(0, .ref z), (1, .int (nI lf)), (2, .int (nI b)), (3, .int (nI (e + 1)))]) rfl ?_
            refine j_ws (ws' := [(z, .inr (10, [.int (nI st), .int (nI th), .long za, .long zb, .ref z4, .ref z5, .ref z6, .int (nI el), .int (nI be), .ref z9, .ref z10, .ref z11, .ref z12, .int (b2i gz), .ref z14, .ref z15, .ref z16, .int (nI mm), .int (nI tt), .ref z19, .ref z20, .ref z21, .ref z22, .ref z23, .int (nI gm), .ref z25, .ref z26, .ref z27, .ref z28, .int (nI rn), .ref z30, .ref z31, .ref z32])), kI G z14 16 (oF gi), kI G z9 12 (nF pl), kI G z10 192 (nF le), kI G z11 192 (nF lb), kZ G z12 192 (bF br), kI G z16 16 (nF (va_up (pf (st1 pl le lb br gi el be lf) sp b) b (if anyN (tmB pl le lb br gi be lf b) (e + 1) = true then 1 else 1000)))]) ?_ ?_
            · (simp [anyN, tmB, mayM, up_up, c_38, c_48, c_57, c_66])
            exact ih (e + 1) (by omega) (by omega) (hg) (by omega)
