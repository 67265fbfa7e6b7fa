set_option maxHeartbeats 4000000 in
set_option maxRecDepth 100000 in
theorem law_c8 (l : Launch) (G : jG) (qx qy qc qc0 qc1 qc2 qc3 qp qp0 qp1 qr qr0 qr1 qm qm0 qm1 qm2 qm3 qm4 qg qg0 qg1 qg2 qg3 qu qu0 qu1 ql ql0 ql1 qf z z4 z5 z6 z9 z10 z11 z12 z14 z15 z16 z19 z20 z21 z22 z23 z25 z26 z27 z28 z30 z31 z32 : Nat) (tA nA : Nat → Nat) (lt : Nat) (th : Nat) (ms : Nat → Bool) (so : Nat → Nat) (ln : Nat → Nat) (u : Nat → Nat → Int64) (ym : Nat → Option Nat) (ts : Nat → Nat) (nu : Nat → Int64) (el : Nat) (be : Nat) (pl : Nat → Nat) (le : Nat → Nat) (lb : Nat → Nat) (br : Nat → Bool) (gv : Bool) (eb : Nat → Option Nat) (gi : Nat → Option Nat) (la : Nat → Option Nat) (ak : Nat → Nat) (qv : Nat → Nat) (tr : Nat → Option Nat) (qd : Nat) (fi : Option Nat) (fe : Option Nat) (sp : Nat → Nat) (fr : Nat → Bool) (mm : Nat) (tt : Nat) (mb : Nat → Nat) (md : Nat → Nat) (tm : Nat → Nat) (td : Nat → Nat) (tk : Nat → Bool) (gm : Nat) (gb : Nat → Nat) (gd : Nat → Nat) (gh : Nat → Option Nat) (gc : Nat → Option Nat) (rn : Nat) (mo : Nat → Nat) (re : Nat → Bool) (tn : Nat) (f1 : Nat → Int64) (f2 : Nat → Int64) (fa : Int64) (fb : Int64) (κ : jK) {A : Nat → Prop} {Q : State → Prop} {y : MethodName} (X : CX κ l y cL_law 4 RL wsL_law ret room_1 G A) {b L i : Nat} {xs : Nat → Int32} (hX : va_X b L xs (js κ) (js κ).heap) (hbl : b < (js κ).heap.size) (hbA : ¬ A b) (hL : L ≤ 3072) (hi : i + 6 ≤ L) (R : lwR lt th ms so ln u ym ts nu el be pl le lb br gv eb gi la ak qv tr qd fi fe sp fr mm tt mb md tm td tk gm gb gd gh gc rn mo re tn f1 f2 fa fb) (K : lwK κ G A Q qx qy qc qc0 qc1 qc2 qc3 qp qp0 qp1 qr qr0 qr1 qm qm0 qm1 qm2 qm3 qm4 qg qg0 qg1 qg2 qg3 qu qu0 qu1 ql ql0 ql1 qf z z4 z5 z6 z9 z10 z11 z12 z14 z15 z16 z19 z20 z21 z22 z23 z25 z26 z27 z28 z30 z31 z32 tA nA b i) : JJ κ 4 G A 62 4221 Q 463 [(0, .ref b), (1, .ref qx), (2, .ref z), (3, .int (nI i))] [] (lwW G qx qy qc qc0 qc1 qc2 qc3 qp qp0 qp1 qr qr0 qr1 qm qm0 qm1 qm2 qm3 qm4 qg qg0 qg1 qg2 qg3 qu qu0 qu1 ql ql0 ql1 qf z z4 z5 z6 z9 z10 z11 z12 z14 z15 z16 z19 z20 z21 z22 z23 z25 z26 z27 z28 z30 z31 z32 tA nA lt th ms so ln u ym ts nu el be pl le lb br gv eb gi la ak qv tr qd fi fe sp fr mm tt mb md tm td tk gm gb gd gh gc rn mo re tn f1 f2 fa fb) := by
  obtain ⟨hT, hC, hPP, hM, hGG, hRR, hf1, hf2⟩ := R
  obtain ⟨t1, t2, t3, t4, hln, hso, hym, hts_⟩ := id hT
  obtain ⟨hel, hbe, hpl, hle, hlb⟩ := id hC
  obtain ⟨p1, p2, p3, hla, hlz, hgi, hak, hqv, htr, htz, hfe⟩ := id hPP
  obtain ⟨hmm, htt, hmb, hmd, htm, htd⟩ := id hM
  obtain ⟨hgm, hgb, hgd, hgh, hgc, g1, g2⟩ := id hGG
  obtain ⟨hrn, hmo⟩ := id hRR
  have heb : ∀ k, ob 12 (eb k) := fun k => (p3 k).big hel
  have hz : ∀ k, 16 ≤ k → eb k = none := fun k hk => p2 k (by omega)
  have hgl_ : ∀ k, k < be → ob el (gi k) := fun k hk => (by rw [p1 k hk]; exact p3 k)
  have hsh : ∀ t, t ≤ 60 → shA mo re rn t < 2 ^ 49 ∧ 0 < shB mo re rn t ∧ shB mo re rn t < 2 ^ 49 := fun t _ => sh_ok hrn t
  unfold lwW
  refine j_aload_n (pc := 463) X dL_law_463 rfl 1 rfl ?_
  refine j_aload_n (pc := 464) X dL_law_464 rfl 0 rfl ?_
  refine j_iload_n (pc := 465) X dL_law_465 rfl 3 rfl ?_
  refine j_iconst (pc := 466) X (v := nI 1) dL_law_466 (by decide) ?_
  refine j_iadd (pc := 467) X dL_law_467 ?_
  refine j_topi (z := nI (i + 1)) (nI_add _ _) ?_
  refine j_sld (pc := 468) X hX hbl hbA (n := i + 1) (by omega) hL dL_law_468 ?_
  refine j_aload_n (pc := 469) X dL_law_469 rfl 0 rfl ?_
  refine j_iload_n (pc := 470) X dL_law_470 rfl 3 rfl ?_
  refine j_iconst (pc := 471) X (v := nI 2) dL_law_471 (by decide) ?_
  refine j_iadd (pc := 472) X dL_law_472 ?_
  refine j_topi (z := nI (i + 2)) (nI_add _ _) ?_
  refine j_sld (pc := 473) X hX hbl hbA (n := i + 2) (by omega) hL dL_law_473 ?_
  refine j_aload_n (pc := 474) X dL_law_474 rfl 0 rfl ?_
  refine j_iload_n (pc := 475) X dL_law_475 rfl 3 rfl ?_
  refine j_iconst (pc := 476) X (v := nI 3) dL_law_476 (by decide) ?_
  refine j_iadd (pc := 477) X dL_law_477 ?_
  refine j_topi (z := nI (i + 3)) (nI_add _ _) ?_
  refine j_sld (pc := 478) X hX hbl hbA (n := i + 3) (by omega) hL dL_law_478 ?_
  refine j_bool (pc := 479) X (x := xs (i + 3)) dL_law_479 dL_law_482 dL_law_483 dL_law_486 ?_
  refine j_aload_n (pc := 487) X dL_law_487 rfl 0 rfl ?_
  refine j_iload_n (pc := 488) X dL_law_488 rfl 3 rfl ?_
  refine j_iconst (pc := 489) X (v := nI 4) dL_law_489 (by decide) ?_
  refine j_iadd (pc := 490) X dL_law_490 ?_
  refine j_topi (z := nI (i + 4)) (nI_add _ _) ?_
  refine j_sld (pc := 491) X hX hbl hbA (n := i + 4) (by omega) hL dL_law_491 ?_
  refine j_ci (pc := 492) X (ws' := [(qx, .inr (9, [.ref qy, .ref qc, .ref qp, .ref qr, .ref qm, .ref qg, .ref qu, .ref ql, .ref qf, .int (nI ((sLike el be le lb (xs (i + 1)) (xs (i + 2)) (decide (¬ xs (i + 3) = 0)) (xs (i + 4))).2.1))])), kT G qy 4 (tyF tA), (tA 0, .inr (7, [.ref (nA 0), .int (b2i (ms 0)), .int (nI (so 0)), .int (nI (ln 0))])), (tA 1, .inr (7, [.ref (nA 1), .int (b2i (ms 1)), .int (nI (so 1)), .int (nI (ln 1))])), (tA 2, .inr (7, [.ref (nA 2), .int (b2i (ms 2)), .int (nI (so 2)), .int (nI (ln 2))])), (tA 3, .inr (7, [.ref (nA 3), .int (b2i (ms 3)), .int (nI (so 3)), .int (nI (ln 3))])), kJ G (nA 0) 40 (u 0), kJ G (nA 1) 40 (u 1), kJ G (nA 2) 40 (u 2), kJ G (nA 3) 40 (u 3), (qc, .inr (0, [.ref qc0, .ref qc1, .ref qc2, .ref qc3, .int (nI el), .int (nI be)])), kI G qc0 12 (nF pl), kI G qc1 192 (nF ((sLike el be le lb (xs (i + 1)) (xs (i + 2)) (decide (¬ xs (i + 3) = 0)) (xs (i + 4))).2.2.1)), kI G qc2 192 (nF ((sLike el be le lb (xs (i + 1)) (xs (i + 2)) (decide (¬ xs (i + 3) = 0)) (xs (i + 4))).2.2.2)), kZ G qc3 192 (bF br), (qp, .inr (4, [.ref qp0, .ref qp1, .int (b2i gv)])), kI G qp0 16 (oF eb), kI G qp1 16 (oF la), (qr, .inr (5, [.ref qr0, .ref qr1, .int (nI qd), .int (oI fi), .int (oI fe)])), kI G qr0 16 (nF qv), kI G qr1 16 (oF tr), (qm, .inr (3, [.ref qm0, .ref qm1, .ref qm2, .ref qm3, .ref qm4, .int (nI mm), .int (nI tt)])), kI G qm0 100 (nF mb), kI G qm1 100 (nF md), kI G qm2 200 (nF tm), kI G qm3 200 (nF td), kZ G qm4 200 (bF tk), (qg, .inr (2, [.ref qg0, .ref qg1, .ref qg2, .ref qg3, .int (nI gm)])), kI G qg0 40 (nF gb), kI G qg1 40 (nF gd), kI G qg2 40 (oF gh), kI G qg3 40 (oF gc), (qu, .inr (6, [.ref qu0, .ref qu1, .int (nI rn)])), kI G qu0 16 (nF mo), kZ G qu1 16 (bF re), (ql, .inr (8, [.ref ql0, .ref ql1, .int (nI tn)])), kJ G ql0 256 f1, kJ G ql1 256 f2, (qf, .inr (1, [.long fa, .long fb])), (z, .inr (10, [.int (nI lt), .int (nI th), .long fa, .long fb, .ref z4, .ref z5, .ref z6, .int (nI el), .int (nI be), .ref z9, .ref z10, .ref z11, .ref z12, .int (b2i gv), .ref z14, .ref z15, .ref z16, .int (nI mm), .int (nI tt), .ref z19, .ref z20, .ref z21, .ref z22, .ref z23, .int (nI gm), .ref z25, .ref z26, .ref z27, .ref z28, .int (nI rn), .ref z30, .ref z31, .ref z32])), kI G z4 4 (nF ts), kI G z5 4 (oF ym), kJ G z6 160 nu, kI G z9 12 (nF pl), kI G z10 192 (nF le), kI G z11 192 (nF lb), kZ G z12 192 (bF br), kI G z14 16 (oF gi), kI G z15 16 (nF ak), kI G z16 16 (nF sp), kI G z19 100 (nF mb), kI G z20 100 (nF md), kI G z21 200 (nF tm), kI G z22 200 (nF td), kZ G z23 200 (bF tk), kI G z25 40 (nF gb), kI G z26 40 (nF gd), kI G z27 40 (oF gh), kI G z28 40 (oF gc), kI G z30 16 (nF mo), kZ G z31 16 (bF re), kZ G z32 12 (bF fr)]) [0, 10, 12, 13] rfl (j_rV X (b := qx) (As := [.int (xs (i + 1)), .int (xs (i + 2)), .int (b2i (decide (¬ xs (i + 3) = 0))), .int (xs (i + 4))]) (ci := 9) (rest := []) 4 (mX9_like l G qx qy qc qp qr qm qg qu ql qf lt qc0 qc1 qc2 qc3 el be le lb (xs (i + 1)) (xs (i + 2)) (xs (i + 4)) (decide (¬ xs (i + 3) = 0)) (by first | assumption | omega | exact ob_s (by omega) | exact ob_n) (by first | assumption | omega | exact ob_s (by omega) | exact ob_n)) gL_law_X9_like rfl rfl rfl (by decide +kernel) ⟨Nat.le_of_ble_eq_true rfl, Nat.le_of_ble_eq_true rfl⟩ rfl rfl 0 rfl [0, 10, 12, 13] rfl rfl rfl (Nat.le_of_ble_eq_true rfl) dL_law_492 ⟨Nat.le_of_ble_eq_true rfl, Nat.le_of_ble_eq_true rfl⟩) rfl rfl ?_
  refine j_aload_n (pc := 495) X dL_law_495 rfl 2 rfl ?_
  refine j_aload_n (pc := 496) X dL_law_496 rfl 0 rfl ?_
  refine j_iload_n (pc := 497) X dL_law_497 rfl 3 rfl ?_
  refine j_iconst (pc := 498) X (v := nI 1) dL_law_498 (by decide) ?_
  refine j_iadd (pc := 499) X dL_law_499 ?_
  refine j_topi (z := nI (i + 1)) (nI_add _ _) ?_
  refine j_sld (pc := 500) X hX hbl hbA (n := i + 1) (by omega) hL dL_law_500 ?_
  refine j_aload_n (pc := 501) X dL_law_501 rfl 0 rfl ?_
  refine j_iload_n (pc := 502) X dL_law_502 rfl 3 rfl ?_
  refine j_iconst (pc := 503) X (v := nI 2) dL_law_503 (by decide) ?_
  refine j_iadd (pc := 504) X dL_law_504 ?_
  refine j_topi (z := nI (i + 2)) (nI_add _ _) ?_
  refine j_sld (pc := 505) X hX hbl hbA (n := i + 2) (by omega) hL dL_law_505 ?_
  refine j_aload_n (pc := 506) X dL_law_506 rfl 0 rfl ?_
  refine j_iload_n (pc := 507) X dL_law_507 rfl 3 rfl ?_
  refine j_iconst (pc := 508) X (v := nI 3) dL_law_508 (by decide) ?_
  refine j_iadd (pc := 509) X dL_law_509 ?_
  refine j_topi (z := nI (i + 3)) (nI_add _ _) ?_
  refine j_sld (pc := 510) X hX hbl hbA (n := i + 3) (by omega) hL dL_law_510 ?_
  refine j_bool (pc := 511) X (x := xs (i + 3)) dL_law_511 dL_law_514 dL_law_515 dL_law_518 ?_
  refine j_aload_n (pc := 519) X dL_law_519 rfl 0 rfl ?_
  refine j_iload_n (pc := 520) X dL_law_520 rfl 3 rfl ?_
  refine j_iconst (pc := 521) X (v := nI 4) dL_law_521 (by decide) ?_
  refine j_iadd (pc := 522) X dL_law_522 ?_
  refine j_topi (z := nI (i + 4)) (nI_add _ _) ?_
  refine j_sld (pc := 523) X hX hbl hbA (n := i + 4) (by omega) hL dL_law_523 ?_
  refine j_ci (pc := 524) X (ws' := [(qx, .inr (9, [.ref qy, .ref qc, .ref qp, .ref qr, .ref qm, .ref qg, .ref qu, .ref ql, .ref qf, .int (nI ((sLike el be le lb (xs (i + 1)) (xs (i + 2)) (decide (¬ xs (i + 3) = 0)) (xs (i + 4))).2.1))])), kT G qy 4 (tyF tA), (tA 0, .inr (7, [.ref (nA 0), .int (b2i (ms 0)), .int (nI (so 0)), .int (nI (ln 0))])), (tA 1, .inr (7, [.ref (nA 1), .int (b2i (ms 1)), .int (nI (so 1)), .int (nI (ln 1))])), (tA 2, .inr (7, [.ref (nA 2), .int (b2i (ms 2)), .int (nI (so 2)), .int (nI (ln 2))])), (tA 3, .inr (7, [.ref (nA 3), .int (b2i (ms 3)), .int (nI (so 3)), .int (nI (ln 3))])), kJ G (nA 0) 40 (u 0), kJ G (nA 1) 40 (u 1), kJ G (nA 2) 40 (u 2), kJ G (nA 3) 40 (u 3), (qc, .inr (0, [.ref qc0, .ref qc1, .ref qc2, .ref qc3, .int (nI el), .int (nI be)])), kI G qc0 12 (nF pl), kI G qc1 192 (nF ((sLike el be le lb (xs (i + 1)) (xs (i + 2)) (decide (¬ xs (i + 3) = 0)) (xs (i + 4))).2.2.1)), kI G qc2 192 (nF ((sLike el be le lb (xs (i + 1)) (xs (i + 2)) (decide (¬ xs (i + 3) = 0)) (xs (i + 4))).2.2.2)), kZ G qc3 192 (bF br), (qp, .inr (4, [.ref qp0, .ref qp1, .int (b2i gv)])), kI G qp0 16 (oF eb), kI G qp1 16 (oF la), (qr, .inr (5, [.ref qr0, .ref qr1, .int (nI qd), .int (oI fi), .int (oI fe)])), kI G qr0 16 (nF qv), kI G qr1 16 (oF tr), (qm, .inr (3, [.ref qm0, .ref qm1, .ref qm2, .ref qm3, .ref qm4, .int (nI mm), .int (nI tt)])), kI G qm0 100 (nF mb), kI G qm1 100 (nF md), kI G qm2 200 (nF tm), kI G qm3 200 (nF td), kZ G qm4 200 (bF tk), (qg, .inr (2, [.ref qg0, .ref qg1, .ref qg2, .ref qg3, .int (nI gm)])), kI G qg0 40 (nF gb), kI G qg1 40 (nF gd), kI G qg2 40 (oF gh), kI G qg3 40 (oF gc), (qu, .inr (6, [.ref qu0, .ref qu1, .int (nI rn)])), kI G qu0 16 (nF mo), kZ G qu1 16 (bF re), (ql, .inr (8, [.ref ql0, .ref ql1, .int (nI tn)])), kJ G ql0 256 f1, kJ G ql1 256 f2, (qf, .inr (1, [.long fa, .long fb])), (z, .inr (10, [.int (nI ((sLike el be le lb (xs (i + 1)) (xs (i + 2)) (decide (¬ xs (i + 3) = 0)) (xs (i + 4))).2.1)), .int (nI 0), .long fa, .long fb, .ref z4, .ref z5, .ref z6, .int (nI el), .int (nI be), .ref z9, .ref z10, .ref z11, .ref z12, .int (b2i gv), .ref z14, .ref z15, .ref z16, .int (nI mm), .int (nI tt), .ref z19, .ref z20, .ref z21, .ref z22, .ref z23, .int (nI gm), .ref z25, .ref z26, .ref z27, .ref z28, .int (nI rn), .ref z30, .ref z31, .ref z32])), kI G z4 4 (nF ts), kI G z5 4 (oF ym), kJ G z6 160 nu, kI G z9 12 (nF pl), kI G z10 192 (nF ((sLike el be le lb (xs (i + 1)) (xs (i + 2)) (decide (¬ xs (i + 3) = 0)) (xs (i + 4))).2.2.1)), kI G z11 192 (nF ((sLike el be le lb (xs (i + 1)) (xs (i + 2)) (decide (¬ xs (i + 3) = 0)) (xs (i + 4))).2.2.2)), kZ G z12 192 (bF br), kI G z14 16 (oF gi), kI G z15 16 (nF ak), kI G z16 16 (nF sp), kI G z19 100 (nF mb), kI G z20 100 (nF md), kI G z21 200 (nF tm), kI G z22 200 (nF td), kZ G z23 200 (bF tk), kI G z25 40 (nF gb), kI G z26 40 (nF gd), kI G z27 40 (oF gh), kI G z28 40 (oF gc), kI G z30 16 (nF mo), kZ G z31 16 (bF re), kZ G z32 12 (bF fr)]) [39, 44, 45] rfl (j_rV X (b := z) (As := [.int (xs (i + 1)), .int (xs (i + 2)), .int (b2i (decide (¬ xs (i + 3) = 0))), .int (xs (i + 4))]) (ci := 10) (rest := [.int (b2i ((sLike el be le lb (xs (i + 1)) (xs (i + 2)) (decide (¬ xs (i + 3) = 0)) (xs (i + 4))).1))]) 4 (mX10_like l G z z4 z5 z6 z9 z10 z11 z12 z14 z15 z16 z19 z20 z21 z22 z23 z25 z26 z27 z28 z30 z31 z32 lt th fa fb el be gv mm tt gm rn le lb (xs (i + 1)) (xs (i + 2)) (xs (i + 4)) (decide (¬ xs (i + 3) = 0)) (by first | assumption | omega | exact ob_s (by omega) | exact ob_n) (by first | assumption | omega | exact ob_s (by omega) | exact ob_n)) gL_law_X10_like rfl rfl rfl (by decide +kernel) ⟨Nat.le_of_ble_eq_true rfl, Nat.le_of_ble_eq_true rfl⟩ rfl rfl 0 rfl [39, 44, 45] rfl rfl rfl (Nat.le_of_ble_eq_true rfl) dL_law_524 ⟨Nat.le_of_ble_eq_true rfl, Nat.le_of_ble_eq_true rfl⟩) rfl rfl ?_
  refine j_icmp_eq (pc := 527) X (x := b2i ((sLike el be le lb (xs (i + 1)) (xs (i + 2)) (decide (¬ xs (i + 3) = 0)) (xs (i + 4))).1)) (z := b2i ((sLike el be le lb (xs (i + 1)) (xs (i + 2)) (decide (¬ xs (i + 3) = 0)) (xs (i + 4))).1)) (tgt := 1205) dL_law_527 (by decide) (fun _ => ?_) (fun c_ => absurd rfl c_)
  exact K ((sLike el be le lb (xs (i + 1)) (xs (i + 2)) (decide (¬ xs (i + 3) = 0)) (xs (i + 4))).2.1) 0 ms so ln u ym ts nu el be pl ((sLike el be le lb (xs (i + 1)) (xs (i + 2)) (decide (¬ xs (i + 3) = 0)) (xs (i + 4))).2.2.1) ((sLike el be le lb (xs (i + 1)) (xs (i + 2)) (decide (¬ xs (i + 3) = 0)) (xs (i + 4))).2.2.2) br gv eb gi la ak qv tr qd fi fe sp fr mm tt mb md tm td tk gm gb gd gh gc rn mo re tn f1 f2 fa fb ⟨hT, cR_like hC (xs (i + 1)) (xs (i + 2)) (decide (¬ xs (i + 3) = 0)) (xs (i + 4)), hPP, hM, hGG, hRR, hf1, hf2⟩
