set_option maxHeartbeats 4000000 in
set_option maxRecDepth 100000 in
theorem mJ6_bitCount_0f7a4 (l : Launch) (G : jG) (x : Int32)  : MV l yJ6_bitCount_0f7a4 wsJ6_bitCount_0f7a4 ({ frames := 0, cells := 0, slots := 0, locals := 0 }) G [.int x] [] (some (.int (bcF x))) [] := by
  refine MF.ofJ (cc := cJ6_bitCount_0f7a4) (maxL := 1) (ret := (some .int)) (own := RJ6) (lv := [(0, .int x)]) (by decide) rfl rfl (Nat.le_of_ble_eq_true rfl) rfl ?_
  intro κ X
  refine j_iload_n (pc := 0) X dJ6_bitCount_0f7a4_0 rfl 0 rfl ?_
  refine j_iload_n (pc := 1) X dJ6_bitCount_0f7a4_1 rfl 0 rfl ?_
  refine j_iconst (pc := 2) X (v := nI 1) dJ6_bitCount_0f7a4_2 (by decide) ?_
  refine j_iushr (pc := 3) X (v := ush x 1) dJ6_bitCount_0f7a4_3 (rfl) ?_
  refine j_ldcw (pc := 4) X (v := 1431655765) dJ6_bitCount_0f7a4_4 (by decide +kernel) ?_
  refine j_iand (pc := 7) X dJ6_bitCount_0f7a4_7 ?_
  refine j_isub (pc := 8) X dJ6_bitCount_0f7a4_8 ?_
  refine j_topi (z := bc1 x) (rfl) ?_
  refine j_istore_n (pc := 9) X (lv' := [(0, .int (bc1 x))]) dJ6_bitCount_0f7a4_9 rfl (by decide) rfl ?_
  refine j_iload_n (pc := 10) X dJ6_bitCount_0f7a4_10 rfl 0 rfl ?_
  refine j_ldcw (pc := 11) X (v := 858993459) dJ6_bitCount_0f7a4_11 (by decide +kernel) ?_
  refine j_iand (pc := 14) X dJ6_bitCount_0f7a4_14 ?_
  refine j_iload_n (pc := 15) X dJ6_bitCount_0f7a4_15 rfl 0 rfl ?_
  refine j_iconst (pc := 16) X (v := nI 2) dJ6_bitCount_0f7a4_16 (by decide) ?_
  refine j_iushr (pc := 17) X (v := ush (bc1 x) 2) dJ6_bitCount_0f7a4_17 (rfl) ?_
  refine j_ldcw (pc := 18) X (v := 858993459) dJ6_bitCount_0f7a4_18 (by decide +kernel) ?_
  refine j_iand (pc := 21) X dJ6_bitCount_0f7a4_21 ?_
  refine j_iadd (pc := 22) X dJ6_bitCount_0f7a4_22 ?_
  refine j_topi (z := bc2 (bc1 x)) (rfl) ?_
  refine j_istore_n (pc := 23) X (lv' := [(0, .int (bc2 (bc1 x)))]) dJ6_bitCount_0f7a4_23 rfl (by decide) rfl ?_
  refine j_iload_n (pc := 24) X dJ6_bitCount_0f7a4_24 rfl 0 rfl ?_
  refine j_iload_n (pc := 25) X dJ6_bitCount_0f7a4_25 rfl 0 rfl ?_
  refine j_iconst (pc := 26) X (v := nI 4) dJ6_bitCount_0f7a4_26 (by decide) ?_
  refine j_iushr (pc := 27) X (v := ush (bc2 (bc1 x)) 4) dJ6_bitCount_0f7a4_27 (rfl) ?_
  refine j_iadd (pc := 28) X dJ6_bitCount_0f7a4_28 ?_
  refine j_ldcw (pc := 29) X (v := 252645135) dJ6_bitCount_0f7a4_29 (by decide +kernel) ?_
  refine j_iand (pc := 32) X dJ6_bitCount_0f7a4_32 ?_
  refine j_topi (z := bc3 (bc2 (bc1 x))) (rfl) ?_
  refine j_istore_n (pc := 33) X (lv' := [(0, .int (bc3 (bc2 (bc1 x))))]) dJ6_bitCount_0f7a4_33 rfl (by decide) rfl ?_
  refine j_iload_n (pc := 34) X dJ6_bitCount_0f7a4_34 rfl 0 rfl ?_
  refine j_iload_n (pc := 35) X dJ6_bitCount_0f7a4_35 rfl 0 rfl ?_
  refine j_bipush (pc := 36) X (v := nI 8) dJ6_bitCount_0f7a4_36 (by decide) ?_
  refine j_iushr (pc := 38) X (v := ush (bc3 (bc2 (bc1 x))) 8) dJ6_bitCount_0f7a4_38 (rfl) ?_
  refine j_iadd (pc := 39) X dJ6_bitCount_0f7a4_39 ?_
  refine j_topi (z := bc4 (bc3 (bc2 (bc1 x)))) (rfl) ?_
  refine j_istore_n (pc := 40) X (lv' := [(0, .int (bc4 (bc3 (bc2 (bc1 x)))))]) dJ6_bitCount_0f7a4_40 rfl (by decide) rfl ?_
  refine j_iload_n (pc := 41) X dJ6_bitCount_0f7a4_41 rfl 0 rfl ?_
  refine j_iload_n (pc := 42) X dJ6_bitCount_0f7a4_42 rfl 0 rfl ?_
  refine j_bipush (pc := 43) X (v := nI 16) dJ6_bitCount_0f7a4_43 (by decide) ?_
  refine j_iushr (pc := 45) X (v := ush (bc4 (bc3 (bc2 (bc1 x)))) 16) dJ6_bitCount_0f7a4_45 (rfl) ?_
  refine j_iadd (pc := 46) X dJ6_bitCount_0f7a4_46 ?_
  refine j_topi (z := bc5 (bc4 (bc3 (bc2 (bc1 x))))) (rfl) ?_
  refine j_istore_n (pc := 47) X (lv' := [(0, .int (bc5 (bc4 (bc3 (bc2 (bc1 x))))))]) dJ6_bitCount_0f7a4_47 rfl (by decide) rfl ?_
  refine j_iload_n (pc := 48) X dJ6_bitCount_0f7a4_48 rfl 0 rfl ?_
  refine j_bipush (pc := 49) X (v := nI 63) dJ6_bitCount_0f7a4_49 (by decide) ?_
  refine j_iand (pc := 51) X dJ6_bitCount_0f7a4_51 ?_
  exact j_iret (pc := 52) X dJ6_bitCount_0f7a4_52 ⟨by rfl, rfl⟩

set_option maxHeartbeats 4000000 in
set_option maxRecDepth 100000 in
theorem mJ6_numberOfTrailingZeros_0f7a4 (l : Launch) (G : jG) (x : Int32)  : MV l yJ6_numberOfTrailingZeros_0f7a4 wsJ6_numberOfTrailingZeros_0f7a4 ({ frames := 0, cells := 0, slots := 0, locals := 0 }) G [.int x] [] (some (.int (tzF x))) [] := by
  refine MF.ofJ (cc := cJ6_numberOfTrailingZeros_0f7a4) (maxL := 2) (ret := (some .int)) (own := RJ6) (lv := [(0, .int x)]) (by decide) rfl rfl (Nat.le_of_ble_eq_true rfl) rfl ?_
  intro κ X
  refine j_iload_n (pc := 0) X dJ6_numberOfTrailingZeros_0f7a4_0 rfl 0 rfl ?_
  refine j_iconst (pc := 1) X (v := oI none) dJ6_numberOfTrailingZeros_0f7a4_1 (by decide) ?_
  refine j_ixor (pc := 2) X dJ6_numberOfTrailingZeros_0f7a4_2 ?_
  refine j_iload_n (pc := 3) X dJ6_numberOfTrailingZeros_0f7a4_3 rfl 0 rfl ?_
  refine j_iconst (pc := 4) X (v := nI 1) dJ6_numberOfTrailingZeros_0f7a4_4 (by decide) ?_
  refine j_isub (pc := 5) X dJ6_numberOfTrailingZeros_0f7a4_5 ?_
  refine j_iand (pc := 6) X dJ6_numberOfTrailingZeros_0f7a4_6 ?_
  refine j_topi (z := tzm x) (rfl) ?_
  refine j_istore_n (pc := 7) X (lv' := [(0, .int (tzm x))]) dJ6_numberOfTrailingZeros_0f7a4_7 rfl (by decide) rfl ?_
  refine j_iload_n (pc := 8) X dJ6_numberOfTrailingZeros_0f7a4_8 rfl 0 rfl ?_
  refine j_if_gt (pc := 9) X (x := tzm x) (tgt := 17) dJ6_numberOfTrailingZeros_0f7a4_9 (by decide) (fun c_9 => ?_) (fun c_9 => ?_)
  · skip
    refine j_iconst (pc := 17) X (v := nI 1) dJ6_numberOfTrailingZeros_0f7a4_17 (by decide) ?_
    refine j_istore_n (pc := 18) X (lv' := [(1, .int (nI 1)), (0, .int (tzm x))]) dJ6_numberOfTrailingZeros_0f7a4_18 rfl (by decide) rfl ?_
    refine j_iload_n (pc := 19) X dJ6_numberOfTrailingZeros_0f7a4_19 rfl 1 rfl ?_
    refine j_ldcw (pc := 20) X (v := 65536) dJ6_numberOfTrailingZeros_0f7a4_20 (by decide +kernel) ?_
    refine j_icmp_le (pc := 23) X (x := tzm x) (z := 65536) (tgt := 34) dJ6_numberOfTrailingZeros_0f7a4_23 (by decide) (fun c_23 => ?_) (fun c_23 => ?_)
    · skip
      refine j_iload_n (pc := 34) X dJ6_numberOfTrailingZeros_0f7a4_34 rfl 1 rfl ?_
      refine j_sipush (pc := 35) X (v := nI 256) dJ6_numberOfTrailingZeros_0f7a4_35 (by decide) ?_
      refine j_icmp_le (pc := 38) X (x := tzm x) (z := nI 256) (tgt := 49) dJ6_numberOfTrailingZeros_0f7a4_38 (by decide) (fun c_38 => ?_) (fun c_38 => ?_)
      · skip
        refine j_iload_n (pc := 49) X dJ6_numberOfTrailingZeros_0f7a4_49 rfl 1 rfl ?_
        refine j_bipush (pc := 50) X (v := nI 16) dJ6_numberOfTrailingZeros_0f7a4_50 (by decide) ?_
        refine j_icmp_le (pc := 52) X (x := tzm x) (z := nI 16) (tgt := 62) dJ6_numberOfTrailingZeros_0f7a4_52 (by decide) (fun c_52 => ?_) (fun c_52 => ?_)
        · skip
          refine j_iload_n (pc := 62) X dJ6_numberOfTrailingZeros_0f7a4_62 rfl 1 rfl ?_
          refine j_iconst (pc := 63) X (v := nI 4) dJ6_numberOfTrailingZeros_0f7a4_63 (by decide) ?_
          refine j_icmp_le (pc := 64) X (x := tzm x) (z := nI 4) (tgt := 74) dJ6_numberOfTrailingZeros_0f7a4_64 (by decide) (fun c_64 => ?_) (fun c_64 => ?_)
          · skip
            refine j_iload_n (pc := 74) X dJ6_numberOfTrailingZeros_0f7a4_74 rfl 0 rfl ?_
            refine j_iload_n (pc := 75) X dJ6_numberOfTrailingZeros_0f7a4_75 rfl 1 rfl ?_
            refine j_iconst (pc := 76) X (v := nI 1) dJ6_numberOfTrailingZeros_0f7a4_76 (by decide) ?_
            refine j_iushr (pc := 77) X (v := ush (tzm x) 1) dJ6_numberOfTrailingZeros_0f7a4_77 (rfl) ?_
            refine j_iadd (pc := 78) X dJ6_numberOfTrailingZeros_0f7a4_78 ?_
            exact j_iret (pc := 79) X dJ6_numberOfTrailingZeros_0f7a4_79 ⟨by simp [tzF, tz1, tz2, tz3, c_9, c_23, c_38, c_52, c_64], rfl⟩
          · skip
            refine j_iinc (pc := 67) X (v := nI 3) (lv' := [(1, .int (nI 3)), (0, .int (tzm x))]) dJ6_numberOfTrailingZeros_0f7a4_67 0 rfl (by decide) (by decide) rfl ?_
            refine j_iload_n (pc := 70) X dJ6_numberOfTrailingZeros_0f7a4_70 rfl 1 rfl ?_
            refine j_iconst (pc := 71) X (v := nI 2) dJ6_numberOfTrailingZeros_0f7a4_71 (by decide) ?_
            refine j_iushr (pc := 72) X (v := ush (tzm x) 2) dJ6_numberOfTrailingZeros_0f7a4_72 (rfl) ?_
            refine j_istore_n (pc := 73) X (lv' := [(0, .int (ush (tzm x) 2)), (1, .int (nI 3))]) dJ6_numberOfTrailingZeros_0f7a4_73 rfl (by decide) rfl ?_
            refine j_iload_n (pc := 74) X dJ6_numberOfTrailingZeros_0f7a4_74 rfl 1 rfl ?_
            refine j_iload_n (pc := 75) X dJ6_numberOfTrailingZeros_0f7a4_75 rfl 0 rfl ?_
            refine j_iconst (pc := 76) X (v := nI 1) dJ6_numberOfTrailingZeros_0f7a4_76 (by decide) ?_
            refine j_iushr (pc := 77) X (v := ush (ush (tzm x) 2) 1) dJ6_numberOfTrailingZeros_0f7a4_77 (rfl) ?_
            refine j_iadd (pc := 78) X dJ6_numberOfTrailingZeros_0f7a4_78 ?_
            exact j_iret (pc := 79) X dJ6_numberOfTrailingZeros_0f7a4_79 ⟨by simp [tzF, tz1, tz2, tz3, c_9, c_23, c_38, c_52, c_64], rfl⟩
        · skip
          refine j_iinc (pc := 55) X (v := nI 5) (lv' := [(1, .int (nI 5)), (0, .int (tzm x))]) dJ6_numberOfTrailingZeros_0f7a4_55 0 rfl (by decide) (by decide) rfl ?_
          refine j_iload_n (pc := 58) X dJ6_numberOfTrailingZeros_0f7a4_58 rfl 1 rfl ?_
          refine j_iconst (pc := 59) X (v := nI 4) dJ6_numberOfTrailingZeros_0f7a4_59 (by decide) ?_
          refine j_iushr (pc := 60) X (v := ush (tzm x) 4) dJ6_numberOfTrailingZeros_0f7a4_60 (rfl) ?_
          refine j_istore_n (pc := 61) X (lv' := [(0, .int (ush (tzm x) 4)), (1, .int (nI 5))]) dJ6_numberOfTrailingZeros_0f7a4_61 rfl (by decide) rfl ?_
          refine j_iload_n (pc := 62) X dJ6_numberOfTrailingZeros_0f7a4_62 rfl 0 rfl ?_
          refine j_iconst (pc := 63) X (v := nI 4) dJ6_numberOfTrailingZeros_0f7a4_63 (by decide) ?_
          refine j_icmp_le (pc := 64) X (x := ush (tzm x) 4) (z := nI 4) (tgt := 74) dJ6_numberOfTrailingZeros_0f7a4_64 (by decide) (fun c_64 => ?_) (fun c_64 => ?_)
          · skip
            refine j_iload_n (pc := 74) X dJ6_numberOfTrailingZeros_0f7a4_74 rfl 1 rfl ?_
            refine j_iload_n (pc := 75) X dJ6_numberOfTrailingZeros_0f7a4_75 rfl 0 rfl ?_
            refine j_iconst (pc := 76) X (v := nI 1) dJ6_numberOfTrailingZeros_0f7a4_76 (by decide) ?_
            refine j_iushr (pc := 77) X (v := ush (ush (tzm x) 4) 1) dJ6_numberOfTrailingZeros_0f7a4_77 (rfl) ?_
            refine j_iadd (pc := 78) X dJ6_numberOfTrailingZeros_0f7a4_78 ?_
            exact j_iret (pc := 79) X dJ6_numberOfTrailingZeros_0f7a4_79 ⟨by simp [tzF, tz1, tz2, tz3, c_9, c_23, c_38, c_52, c_64], rfl⟩
          · skip
            refine j_iinc (pc := 67) X (v := nI 7) (lv' := [(1, .int (nI 7)), (0, .int (ush (tzm x) 4))]) dJ6_numberOfTrailingZeros_0f7a4_67 1 rfl (by decide) (by decide) rfl ?_
            refine j_iload_n (pc := 70) X dJ6_numberOfTrailingZeros_0f7a4_70 rfl 1 rfl ?_
            refine j_iconst (pc := 71) X (v := nI 2) dJ6_numberOfTrailingZeros_0f7a4_71 (by decide) ?_
            refine j_iushr (pc := 72) X (v := ush (ush (tzm x) 4) 2) dJ6_numberOfTrailingZeros_0f7a4_72 (rfl) ?_
            refine j_istore_n (pc := 73) X (lv' := [(0, .int (ush (ush (tzm x) 4) 2)), (1, .int (nI 7))]) dJ6_numberOfTrailingZeros_0f7a4_73 rfl (by decide) rfl ?_
            refine j_iload_n (pc := 74) X dJ6_numberOfTrailingZeros_0f7a4_74 rfl 1 rfl ?_
            refine j_iload_n (pc := 75) X dJ6_numberOfTrailingZeros_0f7a4_75 rfl 0 rfl ?_
            refine j_iconst (pc := 76) X (v := nI 1) dJ6_numberOfTrailingZeros_0f7a4_76 (by decide) ?_
            refine j_iushr (pc := 77) X (v := ush (ush (ush (tzm x) 4) 2) 1) dJ6_numberOfTrailingZeros_0f7a4_77 (rfl) ?_
            refine j_iadd (pc := 78) X dJ6_numberOfTrailingZeros_0f7a4_78 ?_
            exact j_iret (pc := 79) X dJ6_numberOfTrailingZeros_0f7a4_79 ⟨by simp [tzF, tz1, tz2, tz3, c_9, c_23, c_38, c_52, c_64], rfl⟩
      · skip
        refine j_iinc (pc := 41) X (v := nI 9) (lv' := [(1, .int (nI 9)), (0, .int (tzm x))]) dJ6_numberOfTrailingZeros_0f7a4_41 0 rfl (by decide) (by decide) rfl ?_
        refine j_iload_n (pc := 44) X dJ6_numberOfTrailingZeros_0f7a4_44 rfl 1 rfl ?_
        refine j_bipush (pc := 45) X (v := nI 8) dJ6_numberOfTrailingZeros_0f7a4_45 (by decide) ?_
        refine j_iushr (pc := 47) X (v := ush (tzm x) 8) dJ6_numberOfTrailingZeros_0f7a4_47 (rfl) ?_
        refine j_istore_n (pc := 48) X (lv' := [(0, .int (ush (tzm x) 8)), (1, .int (nI 9))]) dJ6_numberOfTrailingZeros_0f7a4_48 rfl (by decide) rfl ?_
        refine j_iload_n (pc := 49) X dJ6_numberOfTrailingZeros_0f7a4_49 rfl 0 rfl ?_
        refine j_bipush (pc := 50) X (v := nI 16) dJ6_numberOfTrailingZeros_0f7a4_50 (by decide) ?_
        refine j_icmp_le (pc := 52) X (x := ush (tzm x) 8) (z := nI 16) (tgt := 62) dJ6_numberOfTrailingZeros_0f7a4_52 (by decide) (fun c_52 => ?_) (fun c_52 => ?_)
        · skip
          refine j_iload_n (pc := 62) X dJ6_numberOfTrailingZeros_0f7a4_62 rfl 0 rfl ?_
          refine j_iconst (pc := 63) X (v := nI 4) dJ6_numberOfTrailingZeros_0f7a4_63 (by decide) ?_
          refine j_icmp_le (pc := 64) X (x := ush (tzm x) 8) (z := nI 4) (tgt := 74) dJ6_numberOfTrailingZeros_0f7a4_64 (by decide) (fun c_64 => ?_) (fun c_64 => ?_)
          · skip
            refine j_iload_n (pc := 74) X dJ6_numberOfTrailingZeros_0f7a4_74 rfl 1 rfl ?_
            refine j_iload_n (pc := 75) X dJ6_numberOfTrailingZeros_0f7a4_75 rfl 0 rfl ?_
            refine j_iconst (pc := 76) X (v := nI 1) dJ6_numberOfTrailingZeros_0f7a4_76 (by decide) ?_
            refine j_iushr (pc := 77) X (v := ush (ush (tzm x) 8) 1) dJ6_numberOfTrailingZeros_0f7a4_77 (rfl) ?_
            refine j_iadd (pc := 78) X dJ6_numberOfTrailingZeros_0f7a4_78 ?_
            exact j_iret (pc := 79) X dJ6_numberOfTrailingZeros_0f7a4_79 ⟨by simp [tzF, tz1, tz2, tz3, c_9, c_23, c_38, c_52, c_64], rfl⟩
          · skip
            refine j_iinc (pc := 67) X (v := nI 11) (lv' := [(1, .int (nI 11)), (0, .int (ush (tzm x) 8))]) dJ6_numberOfTrailingZeros_0f7a4_67 1 rfl (by decide) (by decide) rfl ?_
            refine j_iload_n (pc := 70) X dJ6_numberOfTrailingZeros_0f7a4_70 rfl 1 rfl ?_
            refine j_iconst (pc := 71) X (v := nI 2) dJ6_numberOfTrailingZeros_0f7a4_71 (by decide) ?_
            refine j_iushr (pc := 72) X (v := ush (ush (tzm x) 8) 2) dJ6_numberOfTrailingZeros_0f7a4_72 (rfl) ?_
            refine j_istore_n (pc := 73) X (lv' := [(0, .int (ush (ush (tzm x) 8) 2)), (1, .int (nI 11))]) dJ6_numberOfTrailingZeros_0f7a4_73 rfl (by decide) rfl ?_
            refine j_iload_n (pc := 74) X dJ6_numberOfTrailingZeros_0f7a4_74 rfl 1 rfl ?_
            refine j_iload_n (pc := 75) X dJ6_numberOfTrailingZeros_0f7a4_75 rfl 0 rfl ?_
            refine j_iconst (pc := 76) X (v := nI 1) dJ6_numberOfTrailingZeros_0f7a4_76 (by decide) ?_
            refine j_iushr (pc := 77) X (v := ush (ush (ush (tzm x) 8) 2) 1) dJ6_numberOfTrailingZeros_0f7a4_77 (rfl) ?_
            refine j_iadd (pc := 78) X dJ6_numberOfTrailingZeros_0f7a4_78 ?_
            exact j_iret (pc := 79) X dJ6_numberOfTrailingZeros_0f7a4_79 ⟨by simp [tzF, tz1, tz2, tz3, c_9, c_23, c_38, c_52, c_64], rfl⟩
        · skip
          refine j_iinc (pc := 55) X (v := nI 13) (lv' := [(1, .int (nI 13)), (0, .int (ush (tzm x) 8))]) dJ6_numberOfTrailingZeros_0f7a4_55 1 rfl (by decide) (by decide) rfl ?_
          refine j_iload_n (pc := 58) X dJ6_numberOfTrailingZeros_0f7a4_58 rfl 1 rfl ?_
          refine j_iconst (pc := 59) X (v := nI 4) dJ6_numberOfTrailingZeros_0f7a4_59 (by decide) ?_
          refine j_iushr (pc := 60) X (v := ush (ush (tzm x) 8) 4) dJ6_numberOfTrailingZeros_0f7a4_60 (rfl) ?_
          refine j_istore_n (pc := 61) X (lv' := [(0, .int (ush (ush (tzm x) 8) 4)), (1, .int (nI 13))]) dJ6_numberOfTrailingZeros_0f7a4_61 rfl (by decide) rfl ?_
          refine j_iload_n (pc := 62) X dJ6_numberOfTrailingZeros_0f7a4_62 rfl 0 rfl ?_
          refine j_iconst (pc := 63) X (v := nI 4) dJ6_numberOfTrailingZeros_0f7a4_63 (by decide) ?_
          refine j_icmp_le (pc := 64) X (x := ush (ush (tzm x) 8) 4) (z := nI 4) (tgt := 74) dJ6_numberOfTrailingZeros_0f7a4_64 (by decide) (fun c_64 => ?_) (fun c_64 => ?_)
          · skip
            refine j_iload_n (pc := 74) X dJ6_numberOfTrailingZeros_0f7a4_74 rfl 1 rfl ?_
            refine j_iload_n (pc := 75) X dJ6_numberOfTrailingZeros_0f7a4_75 rfl 0 rfl ?_
            refine j_iconst (pc := 76) X (v := nI 1) dJ6_numberOfTrailingZeros_0f7a4_76 (by decide) ?_
            refine j_iushr (pc := 77) X (v := ush (ush (ush (tzm x) 8) 4) 1) dJ6_numberOfTrailingZeros_0f7a4_77 (rfl) ?_
            refine j_iadd (pc := 78) X dJ6_numberOfTrailingZeros_0f7a4_78 ?_
            exact j_iret (pc := 79) X dJ6_numberOfTrailingZeros_0f7a4_79 ⟨by simp [tzF, tz1, tz2, tz3, c_9, c_23, c_38, c_52, c_64], rfl⟩
          · skip
            refine j_iinc (pc := 67) X (v := nI 15) (lv' := [(1, .int (nI 15)), (0, .int (ush (ush (tzm x) 8) 4))]) dJ6_numberOfTrailingZeros_0f7a4_67 1 rfl (by decide) (by decide) rfl ?_
            refine j_iload_n (pc := 70) X dJ6_numberOfTrailingZeros_0f7a4_70 rfl 1 rfl ?_
            refine j_iconst (pc := 71) X (v := nI 2) dJ6_numberOfTrailingZeros_0f7a4_71 (by decide) ?_
            refine j_iushr (pc := 72) X (v := ush (ush (ush (tzm x) 8) 4) 2) dJ6_numberOfTrailingZeros_0f7a4_72 (rfl) ?_
            refine j_istore_n (pc := 73) X (lv' := [(0, .int (ush (ush (ush (tzm x) 8) 4) 2)), (1, .int (nI 15))]) dJ6_numberOfTrailingZeros_0f7a4_73 rfl (by decide) rfl ?_
            refine j_iload_n (pc := 74) X dJ6_numberOfTrailingZeros_0f7a4_74 rfl 1 rfl ?_
            refine j_iload_n (pc := 75) X dJ6_numberOfTrailingZeros_0f7a4_75 rfl 0 rfl ?_
            refine j_iconst (pc := 76) X (v := nI 1) dJ6_numberOfTrailingZeros_0f7a4_76 (by decide) ?_
            refine j_iushr (pc := 77) X (v := ush (ush (ush (ush (tzm x) 8) 4) 2) 1) dJ6_numberOfTrailingZeros_0f7a4_77 (rfl) ?_
            refine j_iadd (pc := 78) X dJ6_numberOfTrailingZeros_0f7a4_78 ?_
            exact j_iret (pc := 79) X dJ6_numberOfTrailingZeros_0f7a4_79 ⟨by simp [tzF, tz1, tz2, tz3, c_9, c_23, c_38, c_52, c_64], rfl⟩
    · skip
      refine j_iinc (pc := 26) X (v := nI 17) (lv' := [(1, .int (nI 17)), (0, .int (tzm x))]) dJ6_numberOfTrailingZeros_0f7a4_26 0 rfl (by decide) (by decide) rfl ?_
      refine j_iload_n (pc := 29) X dJ6_numberOfTrailingZeros_0f7a4_29 rfl 1 rfl ?_
      refine j_bipush (pc := 30) X (v := nI 16) dJ6_numberOfTrailingZeros_0f7a4_30 (by decide) ?_
      refine j_iushr (pc := 32) X (v := ush (tzm x) 16) dJ6_numberOfTrailingZeros_0f7a4_32 (rfl) ?_
      refine j_istore_n (pc := 33) X (lv' := [(0, .int (ush (tzm x) 16)), (1, .int (nI 17))]) dJ6_numberOfTrailingZeros_0f7a4_33 rfl (by decide) rfl ?_
      refine j_iload_n (pc := 34) X dJ6_numberOfTrailingZeros_0f7a4_34 rfl 0 rfl ?_
      refine j_sipush (pc := 35) X (v := nI 256) dJ6_numberOfTrailingZeros_0f7a4_35 (by decide) ?_
      refine j_icmp_le (pc := 38) X (x := ush (tzm x) 16) (z := nI 256) (tgt := 49) dJ6_numberOfTrailingZeros_0f7a4_38 (by decide) (fun c_38 => ?_) (fun c_38 => ?_)
      · skip
        refine j_iload_n (pc := 49) X dJ6_numberOfTrailingZeros_0f7a4_49 rfl 0 rfl ?_
        refine j_bipush (pc := 50) X (v := nI 16) dJ6_numberOfTrailingZeros_0f7a4_50 (by decide) ?_
        refine j_icmp_le (pc := 52) X (x := ush (tzm x) 16) (z := nI 16) (tgt := 62) dJ6_numberOfTrailingZeros_0f7a4_52 (by decide) (fun c_52 => ?_) (fun c_52 => ?_)
        · skip
          refine j_iload_n (pc := 62) X dJ6_numberOfTrailingZeros_0f7a4_62 rfl 0 rfl ?_
          refine j_iconst (pc := 63) X (v := nI 4) dJ6_numberOfTrailingZeros_0f7a4_63 (by decide) ?_
          refine j_icmp_le (pc := 64) X (x := ush (tzm x) 16) (z := nI 4) (tgt := 74) dJ6_numberOfTrailingZeros_0f7a4_64 (by decide) (fun c_64 => ?_) (fun c_64 => ?_)
          · skip
            refine j_iload_n (pc := 74) X dJ6_numberOfTrailingZeros_0f7a4_74 rfl 1 rfl ?_
            refine j_iload_n (pc := 75) X dJ6_numberOfTrailingZeros_0f7a4_75 rfl 0 rfl ?_
            refine j_iconst (pc := 76) X (v := nI 1) dJ6_numberOfTrailingZeros_0f7a4_76 (by decide) ?_
            refine j_iushr (pc := 77) X (v := ush (ush (tzm x) 16) 1) dJ6_numberOfTrailingZeros_0f7a4_77 (rfl) ?_
            refine j_iadd (pc := 78) X dJ6_numberOfTrailingZeros_0f7a4_78 ?_
            exact j_iret (pc := 79) X dJ6_numberOfTrailingZeros_0f7a4_79 ⟨by simp [tzF, tz1, tz2, tz3, c_9, c_23, c_38, c_52, c_64], rfl⟩
          · skip
            refine j_iinc (pc := 67) X (v := nI 19) (lv' := [(1, .int (nI 19)), (0, .int (ush (tzm x) 16))]) dJ6_numberOfTrailingZeros_0f7a4_67 1 rfl (by decide) (by decide) rfl ?_
            refine j_iload_n (pc := 70) X dJ6_numberOfTrailingZeros_0f7a4_70 rfl 1 rfl ?_
            refine j_iconst (pc := 71) X (v := nI 2) dJ6_numberOfTrailingZeros_0f7a4_71 (by decide) ?_
            refine j_iushr (pc := 72) X (v := ush (ush (tzm x) 16) 2) dJ6_numberOfTrailingZeros_0f7a4_72 (rfl) ?_
            refine j_istore_n (pc := 73) X (lv' := [(0, .int (ush (ush (tzm x) 16) 2)), (1, .int (nI 19))]) dJ6_numberOfTrailingZeros_0f7a4_73 rfl (by decide) rfl ?_
            refine j_iload_n (pc := 74) X dJ6_numberOfTrailingZeros_0f7a4_74 rfl 1 rfl ?_
            refine j_iload_n (pc := 75) X dJ6_numberOfTrailingZeros_0f7a4_75 rfl 0 rfl ?_
            refine j_iconst (pc := 76) X (v := nI 1) dJ6_numberOfTrailingZeros_0f7a4_76 (by decide) ?_
            refine j_iushr (pc := 77) X (v := ush (ush (ush (tzm x) 16) 2) 1) dJ6_numberOfTrailingZeros_0f7a4_77 (rfl) ?_
            refine j_iadd (pc := 78) X dJ6_numberOfTrailingZeros_0f7a4_78 ?_
            exact j_iret (pc := 79) X dJ6_numberOfTrailingZeros_0f7a4_79 ⟨by simp [tzF, tz1, tz2, tz3, c_9, c_23, c_38, c_52, c_64], rfl⟩
        · skip
          refine j_iinc (pc := 55) X (v := nI 21) (lv' := [(1, .int (nI 21)), (0, .int (ush (tzm x) 16))]) dJ6_numberOfTrailingZeros_0f7a4_55 1 rfl (by decide) (by decide) rfl ?_
          refine j_iload_n (pc := 58) X dJ6_numberOfTrailingZeros_0f7a4_58 rfl 1 rfl ?_
          refine j_iconst (pc := 59) X (v := nI 4) dJ6_numberOfTrailingZeros_0f7a4_59 (by decide) ?_
          refine j_iushr (pc := 60) X (v := ush (ush (tzm x) 16) 4) dJ6_numberOfTrailingZeros_0f7a4_60 (rfl) ?_
          refine j_istore_n (pc := 61) X (lv' := [(0, .int (ush (ush (tzm x) 16) 4)), (1, .int (nI 21))]) dJ6_numberOfTrailingZeros_0f7a4_61 rfl (by decide) rfl ?_
          refine j_iload_n (pc := 62) X dJ6_numberOfTrailingZeros_0f7a4_62 rfl 0 rfl ?_
          refine j_iconst (pc := 63) X (v := nI 4) dJ6_numberOfTrailingZeros_0f7a4_63 (by decide) ?_
          refine j_icmp_le (pc := 64) X (x := ush (ush (tzm x) 16) 4) (z := nI 4) (tgt := 74) dJ6_numberOfTrailingZeros_0f7a4_64 (by decide) (fun c_64 => ?_) (fun c_64 => ?_)
          · skip
            refine j_iload_n (pc := 74) X dJ6_numberOfTrailingZeros_0f7a4_74 rfl 1 rfl ?_
            refine j_iload_n (pc := 75) X dJ6_numberOfTrailingZeros_0f7a4_75 rfl 0 rfl ?_
            refine j_iconst (pc := 76) X (v := nI 1) dJ6_numberOfTrailingZeros_0f7a4_76 (by decide) ?_
            refine j_iushr (pc := 77) X (v := ush (ush (ush (tzm x) 16) 4) 1) dJ6_numberOfTrailingZeros_0f7a4_77 (rfl) ?_
            refine j_iadd (pc := 78) X dJ6_numberOfTrailingZeros_0f7a4_78 ?_
            exact j_iret (pc := 79) X dJ6_numberOfTrailingZeros_0f7a4_79 ⟨by simp [tzF, tz1, tz2, tz3, c_9, c_23, c_38, c_52, c_64], rfl⟩
          · skip
            refine j_iinc (pc := 67) X (v := nI 23) (lv' := [(1, .int (nI 23)), (0, .int (ush (ush (tzm x) 16) 4))]) dJ6_numberOfTrailingZeros_0f7a4_67 1 rfl (by decide) (by decide) rfl ?_
            refine j_iload_n (pc := 70) X dJ6_numberOfTrailingZeros_0f7a4_70 rfl 1 rfl ?_
            refine j_iconst (pc := 71) X (v := nI 2) dJ6_numberOfTrailingZeros_0f7a4_71 (by decide) ?_
            refine j_iushr (pc := 72) X (v := ush (ush (ush (tzm x) 16) 4) 2) dJ6_numberOfTrailingZeros_0f7a4_72 (rfl) ?_
            refine j_istore_n (pc := 73) X (lv' := [(0, .int (ush (ush (ush (tzm x) 16) 4) 2)), (1, .int (nI 23))]) dJ6_numberOfTrailingZeros_0f7a4_73 rfl (by decide) rfl ?_
            refine j_iload_n (pc := 74) X dJ6_numberOfTrailingZeros_0f7a4_74 rfl 1 rfl ?_
            refine j_iload_n (pc := 75) X dJ6_numberOfTrailingZeros_0f7a4_75 rfl 0 rfl ?_
            refine j_iconst (pc := 76) X (v := nI 1) dJ6_numberOfTrailingZeros_0f7a4_76 (by decide) ?_
            refine j_iushr (pc := 77) X (v := ush (ush (ush (ush (tzm x) 16) 4) 2) 1) dJ6_numberOfTrailingZeros_0f7a4_77 (rfl) ?_
            refine j_iadd (pc := 78) X dJ6_numberOfTrailingZeros_0f7a4_78 ?_
            exact j_iret (pc := 79) X dJ6_numberOfTrailingZeros_0f7a4_79 ⟨by simp [tzF, tz1, tz2, tz3, c_9, c_23, c_38, c_52, c_64], rfl⟩
      · skip
        refine j_iinc (pc := 41) X (v := nI 25) (lv' := [(1, .int (nI 25)), (0, .int (ush (tzm x) 16))]) dJ6_numberOfTrailingZeros_0f7a4_41 1 rfl (by decide) (by decide) rfl ?_
        refine j_iload_n (pc := 44) X dJ6_numberOfTrailingZeros_0f7a4_44 rfl 1 rfl ?_
        refine j_bipush (pc := 45) X (v := nI 8) dJ6_numberOfTrailingZeros_0f7a4_45 (by decide) ?_
        refine j_iushr (pc := 47) X (v := ush (ush (tzm x) 16) 8) dJ6_numberOfTrailingZeros_0f7a4_47 (rfl) ?_
        refine j_istore_n (pc := 48) X (lv' := [(0, .int (ush (ush (tzm x) 16) 8)), (1, .int (nI 25))]) dJ6_numberOfTrailingZeros_0f7a4_48 rfl (by decide) rfl ?_
        refine j_iload_n (pc := 49) X dJ6_numberOfTrailingZeros_0f7a4_49 rfl 0 rfl ?_
        refine j_bipush (pc := 50) X (v := nI 16) dJ6_numberOfTrailingZeros_0f7a4_50 (by decide) ?_
        refine j_icmp_le (pc := 52) X (x := ush (ush (tzm x) 16) 8) (z := nI 16) (tgt := 62) dJ6_numberOfTrailingZeros_0f7a4_52 (by decide) (fun c_52 => ?_) (fun c_52 => ?_)
        · skip
          refine j_iload_n (pc := 62) X dJ6_numberOfTrailingZeros_0f7a4_62 rfl 0 rfl ?_
          refine j_iconst (pc := 63) X (v := nI 4) dJ6_numberOfTrailingZeros_0f7a4_63 (by decide) ?_
          refine j_icmp_le (pc := 64) X (x := ush (ush (tzm x) 16) 8) (z := nI 4) (tgt := 74) dJ6_numberOfTrailingZeros_0f7a4_64 (by decide) (fun c_64 => ?_) (fun c_64 => ?_)
          · skip
            refine j_iload_n (pc := 74) X dJ6_numberOfTrailingZeros_0f7a4_74 rfl 1 rfl ?_
            refine j_iload_n (pc := 75) X dJ6_numberOfTrailingZeros_0f7a4_75 rfl 0 rfl ?_
            refine j_iconst (pc := 76) X (v := nI 1) dJ6_numberOfTrailingZeros_0f7a4_76 (by decide) ?_
            refine j_iushr (pc := 77) X (v := ush (ush (ush (tzm x) 16) 8) 1) dJ6_numberOfTrailingZeros_0f7a4_77 (rfl) ?_
            refine j_iadd (pc := 78) X dJ6_numberOfTrailingZeros_0f7a4_78 ?_
            exact j_iret (pc := 79) X dJ6_numberOfTrailingZeros_0f7a4_79 ⟨by simp [tzF, tz1, tz2, tz3, c_9, c_23, c_38, c_52, c_64], rfl⟩
          · skip
            refine j_iinc (pc := 67) X (v := nI 27) (lv' := [(1, .int (nI 27)), (0, .int (ush (ush (tzm x) 16) 8))]) dJ6_numberOfTrailingZeros_0f7a4_67 1 rfl (by decide) (by decide) rfl ?_
            refine j_iload_n (pc := 70) X dJ6_numberOfTrailingZeros_0f7a4_70 rfl 1 rfl ?_
            refine j_iconst (pc := 71) X (v := nI 2) dJ6_numberOfTrailingZeros_0f7a4_71 (by decide) ?_
            refine j_iushr (pc := 72) X (v := ush (ush (ush (tzm x) 16) 8) 2) dJ6_numberOfTrailingZeros_0f7a4_72 (rfl) ?_
            refine j_istore_n (pc := 73) X (lv' := [(0, .int (ush (ush (ush (tzm x) 16) 8) 2)), (1, .int (nI 27))]) dJ6_numberOfTrailingZeros_0f7a4_73 rfl (by decide) rfl ?_
            refine j_iload_n (pc := 74) X dJ6_numberOfTrailingZeros_0f7a4_74 rfl 1 rfl ?_
            refine j_iload_n (pc := 75) X dJ6_numberOfTrailingZeros_0f7a4_75 rfl 0 rfl ?_
            refine j_iconst (pc := 76) X (v := nI 1) dJ6_numberOfTrailingZeros_0f7a4_76 (by decide) ?_
            refine j_iushr (pc := 77) X (v := ush (ush (ush (ush (tzm x) 16) 8) 2) 1) dJ6_numberOfTrailingZeros_0f7a4_77 (rfl) ?_
            refine j_iadd (pc := 78) X dJ6_numberOfTrailingZeros_0f7a4_78 ?_
            exact j_iret (pc := 79) X dJ6_numberOfTrailingZeros_0f7a4_79 ⟨by simp [tzF, tz1, tz2, tz3, c_9, c_23, c_38, c_52, c_64], rfl⟩
        · skip
          refine j_iinc (pc := 55) X (v := nI 29) (lv' := [(1, .int (nI 29)), (0, .int (ush (ush (tzm x) 16) 8))]) dJ6_numberOfTrailingZeros_0f7a4_55 1 rfl (by decide) (by decide) rfl ?_
          refine j_iload_n (pc := 58) X dJ6_numberOfTrailingZeros_0f7a4_58 rfl 1 rfl ?_
          refine j_iconst (pc := 59) X (v := nI 4) dJ6_numberOfTrailingZeros_0f7a4_59 (by decide) ?_
          refine j_iushr (pc := 60) X (v := ush (ush (ush (tzm x) 16) 8) 4) dJ6_numberOfTrailingZeros_0f7a4_60 (rfl) ?_
          refine j_istore_n (pc := 61) X (lv' := [(0, .int (ush (ush (ush (tzm x) 16) 8) 4)), (1, .int (nI 29))]) dJ6_numberOfTrailingZeros_0f7a4_61 rfl (by decide) rfl ?_
          refine j_iload_n (pc := 62) X dJ6_numberOfTrailingZeros_0f7a4_62 rfl 0 rfl ?_
          refine j_iconst (pc := 63) X (v := nI 4) dJ6_numberOfTrailingZeros_0f7a4_63 (by decide) ?_
          refine j_icmp_le (pc := 64) X (x := ush (ush (ush (tzm x) 16) 8) 4) (z := nI 4) (tgt := 74) dJ6_numberOfTrailingZeros_0f7a4_64 (by decide) (fun c_64 => ?_) (fun c_64 => ?_)
          · skip
            refine j_iload_n (pc := 74) X dJ6_numberOfTrailingZeros_0f7a4_74 rfl 1 rfl ?_
            refine j_iload_n (pc := 75) X dJ6_numberOfTrailingZeros_0f7a4_75 rfl 0 rfl ?_
            refine j_iconst (pc := 76) X (v := nI 1) dJ6_numberOfTrailingZeros_0f7a4_76 (by decide) ?_
            refine j_iushr (pc := 77) X (v := ush (ush (ush (ush (tzm x) 16) 8) 4) 1) dJ6_numberOfTrailingZeros_0f7a4_77 (rfl) ?_
            refine j_iadd (pc := 78) X dJ6_numberOfTrailingZeros_0f7a4_78 ?_
            exact j_iret (pc := 79) X dJ6_numberOfTrailingZeros_0f7a4_79 ⟨by simp [tzF, tz1, tz2, tz3, c_9, c_23, c_38, c_52, c_64], rfl⟩
          · skip
            refine j_iinc (pc := 67) X (v := nI 31) (lv' := [(1, .int (nI 31)), (0, .int (ush (ush (ush (tzm x) 16) 8) 4))]) dJ6_numberOfTrailingZeros_0f7a4_67 1 rfl (by decide) (by decide) rfl ?_
            refine j_iload_n (pc := 70) X dJ6_numberOfTrailingZeros_0f7a4_70 rfl 1 rfl ?_
            refine j_iconst (pc := 71) X (v := nI 2) dJ6_numberOfTrailingZeros_0f7a4_71 (by decide) ?_
            refine j_iushr (pc := 72) X (v := ush (ush (ush (ush (tzm x) 16) 8) 4) 2) dJ6_numberOfTrailingZeros_0f7a4_72 (rfl) ?_
            refine j_istore_n (pc := 73) X (lv' := [(0, .int (ush (ush (ush (ush (tzm x) 16) 8) 4) 2)), (1, .int (nI 31))]) dJ6_numberOfTrailingZeros_0f7a4_73 rfl (by decide) rfl ?_
            refine j_iload_n (pc := 74) X dJ6_numberOfTrailingZeros_0f7a4_74 rfl 1 rfl ?_
            refine j_iload_n (pc := 75) X dJ6_numberOfTrailingZeros_0f7a4_75 rfl 0 rfl ?_
            refine j_iconst (pc := 76) X (v := nI 1) dJ6_numberOfTrailingZeros_0f7a4_76 (by decide) ?_
            refine j_iushr (pc := 77) X (v := ush (ush (ush (ush (ush (tzm x) 16) 8) 4) 2) 1) dJ6_numberOfTrailingZeros_0f7a4_77 (rfl) ?_
            refine j_iadd (pc := 78) X dJ6_numberOfTrailingZeros_0f7a4_78 ?_
            exact j_iret (pc := 79) X dJ6_numberOfTrailingZeros_0f7a4_79 ⟨by simp [tzF, tz1, tz2, tz3, c_9, c_23, c_38, c_52, c_64], rfl⟩
  · skip
    refine j_iload_n (pc := 12) X dJ6_numberOfTrailingZeros_0f7a4_12 rfl 0 rfl ?_
    refine j_bipush (pc := 13) X (v := nI 32) dJ6_numberOfTrailingZeros_0f7a4_13 (by decide) ?_
    refine j_iand (pc := 15) X dJ6_numberOfTrailingZeros_0f7a4_15 ?_
    exact j_iret (pc := 16) X dJ6_numberOfTrailingZeros_0f7a4_16 ⟨by simp [tzF, tz1, tz2, tz3, c_9], rfl⟩

set_option maxHeartbeats 4000000 in
set_option maxRecDepth 100000 in
theorem mX8_laySums_L3 (l : Launch) (G : jG) (ql : Nat) (ql0 : Nat) (ql1 : Nat) (tn : Nat) (qt : Nat) (qn : Nat) (ms : Bool) (so : Nat) (ln : Nat) (u : Nat → Int64) (qs : Nat) (f : Nat → Int64) (fr : Nat) (htn : tn ≤ 16) (hfr : fr ≤ 8) (hf0 : f 0 = 0) (κ : jK) (X : CX κ l yX8_laySums cX8_laySums 8 RX8 wsX8_laySums none ({ frames := 1, cells := 0, slots := 0, locals := 21 }) G (va_A [(ql, .inr (8, [.ref ql0, .ref ql1, .int (nI tn)])), (qt, .inr (7, [.ref qn, .int (b2i ms), .int (nI so), .int (nI ln)])), kJ G qn 40 u, kJ G qs 256 f] (js κ).heap.size))    : ∀ (fu : Nat) (st : Nat) (h1 : 1 ≤ st) (h2 : st ≤ 256) (_ : 256 - st < fu), JJ κ 8 G (va_A [(ql, .inr (8, [.ref ql0, .ref ql1, .int (nI tn)])), (qt, .inr (7, [.ref qn, .int (b2i ms), .int (nI so), .int (nI ln)])), kJ G qn 40 u, kJ G qs 256 f] (js κ).heap.size) 0 0 (jQ κ G [(ql, .inr (8, [.ref ql0, .ref ql1, .int (nI tn)])), (qt, .inr (7, [.ref qn, .int (b2i ms), .int (nI so), .int (nI ln)])), kJ G qn 40 u, kJ G qs 256 f] (fun r w' => r = none ∧ w' = [(ql, .inr (8, [.ref ql0, .ref ql1, .int (nI tn)])), (qt, .inr (7, [.ref qn, .int (b2i ms), .int (nI so), .int (nI ln)])), kJ G qn 40 u, kJ G qs 256 (pf (lsm u tn fr) f 256)]) 0 0) 3 [(0, .ref ql), (1, .ref qt), (2, .int (nI fr)), (3, .ref qs), (4, .int (nI st))] [] [(ql, .inr (8, [.ref ql0, .ref ql1, .int (nI tn)])), (qt, .inr (7, [.ref qn, .int (b2i ms), .int (nI so), .int (nI ln)])), kJ G qn 40 u, kJ G qs 256 (pf (lsm u tn fr) f st)] := by
  have i_X7 : ∀ w ∈ wsX70, w ∈ wsX8_laySums := by decide +kernel
  have i_X8 : ∀ w ∈ wsX80, w ∈ wsX8_laySums := by decide +kernel
  intro fu
  induction fu with
  | zero => intro st h1 h2 hms; exact absurd hms (Nat.not_lt_zero _)
  | succ fu ih =>
    intro st h1 h2 hms
    refine j_iload (pc := 3) X dX8_laySums_3 4 rfl ?_
    refine j_sipush (pc := 5) X (v := nI 256) dX8_laySums_5 (by decide) ?_
    refine j_icmpN_ge (pc := 8) X (a := st) (b := 256) (by first | omega | (have h9 := (tz8 (s := st) (by omega) (by omega)).2.1; omega)) (by first | omega | (have h9 := (tz8 (s := st) (by omega) (by omega)).2.1; omega)) (tgt := 64) dX8_laySums_8 (by decide) (fun c_8 => ?_) (fun c_8 => ?_)
    · skip
      exact j_vret (pc := 64) X dX8_laySums_64 ⟨rfl, by rw [show st = 256 by omega]⟩
    · skip
      refine j_iload_n (pc := 11) X dX8_laySums_11 rfl 2 rfl ?_
      refine j_iload (pc := 12) X dX8_laySums_12 4 rfl ?_
      refine j_ciP (pc := 14) X [] rfl (j_rS X (As := [.int (nI st)]) (rest := [.int (nI fr)]) 1 (mJ6_numberOfTrailingZeros_0f7a4 l G (nI st) ) gX8_laySums_J6_numberOfTrailingZeros_0f7a4 rfl rfl rfl (by decide +kernel) ⟨Nat.le_of_ble_eq_true rfl, Nat.le_of_ble_eq_true rfl⟩ rfl [] rfl rfl rfl (Nat.le_of_ble_eq_true rfl) dX8_laySums_14 ⟨Nat.le_of_ble_eq_true rfl, Nat.le_of_ble_eq_true rfl⟩) ?_
      refine j_topi (z := nI (tzn 8 st)) ((tz8 (by omega) (by omega)).1) ?_
      refine j_iadd (pc := 17) X dX8_laySums_17 ?_
      refine j_topi (z := nI (fr + tzn 8 st)) (nI_add _ _) ?_
      refine j_istore (pc := 18) X (lv' := [(5, .int (nI (fr + tzn 8 st))), (0, .ref ql), (1, .ref qt), (2, .int (nI fr)), (3, .ref qs), (4, .int (nI st))]) dX8_laySums_18 (by decide) rfl ?_
      refine j_iload (pc := 20) X dX8_laySums_20 0 rfl ?_
      refine j_aload_n (pc := 22) X dX8_laySums_22 rfl 1 rfl ?_
      refine j_get (pc := 23) X 8 i_X8 0 rfl rfl 2 (by decide) (by decide +kernel) rfl dX8_laySums_23 ?_
      refine j_icmpN_ge (pc := 26) X (a := (fr + tzn 8 st)) (b := tn) (by first | omega | (have h9 := (tz8 (s := st) (by omega) (by omega)).2.1; omega)) (by first | omega | (have h9 := (tz8 (s := st) (by omega) (by omega)).2.1; omega)) (tgt := 39) dX8_laySums_26 (by decide) (fun c_26 => ?_) (fun c_26 => ?_)
      · skip
        refine j_lconst (pc := 39) X (v := 0) dX8_laySums_39 (by decide) ?_
        refine j_lstore (pc := 40) X (lv' := [(6, .long 0), (5, .int (nI (fr + tzn 8 st))), (0, .ref ql), (1, .ref qt), (2, .int (nI fr)), (3, .ref qs), (4, .int (nI st))]) dX8_laySums_40 (by decide) rfl ?_
        refine j_aload_n (pc := 42) X dX8_laySums_42 rfl 5 rfl ?_
        refine j_iload (pc := 43) X dX8_laySums_43 6 rfl ?_
        refine j_aload_n (pc := 45) X dX8_laySums_45 rfl 5 rfl ?_
        refine j_iload (pc := 46) X dX8_laySums_46 6 rfl ?_
        refine j_iload (pc := 48) X dX8_laySums_48 6 rfl ?_
        refine j_iconst (pc := 50) X (v := nI 1) dX8_laySums_50 (by decide) ?_
        refine j_isub (pc := 51) X dX8_laySums_51 ?_
        refine j_topi (z := nI (st - 1)) (pk_sub (by omega)) ?_
        refine j_iand (pc := 52) X dX8_laySums_52 ?_
        refine j_topi (z := nI (st &&& (st - 1))) (nI_and _ _) ?_
        refine j_lald (pc := 53) X 3 rfl (vp_in_nI (by have h9 : st &&& (st - 1) ≤ st := Nat.and_le_left; omega) (by decide)) (v := lsm u tn fr (st &&& (st - 1))) ((congrArg (pf (lsm u tn fr) f st) (nI_clamp (by have h9 : st &&& (st - 1) ≤ st := Nat.and_le_left; omega))).trans (pf_in (by have h9 : st &&& (st - 1) ≤ st - 1 := Nat.and_le_right; omega))) dX8_laySums_53 ?_
        refine j_lload (pc := 54) X dX8_laySums_54 0 rfl ?_
        refine j_ladd (pc := 56) X dX8_laySums_56 ?_
        refine j_topl (z := lsm u tn fr st) (by rw [← lsm_s (s := st) (by omega) (by omega)]; first | rw [if_pos (by omega)] | rw [if_neg (by omega)]) ?_
        refine j_last (pc := 57) X (f2 := (va_up (pf (lsm u tn fr) f st) st (lsm u tn fr st))) (ws' := [(ql, .inr (8, [.ref ql0, .ref ql1, .int (nI tn)])), (qt, .inr (7, [.ref qn, .int (b2i ms), .int (nI so), .int (nI ln)])), kJ G qn 40 u, kJ G qs 256 (va_up (pf (lsm u tn fr) f st) st (lsm u tn fr st))]) 3 rfl (vp_in_nI (by omega) (by decide)) dX8_laySums_57 (by rw [nI_clamp (by omega)]; exact lF_up _ _ _) rfl ?_
        refine j_iinc (pc := 58) X (v := nI (st + 1)) (lv' := [(4, .int (nI (st + 1))), (6, .long 0), (5, .int (nI (fr + tzn 8 st))), (0, .ref ql), (1, .ref qt), (2, .int (nI fr)), (3, .ref qs)]) dX8_laySums_58 6 rfl (nI_1 _) (by decide) rfl ?_
        refine j_goto (pc := 61) X (tgt := 3) dX8_laySums_61 (by decide) ?_
        refine j_lv [3, 4, 5, 6, 0] (lv' := [(0, .ref ql), (1, .ref qt), (2, .int (nI fr)), (3, .ref qs), (4, .int (nI (st + 1)))]) rfl ?_
        refine j_ws (ws' := [(ql, .inr (8, [.ref ql0, .ref ql1, .int (nI tn)])), (qt, .inr (7, [.ref qn, .int (b2i ms), .int (nI so), .int (nI ln)])), kJ G qn 40 u, kJ G qs 256 (pf (lsm u tn fr) f (st + 1))]) ?_ ?_
        · (rw [pf_s])
        exact ih (st + 1) (by omega) (by omega) (by omega)
      · skip
        refine j_aload_n (pc := 29) X dX8_laySums_29 rfl 2 rfl ?_
        refine j_getN (pc := 30) X 7 i_X7 1 rfl rfl 0 (by decide) (by decide +kernel) rfl dX8_laySums_30 ?_
        refine j_iload (pc := 33) X dX8_laySums_33 0 rfl ?_
        refine j_lald (pc := 35) X 2 rfl (vp_in_nI (by have h9 := (tz8 (s := st) (by omega) (by omega)).2.1; omega) (by decide)) (v := u (fr + tzn 8 st)) (congrArg u (nI_clamp (by have h9 := (tz8 (s := st) (by omega) (by omega)).2.1; omega))) dX8_laySums_35 ?_
        refine j_goto (pc := 36) X (tgt := 40) dX8_laySums_36 (by decide) ?_
        refine j_lstore (pc := 40) X (lv' := [(6, .long (u (fr + tzn 8 st))), (5, .int (nI (fr + tzn 8 st))), (0, .ref ql), (1, .ref qt), (2, .int (nI fr)), (3, .ref qs), (4, .int (nI st))]) dX8_laySums_40 (by decide) rfl ?_
        refine j_aload_n (pc := 42) X dX8_laySums_42 rfl 5 rfl ?_
        refine j_iload (pc := 43) X dX8_laySums_43 6 rfl ?_
        refine j_aload_n (pc := 45) X dX8_laySums_45 rfl 5 rfl ?_
        refine j_iload (pc := 46) X dX8_laySums_46 6 rfl ?_
        refine j_iload (pc := 48) X dX8_laySums_48 6 rfl ?_
        refine j_iconst (pc := 50) X (v := nI 1) dX8_laySums_50 (by decide) ?_
        refine j_isub (pc := 51) X dX8_laySums_51 ?_
        refine j_topi (z := nI (st - 1)) (pk_sub (by omega)) ?_
        refine j_iand (pc := 52) X dX8_laySums_52 ?_
        refine j_topi (z := nI (st &&& (st - 1))) (nI_and _ _) ?_
        refine j_lald (pc := 53) X 3 rfl (vp_in_nI (by have h9 : st &&& (st - 1) ≤ st := Nat.and_le_left; omega) (by decide)) (v := lsm u tn fr (st &&& (st - 1))) ((congrArg (pf (lsm u tn fr) f st) (nI_clamp (by have h9 : st &&& (st - 1) ≤ st := Nat.and_le_left; omega))).trans (pf_in (by have h9 : st &&& (st - 1) ≤ st - 1 := Nat.and_le_right; omega))) dX8_laySums_53 ?_
        refine j_lload (pc := 54) X dX8_laySums_54 0 rfl ?_
        refine j_ladd (pc := 56) X dX8_laySums_56 ?_
        refine j_topl (z := lsm u tn fr st) (by rw [← lsm_s (s := st) (by omega) (by omega)]; first | rw [if_pos (by omega)] | rw [if_neg (by omega)]) ?_
        refine j_last (pc := 57) X (f2 := (va_up (pf (lsm u tn fr) f st) st (lsm u tn fr st))) (ws' := [(ql, .inr (8, [.ref ql0, .ref ql1, .int (nI tn)])), (qt, .inr (7, [.ref qn, .int (b2i ms), .int (nI so), .int (nI ln)])), kJ G qn 40 u, kJ G qs 256 (va_up (pf (lsm u tn fr) f st) st (lsm u tn fr st))]) 3 rfl (vp_in_nI (by omega) (by decide)) dX8_laySums_57 (by rw [nI_clamp (by omega)]; exact lF_up _ _ _) rfl ?_
        refine j_iinc (pc := 58) X (v := nI (st + 1)) (lv' := [(4, .int (nI (st + 1))), (6, .long (u (fr + tzn 8 st))), (5, .int (nI (fr + tzn 8 st))), (0, .ref ql), (1, .ref qt), (2, .int (nI fr)), (3, .ref qs)]) dX8_laySums_58 6 rfl (nI_1 _) (by decide) rfl ?_
        refine j_goto (pc := 61) X (tgt := 3) dX8_laySums_61 (by decide) ?_
        refine j_lv [3, 4, 5, 6, 0] (lv' := [(0, .ref ql), (1, .ref qt), (2, .int (nI fr)), (3, .ref qs), (4, .int (nI (st + 1)))]) rfl ?_
        refine j_ws (ws' := [(ql, .inr (8, [.ref ql0, .ref ql1, .int (nI tn)])), (qt, .inr (7, [.ref qn, .int (b2i ms), .int (nI so), .int (nI ln)])), kJ G qn 40 u, kJ G qs 256 (pf (lsm u tn fr) f (st + 1))]) ?_ ?_
        · (rw [pf_s])
        exact ih (st + 1) (by omega) (by omega) (by omega)
set_option maxHeartbeats 4000000 in
set_option maxRecDepth 100000 in
theorem mX8_laySums (l : Launch) (G : jG) (ql : Nat) (ql0 : Nat) (ql1 : Nat) (tn : Nat) (qt : Nat) (qn : Nat) (ms : Bool) (so : Nat) (ln : Nat) (u : Nat → Int64) (qs : Nat) (f : Nat → Int64) (fr : Nat) (htn : tn ≤ 16) (hfr : fr ≤ 8) (hf0 : f 0 = 0) : MV l yX8_laySums wsX8_laySums ({ frames := 1, cells := 0, slots := 0, locals := 21 }) G [.ref ql, .ref qt, .int (nI fr), .ref qs] [(ql, .inr (8, [.ref ql0, .ref ql1, .int (nI tn)])), (qt, .inr (7, [.ref qn, .int (b2i ms), .int (nI so), .int (nI ln)])), kJ G qn 40 u, kJ G qs 256 f] (none) [(ql, .inr (8, [.ref ql0, .ref ql1, .int (nI tn)])), (qt, .inr (7, [.ref qn, .int (b2i ms), .int (nI so), .int (nI ln)])), kJ G qn 40 u, kJ G qs 256 (pf (lsm u tn fr) f 256)] := by
  refine MF.ofJ (cc := cX8_laySums) (maxL := 8) (ret := none) (own := RX8) (lv := [(0, .ref ql), (1, .ref qt), (2, .int (nI fr)), (3, .ref qs)]) (by decide) rfl rfl (Nat.le_of_ble_eq_true rfl) rfl ?_
  intro κ X
  have i_X7 : ∀ w ∈ wsX70, w ∈ wsX8_laySums := by decide +kernel
  have i_X8 : ∀ w ∈ wsX80, w ∈ wsX8_laySums := by decide +kernel
  refine j_iconst (pc := 0) X (v := nI 1) dX8_laySums_0 (by decide) ?_
  refine j_istore (pc := 1) X (lv' := [(4, .int (nI 1)), (0, .ref ql), (1, .ref qt), (2, .int (nI fr)), (3, .ref qs)]) dX8_laySums_1 (by decide) rfl ?_
  refine j_lv [1, 2, 3, 4, 0] (lv' := [(0, .ref ql), (1, .ref qt), (2, .int (nI fr)), (3, .ref qs), (4, .int (nI 1))]) rfl ?_
  refine j_ws (ws' := [(ql, .inr (8, [.ref ql0, .ref ql1, .int (nI tn)])), (qt, .inr (7, [.ref qn, .int (b2i ms), .int (nI so), .int (nI ln)])), kJ G qn 40 u, kJ G qs 256 (pf (lsm u tn fr) f 1)]) ?_ ?_
  · (rw [pf_1 (by rw [hf0, lsm_0])])
  exact mX8_laySums_L3 l G ql ql0 ql1 tn qt qn ms so ln u qs f fr htn hfr hf0 κ X    (256 - 1 + 1) 1 (by omega) (by omega) (Nat.lt_succ_self _)

set_option maxHeartbeats 4000000 in
set_option maxRecDepth 100000 in
theorem mX8_lay (l : Launch) (G : jG) (ql : Nat) (ql0 : Nat) (ql1 : Nat) (tn : Nat) (f1 : Nat → Int64) (f2 : Nat → Int64) (qt : Nat) (qn : Nat) (ms : Bool) (so : Nat) (ln : Nat) (u : Nat → Int64) (n : Nat) (hn : n ≤ 16) (hf1 : f1 0 = 0) (hf2 : f2 0 = 0) : MV l yX8_lay wsX8_lay ({ frames := 2, cells := 0, slots := 0, locals := 48 }) G [.ref ql, .ref qt, .int (nI n)] [(ql, .inr (8, [.ref ql0, .ref ql1, .int (nI tn)])), kJ G ql0 256 f1, kJ G ql1 256 f2, (qt, .inr (7, [.ref qn, .int (b2i ms), .int (nI so), .int (nI ln)])), kJ G qn 40 u] (none) [(ql, .inr (8, [.ref ql0, .ref ql1, .int (nI n)])), kJ G ql0 256 (pf (lsm u n 0) f1 256), kJ G ql1 256 (pf (lsm u n 8) f2 256), (qt, .inr (7, [.ref qn, .int (b2i ms), .int (nI so), .int (nI ln)])), kJ G qn 40 u] := by
  refine MF.ofJ (cc := cX8_lay) (maxL := 3) (ret := none) (own := RX8) (lv := [(0, .ref ql), (1, .ref qt), (2, .int (nI n))]) (by decide) rfl rfl (Nat.le_of_ble_eq_true rfl) rfl ?_
  intro κ X
  have i_X7 : ∀ w ∈ wsX70, w ∈ wsX8_lay := by decide +kernel
  have i_X8 : ∀ w ∈ wsX80, w ∈ wsX8_lay := by decide +kernel
  refine j_aload_n (pc := 0) X dX8_lay_0 rfl 0 rfl ?_
  refine j_iload_n (pc := 1) X dX8_lay_1 rfl 2 rfl ?_
  refine j_put (pc := 2) X (v := .int (nI n)) (ws' := [(ql, .inr (8, [.ref ql0, .ref ql1, .int (nI n)])), kJ G ql0 256 f1, kJ G ql1 256 f2, (qt, .inr (7, [.ref qn, .int (b2i ms), .int (nI so), .int (nI ln)])), kJ G qn 40 u]) 8 i_X8 tyX8 tyX8_ok nmX8 0 rfl rfl 2 (by decide) (by decide +kernel) (by decide) (rfl) (rfl) (Nat.le_of_ble_eq_true rfl) dX8_lay_2 rfl ?_
  refine j_aload_n (pc := 5) X dX8_lay_5 rfl 0 rfl ?_
  refine j_aload_n (pc := 6) X dX8_lay_6 rfl 1 rfl ?_
  refine j_iconst (pc := 7) X (v := nI 0) dX8_lay_7 (by decide) ?_
  refine j_aload_n (pc := 8) X dX8_lay_8 rfl 0 rfl ?_
  refine j_get (pc := 9) X 8 i_X8 0 rfl rfl 0 (by decide) (by decide +kernel) rfl dX8_lay_9 ?_
  refine j_cv (pc := 12) X (ws' := [(ql, .inr (8, [.ref ql0, .ref ql1, .int (nI n)])), kJ G ql0 256 (pf (lsm u n 0) f1 256), kJ G ql1 256 f2, (qt, .inr (7, [.ref qn, .int (b2i ms), .int (nI so), .int (nI ln)])), kJ G qn 40 u]) [0, 3, 4, 1] rfl (j_rV X (b := ql) (As := [.ref qt, .int (nI 0), .ref ql0]) (ci := 8) (rest := []) 3 (mX8_laySums l G ql ql0 ql1 n qt qn ms so ln u ql0 f1 0 (by first | assumption | omega | exact ob_s (by omega) | exact ob_n) (by first | assumption | omega | exact ob_s (by omega) | exact ob_n) (by first | assumption | omega | exact ob_s (by omega) | exact ob_n)) gX8_lay_X8_laySums rfl rfl rfl (by decide +kernel) ⟨Nat.le_of_ble_eq_true rfl, Nat.le_of_ble_eq_true rfl⟩ rfl rfl 0 rfl [0, 3, 4, 1] rfl rfl rfl (Nat.le_of_ble_eq_true rfl) dX8_lay_12 ⟨Nat.le_of_ble_eq_true rfl, Nat.le_of_ble_eq_true rfl⟩) rfl rfl ?_
  refine j_aload_n (pc := 15) X dX8_lay_15 rfl 0 rfl ?_
  refine j_aload_n (pc := 16) X dX8_lay_16 rfl 1 rfl ?_
  refine j_bipush (pc := 17) X (v := nI 8) dX8_lay_17 (by decide) ?_
  refine j_aload_n (pc := 19) X dX8_lay_19 rfl 0 rfl ?_
  refine j_get (pc := 20) X 8 i_X8 0 rfl rfl 1 (by decide) (by decide +kernel) rfl dX8_lay_20 ?_
  refine j_cv (pc := 23) X (ws' := [(ql, .inr (8, [.ref ql0, .ref ql1, .int (nI n)])), kJ G ql0 256 (pf (lsm u n 0) f1 256), kJ G ql1 256 (pf (lsm u n 8) f2 256), (qt, .inr (7, [.ref qn, .int (b2i ms), .int (nI so), .int (nI ln)])), kJ G qn 40 u]) [0, 3, 4, 2] rfl (j_rV X (b := ql) (As := [.ref qt, .int (nI 8), .ref ql1]) (ci := 8) (rest := []) 3 (mX8_laySums l G ql ql0 ql1 n qt qn ms so ln u ql1 f2 8 (by first | assumption | omega | exact ob_s (by omega) | exact ob_n) (by first | assumption | omega | exact ob_s (by omega) | exact ob_n) (by first | assumption | omega | exact ob_s (by omega) | exact ob_n)) gX8_lay_X8_laySums rfl rfl rfl (by decide +kernel) ⟨Nat.le_of_ble_eq_true rfl, Nat.le_of_ble_eq_true rfl⟩ rfl rfl 0 rfl [0, 3, 4, 2] rfl rfl rfl (Nat.le_of_ble_eq_true rfl) dX8_lay_23 ⟨Nat.le_of_ble_eq_true rfl, Nat.le_of_ble_eq_true rfl⟩) rfl rfl ?_
  exact j_vret (pc := 26) X dX8_lay_26 ⟨rfl, rfl⟩

set_option maxHeartbeats 4000000 in
set_option maxRecDepth 100000 in
theorem mX8_sumOf (l : Launch) (G : jG) (ql : Nat) (ql0 : Nat) (ql1 : Nat) (tn : Nat) (f1 : Nat → Int64) (f2 : Nat → Int64) (s : Nat) (hs : s < 2147483648) : MV l yX8_sumOf wsX8_sumOf ({ frames := 0, cells := 0, slots := 0, locals := 0 }) G [.ref ql, .int (nI s)] [(ql, .inr (8, [.ref ql0, .ref ql1, .int (nI tn)])), kJ G ql0 256 f1, kJ G ql1 256 f2] (some (.long (sm2 f1 f2 s))) [(ql, .inr (8, [.ref ql0, .ref ql1, .int (nI tn)])), kJ G ql0 256 f1, kJ G ql1 256 f2] := by
  refine MF.ofJ (cc := cX8_sumOf) (maxL := 2) (ret := (some .long)) (own := RX8) (lv := [(0, .ref ql), (1, .int (nI s))]) (by decide) rfl rfl (Nat.le_of_ble_eq_true rfl) rfl ?_
  intro κ X
  have i_X8 : ∀ w ∈ wsX80, w ∈ wsX8_sumOf := by decide +kernel
  refine j_aload_n (pc := 0) X dX8_sumOf_0 rfl 0 rfl ?_
  refine j_get (pc := 1) X 8 i_X8 0 rfl rfl 0 (by decide) (by decide +kernel) rfl dX8_sumOf_1 ?_
  refine j_iload_n (pc := 4) X dX8_sumOf_4 rfl 1 rfl ?_
  refine j_sipush (pc := 5) X (v := nI 255) dX8_sumOf_5 (by decide) ?_
  refine j_iand (pc := 8) X dX8_sumOf_8 ?_
  refine j_topi (z := nI (s % 256)) (pk_andN (by omega) 8 (by decide)) ?_
  refine j_lald (pc := 9) X 1 rfl (vp_in_nI (by omega) (by decide)) (v := f1 (s % 256)) (congrArg f1 (nI_clamp (by omega))) dX8_sumOf_9 ?_
  refine j_aload_n (pc := 10) X dX8_sumOf_10 rfl 0 rfl ?_
  refine j_get (pc := 11) X 8 i_X8 0 rfl rfl 1 (by decide) (by decide +kernel) rfl dX8_sumOf_11 ?_
  refine j_iload_n (pc := 14) X dX8_sumOf_14 rfl 1 rfl ?_
  refine j_bipush (pc := 15) X (v := nI 8) dX8_sumOf_15 (by decide) ?_
  refine j_ishr (pc := 17) X dX8_sumOf_17 ?_
  refine j_topi (z := nI (s / 256)) (pk_shrN (by omega) _ 8 (by decide)) ?_
  refine j_sipush (pc := 18) X (v := nI 255) dX8_sumOf_18 (by decide) ?_
  refine j_iand (pc := 21) X dX8_sumOf_21 ?_
  refine j_topi (z := nI (s / 256 % 256)) (pk_andN (by omega) 8 (by decide)) ?_
  refine j_lald (pc := 22) X 2 rfl (vp_in_nI (by omega) (by decide)) (v := f2 (s / 256 % 256)) (congrArg f2 (nI_clamp (by omega))) dX8_sumOf_22 ?_
  refine j_ladd (pc := 23) X dX8_sumOf_23 ?_
  exact j_lret (pc := 24) X dX8_sumOf_24 ⟨by rfl, rfl⟩

set_option maxHeartbeats 4000000 in
set_option maxRecDepth 100000 in
theorem mX8_countSets_L4 (l : Launch) (G : jG) (n : Nat) (k : Nat) (hn : n ≤ 16) (hk : k ≤ n) (κ : jK) (X : CX κ l yX8_countSets cX8_countSets 4 RX8 wsX8_countSets (some .int) ({ frames := 0, cells := 0, slots := 0, locals := 0 }) G (va_A [] (js κ).heap.size))    : ∀ (fu : Nat) (i : Nat) (hi : i ≤ k) (_ : k - i < fu), JJ κ 4 G (va_A [] (js κ).heap.size) 0 0 (jQ κ G [] (fun r w' => r = some (.int (nI (csF n k k))) ∧ w' = []) 0 0) 4 [(0, .int (nI n)), (1, .int (nI k)), (2, .int (nI (csF n k i))), (3, .int (nI (i + 1)))] [] [] := by
  intro fu
  induction fu with
  | zero => intro i hi hms; exact absurd hms (Nat.not_lt_zero _)
  | succ fu ih =>
    intro i hi hms
    refine j_iload_n (pc := 4) X dX8_countSets_4 rfl 3 rfl ?_
    refine j_iload_n (pc := 5) X dX8_countSets_5 rfl 1 rfl ?_
    refine j_icmpN_gt (pc := 6) X (a := (i + 1)) (b := k) (by omega) (by omega) (tgt := 25) dX8_countSets_6 (by decide) (fun c_6 => ?_) (fun c_6 => ?_)
    · skip
      refine j_iload_n (pc := 25) X dX8_countSets_25 rfl 2 rfl ?_
      exact j_iret (pc := 26) X dX8_countSets_26 ⟨by rw [show i = k by omega], rfl⟩
    · skip
      refine j_iload_n (pc := 9) X dX8_countSets_9 rfl 2 rfl ?_
      refine j_iload_n (pc := 10) X dX8_countSets_10 rfl 0 rfl ?_
      refine j_iload_n (pc := 11) X dX8_countSets_11 rfl 1 rfl ?_
      refine j_isub (pc := 12) X dX8_countSets_12 ?_
      refine j_topi (z := nI (n - k)) (pk_sub (by omega)) ?_
      refine j_iload_n (pc := 13) X dX8_countSets_13 rfl 3 rfl ?_
      refine j_iadd (pc := 14) X dX8_countSets_14 ?_
      refine j_topi (z := nI (n - k + (i + 1))) (nI_add _ _) ?_
      refine j_imul (pc := 15) X dX8_countSets_15 ?_
      refine j_topi (z := nI (csF n k i * (n - k + (i + 1)))) (pk_mul _ _) ?_
      refine j_iload_n (pc := 16) X dX8_countSets_16 rfl 3 rfl ?_
      refine j_idiv (pc := 17) X dX8_countSets_17 (by exact nI_ne0 (by omega) (by omega)) ?_
      refine j_topi (z := nI (csF n k i * (n - k + (i + 1)) / (i + 1))) (pk_div (by have h9 := csF_le hn hk (i := i) (by omega); have h8 : csF n k i * (n - k + (i + 1)) ≤ 200000 * 40 := Nat.mul_le_mul h9 (by omega); omega) (by omega) (by omega)) ?_
      refine j_istore_n (pc := 18) X (lv' := [(2, .int (nI (csF n k i * (n - k + (i + 1)) / (i + 1)))), (0, .int (nI n)), (1, .int (nI k)), (3, .int (nI (i + 1)))]) dX8_countSets_18 rfl (by decide) rfl ?_
      refine j_iinc (pc := 19) X (v := nI (i + 1 + 1)) (lv' := [(3, .int (nI (i + 1 + 1))), (2, .int (nI (csF n k i * (n - k + (i + 1)) / (i + 1)))), (0, .int (nI n)), (1, .int (nI k))]) dX8_countSets_19 3 rfl (nI_1 _) (by decide) rfl ?_
      refine j_goto (pc := 22) X (tgt := 4) dX8_countSets_22 (by decide) ?_
      refine j_lv [2, 3, 1, 0] (lv' := [(0, .int (nI n)), (1, .int (nI k)), (2, .int (nI (csF n k i * (n - k + (i + 1)) / (i + 1)))), (3, .int (nI (i + 1 + 1)))]) rfl ?_
      refine j_lvq (lv' := [(0, .int (nI n)), (1, .int (nI k)), (2, .int (nI (csF n k (i + 1)))), (3, .int (nI (i + 1 + 1)))]) ?_ ?_
      · rw [show (csF n k i * (n - k + (i + 1)) / (i + 1)) = csF n k (i + 1) from by (rfl)]
      exact ih (i + 1) (by omega) (by omega)
set_option maxHeartbeats 4000000 in
set_option maxRecDepth 100000 in
theorem mX8_countSets (l : Launch) (G : jG) (n : Nat) (k : Nat) (hn : n ≤ 16) (hk : k ≤ n) : MV l yX8_countSets wsX8_countSets ({ frames := 0, cells := 0, slots := 0, locals := 0 }) G [.int (nI n), .int (nI k)] [] (some (.int (nI (csF n k k)))) [] := by
  refine MF.ofJ (cc := cX8_countSets) (maxL := 4) (ret := (some .int)) (own := RX8) (lv := [(0, .int (nI n)), (1, .int (nI k))]) (by decide) rfl rfl (Nat.le_of_ble_eq_true rfl) rfl ?_
  intro κ X
  refine j_iconst (pc := 0) X (v := nI 1) dX8_countSets_0 (by decide) ?_
  refine j_istore_n (pc := 1) X (lv' := [(2, .int (nI 1)), (0, .int (nI n)), (1, .int (nI k))]) dX8_countSets_1 rfl (by decide) rfl ?_
  refine j_iconst (pc := 2) X (v := nI 1) dX8_countSets_2 (by decide) ?_
  refine j_istore_n (pc := 3) X (lv' := [(3, .int (nI 1)), (2, .int (nI 1)), (0, .int (nI n)), (1, .int (nI k))]) dX8_countSets_3 rfl (by decide) rfl ?_
  refine j_lv [2, 3, 1, 0] (lv' := [(0, .int (nI n)), (1, .int (nI k)), (2, .int (nI 1)), (3, .int (nI 1))]) rfl ?_
  refine j_lvq (lv' := [(0, .int (nI n)), (1, .int (nI k)), (2, .int (nI (csF n k 0))), (3, .int (nI (0 + 1)))]) ?_ ?_
  · first | rfl | (rw [show (1) = csF n k 0 from by (rfl), show (1) = 0 + 1 from by (rfl)])
  exact mX8_countSets_L4 l G n k hn hk κ X    (k - 0 + 1) 0 (by omega) (Nat.lt_succ_self _)

set_option maxHeartbeats 4000000 in
set_option maxRecDepth 100000 in
theorem mX8_nextOfSameSize (l : Launch) (G : jG) (x : Int32)  : MV l yX8_nextOfSameSize wsX8_nextOfSameSize ({ frames := 1, cells := 0, slots := 0, locals := 21 }) G [.int x] [] (some (.int (nxF x))) [] := by
  refine MF.ofJ (cc := cX8_nextOfSameSize) (maxL := 4) (ret := (some .int)) (own := RX8) (lv := [(0, .int x)]) (by decide) rfl rfl (Nat.le_of_ble_eq_true rfl) rfl ?_
  intro κ X
  refine j_iload_n (pc := 0) X dX8_nextOfSameSize_0 rfl 0 rfl ?_
  refine j_iload_n (pc := 1) X dX8_nextOfSameSize_1 rfl 0 rfl ?_
  refine j_ineg (pc := 2) X dX8_nextOfSameSize_2 ?_
  refine j_iand (pc := 3) X dX8_nextOfSameSize_3 ?_
  refine j_istore_n (pc := 4) X (lv' := [(1, .int (x &&& (-x))), (0, .int x)]) dX8_nextOfSameSize_4 rfl (by decide) rfl ?_
  refine j_iload_n (pc := 5) X dX8_nextOfSameSize_5 rfl 1 rfl ?_
  refine j_iload_n (pc := 6) X dX8_nextOfSameSize_6 rfl 0 rfl ?_
  refine j_iadd (pc := 7) X dX8_nextOfSameSize_7 ?_
  refine j_istore_n (pc := 8) X (lv' := [(2, .int (x + (x &&& (-x)))), (1, .int (x &&& (-x))), (0, .int x)]) dX8_nextOfSameSize_8 rfl (by decide) rfl ?_
  refine j_iload_n (pc := 9) X dX8_nextOfSameSize_9 rfl 2 rfl ?_
  refine j_iload_n (pc := 10) X dX8_nextOfSameSize_10 rfl 0 rfl ?_
  refine j_ixor (pc := 11) X dX8_nextOfSameSize_11 ?_
  refine j_iconst (pc := 12) X (v := nI 2) dX8_nextOfSameSize_12 (by decide) ?_
  refine j_iushr (pc := 13) X (v := ush (x ^^^ (x + (x &&& (-x)))) 2) dX8_nextOfSameSize_13 (rfl) ?_
  refine j_istore_n (pc := 14) X (lv' := [(3, .int (ush (x ^^^ (x + (x &&& (-x)))) 2)), (2, .int (x + (x &&& (-x)))), (1, .int (x &&& (-x))), (0, .int x)]) dX8_nextOfSameSize_14 rfl (by decide) rfl ?_
  refine j_iload_n (pc := 15) X dX8_nextOfSameSize_15 rfl 1 rfl ?_
  refine j_iload_n (pc := 16) X dX8_nextOfSameSize_16 rfl 0 rfl ?_
  refine j_iload_n (pc := 17) X dX8_nextOfSameSize_17 rfl 2 rfl ?_
  refine j_ciP (pc := 18) X [] rfl (j_rS X (As := [.int (x &&& (-x))]) (rest := [.int (ush (x ^^^ (x + (x &&& (-x)))) 2), .int (x + (x &&& (-x)))]) 1 (mJ6_numberOfTrailingZeros_0f7a4 l G (x &&& (-x)) ) gX8_nextOfSameSize_J6_numberOfTrailingZeros_0f7a4 rfl rfl rfl (by decide +kernel) ⟨Nat.le_of_ble_eq_true rfl, Nat.le_of_ble_eq_true rfl⟩ rfl [] rfl rfl rfl (Nat.le_of_ble_eq_true rfl) dX8_nextOfSameSize_18 ⟨Nat.le_of_ble_eq_true rfl, Nat.le_of_ble_eq_true rfl⟩) ?_
  refine j_iushr (pc := 21) X (v := ((ush (x ^^^ (x + (x &&& (-x)))) 2).toUInt32 >>> ((tzF (x &&& (-x))).toUInt32 &&& Int32.toUInt32 31)).toInt32) dX8_nextOfSameSize_21 (rfl) ?_
  refine j_ior (pc := 22) X dX8_nextOfSameSize_22 ?_
  exact j_iret (pc := 23) X dX8_nextOfSameSize_23 ⟨by rfl, rfl⟩

set_option maxHeartbeats 4000000 in
set_option maxRecDepth 100000 in
theorem mX8_drawnSet_L12 (l : Launch) (G : jG) (n : Nat) (k : Nat) (seed : Nat) (hn : n ≤ 16) (κ : jK) (X : CX κ l yX8_drawnSet cX8_drawnSet 8 RX8 wsX8_drawnSet (some .int) ({ frames := 0, cells := 0, slots := 0, locals := 0 }) G (va_A [] (js κ).heap.size))    : ∀ (fu : Nat) (i : Nat) (s : Int64) (lf : Int32) (se : Int32) (hi : i ≤ n) (hq : drF n (n - i) s lf se = drF n n (nI seed).toInt64 (nI k) (nI 0)) (_ : n - i < fu), JJ κ 8 G (va_A [] (js κ).heap.size) 0 0 (jQ κ G [] (fun r w' => r = some (.int (drF n n (nI seed).toInt64 (nI k) (nI 0))) ∧ w' = []) 0 0) 12 [(0, .int (nI n)), (3, .long s), (5, .int lf), (6, .int se), (7, .int (nI i))] [] [] := by
  intro fu
  induction fu with
  | zero => intro i s lf se hi hq hms; exact absurd hms (Nat.not_lt_zero _)
  | succ fu ih =>
    intro i s lf se hi hq hms
    refine j_iload (pc := 12) X dX8_drawnSet_12 4 rfl ?_
    refine j_iload_n (pc := 14) X dX8_drawnSet_14 rfl 0 rfl ?_
    refine j_icmpN_ge (pc := 15) X (a := i) (b := n) (by omega) (by omega) (tgt := 67) dX8_drawnSet_15 (by decide) (fun c_15 => ?_) (fun c_15 => ?_)
    · skip
      refine j_iload (pc := 67) X dX8_drawnSet_67 3 rfl ?_
      exact j_iret (pc := 69) X dX8_drawnSet_69 ⟨by rw [← hq, show n - i = 0 by omega]; rfl, rfl⟩
    · skip
      refine j_ldc2 (pc := 18) X (v := 1103515245) dX8_drawnSet_18 (by decide +kernel) ?_
      refine j_lload_n (pc := 21) X dX8_drawnSet_21 rfl 1 rfl ?_
      refine j_lmul (pc := 22) X dX8_drawnSet_22 ?_
      refine j_ldc2 (pc := 23) X (v := 12345) dX8_drawnSet_23 (by decide +kernel) ?_
      refine j_ladd (pc := 26) X dX8_drawnSet_26 ?_
      refine j_ldc2 (pc := 27) X (v := 2147483647) dX8_drawnSet_27 (by decide +kernel) ?_
      refine j_land (pc := 30) X dX8_drawnSet_30 ?_
      refine j_topl (z := lotS s) (rfl) ?_
      refine j_lstore_n (pc := 31) X (lv' := [(3, .long (lotS s)), (0, .int (nI n)), (5, .int lf), (6, .int se), (7, .int (nI i))]) dX8_drawnSet_31 rfl (by decide) rfl ?_
      refine j_lload_n (pc := 32) X dX8_drawnSet_32 rfl 0 rfl ?_
      refine j_bipush (pc := 33) X (v := nI 16) dX8_drawnSet_33 (by decide) ?_
      refine j_lshr (pc := 35) X (v := (lotS s) >>> ((nI 16).toInt64 &&& 63)) dX8_drawnSet_35 (rfl) ?_
      refine j_iload_n (pc := 36) X dX8_drawnSet_36 rfl 1 rfl ?_
      refine j_iload (pc := 37) X dX8_drawnSet_37 4 rfl ?_
      refine j_isub (pc := 39) X dX8_drawnSet_39 ?_
      refine j_topi (z := nI (n - i)) (pk_sub (by omega)) ?_
      refine j_i2l (pc := 40) X (v := (nI (n - i)).toInt64) dX8_drawnSet_40 (rfl) ?_
      refine j_lrem (pc := 41) X dX8_drawnSet_41 (by rw [nI_l (by omega)]; exact lN_ne0 (by omega) (by omega)) ?_
      refine j_iload (pc := 42) X dX8_drawnSet_42 2 rfl ?_
      refine j_i2l (pc := 44) X (v := lf.toInt64) dX8_drawnSet_44 (rfl) ?_
      refine j_lcmp (pc := 45) X dX8_drawnSet_45 ?_
      refine j_ifc_ge (pc := 46) X (tgt := 61) dX8_drawnSet_46 (by decide) (fun c_46 => ?_) (fun c_46 => ?_)
      · skip
        refine j_iinc (pc := 61) X (v := nI (i + 1)) (lv' := [(7, .int (nI (i + 1))), (3, .long (lotS s)), (0, .int (nI n)), (5, .int lf), (6, .int se)]) dX8_drawnSet_61 4 rfl (nI_1 _) (by decide) rfl ?_
        refine j_goto (pc := 64) X (tgt := 12) dX8_drawnSet_64 (by decide) ?_
        refine j_lv [2, 1, 3, 4, 0] (lv' := [(0, .int (nI n)), (3, .long (lotS s)), (5, .int lf), (6, .int se), (7, .int (nI (i + 1)))]) rfl ?_
        exact ih (i + 1) (lotS s) lf se (by omega) (by rw [← hq, show n - i = (n - (i + 1)) + 1 by omega]; simp only [drF]; rw [show n - (n - (i + 1) + 1) = i by omega, show n - (i + 1) + 1 = n - i by omega]; simp only [lotS] at c_46 ⊢; simp [c_46]) (by omega)
      · skip
        refine j_iload (pc := 49) X dX8_drawnSet_49 3 rfl ?_
        refine j_iconst (pc := 51) X (v := nI 1) dX8_drawnSet_51 (by decide) ?_
        refine j_iload (pc := 52) X dX8_drawnSet_52 4 rfl ?_
        refine j_ishl (pc := 54) X dX8_drawnSet_54 ?_
        refine j_ior (pc := 55) X dX8_drawnSet_55 ?_
        refine j_istore (pc := 56) X (lv' := [(6, .int (se ||| ((nI 1) <<< ((nI i) &&& 31)))), (3, .long (lotS s)), (0, .int (nI n)), (5, .int lf), (7, .int (nI i))]) dX8_drawnSet_56 (by decide) rfl ?_
        refine j_iinc (pc := 58) X (v := lf + (-1)) (lv' := [(5, .int (lf + (-1))), (6, .int (se ||| ((nI 1) <<< ((nI i) &&& 31)))), (3, .long (lotS s)), (0, .int (nI n)), (7, .int (nI i))]) dX8_drawnSet_58 3 rfl (rfl) (by decide) rfl ?_
        refine j_iinc (pc := 61) X (v := nI (i + 1)) (lv' := [(7, .int (nI (i + 1))), (5, .int (lf + (-1))), (6, .int (se ||| ((nI 1) <<< ((nI i) &&& 31)))), (3, .long (lotS s)), (0, .int (nI n))]) dX8_drawnSet_61 4 rfl (nI_1 _) (by decide) rfl ?_
        refine j_goto (pc := 64) X (tgt := 12) dX8_drawnSet_64 (by decide) ?_
        refine j_lv [4, 3, 1, 2, 0] (lv' := [(0, .int (nI n)), (3, .long (lotS s)), (5, .int (lf + (-1))), (6, .int (se ||| ((nI 1) <<< ((nI i) &&& 31)))), (7, .int (nI (i + 1)))]) rfl ?_
        exact ih (i + 1) (lotS s) (lf + (-1)) (se ||| ((nI 1) <<< ((nI i) &&& 31))) (by omega) (by rw [← hq, show n - i = (n - (i + 1)) + 1 by omega]; simp only [drF]; rw [show n - (n - (i + 1) + 1) = i by omega, show n - (i + 1) + 1 = n - i by omega]; simp only [lotS] at c_46 ⊢; simp [c_46]) (by omega)
set_option maxHeartbeats 4000000 in
set_option maxRecDepth 100000 in
theorem mX8_drawnSet (l : Launch) (G : jG) (n : Nat) (k : Nat) (seed : Nat) (hn : n ≤ 16) : MV l yX8_drawnSet wsX8_drawnSet ({ frames := 0, cells := 0, slots := 0, locals := 0 }) G [.int (nI n), .int (nI k), .int (nI seed)] [] (some (.int (drF n n (nI seed).toInt64 (nI k) (nI 0)))) [] := by
  refine MF.ofJ (cc := cX8_drawnSet) (maxL := 8) (ret := (some .int)) (own := RX8) (lv := [(0, .int (nI n)), (1, .int (nI k)), (2, .int (nI seed))]) (by decide) rfl rfl (Nat.le_of_ble_eq_true rfl) rfl ?_
  intro κ X
  refine j_iload_n (pc := 0) X dX8_drawnSet_0 rfl 2 rfl ?_
  refine j_i2l (pc := 1) X (v := (nI seed).toInt64) dX8_drawnSet_1 (rfl) ?_
  refine j_lstore_n (pc := 2) X (lv' := [(3, .long ((nI seed).toInt64)), (0, .int (nI n)), (1, .int (nI k)), (2, .int (nI seed))]) dX8_drawnSet_2 rfl (by decide) rfl ?_
  refine j_iload_n (pc := 3) X dX8_drawnSet_3 rfl 2 rfl ?_
  refine j_istore (pc := 4) X (lv' := [(5, .int (nI k)), (3, .long ((nI seed).toInt64)), (0, .int (nI n)), (1, .int (nI k)), (2, .int (nI seed))]) dX8_drawnSet_4 (by decide) rfl ?_
  refine j_iconst (pc := 6) X (v := nI 0) dX8_drawnSet_6 (by decide) ?_
  refine j_istore (pc := 7) X (lv' := [(6, .int (nI 0)), (5, .int (nI k)), (3, .long ((nI seed).toInt64)), (0, .int (nI n)), (1, .int (nI k)), (2, .int (nI seed))]) dX8_drawnSet_7 (by decide) rfl ?_
  refine j_iconst (pc := 9) X (v := nI 0) dX8_drawnSet_9 (by decide) ?_
  refine j_istore (pc := 10) X (lv' := [(7, .int (nI 0)), (6, .int (nI 0)), (5, .int (nI k)), (3, .long ((nI seed).toInt64)), (0, .int (nI n)), (1, .int (nI k)), (2, .int (nI seed))]) dX8_drawnSet_10 (by decide) rfl ?_
  refine j_lv [4, 3, 2, 1, 0] (lv' := [(0, .int (nI n)), (3, .long ((nI seed).toInt64)), (5, .int (nI k)), (6, .int (nI 0)), (7, .int (nI 0))]) rfl ?_
  exact mX8_drawnSet_L12 l G n k seed hn κ X    (n - 0 + 1) 0 ((nI seed).toInt64) (nI k) (nI 0) (by omega) (by rfl) (Nat.lt_succ_self _)

set_option maxHeartbeats 4000000 in
set_option maxRecDepth 100000 in
theorem mX8_gainOf (l : Launch) (G : jG) (ql : Nat) (ql0 : Nat) (ql1 : Nat) (tn : Nat) (f1 : Nat → Int64) (f2 : Nat → Int64) (qf : Nat) (fa : Int64) (fb : Int64) (s : Nat) (k : Nat) (a : Nat) (b : Nat) (htn : tn ≤ 16) (hs : s < 2147483648) (hk : bcF (nI s) = nI k) (hk0 : 0 < k) (hkn : k < tn) (hS : sm2 f1 f2 s = lN a) (hF : sm2 f1 f2 (2 ^ tn - 1) = lN b) (hab : a ≤ b) (hx : (lN a * lN (tn - k) - lN (b - a) * lN k).toInt.natAbs < 2 ^ 49) : MV l yX8_gainOf wsX8_gainOf ({ frames := 2, cells := 0, slots := 0, locals := 56 }) G [.ref ql, .int (nI s), .ref qf] [(ql, .inr (8, [.ref ql0, .ref ql1, .int (nI tn)])), kJ G ql0 256 f1, kJ G ql1 256 f2, (qf, .inr (1, [.long fa, .long fb]))] (none) [(ql, .inr (8, [.ref ql0, .ref ql1, .int (nI tn)])), kJ G ql0 256 f1, kJ G ql1 256 f2, (qf, .inr (1, [.long ((lN a * lN (tn - k) - lN (b - a) * lN k) / lN (gdl (lN a * lN (tn - k) - lN (b - a) * lN k) (k * (tn - k)))), .long (lN (k * (tn - k)) / lN (gdl (lN a * lN (tn - k) - lN (b - a) * lN k) (k * (tn - k))))]))] := by
  refine MF.ofJ (cc := cX8_gainOf) (maxL := 11) (ret := none) (own := RX8) (lv := [(0, .ref ql), (1, .int (nI s)), (2, .ref qf)]) (by decide) rfl rfl (Nat.le_of_ble_eq_true rfl) rfl ?_
  intro κ X
  have i_X1 : ∀ w ∈ wsX10, w ∈ wsX8_gainOf := by decide +kernel
  have i_X8 : ∀ w ∈ wsX80, w ∈ wsX8_gainOf := by decide +kernel
  refine j_iload_n (pc := 0) X dX8_gainOf_0 rfl 1 rfl ?_
  refine j_ciP (pc := 1) X [] rfl (j_rS X (As := [.int (nI s)]) (rest := []) 1 (mJ6_bitCount_0f7a4 l G (nI s) ) gX8_gainOf_J6_bitCount_0f7a4 rfl rfl rfl (by decide +kernel) ⟨Nat.le_of_ble_eq_true rfl, Nat.le_of_ble_eq_true rfl⟩ rfl [] rfl rfl rfl (Nat.le_of_ble_eq_true rfl) dX8_gainOf_1 ⟨Nat.le_of_ble_eq_true rfl, Nat.le_of_ble_eq_true rfl⟩) ?_
  refine j_topi (z := nI k) (hk) ?_
  refine j_i2l (pc := 4) X (v := lN k) dX8_gainOf_4 (nI_l (by omega)) ?_
  refine j_lstore_n (pc := 5) X (lv' := [(3, .long (lN k)), (0, .ref ql), (1, .int (nI s)), (2, .ref qf)]) dX8_gainOf_5 rfl (by decide) rfl ?_
  refine j_aload_n (pc := 6) X dX8_gainOf_6 rfl 1 rfl ?_
  refine j_get (pc := 7) X 8 i_X8 0 rfl rfl 2 (by decide) (by decide +kernel) rfl dX8_gainOf_7 ?_
  refine j_i2l (pc := 10) X (v := lN tn) dX8_gainOf_10 (nI_l (by omega)) ?_
  refine j_lload_n (pc := 11) X dX8_gainOf_11 rfl 0 rfl ?_
  refine j_lsub (pc := 12) X dX8_gainOf_12 ?_
  refine j_topl (z := lN (tn - k)) (lN_sub (by omega)) ?_
  refine j_lstore (pc := 13) X (lv' := [(5, .long (lN (tn - k))), (3, .long (lN k)), (0, .ref ql), (1, .int (nI s)), (2, .ref qf)]) dX8_gainOf_13 (by decide) rfl ?_
  refine j_aload_n (pc := 15) X dX8_gainOf_15 rfl 2 rfl ?_
  refine j_iload_n (pc := 16) X dX8_gainOf_16 rfl 3 rfl ?_
  refine j_clP (pc := 17) X [0, 1, 2] rfl (j_rV X (b := ql) (As := [.int (nI s)]) (ci := 8) (rest := []) 1 (mX8_sumOf l G ql ql0 ql1 tn f1 f2 s (by first | assumption | omega | exact ob_s (by omega) | exact ob_n)) gX8_gainOf_X8_sumOf rfl rfl rfl (by decide +kernel) ⟨Nat.le_of_ble_eq_true rfl, Nat.le_of_ble_eq_true rfl⟩ rfl rfl 0 rfl [0, 1, 2] rfl rfl rfl (Nat.le_of_ble_eq_true rfl) dX8_gainOf_17 ⟨Nat.le_of_ble_eq_true rfl, Nat.le_of_ble_eq_true rfl⟩) ?_
  refine j_topl (z := lN a) (hS) ?_
  refine j_lstore (pc := 20) X (lv' := [(7, .long (lN a)), (5, .long (lN (tn - k))), (3, .long (lN k)), (0, .ref ql), (1, .int (nI s)), (2, .ref qf)]) dX8_gainOf_20 (by decide) rfl ?_
  refine j_aload_n (pc := 22) X dX8_gainOf_22 rfl 3 rfl ?_
  refine j_iconst (pc := 23) X (v := nI 1) dX8_gainOf_23 (by decide) ?_
  refine j_aload_n (pc := 24) X dX8_gainOf_24 rfl 3 rfl ?_
  refine j_get (pc := 25) X 8 i_X8 0 rfl rfl 2 (by decide) (by decide +kernel) rfl dX8_gainOf_25 ?_
  refine j_ishl (pc := 28) X dX8_gainOf_28 ?_
  refine j_topi (z := nI (2 ^ tn)) (shl1 (by omega)) ?_
  refine j_iconst (pc := 29) X (v := nI 1) dX8_gainOf_29 (by decide) ?_
  refine j_isub (pc := 30) X dX8_gainOf_30 ?_
  refine j_topi (z := nI (2 ^ tn - 1)) (pk_sub (by exact Nat.one_le_two_pow)) ?_
  refine j_clP (pc := 31) X [0, 1, 2] rfl (j_rV X (b := ql) (As := [.int (nI (2 ^ tn - 1))]) (ci := 8) (rest := []) 1 (mX8_sumOf l G ql ql0 ql1 tn f1 f2 (2 ^ tn - 1) (by have h9 := two_pow_le (n := tn) (m := 16) (by omega); omega)) gX8_gainOf_X8_sumOf rfl rfl rfl (by decide +kernel) ⟨Nat.le_of_ble_eq_true rfl, Nat.le_of_ble_eq_true rfl⟩ rfl rfl 0 rfl [0, 1, 2] rfl rfl rfl (Nat.le_of_ble_eq_true rfl) dX8_gainOf_31 ⟨Nat.le_of_ble_eq_true rfl, Nat.le_of_ble_eq_true rfl⟩) ?_
  refine j_topl (z := lN b) (hF) ?_
  refine j_lload (pc := 34) X dX8_gainOf_34 0 rfl ?_
  refine j_lsub (pc := 36) X dX8_gainOf_36 ?_
  refine j_topl (z := lN (b - a)) (lN_sub hab) ?_
  refine j_lstore (pc := 37) X (lv' := [(9, .long (lN (b - a))), (7, .long (lN a)), (5, .long (lN (tn - k))), (3, .long (lN k)), (0, .ref ql), (1, .int (nI s)), (2, .ref qf)]) dX8_gainOf_37 (by decide) rfl ?_
  refine j_aload_n (pc := 39) X dX8_gainOf_39 rfl 6 rfl ?_
  refine j_lload (pc := 40) X dX8_gainOf_40 1 rfl ?_
  refine j_lload (pc := 42) X dX8_gainOf_42 2 rfl ?_
  refine j_lmul (pc := 44) X dX8_gainOf_44 ?_
  refine j_lload (pc := 45) X dX8_gainOf_45 0 rfl ?_
  refine j_lload_n (pc := 47) X dX8_gainOf_47 rfl 3 rfl ?_
  refine j_lmul (pc := 48) X dX8_gainOf_48 ?_
  refine j_lsub (pc := 49) X dX8_gainOf_49 ?_
  refine j_lload_n (pc := 50) X dX8_gainOf_50 rfl 3 rfl ?_
  refine j_lload (pc := 51) X dX8_gainOf_51 2 rfl ?_
  refine j_lmul (pc := 53) X dX8_gainOf_53 ?_
  refine j_topl (z := lN (k * (tn - k))) (lN_mul _ _) ?_
  refine j_cv (pc := 54) X (ws' := [(ql, .inr (8, [.ref ql0, .ref ql1, .int (nI tn)])), kJ G ql0 256 f1, kJ G ql1 256 f2, (qf, .inr (1, [.long ((((lN a) * (lN (tn - k))) - ((lN (b - a)) * (lN k))) / lN (gdl (((lN a) * (lN (tn - k))) - ((lN (b - a)) * (lN k))) (k * (tn - k)))), .long (lN (k * (tn - k)) / lN (gdl (((lN a) * (lN (tn - k))) - ((lN (b - a)) * (lN k))) (k * (tn - k))))]))]) [3] rfl (j_rVN X (b := qf) (As := [.long (((lN a) * (lN (tn - k))) - ((lN (b - a)) * (lN k))), .long (lN (k * (tn - k)))]) (ci := 1) (rest := []) 2 (mX1_become l G qf fa fb (((lN a) * (lN (tn - k))) - ((lN (b - a)) * (lN k))) (k * (tn - k)) (by exact hx) (by exact Nat.mul_pos hk0 (by omega)) (by have h9 : k * (tn - k) ≤ 16 * 16 := Nat.mul_le_mul (by omega) (by omega); omega)) gX8_gainOf_X1_become_n42 rfl rfl rfl (by decide +kernel) (by decide +kernel) (by decide +kernel) (by decide +kernel) (by decide +kernel) ⟨Nat.le_of_ble_eq_true rfl, Nat.le_of_ble_eq_true rfl⟩ rfl rfl 0 rfl [3] rfl rfl rfl (Nat.le_of_ble_eq_true rfl) dX8_gainOf_54 ⟨Nat.le_of_ble_eq_true rfl, Nat.le_of_ble_eq_true rfl⟩) rfl rfl ?_
  exact j_vret (pc := 57) X dX8_gainOf_57 ⟨rfl, by simp⟩

set_option maxHeartbeats 4000000 in
set_option maxRecDepth 100000 in
theorem mX8_chanceOf_L35 (l : Launch) (G : jG) (ql : Nat) (ql0 : Nat) (ql1 : Nat) (tn : Nat) (f1 : Nat → Int64) (f2 : Nat → Int64) (qf : Nat) (fa : Int64) (fb : Int64) (s : Nat) (k : Nat) (o : Nat → Nat) (htn : tn ≤ 16) (hs : s < 2147483648) (hk : bcF (nI s) = nI k) (hk0 : 0 < k) (hkn : k < tn) (hc0 : 0 < csF tn k k) (ho0 : o 0 = 2 ^ k - 1) (ho : ∀ i, i < csF tn k k → o i < 65536 ∧ nxF (nI (o i)) = nI (o (i + 1))) (κ : jK) (X : CX κ l yX8_chanceOf cX8_chanceOf 10 RX8 wsX8_chanceOf none ({ frames := 2, cells := 0, slots := 0, locals := 56 }) G (va_A [(ql, .inr (8, [.ref ql0, .ref ql1, .int (nI tn)])), kJ G ql0 256 f1, kJ G ql1 256 f2, (qf, .inr (1, [.long fa, .long fb]))] (js κ).heap.size))    : ∀ (fu : Nat) (j : Nat) (hj : j ≤ csF tn k k) (_ : csF tn k k - j < fu), JJ κ 10 G (va_A [(ql, .inr (8, [.ref ql0, .ref ql1, .int (nI tn)])), kJ G ql0 256 f1, kJ G ql1 256 f2, (qf, .inr (1, [.long fa, .long fb]))] (js κ).heap.size) 0 0 (jQ κ G [(ql, .inr (8, [.ref ql0, .ref ql1, .int (nI tn)])), kJ G ql0 256 f1, kJ G ql1 256 f2, (qf, .inr (1, [.long fa, .long fb]))] (fun r w' => r = none ∧ w' = [(ql, .inr (8, [.ref ql0, .ref ql1, .int (nI tn)])), kJ G ql0 256 f1, kJ G ql1 256 f2, (qf, .inr (1, [.long (lN (ngF (sm2 f1 f2) (sm2 f1 f2 s) o (csF tn k k)) / lN (gdl (lN (ngF (sm2 f1 f2) (sm2 f1 f2 s) o (csF tn k k))) (csF tn k k))), .long (lN (csF tn k k) / lN (gdl (lN (ngF (sm2 f1 f2) (sm2 f1 f2 s) o (csF tn k k))) (csF tn k k)))]))]) 0 0) 35 [(0, .ref ql), (2, .ref qf), (4, .int (nI (csF tn k k))), (5, .long (sm2 f1 f2 s)), (7, .int (nI (ngF (sm2 f1 f2) (sm2 f1 f2 s) o j))), (8, .int (nI (o j))), (9, .int (nI j))] [] [(ql, .inr (8, [.ref ql0, .ref ql1, .int (nI tn)])), kJ G ql0 256 f1, kJ G ql1 256 f2, (qf, .inr (1, [.long fa, .long fb]))] := by
  have i_X1 : ∀ w ∈ wsX10, w ∈ wsX8_chanceOf := by decide +kernel
  have i_X8 : ∀ w ∈ wsX80, w ∈ wsX8_chanceOf := by decide +kernel
  intro fu
  induction fu with
  | zero => intro j hj hms; exact absurd hms (Nat.not_lt_zero _)
  | succ fu ih =>
    intro j hj hms
    refine j_iload (pc := 35) X dX8_chanceOf_35 6 rfl ?_
    refine j_iload (pc := 37) X dX8_chanceOf_37 2 rfl ?_
    refine j_icmpN_ge (pc := 39) X (a := j) (b := (csF tn k k)) (by have h9 := csF_le (n := tn) (k := k) (i := k) (by omega) (by omega) (by omega); omega) (by have h9 := csF_le (n := tn) (k := k) (i := k) (by omega) (by omega) (by omega); omega) (tgt := 70) dX8_chanceOf_39 (by decide) (fun c_39 => ?_) (fun c_39 => ?_)
    · skip
      obtain rfl : j = csF tn k k := by omega
      refine j_aload_n (pc := 70) X dX8_chanceOf_70 rfl 1 rfl ?_
      refine j_iload (pc := 71) X dX8_chanceOf_71 4 rfl ?_
      refine j_i2l (pc := 73) X (v := lN (ngF (sm2 f1 f2) (sm2 f1 f2 s) o (csF tn k k))) dX8_chanceOf_73 (nI_l (by have h9 := csF_le (n := tn) (k := k) (i := k) (by omega) (by omega) (by omega); have h8 := ngF_le (sm2 f1 f2) (sm2 f1 f2 s) o (csF tn k k); omega)) ?_
      refine j_iload (pc := 74) X dX8_chanceOf_74 2 rfl ?_
      refine j_i2l (pc := 76) X (v := lN (csF tn k k)) dX8_chanceOf_76 (nI_l (by have h9 := csF_le (n := tn) (k := k) (i := k) (by omega) (by omega) (by omega); omega)) ?_
      refine j_cv (pc := 77) X (ws' := [(ql, .inr (8, [.ref ql0, .ref ql1, .int (nI tn)])), kJ G ql0 256 f1, kJ G ql1 256 f2, (qf, .inr (1, [.long ((lN (ngF (sm2 f1 f2) (sm2 f1 f2 s) o (csF tn k k))) / lN (gdl (lN (ngF (sm2 f1 f2) (sm2 f1 f2 s) o (csF tn k k))) (csF tn k k))), .long (lN (csF tn k k) / lN (gdl (lN (ngF (sm2 f1 f2) (sm2 f1 f2 s) o (csF tn k k))) (csF tn k k)))]))]) [3] rfl (j_rVN X (b := qf) (As := [.long (lN (ngF (sm2 f1 f2) (sm2 f1 f2 s) o (csF tn k k))), .long (lN (csF tn k k))]) (ci := 1) (rest := []) 2 (mX1_become l G qf fa fb (lN (ngF (sm2 f1 f2) (sm2 f1 f2 s) o (csF tn k k))) (csF tn k k) (by have h9 := csF_le (n := tn) (k := k) (i := k) (by omega) (by omega) (by omega); have h8 := ngF_le (sm2 f1 f2) (sm2 f1 f2 s) o (csF tn k k); rw [pk_lT (by omega)]; omega) (by first | assumption | omega | exact ob_s (by omega) | exact ob_n) (by have h9 := csF_le (n := tn) (k := k) (i := k) (by omega) (by omega) (by omega); omega)) gX8_chanceOf_X1_become_n42 rfl rfl rfl (by decide +kernel) (by decide +kernel) (by decide +kernel) (by decide +kernel) (by decide +kernel) ⟨Nat.le_of_ble_eq_true rfl, Nat.le_of_ble_eq_true rfl⟩ rfl rfl 0 rfl [3] rfl rfl rfl (Nat.le_of_ble_eq_true rfl) dX8_chanceOf_77 ⟨Nat.le_of_ble_eq_true rfl, Nat.le_of_ble_eq_true rfl⟩) rfl rfl ?_
      exact j_vret (pc := 80) X dX8_chanceOf_80 ⟨rfl, by simp⟩
    · skip
      refine j_aload_n (pc := 42) X dX8_chanceOf_42 rfl 0 rfl ?_
      refine j_iload (pc := 43) X dX8_chanceOf_43 5 rfl ?_
      refine j_clP (pc := 45) X [0, 1, 2] rfl (j_rV X (b := ql) (As := [.int (nI (o j))]) (ci := 8) (rest := []) 1 (mX8_sumOf l G ql ql0 ql1 tn f1 f2 (o j) (by have h9 := (ho j (by omega)).1; omega)) gX8_chanceOf_X8_sumOf rfl rfl rfl (by decide +kernel) ⟨Nat.le_of_ble_eq_true rfl, Nat.le_of_ble_eq_true rfl⟩ rfl rfl 0 rfl [0, 1, 2] rfl rfl rfl (Nat.le_of_ble_eq_true rfl) dX8_chanceOf_45 ⟨Nat.le_of_ble_eq_true rfl, Nat.le_of_ble_eq_true rfl⟩) ?_
      refine j_lload (pc := 48) X dX8_chanceOf_48 3 rfl ?_
      refine j_lcmp (pc := 50) X dX8_chanceOf_50 ?_
      refine j_ifc_lt (pc := 51) X (tgt := 57) dX8_chanceOf_51 (by decide) (fun c_51 => ?_) (fun c_51 => ?_)
      · skip
        refine j_iload (pc := 57) X dX8_chanceOf_57 5 rfl ?_
        refine j_ciP (pc := 59) X [] rfl (j_rS X (As := [.int (nI (o j))]) (rest := []) 1 (mX8_nextOfSameSize l G (nI (o j)) ) gX8_chanceOf_X8_nextOfSameSize rfl rfl rfl (by decide +kernel) ⟨Nat.le_of_ble_eq_true rfl, Nat.le_of_ble_eq_true rfl⟩ rfl [] rfl rfl rfl (Nat.le_of_ble_eq_true rfl) dX8_chanceOf_59 ⟨Nat.le_of_ble_eq_true rfl, Nat.le_of_ble_eq_true rfl⟩) ?_
        refine j_topi (z := nI (o (j + 1))) ((ho j (by omega)).2) ?_
        refine j_istore (pc := 62) X (lv' := [(8, .int (nI (o (j + 1)))), (0, .ref ql), (2, .ref qf), (4, .int (nI (csF tn k k))), (5, .long (sm2 f1 f2 s)), (7, .int (nI (ngF (sm2 f1 f2) (sm2 f1 f2 s) o j))), (9, .int (nI j))]) dX8_chanceOf_62 (by decide) rfl ?_
        refine j_iinc (pc := 64) X (v := nI (j + 1)) (lv' := [(9, .int (nI (j + 1))), (8, .int (nI (o (j + 1)))), (0, .ref ql), (2, .ref qf), (4, .int (nI (csF tn k k))), (5, .long (sm2 f1 f2 s)), (7, .int (nI (ngF (sm2 f1 f2) (sm2 f1 f2 s) o j)))]) dX8_chanceOf_64 6 rfl (nI_1 _) (by decide) rfl ?_
        refine j_goto (pc := 67) X (tgt := 35) dX8_chanceOf_67 (by decide) ?_
        refine j_lv [2, 3, 4, 5, 6, 1, 0] (lv' := [(0, .ref ql), (2, .ref qf), (4, .int (nI (csF tn k k))), (5, .long (sm2 f1 f2 s)), (7, .int (nI (ngF (sm2 f1 f2) (sm2 f1 f2 s) o j))), (8, .int (nI (o (j + 1)))), (9, .int (nI (j + 1)))]) rfl ?_
        refine j_lvq (lv' := [(0, .ref ql), (2, .ref qf), (4, .int (nI (csF tn k k))), (5, .long (sm2 f1 f2 s)), (7, .int (nI (ngF (sm2 f1 f2) (sm2 f1 f2 s) o (j + 1)))), (8, .int (nI (o (j + 1)))), (9, .int (nI (j + 1)))]) ?_ ?_
        · rw [show (ngF (sm2 f1 f2) (sm2 f1 f2 s) o j) = ngF (sm2 f1 f2) (sm2 f1 f2 s) o (j + 1) from by (simp only [ngF]; simp [c_39, c_51])]
        exact ih (j + 1) (by omega) (by omega)
      · skip
        refine j_iinc (pc := 54) X (v := nI (ngF (sm2 f1 f2) (sm2 f1 f2 s) o j + 1)) (lv' := [(7, .int (nI (ngF (sm2 f1 f2) (sm2 f1 f2 s) o j + 1))), (0, .ref ql), (2, .ref qf), (4, .int (nI (csF tn k k))), (5, .long (sm2 f1 f2 s)), (8, .int (nI (o j))), (9, .int (nI j))]) dX8_chanceOf_54 4 rfl (nI_1 _) (by decide) rfl ?_
        refine j_iload (pc := 57) X dX8_chanceOf_57 5 rfl ?_
        refine j_ciP (pc := 59) X [] rfl (j_rS X (As := [.int (nI (o j))]) (rest := []) 1 (mX8_nextOfSameSize l G (nI (o j)) ) gX8_chanceOf_X8_nextOfSameSize rfl rfl rfl (by decide +kernel) ⟨Nat.le_of_ble_eq_true rfl, Nat.le_of_ble_eq_true rfl⟩ rfl [] rfl rfl rfl (Nat.le_of_ble_eq_true rfl) dX8_chanceOf_59 ⟨Nat.le_of_ble_eq_true rfl, Nat.le_of_ble_eq_true rfl⟩) ?_
        refine j_topi (z := nI (o (j + 1))) ((ho j (by omega)).2) ?_
        refine j_istore (pc := 62) X (lv' := [(8, .int (nI (o (j + 1)))), (7, .int (nI (ngF (sm2 f1 f2) (sm2 f1 f2 s) o j + 1))), (0, .ref ql), (2, .ref qf), (4, .int (nI (csF tn k k))), (5, .long (sm2 f1 f2 s)), (9, .int (nI j))]) dX8_chanceOf_62 (by decide) rfl ?_
        refine j_iinc (pc := 64) X (v := nI (j + 1)) (lv' := [(9, .int (nI (j + 1))), (8, .int (nI (o (j + 1)))), (7, .int (nI (ngF (sm2 f1 f2) (sm2 f1 f2 s) o j + 1))), (0, .ref ql), (2, .ref qf), (4, .int (nI (csF tn k k))), (5, .long (sm2 f1 f2 s))]) dX8_chanceOf_64 6 rfl (nI_1 _) (by decide) rfl ?_
        refine j_goto (pc := 67) X (tgt := 35) dX8_chanceOf_67 (by decide) ?_
        refine j_lv [3, 4, 5, 6, 2, 1, 0] (lv' := [(0, .ref ql), (2, .ref qf), (4, .int (nI (csF tn k k))), (5, .long (sm2 f1 f2 s)), (7, .int (nI (ngF (sm2 f1 f2) (sm2 f1 f2 s) o j + 1))), (8, .int (nI (o (j + 1)))), (9, .int (nI (j + 1)))]) rfl ?_
        refine j_lvq (lv' := [(0, .ref ql), (2, .ref qf), (4, .int (nI (csF tn k k))), (5, .long (sm2 f1 f2 s)), (7, .int (nI (ngF (sm2 f1 f2) (sm2 f1 f2 s) o (j + 1)))), (8, .int (nI (o (j + 1)))), (9, .int (nI (j + 1)))]) ?_ ?_
        · rw [show (ngF (sm2 f1 f2) (sm2 f1 f2 s) o j + 1) = ngF (sm2 f1 f2) (sm2 f1 f2 s) o (j + 1) from by (simp only [ngF]; simp [c_39, c_51])]
        exact ih (j + 1) (by omega) (by omega)
set_option maxHeartbeats 4000000 in
set_option maxRecDepth 100000 in
theorem mX8_chanceOf (l : Launch) (G : jG) (ql : Nat) (ql0 : Nat) (ql1 : Nat) (tn : Nat) (f1 : Nat → Int64) (f2 : Nat → Int64) (qf : Nat) (fa : Int64) (fb : Int64) (s : Nat) (k : Nat) (o : Nat → Nat) (htn : tn ≤ 16) (hs : s < 2147483648) (hk : bcF (nI s) = nI k) (hk0 : 0 < k) (hkn : k < tn) (hc0 : 0 < csF tn k k) (ho0 : o 0 = 2 ^ k - 1) (ho : ∀ i, i < csF tn k k → o i < 65536 ∧ nxF (nI (o i)) = nI (o (i + 1))) : MV l yX8_chanceOf wsX8_chanceOf ({ frames := 2, cells := 0, slots := 0, locals := 56 }) G [.ref ql, .int (nI s), .ref qf] [(ql, .inr (8, [.ref ql0, .ref ql1, .int (nI tn)])), kJ G ql0 256 f1, kJ G ql1 256 f2, (qf, .inr (1, [.long fa, .long fb]))] (none) [(ql, .inr (8, [.ref ql0, .ref ql1, .int (nI tn)])), kJ G ql0 256 f1, kJ G ql1 256 f2, (qf, .inr (1, [.long (lN (ngF (sm2 f1 f2) (sm2 f1 f2 s) o (csF tn k k)) / lN (gdl (lN (ngF (sm2 f1 f2) (sm2 f1 f2 s) o (csF tn k k))) (csF tn k k))), .long (lN (csF tn k k) / lN (gdl (lN (ngF (sm2 f1 f2) (sm2 f1 f2 s) o (csF tn k k))) (csF tn k k)))]))] := by
  refine MF.ofJ (cc := cX8_chanceOf) (maxL := 10) (ret := none) (own := RX8) (lv := [(0, .ref ql), (1, .int (nI s)), (2, .ref qf)]) (by decide) rfl rfl (Nat.le_of_ble_eq_true rfl) rfl ?_
  intro κ X
  have i_X1 : ∀ w ∈ wsX10, w ∈ wsX8_chanceOf := by decide +kernel
  have i_X8 : ∀ w ∈ wsX80, w ∈ wsX8_chanceOf := by decide +kernel
  refine j_iload_n (pc := 0) X dX8_chanceOf_0 rfl 1 rfl ?_
  refine j_ciP (pc := 1) X [] rfl (j_rS X (As := [.int (nI s)]) (rest := []) 1 (mJ6_bitCount_0f7a4 l G (nI s) ) gX8_chanceOf_J6_bitCount_0f7a4 rfl rfl rfl (by decide +kernel) ⟨Nat.le_of_ble_eq_true rfl, Nat.le_of_ble_eq_true rfl⟩ rfl [] rfl rfl rfl (Nat.le_of_ble_eq_true rfl) dX8_chanceOf_1 ⟨Nat.le_of_ble_eq_true rfl, Nat.le_of_ble_eq_true rfl⟩) ?_
  refine j_topi (z := nI k) (hk) ?_
  refine j_istore_n (pc := 4) X (lv' := [(3, .int (nI k)), (0, .ref ql), (1, .int (nI s)), (2, .ref qf)]) dX8_chanceOf_4 rfl (by decide) rfl ?_
  refine j_aload_n (pc := 5) X dX8_chanceOf_5 rfl 1 rfl ?_
  refine j_get (pc := 6) X 8 i_X8 0 rfl rfl 2 (by decide) (by decide +kernel) rfl dX8_chanceOf_6 ?_
  refine j_iload_n (pc := 9) X dX8_chanceOf_9 rfl 0 rfl ?_
  refine j_ciP (pc := 10) X [] rfl (j_rS X (As := [.int (nI tn), .int (nI k)]) (rest := []) 2 (mX8_countSets l G tn k (by first | assumption | omega | exact ob_s (by omega) | exact ob_n) (by first | assumption | omega | exact ob_s (by omega) | exact ob_n)) gX8_chanceOf_X8_countSets rfl rfl rfl (by decide +kernel) ⟨Nat.le_of_ble_eq_true rfl, Nat.le_of_ble_eq_true rfl⟩ rfl [] rfl rfl rfl (Nat.le_of_ble_eq_true rfl) dX8_chanceOf_10 ⟨Nat.le_of_ble_eq_true rfl, Nat.le_of_ble_eq_true rfl⟩) ?_
  refine j_istore (pc := 13) X (lv' := [(4, .int (nI (csF tn k k))), (3, .int (nI k)), (0, .ref ql), (1, .int (nI s)), (2, .ref qf)]) dX8_chanceOf_13 (by decide) rfl ?_
  refine j_aload_n (pc := 15) X dX8_chanceOf_15 rfl 2 rfl ?_
  refine j_iload_n (pc := 16) X dX8_chanceOf_16 rfl 3 rfl ?_
  refine j_clP (pc := 17) X [0, 1, 2] rfl (j_rV X (b := ql) (As := [.int (nI s)]) (ci := 8) (rest := []) 1 (mX8_sumOf l G ql ql0 ql1 tn f1 f2 s (by first | assumption | omega | exact ob_s (by omega) | exact ob_n)) gX8_chanceOf_X8_sumOf rfl rfl rfl (by decide +kernel) ⟨Nat.le_of_ble_eq_true rfl, Nat.le_of_ble_eq_true rfl⟩ rfl rfl 0 rfl [0, 1, 2] rfl rfl rfl (Nat.le_of_ble_eq_true rfl) dX8_chanceOf_17 ⟨Nat.le_of_ble_eq_true rfl, Nat.le_of_ble_eq_true rfl⟩) ?_
  refine j_lstore (pc := 20) X (lv' := [(5, .long (sm2 f1 f2 s)), (4, .int (nI (csF tn k k))), (3, .int (nI k)), (0, .ref ql), (1, .int (nI s)), (2, .ref qf)]) dX8_chanceOf_20 (by decide) rfl ?_
  refine j_iconst (pc := 22) X (v := nI 0) dX8_chanceOf_22 (by decide) ?_
  refine j_istore (pc := 23) X (lv' := [(7, .int (nI 0)), (5, .long (sm2 f1 f2 s)), (4, .int (nI (csF tn k k))), (3, .int (nI k)), (0, .ref ql), (1, .int (nI s)), (2, .ref qf)]) dX8_chanceOf_23 (by decide) rfl ?_
  refine j_iconst (pc := 25) X (v := nI 1) dX8_chanceOf_25 (by decide) ?_
  refine j_iload_n (pc := 26) X dX8_chanceOf_26 rfl 3 rfl ?_
  refine j_ishl (pc := 27) X dX8_chanceOf_27 ?_
  refine j_topi (z := nI (2 ^ k)) (shl1 (by omega)) ?_
  refine j_iconst (pc := 28) X (v := nI 1) dX8_chanceOf_28 (by decide) ?_
  refine j_isub (pc := 29) X dX8_chanceOf_29 ?_
  refine j_topi (z := nI (o 0)) ((pk_sub Nat.one_le_two_pow).trans (by rw [ho0])) ?_
  refine j_istore (pc := 30) X (lv' := [(8, .int (nI (o 0))), (7, .int (nI 0)), (5, .long (sm2 f1 f2 s)), (4, .int (nI (csF tn k k))), (3, .int (nI k)), (0, .ref ql), (1, .int (nI s)), (2, .ref qf)]) dX8_chanceOf_30 (by decide) rfl ?_
  refine j_iconst (pc := 32) X (v := nI 0) dX8_chanceOf_32 (by decide) ?_
  refine j_istore (pc := 33) X (lv' := [(9, .int (nI 0)), (8, .int (nI (o 0))), (7, .int (nI 0)), (5, .long (sm2 f1 f2 s)), (4, .int (nI (csF tn k k))), (3, .int (nI k)), (0, .ref ql), (1, .int (nI s)), (2, .ref qf)]) dX8_chanceOf_33 (by decide) rfl ?_
  refine j_lv [6, 8, 4, 3, 2, 1, 0] (lv' := [(0, .ref ql), (2, .ref qf), (4, .int (nI (csF tn k k))), (5, .long (sm2 f1 f2 s)), (7, .int (nI 0)), (8, .int (nI (o 0))), (9, .int (nI 0))]) rfl ?_
  refine j_lvq (lv' := [(0, .ref ql), (2, .ref qf), (4, .int (nI (csF tn k k))), (5, .long (sm2 f1 f2 s)), (7, .int (nI (ngF (sm2 f1 f2) (sm2 f1 f2 s) o 0))), (8, .int (nI (o 0))), (9, .int (nI 0))]) ?_ ?_
  · first | rfl | (rw [show (0) = ngF (sm2 f1 f2) (sm2 f1 f2 s) o 0 from by (simp only [ngF]; simp [ne_eq])])
  exact mX8_chanceOf_L35 l G ql ql0 ql1 tn f1 f2 qf fa fb s k o htn hs hk hk0 hkn hc0 ho0 ho κ X    (csF tn k k - 0 + 1) 0 (by omega) (Nat.lt_succ_self _)
