theorem dX0_init_0 : decode cX0_init 0 = .ok (.aload_n 0, 1) := by decide +kernel
theorem dX0_init_1 : decode cX0_init 1 = .ok (.invokespecial 3, 3) := by decide +kernel
theorem dX0_init_4 : decode cX0_init 4 = .ok (.aload_n 0, 1) := by decide +kernel
theorem dX0_init_5 : decode cX0_init 5 = .ok (.bipush 12, 2) := by decide +kernel
theorem dX0_init_7 : decode cX0_init 7 = .ok (.newarray .int, 2) := by decide +kernel
theorem dX0_init_9 : decode cX0_init 9 = .ok (.putfield 9, 3) := by decide +kernel
theorem dX0_init_12 : decode cX0_init 12 = .ok (.aload_n 0, 1) := by decide +kernel
theorem dX0_init_13 : decode cX0_init 13 = .ok (.sipush 192, 3) := by decide +kernel
theorem dX0_init_16 : decode cX0_init 16 = .ok (.newarray .int, 2) := by decide +kernel
theorem dX0_init_18 : decode cX0_init 18 = .ok (.putfield 15, 3) := by decide +kernel
theorem dX0_init_21 : decode cX0_init 21 = .ok (.aload_n 0, 1) := by decide +kernel
theorem dX0_init_22 : decode cX0_init 22 = .ok (.sipush 192, 3) := by decide +kernel
theorem dX0_init_25 : decode cX0_init 25 = .ok (.newarray .int, 2) := by decide +kernel
theorem dX0_init_27 : decode cX0_init 27 = .ok (.putfield 18, 3) := by decide +kernel
theorem dX0_init_30 : decode cX0_init 30 = .ok (.aload_n 0, 1) := by decide +kernel
theorem dX0_init_31 : decode cX0_init 31 = .ok (.sipush 192, 3) := by decide +kernel
theorem dX0_init_34 : decode cX0_init 34 = .ok (.newarray .boolean, 2) := by decide +kernel
theorem dX0_init_36 : decode cX0_init 36 = .ok (.putfield 21, 3) := by decide +kernel
theorem dX0_init_39 : decode cX0_init 39 = .ok (.aload_n 0, 1) := by decide +kernel
theorem dX0_init_40 : decode cX0_init 40 = .ok (.iconst 0, 1) := by decide +kernel
theorem dX0_init_41 : decode cX0_init 41 = .ok (.putfield 25, 3) := by decide +kernel
theorem dX0_init_44 : decode cX0_init 44 = .ok (.aload_n 0, 1) := by decide +kernel
theorem dX0_init_45 : decode cX0_init 45 = .ok (.iconst 0, 1) := by decide +kernel
theorem dX0_init_46 : decode cX0_init 46 = .ok (.putfield 29, 3) := by decide +kernel
theorem dX0_init_49 : decode cX0_init 49 = .ok (.return_, 1) := by decide +kernel
theorem dX0_spot_0 : decode cX0_spot 0 = .ok (.iload_n 0, 1) := by decide +kernel
theorem dX0_spot_1 : decode cX0_spot 1 = .ok (.bipush 16, 2) := by decide +kernel
theorem dX0_spot_3 : decode cX0_spot 3 = .ok (.imul, 1) := by decide +kernel
theorem dX0_spot_4 : decode cX0_spot 4 = .ok (.iload_n 1, 1) := by decide +kernel
theorem dX0_spot_5 : decode cX0_spot 5 = .ok (.iadd, 1) := by decide +kernel
theorem dX0_spot_6 : decode cX0_spot 6 = .ok (.ireturn, 1) := by decide +kernel
theorem dX0_isElder_0 : decode cX0_isElder 0 = .ok (.iload_n 1, 1) := by decide +kernel
theorem dX0_isElder_1 : decode cX0_isElder 1 = .ok (.ifCond .lt 15, 3) := by decide +kernel
theorem dX0_isElder_4 : decode cX0_isElder 4 = .ok (.iload_n 1, 1) := by decide +kernel
theorem dX0_isElder_5 : decode cX0_isElder 5 = .ok (.aload_n 0, 1) := by decide +kernel
theorem dX0_isElder_6 : decode cX0_isElder 6 = .ok (.getfield 25, 3) := by decide +kernel
theorem dX0_isElder_9 : decode cX0_isElder 9 = .ok (.if_icmp .ge 7, 3) := by decide +kernel
theorem dX0_isElder_12 : decode cX0_isElder 12 = .ok (.iconst 1, 1) := by decide +kernel
theorem dX0_isElder_13 : decode cX0_isElder 13 = .ok (.goto 4, 3) := by decide +kernel
theorem dX0_isElder_16 : decode cX0_isElder 16 = .ok (.iconst 0, 1) := by decide +kernel
theorem dX0_isElder_17 : decode cX0_isElder 17 = .ok (.ireturn, 1) := by decide +kernel
theorem dX0_isBeginner_0 : decode cX0_isBeginner 0 = .ok (.iload_n 1, 1) := by decide +kernel
theorem dX0_isBeginner_1 : decode cX0_isBeginner 1 = .ok (.ifCond .lt 15, 3) := by decide +kernel
theorem dX0_isBeginner_4 : decode cX0_isBeginner 4 = .ok (.iload_n 1, 1) := by decide +kernel
theorem dX0_isBeginner_5 : decode cX0_isBeginner 5 = .ok (.aload_n 0, 1) := by decide +kernel
theorem dX0_isBeginner_6 : decode cX0_isBeginner 6 = .ok (.getfield 29, 3) := by decide +kernel
theorem dX0_isBeginner_9 : decode cX0_isBeginner 9 = .ok (.if_icmp .ge 7, 3) := by decide +kernel
theorem dX0_isBeginner_12 : decode cX0_isBeginner 12 = .ok (.iconst 1, 1) := by decide +kernel
theorem dX0_isBeginner_13 : decode cX0_isBeginner 13 = .ok (.goto 4, 3) := by decide +kernel
theorem dX0_isBeginner_16 : decode cX0_isBeginner 16 = .ok (.iconst 0, 1) := by decide +kernel
theorem dX0_isBeginner_17 : decode cX0_isBeginner 17 = .ok (.ireturn, 1) := by decide +kernel
theorem dX0_areTwo_0 : decode cX0_areTwo 0 = .ok (.aload_n 0, 1) := by decide +kernel
theorem dX0_areTwo_1 : decode cX0_areTwo 1 = .ok (.iload_n 1, 1) := by decide +kernel
theorem dX0_areTwo_2 : decode cX0_areTwo 2 = .ok (.invokevirtual 32, 3) := by decide +kernel
theorem dX0_areTwo_5 : decode cX0_areTwo 5 = .ok (.ifCond .eq 15, 3) := by decide +kernel
theorem dX0_areTwo_8 : decode cX0_areTwo 8 = .ok (.aload_n 0, 1) := by decide +kernel
theorem dX0_areTwo_9 : decode cX0_areTwo 9 = .ok (.iload_n 2, 1) := by decide +kernel
theorem dX0_areTwo_10 : decode cX0_areTwo 10 = .ok (.invokevirtual 36, 3) := by decide +kernel
theorem dX0_areTwo_13 : decode cX0_areTwo 13 = .ok (.ifCond .eq 7, 3) := by decide +kernel
theorem dX0_areTwo_16 : decode cX0_areTwo 16 = .ok (.iconst 1, 1) := by decide +kernel
theorem dX0_areTwo_17 : decode cX0_areTwo 17 = .ok (.goto 4, 3) := by decide +kernel
theorem dX0_areTwo_20 : decode cX0_areTwo 20 = .ok (.iconst 0, 1) := by decide +kernel
theorem dX0_areTwo_21 : decode cX0_areTwo 21 = .ok (.ireturn, 1) := by decide +kernel
theorem dX0_addElder_0 : decode cX0_addElder 0 = .ok (.aload_n 0, 1) := by decide +kernel
theorem dX0_addElder_1 : decode cX0_addElder 1 = .ok (.getfield 9, 3) := by decide +kernel
theorem dX0_addElder_4 : decode cX0_addElder 4 = .ok (.aload_n 0, 1) := by decide +kernel
theorem dX0_addElder_5 : decode cX0_addElder 5 = .ok (.getfield 25, 3) := by decide +kernel
theorem dX0_addElder_8 : decode cX0_addElder 8 = .ok (.iload_n 1, 1) := by decide +kernel
theorem dX0_addElder_9 : decode cX0_addElder 9 = .ok (.iastore, 1) := by decide +kernel
theorem dX0_addElder_10 : decode cX0_addElder 10 = .ok (.aload_n 0, 1) := by decide +kernel
theorem dX0_addElder_11 : decode cX0_addElder 11 = .ok (.dup, 1) := by decide +kernel
theorem dX0_addElder_12 : decode cX0_addElder 12 = .ok (.getfield 25, 3) := by decide +kernel
theorem dX0_addElder_15 : decode cX0_addElder 15 = .ok (.iconst 1, 1) := by decide +kernel
theorem dX0_addElder_16 : decode cX0_addElder 16 = .ok (.iadd, 1) := by decide +kernel
theorem dX0_addElder_17 : decode cX0_addElder 17 = .ok (.putfield 25, 3) := by decide +kernel
theorem dX0_addElder_20 : decode cX0_addElder 20 = .ok (.aload_n 0, 1) := by decide +kernel
theorem dX0_addElder_21 : decode cX0_addElder 21 = .ok (.getfield 25, 3) := by decide +kernel
theorem dX0_addElder_24 : decode cX0_addElder 24 = .ok (.iconst 1, 1) := by decide +kernel
theorem dX0_addElder_25 : decode cX0_addElder 25 = .ok (.isub, 1) := by decide +kernel
theorem dX0_addElder_26 : decode cX0_addElder 26 = .ok (.ireturn, 1) := by decide +kernel
theorem dX0_addBeginner_0 : decode cX0_addBeginner 0 = .ok (.aload_n 0, 1) := by decide +kernel
theorem dX0_addBeginner_1 : decode cX0_addBeginner 1 = .ok (.dup, 1) := by decide +kernel
theorem dX0_addBeginner_2 : decode cX0_addBeginner 2 = .ok (.getfield 29, 3) := by decide +kernel
theorem dX0_addBeginner_5 : decode cX0_addBeginner 5 = .ok (.iconst 1, 1) := by decide +kernel
theorem dX0_addBeginner_6 : decode cX0_addBeginner 6 = .ok (.iadd, 1) := by decide +kernel
theorem dX0_addBeginner_7 : decode cX0_addBeginner 7 = .ok (.putfield 29, 3) := by decide +kernel
theorem dX0_addBeginner_10 : decode cX0_addBeginner 10 = .ok (.aload_n 0, 1) := by decide +kernel
theorem dX0_addBeginner_11 : decode cX0_addBeginner 11 = .ok (.getfield 29, 3) := by decide +kernel
theorem dX0_addBeginner_14 : decode cX0_addBeginner 14 = .ok (.iconst 1, 1) := by decide +kernel
theorem dX0_addBeginner_15 : decode cX0_addBeginner 15 = .ok (.isub, 1) := by decide +kernel
theorem dX0_addBeginner_16 : decode cX0_addBeginner 16 = .ok (.ireturn, 1) := by decide +kernel
theorem dX0_setLiking_0 : decode cX0_setLiking 0 = .ok (.iload_n 3, 1) := by decide +kernel
theorem dX0_setLiking_1 : decode cX0_setLiking 1 = .ok (.ifCond .eq 10, 3) := by decide +kernel
theorem dX0_setLiking_4 : decode cX0_setLiking 4 = .ok (.aload_n 0, 1) := by decide +kernel
theorem dX0_setLiking_5 : decode cX0_setLiking 5 = .ok (.getfield 15, 3) := by decide +kernel
theorem dX0_setLiking_8 : decode cX0_setLiking 8 = .ok (.goto 7, 3) := by decide +kernel
theorem dX0_setLiking_11 : decode cX0_setLiking 11 = .ok (.aload_n 0, 1) := by decide +kernel
theorem dX0_setLiking_12 : decode cX0_setLiking 12 = .ok (.getfield 18, 3) := by decide +kernel
theorem dX0_setLiking_15 : decode cX0_setLiking 15 = .ok (.astore 5, 2) := by decide +kernel
theorem dX0_setLiking_17 : decode cX0_setLiking 17 = .ok (.aload 5, 2) := by decide +kernel
theorem dX0_setLiking_19 : decode cX0_setLiking 19 = .ok (.iload_n 1, 1) := by decide +kernel
theorem dX0_setLiking_20 : decode cX0_setLiking 20 = .ok (.iload_n 2, 1) := by decide +kernel
theorem dX0_setLiking_21 : decode cX0_setLiking 21 = .ok (.invokestatic 39, 3) := by decide +kernel
theorem dX0_setLiking_24 : decode cX0_setLiking 24 = .ok (.iload 4, 2) := by decide +kernel
theorem dX0_setLiking_26 : decode cX0_setLiking 26 = .ok (.iastore, 1) := by decide +kernel
theorem dX0_setLiking_27 : decode cX0_setLiking 27 = .ok (.return_, 1) := by decide +kernel
theorem dX0_isBarred_0 : decode cX0_isBarred 0 = .ok (.aload_n 0, 1) := by decide +kernel
theorem dX0_isBarred_1 : decode cX0_isBarred 1 = .ok (.getfield 21, 3) := by decide +kernel
theorem dX0_isBarred_4 : decode cX0_isBarred 4 = .ok (.iload_n 1, 1) := by decide +kernel
theorem dX0_isBarred_5 : decode cX0_isBarred 5 = .ok (.iload_n 2, 1) := by decide +kernel
theorem dX0_isBarred_6 : decode cX0_isBarred 6 = .ok (.invokestatic 39, 3) := by decide +kernel
theorem dX0_isBarred_9 : decode cX0_isBarred 9 = .ok (.baload, 1) := by decide +kernel
theorem dX0_isBarred_10 : decode cX0_isBarred 10 = .ok (.ireturn, 1) := by decide +kernel
theorem dX0_setBarred_0 : decode cX0_setBarred 0 = .ok (.aload_n 0, 1) := by decide +kernel
theorem dX0_setBarred_1 : decode cX0_setBarred 1 = .ok (.getfield 21, 3) := by decide +kernel
theorem dX0_setBarred_4 : decode cX0_setBarred 4 = .ok (.iload_n 1, 1) := by decide +kernel
theorem dX0_setBarred_5 : decode cX0_setBarred 5 = .ok (.iload_n 2, 1) := by decide +kernel
theorem dX0_setBarred_6 : decode cX0_setBarred 6 = .ok (.invokestatic 39, 3) := by decide +kernel
theorem dX0_setBarred_9 : decode cX0_setBarred 9 = .ok (.iload_n 3, 1) := by decide +kernel
theorem dX0_setBarred_10 : decode cX0_setBarred 10 = .ok (.bastore, 1) := by decide +kernel
theorem dX0_setBarred_11 : decode cX0_setBarred 11 = .ok (.return_, 1) := by decide +kernel
theorem dX0_canPair_0 : decode cX0_canPair 0 = .ok (.iload_n 1, 1) := by decide +kernel
theorem dX0_canPair_1 : decode cX0_canPair 1 = .ok (.iload_n 2, 1) := by decide +kernel
theorem dX0_canPair_2 : decode cX0_canPair 2 = .ok (.invokestatic 39, 3) := by decide +kernel
theorem dX0_canPair_5 : decode cX0_canPair 5 = .ok (.istore_n 3, 1) := by decide +kernel
theorem dX0_canPair_6 : decode cX0_canPair 6 = .ok (.aload_n 0, 1) := by decide +kernel
theorem dX0_canPair_7 : decode cX0_canPair 7 = .ok (.getfield 15, 3) := by decide +kernel
theorem dX0_canPair_10 : decode cX0_canPair 10 = .ok (.iload_n 3, 1) := by decide +kernel
theorem dX0_canPair_11 : decode cX0_canPair 11 = .ok (.iaload, 1) := by decide +kernel
theorem dX0_canPair_12 : decode cX0_canPair 12 = .ok (.ifCond .eq 25, 3) := by decide +kernel
theorem dX0_canPair_15 : decode cX0_canPair 15 = .ok (.aload_n 0, 1) := by decide +kernel
theorem dX0_canPair_16 : decode cX0_canPair 16 = .ok (.getfield 18, 3) := by decide +kernel
theorem dX0_canPair_19 : decode cX0_canPair 19 = .ok (.iload_n 3, 1) := by decide +kernel
theorem dX0_canPair_20 : decode cX0_canPair 20 = .ok (.iaload, 1) := by decide +kernel
theorem dX0_canPair_21 : decode cX0_canPair 21 = .ok (.ifCond .eq 16, 3) := by decide +kernel
theorem dX0_canPair_24 : decode cX0_canPair 24 = .ok (.aload_n 0, 1) := by decide +kernel
theorem dX0_canPair_25 : decode cX0_canPair 25 = .ok (.getfield 21, 3) := by decide +kernel
theorem dX0_canPair_28 : decode cX0_canPair 28 = .ok (.iload_n 3, 1) := by decide +kernel
theorem dX0_canPair_29 : decode cX0_canPair 29 = .ok (.baload, 1) := by decide +kernel
theorem dX0_canPair_30 : decode cX0_canPair 30 = .ok (.ifCond .ne 7, 3) := by decide +kernel
theorem dX0_canPair_33 : decode cX0_canPair 33 = .ok (.iconst 1, 1) := by decide +kernel
theorem dX0_canPair_34 : decode cX0_canPair 34 = .ok (.goto 4, 3) := by decide +kernel
theorem dX0_canPair_37 : decode cX0_canPair 37 = .ok (.iconst 0, 1) := by decide +kernel
theorem dX0_canPair_38 : decode cX0_canPair 38 = .ok (.ireturn, 1) := by decide +kernel
theorem dX0_beginnerPrefers_0 : decode cX0_beginnerPrefers 0 = .ok (.iload_n 3, 1) := by decide +kernel
theorem dX0_beginnerPrefers_1 : decode cX0_beginnerPrefers 1 = .ok (.iconst (-1), 1) := by decide +kernel
theorem dX0_beginnerPrefers_2 : decode cX0_beginnerPrefers 2 = .ok (.if_icmp .ne 5, 3) := by decide +kernel
theorem dX0_beginnerPrefers_5 : decode cX0_beginnerPrefers 5 = .ok (.iconst 1, 1) := by decide +kernel
theorem dX0_beginnerPrefers_6 : decode cX0_beginnerPrefers 6 = .ok (.ireturn, 1) := by decide +kernel
theorem dX0_beginnerPrefers_7 : decode cX0_beginnerPrefers 7 = .ok (.aload_n 0, 1) := by decide +kernel
theorem dX0_beginnerPrefers_8 : decode cX0_beginnerPrefers 8 = .ok (.getfield 18, 3) := by decide +kernel
theorem dX0_beginnerPrefers_11 : decode cX0_beginnerPrefers 11 = .ok (.iload_n 2, 1) := by decide +kernel
theorem dX0_beginnerPrefers_12 : decode cX0_beginnerPrefers 12 = .ok (.iload_n 1, 1) := by decide +kernel
theorem dX0_beginnerPrefers_13 : decode cX0_beginnerPrefers 13 = .ok (.invokestatic 39, 3) := by decide +kernel
theorem dX0_beginnerPrefers_16 : decode cX0_beginnerPrefers 16 = .ok (.iaload, 1) := by decide +kernel
theorem dX0_beginnerPrefers_17 : decode cX0_beginnerPrefers 17 = .ok (.istore 4, 2) := by decide +kernel
theorem dX0_beginnerPrefers_19 : decode cX0_beginnerPrefers 19 = .ok (.aload_n 0, 1) := by decide +kernel
theorem dX0_beginnerPrefers_20 : decode cX0_beginnerPrefers 20 = .ok (.getfield 18, 3) := by decide +kernel
theorem dX0_beginnerPrefers_23 : decode cX0_beginnerPrefers 23 = .ok (.iload_n 3, 1) := by decide +kernel
theorem dX0_beginnerPrefers_24 : decode cX0_beginnerPrefers 24 = .ok (.iload_n 1, 1) := by decide +kernel
theorem dX0_beginnerPrefers_25 : decode cX0_beginnerPrefers 25 = .ok (.invokestatic 39, 3) := by decide +kernel
theorem dX0_beginnerPrefers_28 : decode cX0_beginnerPrefers 28 = .ok (.iaload, 1) := by decide +kernel
theorem dX0_beginnerPrefers_29 : decode cX0_beginnerPrefers 29 = .ok (.istore 5, 2) := by decide +kernel
theorem dX0_beginnerPrefers_31 : decode cX0_beginnerPrefers 31 = .ok (.iload 4, 2) := by decide +kernel
theorem dX0_beginnerPrefers_33 : decode cX0_beginnerPrefers 33 = .ok (.iload 5, 2) := by decide +kernel
theorem dX0_beginnerPrefers_35 : decode cX0_beginnerPrefers 35 = .ok (.if_icmp .gt 15, 3) := by decide +kernel
theorem dX0_beginnerPrefers_38 : decode cX0_beginnerPrefers 38 = .ok (.iload 4, 2) := by decide +kernel
theorem dX0_beginnerPrefers_40 : decode cX0_beginnerPrefers 40 = .ok (.iload 5, 2) := by decide +kernel
theorem dX0_beginnerPrefers_42 : decode cX0_beginnerPrefers 42 = .ok (.if_icmp .ne 12, 3) := by decide +kernel
theorem dX0_beginnerPrefers_45 : decode cX0_beginnerPrefers 45 = .ok (.iload_n 2, 1) := by decide +kernel
theorem dX0_beginnerPrefers_46 : decode cX0_beginnerPrefers 46 = .ok (.iload_n 3, 1) := by decide +kernel
theorem dX0_beginnerPrefers_47 : decode cX0_beginnerPrefers 47 = .ok (.if_icmp .ge 7, 3) := by decide +kernel
theorem dX0_beginnerPrefers_50 : decode cX0_beginnerPrefers 50 = .ok (.iconst 1, 1) := by decide +kernel
theorem dX0_beginnerPrefers_51 : decode cX0_beginnerPrefers 51 = .ok (.goto 4, 3) := by decide +kernel
theorem dX0_beginnerPrefers_54 : decode cX0_beginnerPrefers 54 = .ok (.iconst 0, 1) := by decide +kernel
theorem dX0_beginnerPrefers_55 : decode cX0_beginnerPrefers 55 = .ok (.ireturn, 1) := by decide +kernel
theorem dX0_elderPrefers_0 : decode cX0_elderPrefers 0 = .ok (.aload_n 0, 1) := by decide +kernel
theorem dX0_elderPrefers_1 : decode cX0_elderPrefers 1 = .ok (.getfield 15, 3) := by decide +kernel
theorem dX0_elderPrefers_4 : decode cX0_elderPrefers 4 = .ok (.iload_n 1, 1) := by decide +kernel
theorem dX0_elderPrefers_5 : decode cX0_elderPrefers 5 = .ok (.iload_n 2, 1) := by decide +kernel
theorem dX0_elderPrefers_6 : decode cX0_elderPrefers 6 = .ok (.invokestatic 39, 3) := by decide +kernel
theorem dX0_elderPrefers_9 : decode cX0_elderPrefers 9 = .ok (.iaload, 1) := by decide +kernel
theorem dX0_elderPrefers_10 : decode cX0_elderPrefers 10 = .ok (.istore 4, 2) := by decide +kernel
theorem dX0_elderPrefers_12 : decode cX0_elderPrefers 12 = .ok (.aload_n 0, 1) := by decide +kernel
theorem dX0_elderPrefers_13 : decode cX0_elderPrefers 13 = .ok (.getfield 15, 3) := by decide +kernel
theorem dX0_elderPrefers_16 : decode cX0_elderPrefers 16 = .ok (.iload_n 1, 1) := by decide +kernel
theorem dX0_elderPrefers_17 : decode cX0_elderPrefers 17 = .ok (.iload_n 3, 1) := by decide +kernel
theorem dX0_elderPrefers_18 : decode cX0_elderPrefers 18 = .ok (.invokestatic 39, 3) := by decide +kernel
theorem dX0_elderPrefers_21 : decode cX0_elderPrefers 21 = .ok (.iaload, 1) := by decide +kernel
theorem dX0_elderPrefers_22 : decode cX0_elderPrefers 22 = .ok (.istore 5, 2) := by decide +kernel
theorem dX0_elderPrefers_24 : decode cX0_elderPrefers 24 = .ok (.iload 4, 2) := by decide +kernel
theorem dX0_elderPrefers_26 : decode cX0_elderPrefers 26 = .ok (.iload 5, 2) := by decide +kernel
theorem dX0_elderPrefers_28 : decode cX0_elderPrefers 28 = .ok (.if_icmp .gt 15, 3) := by decide +kernel
theorem dX0_elderPrefers_31 : decode cX0_elderPrefers 31 = .ok (.iload 4, 2) := by decide +kernel
theorem dX0_elderPrefers_33 : decode cX0_elderPrefers 33 = .ok (.iload 5, 2) := by decide +kernel
theorem dX0_elderPrefers_35 : decode cX0_elderPrefers 35 = .ok (.if_icmp .ne 12, 3) := by decide +kernel
theorem dX0_elderPrefers_38 : decode cX0_elderPrefers 38 = .ok (.iload_n 2, 1) := by decide +kernel
theorem dX0_elderPrefers_39 : decode cX0_elderPrefers 39 = .ok (.iload_n 3, 1) := by decide +kernel
theorem dX0_elderPrefers_40 : decode cX0_elderPrefers 40 = .ok (.if_icmp .ge 7, 3) := by decide +kernel
theorem dX0_elderPrefers_43 : decode cX0_elderPrefers 43 = .ok (.iconst 1, 1) := by decide +kernel
theorem dX0_elderPrefers_44 : decode cX0_elderPrefers 44 = .ok (.goto 4, 3) := by decide +kernel
theorem dX0_elderPrefers_47 : decode cX0_elderPrefers 47 = .ok (.iconst 0, 1) := by decide +kernel
theorem dX0_elderPrefers_48 : decode cX0_elderPrefers 48 = .ok (.ireturn, 1) := by decide +kernel
theorem dX1_init_0 : decode cX1_init 0 = .ok (.aload_n 0, 1) := by decide +kernel
theorem dX1_init_1 : decode cX1_init 1 = .ok (.invokespecial 1, 3) := by decide +kernel
theorem dX1_init_4 : decode cX1_init 4 = .ok (.aload_n 0, 1) := by decide +kernel
theorem dX1_init_5 : decode cX1_init 5 = .ok (.lconst 0, 1) := by decide +kernel
theorem dX1_init_6 : decode cX1_init 6 = .ok (.putfield 7, 3) := by decide +kernel
theorem dX1_init_9 : decode cX1_init 9 = .ok (.aload_n 0, 1) := by decide +kernel
theorem dX1_init_10 : decode cX1_init 10 = .ok (.lconst 1, 1) := by decide +kernel
theorem dX1_init_11 : decode cX1_init 11 = .ok (.putfield 13, 3) := by decide +kernel
theorem dX1_init_14 : decode cX1_init 14 = .ok (.return_, 1) := by decide +kernel
theorem dX1_become_0 : decode cX1_become 0 = .ok (.lload_n 1, 1) := by decide +kernel
theorem dX1_become_1 : decode cX1_become 1 = .ok (.invokestatic 16, 3) := by decide +kernel
theorem dX1_become_4 : decode cX1_become 4 = .ok (.lload_n 3, 1) := by decide +kernel
theorem dX1_become_5 : decode cX1_become 5 = .ok (.invokestatic 22, 3) := by decide +kernel
theorem dX1_become_8 : decode cX1_become 8 = .ok (.lstore 5, 2) := by decide +kernel
theorem dX1_become_10 : decode cX1_become 10 = .ok (.lload 5, 2) := by decide +kernel
theorem dX1_become_12 : decode cX1_become 12 = .ok (.lconst 0, 1) := by decide +kernel
theorem dX1_become_13 : decode cX1_become 13 = .ok (.lcmp, 1) := by decide +kernel
theorem dX1_become_14 : decode cX1_become 14 = .ok (.ifCond .le 19, 3) := by decide +kernel
theorem dX1_become_17 : decode cX1_become 17 = .ok (.aload_n 0, 1) := by decide +kernel
theorem dX1_become_18 : decode cX1_become 18 = .ok (.lload_n 1, 1) := by decide +kernel
theorem dX1_become_19 : decode cX1_become 19 = .ok (.lload 5, 2) := by decide +kernel
theorem dX1_become_21 : decode cX1_become 21 = .ok (.ldiv, 1) := by decide +kernel
theorem dX1_become_22 : decode cX1_become 22 = .ok (.putfield 7, 3) := by decide +kernel
theorem dX1_become_25 : decode cX1_become 25 = .ok (.aload_n 0, 1) := by decide +kernel
theorem dX1_become_26 : decode cX1_become 26 = .ok (.lload_n 3, 1) := by decide +kernel
theorem dX1_become_27 : decode cX1_become 27 = .ok (.lload 5, 2) := by decide +kernel
theorem dX1_become_29 : decode cX1_become 29 = .ok (.ldiv, 1) := by decide +kernel
theorem dX1_become_30 : decode cX1_become 30 = .ok (.putfield 13, 3) := by decide +kernel
theorem dX1_become_33 : decode cX1_become 33 = .ok (.return_, 1) := by decide +kernel
theorem dX1_commonDivisor_0 : decode cX1_commonDivisor 0 = .ok (.lload_n 0, 1) := by decide +kernel
theorem dX1_commonDivisor_1 : decode cX1_commonDivisor 1 = .ok (.lstore 4, 2) := by decide +kernel
theorem dX1_commonDivisor_3 : decode cX1_commonDivisor 3 = .ok (.lload_n 2, 1) := by decide +kernel
theorem dX1_commonDivisor_4 : decode cX1_commonDivisor 4 = .ok (.lstore 6, 2) := by decide +kernel
theorem dX1_commonDivisor_6 : decode cX1_commonDivisor 6 = .ok (.iconst 0, 1) := by decide +kernel
theorem dX1_commonDivisor_7 : decode cX1_commonDivisor 7 = .ok (.istore 8, 2) := by decide +kernel
theorem dX1_commonDivisor_9 : decode cX1_commonDivisor 9 = .ok (.iload 8, 2) := by decide +kernel
theorem dX1_commonDivisor_11 : decode cX1_commonDivisor 11 = .ok (.bipush 100, 2) := by decide +kernel
theorem dX1_commonDivisor_13 : decode cX1_commonDivisor 13 = .ok (.if_icmp .ge 31, 3) := by decide +kernel
theorem dX1_commonDivisor_16 : decode cX1_commonDivisor 16 = .ok (.lload 6, 2) := by decide +kernel
theorem dX1_commonDivisor_18 : decode cX1_commonDivisor 18 = .ok (.lconst 0, 1) := by decide +kernel
theorem dX1_commonDivisor_19 : decode cX1_commonDivisor 19 = .ok (.lcmp, 1) := by decide +kernel
theorem dX1_commonDivisor_20 : decode cX1_commonDivisor 20 = .ok (.ifCond .eq 24, 3) := by decide +kernel
theorem dX1_commonDivisor_23 : decode cX1_commonDivisor 23 = .ok (.lload 4, 2) := by decide +kernel
theorem dX1_commonDivisor_25 : decode cX1_commonDivisor 25 = .ok (.lload 6, 2) := by decide +kernel
theorem dX1_commonDivisor_27 : decode cX1_commonDivisor 27 = .ok (.lrem, 1) := by decide +kernel
theorem dX1_commonDivisor_28 : decode cX1_commonDivisor 28 = .ok (.lstore 9, 2) := by decide +kernel
theorem dX1_commonDivisor_30 : decode cX1_commonDivisor 30 = .ok (.lload 6, 2) := by decide +kernel
theorem dX1_commonDivisor_32 : decode cX1_commonDivisor 32 = .ok (.lstore 4, 2) := by decide +kernel
theorem dX1_commonDivisor_34 : decode cX1_commonDivisor 34 = .ok (.lload 9, 2) := by decide +kernel
theorem dX1_commonDivisor_36 : decode cX1_commonDivisor 36 = .ok (.lstore 6, 2) := by decide +kernel
theorem dX1_commonDivisor_38 : decode cX1_commonDivisor 38 = .ok (.iinc 8 1, 3) := by decide +kernel
theorem dX1_commonDivisor_41 : decode cX1_commonDivisor 41 = .ok (.goto (-32), 3) := by decide +kernel
theorem dX1_commonDivisor_44 : decode cX1_commonDivisor 44 = .ok (.lload 4, 2) := by decide +kernel
theorem dX1_commonDivisor_46 : decode cX1_commonDivisor 46 = .ok (.lreturn, 1) := by decide +kernel
theorem dX2_init_0 : decode cX2_init 0 = .ok (.aload_n 0, 1) := by decide +kernel
theorem dX2_init_1 : decode cX2_init 1 = .ok (.invokespecial 3, 3) := by decide +kernel
theorem dX2_init_4 : decode cX2_init 4 = .ok (.aload_n 0, 1) := by decide +kernel
theorem dX2_init_5 : decode cX2_init 5 = .ok (.bipush 40, 2) := by decide +kernel
theorem dX2_init_7 : decode cX2_init 7 = .ok (.newarray .int, 2) := by decide +kernel
theorem dX2_init_9 : decode cX2_init 9 = .ok (.putfield 9, 3) := by decide +kernel
theorem dX2_init_12 : decode cX2_init 12 = .ok (.aload_n 0, 1) := by decide +kernel
theorem dX2_init_13 : decode cX2_init 13 = .ok (.bipush 40, 2) := by decide +kernel
theorem dX2_init_15 : decode cX2_init 15 = .ok (.newarray .int, 2) := by decide +kernel
theorem dX2_init_17 : decode cX2_init 17 = .ok (.putfield 15, 3) := by decide +kernel
theorem dX2_init_20 : decode cX2_init 20 = .ok (.aload_n 0, 1) := by decide +kernel
theorem dX2_init_21 : decode cX2_init 21 = .ok (.bipush 40, 2) := by decide +kernel
theorem dX2_init_23 : decode cX2_init 23 = .ok (.newarray .int, 2) := by decide +kernel
theorem dX2_init_25 : decode cX2_init 25 = .ok (.putfield 18, 3) := by decide +kernel
theorem dX2_init_28 : decode cX2_init 28 = .ok (.aload_n 0, 1) := by decide +kernel
theorem dX2_init_29 : decode cX2_init 29 = .ok (.bipush 40, 2) := by decide +kernel
theorem dX2_init_31 : decode cX2_init 31 = .ok (.newarray .int, 2) := by decide +kernel
theorem dX2_init_33 : decode cX2_init 33 = .ok (.putfield 21, 3) := by decide +kernel
theorem dX2_init_36 : decode cX2_init 36 = .ok (.aload_n 0, 1) := by decide +kernel
theorem dX2_init_37 : decode cX2_init 37 = .ok (.iconst 0, 1) := by decide +kernel
theorem dX2_init_38 : decode cX2_init 38 = .ok (.putfield 24, 3) := by decide +kernel
theorem dX2_init_41 : decode cX2_init 41 = .ok (.return_, 1) := by decide +kernel
theorem dX2_isGoal_0 : decode cX2_isGoal 0 = .ok (.iload_n 1, 1) := by decide +kernel
theorem dX2_isGoal_1 : decode cX2_isGoal 1 = .ok (.ifCond .lt 15, 3) := by decide +kernel
theorem dX2_isGoal_4 : decode cX2_isGoal 4 = .ok (.iload_n 1, 1) := by decide +kernel
theorem dX2_isGoal_5 : decode cX2_isGoal 5 = .ok (.aload_n 0, 1) := by decide +kernel
theorem dX2_isGoal_6 : decode cX2_isGoal 6 = .ok (.getfield 24, 3) := by decide +kernel
theorem dX2_isGoal_9 : decode cX2_isGoal 9 = .ok (.if_icmp .ge 7, 3) := by decide +kernel
theorem dX2_isGoal_12 : decode cX2_isGoal 12 = .ok (.iconst 1, 1) := by decide +kernel
theorem dX2_isGoal_13 : decode cX2_isGoal 13 = .ok (.goto 4, 3) := by decide +kernel
theorem dX2_isGoal_16 : decode cX2_isGoal 16 = .ok (.iconst 0, 1) := by decide +kernel
theorem dX2_isGoal_17 : decode cX2_isGoal 17 = .ok (.ireturn, 1) := by decide +kernel
theorem dX2_isGoalOf_0 : decode cX2_isGoalOf 0 = .ok (.aload_n 0, 1) := by decide +kernel
theorem dX2_isGoalOf_1 : decode cX2_isGoalOf 1 = .ok (.iload_n 1, 1) := by decide +kernel
theorem dX2_isGoalOf_2 : decode cX2_isGoalOf 2 = .ok (.invokevirtual 28, 3) := by decide +kernel
theorem dX2_isGoalOf_5 : decode cX2_isGoalOf 5 = .ok (.ifCond .eq 17, 3) := by decide +kernel
theorem dX2_isGoalOf_8 : decode cX2_isGoalOf 8 = .ok (.aload_n 0, 1) := by decide +kernel
theorem dX2_isGoalOf_9 : decode cX2_isGoalOf 9 = .ok (.getfield 9, 3) := by decide +kernel
theorem dX2_isGoalOf_12 : decode cX2_isGoalOf 12 = .ok (.iload_n 1, 1) := by decide +kernel
theorem dX2_isGoalOf_13 : decode cX2_isGoalOf 13 = .ok (.iaload, 1) := by decide +kernel
theorem dX2_isGoalOf_14 : decode cX2_isGoalOf 14 = .ok (.iload_n 2, 1) := by decide +kernel
theorem dX2_isGoalOf_15 : decode cX2_isGoalOf 15 = .ok (.if_icmp .ne 7, 3) := by decide +kernel
theorem dX2_isGoalOf_18 : decode cX2_isGoalOf 18 = .ok (.iconst 1, 1) := by decide +kernel
theorem dX2_isGoalOf_19 : decode cX2_isGoalOf 19 = .ok (.goto 4, 3) := by decide +kernel
theorem dX2_isGoalOf_22 : decode cX2_isGoalOf 22 = .ok (.iconst 0, 1) := by decide +kernel
theorem dX2_isGoalOf_23 : decode cX2_isGoalOf 23 = .ok (.ireturn, 1) := by decide +kernel
theorem dX2_add_0 : decode cX2_add 0 = .ok (.aload_n 0, 1) := by decide +kernel
theorem dX2_add_1 : decode cX2_add 1 = .ok (.getfield 9, 3) := by decide +kernel
theorem dX2_add_4 : decode cX2_add 4 = .ok (.aload_n 0, 1) := by decide +kernel
theorem dX2_add_5 : decode cX2_add 5 = .ok (.getfield 24, 3) := by decide +kernel
theorem dX2_add_8 : decode cX2_add 8 = .ok (.iload_n 1, 1) := by decide +kernel
theorem dX2_add_9 : decode cX2_add 9 = .ok (.iastore, 1) := by decide +kernel
theorem dX2_add_10 : decode cX2_add 10 = .ok (.aload_n 0, 1) := by decide +kernel
theorem dX2_add_11 : decode cX2_add 11 = .ok (.getfield 15, 3) := by decide +kernel
theorem dX2_add_14 : decode cX2_add 14 = .ok (.aload_n 0, 1) := by decide +kernel
theorem dX2_add_15 : decode cX2_add 15 = .ok (.getfield 24, 3) := by decide +kernel
theorem dX2_add_18 : decode cX2_add 18 = .ok (.iload_n 2, 1) := by decide +kernel
theorem dX2_add_19 : decode cX2_add 19 = .ok (.iastore, 1) := by decide +kernel
theorem dX2_add_20 : decode cX2_add 20 = .ok (.aload_n 0, 1) := by decide +kernel
theorem dX2_add_21 : decode cX2_add 21 = .ok (.getfield 18, 3) := by decide +kernel
theorem dX2_add_24 : decode cX2_add 24 = .ok (.aload_n 0, 1) := by decide +kernel
theorem dX2_add_25 : decode cX2_add 25 = .ok (.getfield 24, 3) := by decide +kernel
theorem dX2_add_28 : decode cX2_add 28 = .ok (.iload_n 3, 1) := by decide +kernel
theorem dX2_add_29 : decode cX2_add 29 = .ok (.iastore, 1) := by decide +kernel
theorem dX2_add_30 : decode cX2_add 30 = .ok (.aload_n 0, 1) := by decide +kernel
theorem dX2_add_31 : decode cX2_add 31 = .ok (.getfield 21, 3) := by decide +kernel
theorem dX2_add_34 : decode cX2_add 34 = .ok (.aload_n 0, 1) := by decide +kernel
theorem dX2_add_35 : decode cX2_add 35 = .ok (.getfield 24, 3) := by decide +kernel
theorem dX2_add_38 : decode cX2_add 38 = .ok (.iconst (-1), 1) := by decide +kernel
theorem dX2_add_39 : decode cX2_add 39 = .ok (.iastore, 1) := by decide +kernel
theorem dX2_add_40 : decode cX2_add 40 = .ok (.aload_n 0, 1) := by decide +kernel
theorem dX2_add_41 : decode cX2_add 41 = .ok (.dup, 1) := by decide +kernel
theorem dX2_add_42 : decode cX2_add 42 = .ok (.getfield 24, 3) := by decide +kernel
theorem dX2_add_45 : decode cX2_add 45 = .ok (.iconst 1, 1) := by decide +kernel
theorem dX2_add_46 : decode cX2_add 46 = .ok (.iadd, 1) := by decide +kernel
theorem dX2_add_47 : decode cX2_add 47 = .ok (.putfield 24, 3) := by decide +kernel
theorem dX2_add_50 : decode cX2_add 50 = .ok (.aload_n 0, 1) := by decide +kernel
theorem dX2_add_51 : decode cX2_add 51 = .ok (.getfield 24, 3) := by decide +kernel
theorem dX2_add_54 : decode cX2_add 54 = .ok (.iconst 1, 1) := by decide +kernel
theorem dX2_add_55 : decode cX2_add 55 = .ok (.isub, 1) := by decide +kernel
theorem dX2_add_56 : decode cX2_add 56 = .ok (.ireturn, 1) := by decide +kernel
theorem dX2_asOf_0 : decode cX2_asOf 0 = .ok (.aload_n 0, 1) := by decide +kernel
theorem dX2_asOf_1 : decode cX2_asOf 1 = .ok (.iload_n 1, 1) := by decide +kernel
theorem dX2_asOf_2 : decode cX2_asOf 2 = .ok (.iload_n 2, 1) := by decide +kernel
theorem dX2_asOf_3 : decode cX2_asOf 3 = .ok (.invokevirtual 32, 3) := by decide +kernel
theorem dX2_asOf_6 : decode cX2_asOf 6 = .ok (.ifCond .eq 5, 3) := by decide +kernel
theorem dX2_asOf_9 : decode cX2_asOf 9 = .ok (.iconst 1, 1) := by decide +kernel
theorem dX2_asOf_10 : decode cX2_asOf 10 = .ok (.ireturn, 1) := by decide +kernel
theorem dX2_asOf_11 : decode cX2_asOf 11 = .ok (.iload_n 2, 1) := by decide +kernel
theorem dX2_asOf_12 : decode cX2_asOf 12 = .ok (.aload_n 0, 1) := by decide +kernel
theorem dX2_asOf_13 : decode cX2_asOf 13 = .ok (.getfield 15, 3) := by decide +kernel
theorem dX2_asOf_16 : decode cX2_asOf 16 = .ok (.iload_n 1, 1) := by decide +kernel
theorem dX2_asOf_17 : decode cX2_asOf 17 = .ok (.iaload, 1) := by decide +kernel
theorem dX2_asOf_18 : decode cX2_asOf 18 = .ok (.if_icmp .le 7, 3) := by decide +kernel
theorem dX2_asOf_21 : decode cX2_asOf 21 = .ok (.iconst 2, 1) := by decide +kernel
theorem dX2_asOf_22 : decode cX2_asOf 22 = .ok (.goto 4, 3) := by decide +kernel
theorem dX2_asOf_25 : decode cX2_asOf 25 = .ok (.iconst 0, 1) := by decide +kernel
theorem dX2_asOf_26 : decode cX2_asOf 26 = .ok (.ireturn, 1) := by decide +kernel
theorem dX2_isReached_0 : decode cX2_isReached 0 = .ok (.iload_n 1, 1) := by decide +kernel
theorem dX2_isReached_1 : decode cX2_isReached 1 = .ok (.istore_n 3, 1) := by decide +kernel
theorem dX2_isReached_2 : decode cX2_isReached 2 = .ok (.iload_n 2, 1) := by decide +kernel
theorem dX2_isReached_3 : decode cX2_isReached 3 = .ok (.istore 4, 2) := by decide +kernel
theorem dX2_isReached_5 : decode cX2_isReached 5 = .ok (.iconst 0, 1) := by decide +kernel
theorem dX2_isReached_6 : decode cX2_isReached 6 = .ok (.istore 5, 2) := by decide +kernel
theorem dX2_isReached_8 : decode cX2_isReached 8 = .ok (.iload 5, 2) := by decide +kernel
theorem dX2_isReached_10 : decode cX2_isReached 10 = .ok (.bipush 40, 2) := by decide +kernel
theorem dX2_isReached_12 : decode cX2_isReached 12 = .ok (.if_icmp .ge 59, 3) := by decide +kernel
theorem dX2_isReached_15 : decode cX2_isReached 15 = .ok (.iload_n 3, 1) := by decide +kernel
theorem dX2_isReached_16 : decode cX2_isReached 16 = .ok (.iconst (-1), 1) := by decide +kernel
theorem dX2_isReached_17 : decode cX2_isReached 17 = .ok (.if_icmp .eq 54, 3) := by decide +kernel
theorem dX2_isReached_20 : decode cX2_isReached 20 = .ok (.aload_n 0, 1) := by decide +kernel
theorem dX2_isReached_21 : decode cX2_isReached 21 = .ok (.getfield 21, 3) := by decide +kernel
theorem dX2_isReached_24 : decode cX2_isReached 24 = .ok (.iload_n 3, 1) := by decide +kernel
theorem dX2_isReached_25 : decode cX2_isReached 25 = .ok (.iaload, 1) := by decide +kernel
theorem dX2_isReached_26 : decode cX2_isReached 26 = .ok (.istore 6, 2) := by decide +kernel
theorem dX2_isReached_28 : decode cX2_isReached 28 = .ok (.iload 6, 2) := by decide +kernel
theorem dX2_isReached_30 : decode cX2_isReached 30 = .ok (.iconst (-1), 1) := by decide +kernel
theorem dX2_isReached_31 : decode cX2_isReached 31 = .ok (.if_icmp .eq 21, 3) := by decide +kernel
theorem dX2_isReached_34 : decode cX2_isReached 34 = .ok (.iload 6, 2) := by decide +kernel
theorem dX2_isReached_36 : decode cX2_isReached 36 = .ok (.iload 4, 2) := by decide +kernel
theorem dX2_isReached_38 : decode cX2_isReached 38 = .ok (.if_icmp .gt 14, 3) := by decide +kernel
theorem dX2_isReached_41 : decode cX2_isReached 41 = .ok (.iload 6, 2) := by decide +kernel
theorem dX2_isReached_43 : decode cX2_isReached 43 = .ok (.aload_n 0, 1) := by decide +kernel
theorem dX2_isReached_44 : decode cX2_isReached 44 = .ok (.getfield 15, 3) := by decide +kernel
theorem dX2_isReached_47 : decode cX2_isReached 47 = .ok (.iload_n 3, 1) := by decide +kernel
theorem dX2_isReached_48 : decode cX2_isReached 48 = .ok (.iaload, 1) := by decide +kernel
theorem dX2_isReached_49 : decode cX2_isReached 49 = .ok (.if_icmp .le 5, 3) := by decide +kernel
theorem dX2_isReached_52 : decode cX2_isReached 52 = .ok (.iconst 0, 1) := by decide +kernel
theorem dX2_isReached_53 : decode cX2_isReached 53 = .ok (.ireturn, 1) := by decide +kernel
theorem dX2_isReached_54 : decode cX2_isReached 54 = .ok (.iload 6, 2) := by decide +kernel
theorem dX2_isReached_56 : decode cX2_isReached 56 = .ok (.istore 4, 2) := by decide +kernel
theorem dX2_isReached_58 : decode cX2_isReached 58 = .ok (.aload_n 0, 1) := by decide +kernel
theorem dX2_isReached_59 : decode cX2_isReached 59 = .ok (.getfield 18, 3) := by decide +kernel
theorem dX2_isReached_62 : decode cX2_isReached 62 = .ok (.iload_n 3, 1) := by decide +kernel
theorem dX2_isReached_63 : decode cX2_isReached 63 = .ok (.iaload, 1) := by decide +kernel
theorem dX2_isReached_64 : decode cX2_isReached 64 = .ok (.istore_n 3, 1) := by decide +kernel
theorem dX2_isReached_65 : decode cX2_isReached 65 = .ok (.iinc 5 1, 3) := by decide +kernel
theorem dX2_isReached_68 : decode cX2_isReached 68 = .ok (.goto (-60), 3) := by decide +kernel
theorem dX2_isReached_71 : decode cX2_isReached 71 = .ok (.iconst 1, 1) := by decide +kernel
theorem dX2_isReached_72 : decode cX2_isReached 72 = .ok (.ireturn, 1) := by decide +kernel
theorem dX3_init_0 : decode cX3_init 0 = .ok (.aload_n 0, 1) := by decide +kernel
theorem dX3_init_1 : decode cX3_init 1 = .ok (.invokespecial 3, 3) := by decide +kernel
theorem dX3_init_4 : decode cX3_init 4 = .ok (.aload_n 0, 1) := by decide +kernel
theorem dX3_init_5 : decode cX3_init 5 = .ok (.bipush 100, 2) := by decide +kernel
theorem dX3_init_7 : decode cX3_init 7 = .ok (.newarray .int, 2) := by decide +kernel
theorem dX3_init_9 : decode cX3_init 9 = .ok (.putfield 9, 3) := by decide +kernel
theorem dX3_init_12 : decode cX3_init 12 = .ok (.aload_n 0, 1) := by decide +kernel
theorem dX3_init_13 : decode cX3_init 13 = .ok (.bipush 100, 2) := by decide +kernel
theorem dX3_init_15 : decode cX3_init 15 = .ok (.newarray .int, 2) := by decide +kernel
theorem dX3_init_17 : decode cX3_init 17 = .ok (.putfield 15, 3) := by decide +kernel
theorem dX3_init_20 : decode cX3_init 20 = .ok (.aload_n 0, 1) := by decide +kernel
theorem dX3_init_21 : decode cX3_init 21 = .ok (.sipush 200, 3) := by decide +kernel
theorem dX3_init_24 : decode cX3_init 24 = .ok (.newarray .int, 2) := by decide +kernel
theorem dX3_init_26 : decode cX3_init 26 = .ok (.putfield 18, 3) := by decide +kernel
theorem dX3_init_29 : decode cX3_init 29 = .ok (.aload_n 0, 1) := by decide +kernel
theorem dX3_init_30 : decode cX3_init 30 = .ok (.sipush 200, 3) := by decide +kernel
theorem dX3_init_33 : decode cX3_init 33 = .ok (.newarray .int, 2) := by decide +kernel
theorem dX3_init_35 : decode cX3_init 35 = .ok (.putfield 21, 3) := by decide +kernel
theorem dX3_init_38 : decode cX3_init 38 = .ok (.aload_n 0, 1) := by decide +kernel
theorem dX3_init_39 : decode cX3_init 39 = .ok (.sipush 200, 3) := by decide +kernel
theorem dX3_init_42 : decode cX3_init 42 = .ok (.newarray .boolean, 2) := by decide +kernel
theorem dX3_init_44 : decode cX3_init 44 = .ok (.putfield 24, 3) := by decide +kernel
theorem dX3_init_47 : decode cX3_init 47 = .ok (.aload_n 0, 1) := by decide +kernel
theorem dX3_init_48 : decode cX3_init 48 = .ok (.iconst 0, 1) := by decide +kernel
theorem dX3_init_49 : decode cX3_init 49 = .ok (.putfield 28, 3) := by decide +kernel
theorem dX3_init_52 : decode cX3_init 52 = .ok (.aload_n 0, 1) := by decide +kernel
theorem dX3_init_53 : decode cX3_init 53 = .ok (.iconst 0, 1) := by decide +kernel
theorem dX3_init_54 : decode cX3_init 54 = .ok (.putfield 32, 3) := by decide +kernel
theorem dX3_init_57 : decode cX3_init 57 = .ok (.return_, 1) := by decide +kernel
theorem dX3_isMeeting_0 : decode cX3_isMeeting 0 = .ok (.iload_n 1, 1) := by decide +kernel
theorem dX3_isMeeting_1 : decode cX3_isMeeting 1 = .ok (.ifCond .lt 15, 3) := by decide +kernel
theorem dX3_isMeeting_4 : decode cX3_isMeeting 4 = .ok (.iload_n 1, 1) := by decide +kernel
theorem dX3_isMeeting_5 : decode cX3_isMeeting 5 = .ok (.aload_n 0, 1) := by decide +kernel
theorem dX3_isMeeting_6 : decode cX3_isMeeting 6 = .ok (.getfield 28, 3) := by decide +kernel
theorem dX3_isMeeting_9 : decode cX3_isMeeting 9 = .ok (.if_icmp .ge 7, 3) := by decide +kernel
theorem dX3_isMeeting_12 : decode cX3_isMeeting 12 = .ok (.iconst 1, 1) := by decide +kernel
theorem dX3_isMeeting_13 : decode cX3_isMeeting 13 = .ok (.goto 4, 3) := by decide +kernel
theorem dX3_isMeeting_16 : decode cX3_isMeeting 16 = .ok (.iconst 0, 1) := by decide +kernel
theorem dX3_isMeeting_17 : decode cX3_isMeeting 17 = .ok (.ireturn, 1) := by decide +kernel
theorem dX3_add_0 : decode cX3_add 0 = .ok (.aload_n 0, 1) := by decide +kernel
theorem dX3_add_1 : decode cX3_add 1 = .ok (.getfield 9, 3) := by decide +kernel
theorem dX3_add_4 : decode cX3_add 4 = .ok (.aload_n 0, 1) := by decide +kernel
theorem dX3_add_5 : decode cX3_add 5 = .ok (.getfield 28, 3) := by decide +kernel
theorem dX3_add_8 : decode cX3_add 8 = .ok (.iload_n 1, 1) := by decide +kernel
theorem dX3_add_9 : decode cX3_add 9 = .ok (.iastore, 1) := by decide +kernel
theorem dX3_add_10 : decode cX3_add 10 = .ok (.aload_n 0, 1) := by decide +kernel
theorem dX3_add_11 : decode cX3_add 11 = .ok (.getfield 15, 3) := by decide +kernel
theorem dX3_add_14 : decode cX3_add 14 = .ok (.aload_n 0, 1) := by decide +kernel
theorem dX3_add_15 : decode cX3_add 15 = .ok (.getfield 28, 3) := by decide +kernel
theorem dX3_add_18 : decode cX3_add 18 = .ok (.iload_n 2, 1) := by decide +kernel
theorem dX3_add_19 : decode cX3_add 19 = .ok (.iastore, 1) := by decide +kernel
theorem dX3_add_20 : decode cX3_add 20 = .ok (.aload_n 0, 1) := by decide +kernel
theorem dX3_add_21 : decode cX3_add 21 = .ok (.dup, 1) := by decide +kernel
theorem dX3_add_22 : decode cX3_add 22 = .ok (.getfield 28, 3) := by decide +kernel
theorem dX3_add_25 : decode cX3_add 25 = .ok (.iconst 1, 1) := by decide +kernel
theorem dX3_add_26 : decode cX3_add 26 = .ok (.iadd, 1) := by decide +kernel
theorem dX3_add_27 : decode cX3_add 27 = .ok (.putfield 28, 3) := by decide +kernel
theorem dX3_add_30 : decode cX3_add 30 = .ok (.aload_n 0, 1) := by decide +kernel
theorem dX3_add_31 : decode cX3_add 31 = .ok (.getfield 28, 3) := by decide +kernel
theorem dX3_add_34 : decode cX3_add 34 = .ok (.iconst 1, 1) := by decide +kernel
theorem dX3_add_35 : decode cX3_add 35 = .ok (.isub, 1) := by decide +kernel
theorem dX3_add_36 : decode cX3_add 36 = .ok (.ireturn, 1) := by decide +kernel
theorem dX3_addTelling_0 : decode cX3_addTelling 0 = .ok (.aload_n 0, 1) := by decide +kernel
theorem dX3_addTelling_1 : decode cX3_addTelling 1 = .ok (.getfield 18, 3) := by decide +kernel
theorem dX3_addTelling_4 : decode cX3_addTelling 4 = .ok (.aload_n 0, 1) := by decide +kernel
theorem dX3_addTelling_5 : decode cX3_addTelling 5 = .ok (.getfield 32, 3) := by decide +kernel
theorem dX3_addTelling_8 : decode cX3_addTelling 8 = .ok (.iload_n 1, 1) := by decide +kernel
theorem dX3_addTelling_9 : decode cX3_addTelling 9 = .ok (.iastore, 1) := by decide +kernel
theorem dX3_addTelling_10 : decode cX3_addTelling 10 = .ok (.aload_n 0, 1) := by decide +kernel
theorem dX3_addTelling_11 : decode cX3_addTelling 11 = .ok (.getfield 24, 3) := by decide +kernel
theorem dX3_addTelling_14 : decode cX3_addTelling 14 = .ok (.aload_n 0, 1) := by decide +kernel
theorem dX3_addTelling_15 : decode cX3_addTelling 15 = .ok (.getfield 32, 3) := by decide +kernel
theorem dX3_addTelling_18 : decode cX3_addTelling 18 = .ok (.iload_n 2, 1) := by decide +kernel
theorem dX3_addTelling_19 : decode cX3_addTelling 19 = .ok (.bastore, 1) := by decide +kernel
theorem dX3_addTelling_20 : decode cX3_addTelling 20 = .ok (.aload_n 0, 1) := by decide +kernel
theorem dX3_addTelling_21 : decode cX3_addTelling 21 = .ok (.getfield 21, 3) := by decide +kernel
theorem dX3_addTelling_24 : decode cX3_addTelling 24 = .ok (.aload_n 0, 1) := by decide +kernel
theorem dX3_addTelling_25 : decode cX3_addTelling 25 = .ok (.getfield 32, 3) := by decide +kernel
theorem dX3_addTelling_28 : decode cX3_addTelling 28 = .ok (.iload_n 3, 1) := by decide +kernel
theorem dX3_addTelling_29 : decode cX3_addTelling 29 = .ok (.iastore, 1) := by decide +kernel
theorem dX3_addTelling_30 : decode cX3_addTelling 30 = .ok (.aload_n 0, 1) := by decide +kernel
theorem dX3_addTelling_31 : decode cX3_addTelling 31 = .ok (.dup, 1) := by decide +kernel
theorem dX3_addTelling_32 : decode cX3_addTelling 32 = .ok (.getfield 32, 3) := by decide +kernel
theorem dX3_addTelling_35 : decode cX3_addTelling 35 = .ok (.iconst 1, 1) := by decide +kernel
theorem dX3_addTelling_36 : decode cX3_addTelling 36 = .ok (.iadd, 1) := by decide +kernel
theorem dX3_addTelling_37 : decode cX3_addTelling 37 = .ok (.putfield 32, 3) := by decide +kernel
theorem dX3_addTelling_40 : decode cX3_addTelling 40 = .ok (.return_, 1) := by decide +kernel
theorem dX3_count_0 : decode cX3_count 0 = .ok (.iconst 0, 1) := by decide +kernel
theorem dX3_count_1 : decode cX3_count 1 = .ok (.istore 4, 2) := by decide +kernel
theorem dX3_count_3 : decode cX3_count 3 = .ok (.iconst 0, 1) := by decide +kernel
theorem dX3_count_4 : decode cX3_count 4 = .ok (.istore 5, 2) := by decide +kernel
theorem dX3_count_6 : decode cX3_count 6 = .ok (.iload 5, 2) := by decide +kernel
theorem dX3_count_8 : decode cX3_count 8 = .ok (.aload_n 0, 1) := by decide +kernel
theorem dX3_count_9 : decode cX3_count 9 = .ok (.getfield 28, 3) := by decide +kernel
theorem dX3_count_12 : decode cX3_count 12 = .ok (.if_icmp .ge 45, 3) := by decide +kernel
theorem dX3_count_15 : decode cX3_count 15 = .ok (.aload_n 0, 1) := by decide +kernel
theorem dX3_count_16 : decode cX3_count 16 = .ok (.getfield 9, 3) := by decide +kernel
theorem dX3_count_19 : decode cX3_count 19 = .ok (.iload 5, 2) := by decide +kernel
theorem dX3_count_21 : decode cX3_count 21 = .ok (.iaload, 1) := by decide +kernel
theorem dX3_count_22 : decode cX3_count 22 = .ok (.iload_n 1, 1) := by decide +kernel
theorem dX3_count_23 : decode cX3_count 23 = .ok (.if_icmp .ne 28, 3) := by decide +kernel
theorem dX3_count_26 : decode cX3_count 26 = .ok (.aload_n 0, 1) := by decide +kernel
theorem dX3_count_27 : decode cX3_count 27 = .ok (.getfield 15, 3) := by decide +kernel
theorem dX3_count_30 : decode cX3_count 30 = .ok (.iload 5, 2) := by decide +kernel
theorem dX3_count_32 : decode cX3_count 32 = .ok (.iaload, 1) := by decide +kernel
theorem dX3_count_33 : decode cX3_count 33 = .ok (.iload_n 2, 1) := by decide +kernel
theorem dX3_count_34 : decode cX3_count 34 = .ok (.if_icmp .gt 17, 3) := by decide +kernel
theorem dX3_count_37 : decode cX3_count 37 = .ok (.aload_n 0, 1) := by decide +kernel
theorem dX3_count_38 : decode cX3_count 38 = .ok (.iload 5, 2) := by decide +kernel
theorem dX3_count_40 : decode cX3_count 40 = .ok (.iload_n 2, 1) := by decide +kernel
theorem dX3_count_41 : decode cX3_count 41 = .ok (.invokevirtual 35, 3) := by decide +kernel
theorem dX3_count_44 : decode cX3_count 44 = .ok (.iload_n 3, 1) := by decide +kernel
theorem dX3_count_45 : decode cX3_count 45 = .ok (.if_icmp .ne 6, 3) := by decide +kernel
theorem dX3_count_48 : decode cX3_count 48 = .ok (.iinc 4 1, 3) := by decide +kernel
theorem dX3_count_51 : decode cX3_count 51 = .ok (.iinc 5 1, 3) := by decide +kernel
theorem dX3_count_54 : decode cX3_count 54 = .ok (.goto (-48), 3) := by decide +kernel
theorem dX3_count_57 : decode cX3_count 57 = .ok (.iload 4, 2) := by decide +kernel
theorem dX3_count_59 : decode cX3_count 59 = .ok (.ireturn, 1) := by decide +kernel
theorem dX3_knownOn_0 : decode cX3_knownOn 0 = .ok (.iconst (-1), 1) := by decide +kernel
theorem dX3_knownOn_1 : decode cX3_knownOn 1 = .ok (.istore_n 3, 1) := by decide +kernel
theorem dX3_knownOn_2 : decode cX3_knownOn 2 = .ok (.iconst 0, 1) := by decide +kernel
theorem dX3_knownOn_3 : decode cX3_knownOn 3 = .ok (.istore 4, 2) := by decide +kernel
theorem dX3_knownOn_5 : decode cX3_knownOn 5 = .ok (.iload 4, 2) := by decide +kernel
theorem dX3_knownOn_7 : decode cX3_knownOn 7 = .ok (.aload_n 0, 1) := by decide +kernel
theorem dX3_knownOn_8 : decode cX3_knownOn 8 = .ok (.getfield 32, 3) := by decide +kernel
theorem dX3_knownOn_11 : decode cX3_knownOn 11 = .ok (.if_icmp .ge 67, 3) := by decide +kernel
theorem dX3_knownOn_14 : decode cX3_knownOn 14 = .ok (.aload_n 0, 1) := by decide +kernel
theorem dX3_knownOn_15 : decode cX3_knownOn 15 = .ok (.getfield 18, 3) := by decide +kernel
theorem dX3_knownOn_18 : decode cX3_knownOn 18 = .ok (.iload 4, 2) := by decide +kernel
theorem dX3_knownOn_20 : decode cX3_knownOn 20 = .ok (.iaload, 1) := by decide +kernel
theorem dX3_knownOn_21 : decode cX3_knownOn 21 = .ok (.iload_n 1, 1) := by decide +kernel
theorem dX3_knownOn_22 : decode cX3_knownOn 22 = .ok (.if_icmp .ne 18, 3) := by decide +kernel
theorem dX3_knownOn_25 : decode cX3_knownOn 25 = .ok (.aload_n 0, 1) := by decide +kernel
theorem dX3_knownOn_26 : decode cX3_knownOn 26 = .ok (.getfield 21, 3) := by decide +kernel
theorem dX3_knownOn_29 : decode cX3_knownOn 29 = .ok (.iload 4, 2) := by decide +kernel
theorem dX3_knownOn_31 : decode cX3_knownOn 31 = .ok (.iaload, 1) := by decide +kernel
theorem dX3_knownOn_32 : decode cX3_knownOn 32 = .ok (.iload_n 2, 1) := by decide +kernel
theorem dX3_knownOn_33 : decode cX3_knownOn 33 = .ok (.if_icmp .gt 7, 3) := by decide +kernel
theorem dX3_knownOn_36 : decode cX3_knownOn 36 = .ok (.iconst 1, 1) := by decide +kernel
theorem dX3_knownOn_37 : decode cX3_knownOn 37 = .ok (.goto 4, 3) := by decide +kernel
theorem dX3_knownOn_40 : decode cX3_knownOn 40 = .ok (.iconst 0, 1) := by decide +kernel
theorem dX3_knownOn_41 : decode cX3_knownOn 41 = .ok (.istore 5, 2) := by decide +kernel
theorem dX3_knownOn_43 : decode cX3_knownOn 43 = .ok (.iload 5, 2) := by decide +kernel
theorem dX3_knownOn_45 : decode cX3_knownOn 45 = .ok (.ifCond .eq 27, 3) := by decide +kernel
theorem dX3_knownOn_48 : decode cX3_knownOn 48 = .ok (.iload_n 3, 1) := by decide +kernel
theorem dX3_knownOn_49 : decode cX3_knownOn 49 = .ok (.iconst (-1), 1) := by decide +kernel
theorem dX3_knownOn_50 : decode cX3_knownOn 50 = .ok (.if_icmp .eq 19, 3) := by decide +kernel
theorem dX3_knownOn_53 : decode cX3_knownOn 53 = .ok (.aload_n 0, 1) := by decide +kernel
theorem dX3_knownOn_54 : decode cX3_knownOn 54 = .ok (.getfield 21, 3) := by decide +kernel
theorem dX3_knownOn_57 : decode cX3_knownOn 57 = .ok (.iload 4, 2) := by decide +kernel
theorem dX3_knownOn_59 : decode cX3_knownOn 59 = .ok (.iaload, 1) := by decide +kernel
theorem dX3_knownOn_60 : decode cX3_knownOn 60 = .ok (.aload_n 0, 1) := by decide +kernel
theorem dX3_knownOn_61 : decode cX3_knownOn 61 = .ok (.getfield 21, 3) := by decide +kernel
theorem dX3_knownOn_64 : decode cX3_knownOn 64 = .ok (.iload_n 3, 1) := by decide +kernel
theorem dX3_knownOn_65 : decode cX3_knownOn 65 = .ok (.iaload, 1) := by decide +kernel
theorem dX3_knownOn_66 : decode cX3_knownOn 66 = .ok (.if_icmp .lt 6, 3) := by decide +kernel
theorem dX3_knownOn_69 : decode cX3_knownOn 69 = .ok (.iload 4, 2) := by decide +kernel
theorem dX3_knownOn_71 : decode cX3_knownOn 71 = .ok (.istore_n 3, 1) := by decide +kernel
theorem dX3_knownOn_72 : decode cX3_knownOn 72 = .ok (.iinc 4 1, 3) := by decide +kernel
theorem dX3_knownOn_75 : decode cX3_knownOn 75 = .ok (.goto (-70), 3) := by decide +kernel
theorem dX3_knownOn_78 : decode cX3_knownOn 78 = .ok (.iload_n 3, 1) := by decide +kernel
theorem dX3_knownOn_79 : decode cX3_knownOn 79 = .ok (.iconst (-1), 1) := by decide +kernel
theorem dX3_knownOn_80 : decode cX3_knownOn 80 = .ok (.if_icmp .ne 5, 3) := by decide +kernel
theorem dX3_knownOn_83 : decode cX3_knownOn 83 = .ok (.iconst 2, 1) := by decide +kernel
theorem dX3_knownOn_84 : decode cX3_knownOn 84 = .ok (.ireturn, 1) := by decide +kernel
theorem dX3_knownOn_85 : decode cX3_knownOn 85 = .ok (.aload_n 0, 1) := by decide +kernel
theorem dX3_knownOn_86 : decode cX3_knownOn 86 = .ok (.getfield 24, 3) := by decide +kernel
theorem dX3_knownOn_89 : decode cX3_knownOn 89 = .ok (.iload_n 3, 1) := by decide +kernel
theorem dX3_knownOn_90 : decode cX3_knownOn 90 = .ok (.baload, 1) := by decide +kernel
theorem dX3_knownOn_91 : decode cX3_knownOn 91 = .ok (.ifCond .eq 7, 3) := by decide +kernel
theorem dX3_knownOn_94 : decode cX3_knownOn 94 = .ok (.iconst 0, 1) := by decide +kernel
theorem dX3_knownOn_95 : decode cX3_knownOn 95 = .ok (.goto 4, 3) := by decide +kernel
theorem dX3_knownOn_98 : decode cX3_knownOn 98 = .ok (.iconst 1, 1) := by decide +kernel
theorem dX3_knownOn_99 : decode cX3_knownOn 99 = .ok (.ireturn, 1) := by decide +kernel
theorem dX4_init_0 : decode cX4_init 0 = .ok (.aload_n 0, 1) := by decide +kernel
theorem dX4_init_1 : decode cX4_init 1 = .ok (.invokespecial 3, 3) := by decide +kernel
theorem dX4_init_4 : decode cX4_init 4 = .ok (.aload_n 0, 1) := by decide +kernel
theorem dX4_init_5 : decode cX4_init 5 = .ok (.bipush 16, 2) := by decide +kernel
theorem dX4_init_7 : decode cX4_init 7 = .ok (.newarray .int, 2) := by decide +kernel
theorem dX4_init_9 : decode cX4_init 9 = .ok (.putfield 9, 3) := by decide +kernel
theorem dX4_init_12 : decode cX4_init 12 = .ok (.aload_n 0, 1) := by decide +kernel
theorem dX4_init_13 : decode cX4_init 13 = .ok (.bipush 16, 2) := by decide +kernel
theorem dX4_init_15 : decode cX4_init 15 = .ok (.newarray .int, 2) := by decide +kernel
theorem dX4_init_17 : decode cX4_init 17 = .ok (.putfield 15, 3) := by decide +kernel
theorem dX4_init_20 : decode cX4_init 20 = .ok (.aload_n 0, 1) := by decide +kernel
theorem dX4_init_21 : decode cX4_init 21 = .ok (.iconst 0, 1) := by decide +kernel
theorem dX4_init_22 : decode cX4_init 22 = .ok (.putfield 18, 3) := by decide +kernel
theorem dX4_init_25 : decode cX4_init 25 = .ok (.aload_n 0, 1) := by decide +kernel
theorem dX4_init_26 : decode cX4_init 26 = .ok (.getfield 9, 3) := by decide +kernel
theorem dX4_init_29 : decode cX4_init 29 = .ok (.iconst (-1), 1) := by decide +kernel
theorem dX4_init_30 : decode cX4_init 30 = .ok (.invokestatic 22, 3) := by decide +kernel
theorem dX4_init_33 : decode cX4_init 33 = .ok (.return_, 1) := by decide +kernel
theorem dX4_countOf_0 : decode cX4_countOf 0 = .ok (.iconst 0, 1) := by decide +kernel
theorem dX4_countOf_1 : decode cX4_countOf 1 = .ok (.istore_n 2, 1) := by decide +kernel
theorem dX4_countOf_2 : decode cX4_countOf 2 = .ok (.iconst 0, 1) := by decide +kernel
theorem dX4_countOf_3 : decode cX4_countOf 3 = .ok (.istore_n 3, 1) := by decide +kernel
theorem dX4_countOf_4 : decode cX4_countOf 4 = .ok (.iload_n 3, 1) := by decide +kernel
theorem dX4_countOf_5 : decode cX4_countOf 5 = .ok (.bipush 16, 2) := by decide +kernel
theorem dX4_countOf_7 : decode cX4_countOf 7 = .ok (.if_icmp .ge 22, 3) := by decide +kernel
theorem dX4_countOf_10 : decode cX4_countOf 10 = .ok (.aload_n 0, 1) := by decide +kernel
theorem dX4_countOf_11 : decode cX4_countOf 11 = .ok (.getfield 9, 3) := by decide +kernel
theorem dX4_countOf_14 : decode cX4_countOf 14 = .ok (.iload_n 3, 1) := by decide +kernel
theorem dX4_countOf_15 : decode cX4_countOf 15 = .ok (.iaload, 1) := by decide +kernel
theorem dX4_countOf_16 : decode cX4_countOf 16 = .ok (.iload_n 1, 1) := by decide +kernel
theorem dX4_countOf_17 : decode cX4_countOf 17 = .ok (.if_icmp .ne 6, 3) := by decide +kernel
theorem dX4_countOf_20 : decode cX4_countOf 20 = .ok (.iinc 2 1, 3) := by decide +kernel
theorem dX4_countOf_23 : decode cX4_countOf 23 = .ok (.iinc 3 1, 3) := by decide +kernel
theorem dX4_countOf_26 : decode cX4_countOf 26 = .ok (.goto (-22), 3) := by decide +kernel
theorem dX4_countOf_29 : decode cX4_countOf 29 = .ok (.iload_n 2, 1) := by decide +kernel
theorem dX4_countOf_30 : decode cX4_countOf 30 = .ok (.ireturn, 1) := by decide +kernel
theorem dX4_hasPlaceLeft_0 : decode cX4_hasPlaceLeft 0 = .ok (.aload_n 0, 1) := by decide +kernel
theorem dX4_hasPlaceLeft_1 : decode cX4_hasPlaceLeft 1 = .ok (.iload_n 2, 1) := by decide +kernel
theorem dX4_hasPlaceLeft_2 : decode cX4_hasPlaceLeft 2 = .ok (.invokevirtual 28, 3) := by decide +kernel
theorem dX4_hasPlaceLeft_5 : decode cX4_hasPlaceLeft 5 = .ok (.aload_n 1, 1) := by decide +kernel
theorem dX4_hasPlaceLeft_6 : decode cX4_hasPlaceLeft 6 = .ok (.getfield 32, 3) := by decide +kernel
theorem dX4_hasPlaceLeft_9 : decode cX4_hasPlaceLeft 9 = .ok (.iload_n 2, 1) := by decide +kernel
theorem dX4_hasPlaceLeft_10 : decode cX4_hasPlaceLeft 10 = .ok (.iaload, 1) := by decide +kernel
theorem dX4_hasPlaceLeft_11 : decode cX4_hasPlaceLeft 11 = .ok (.if_icmp .ge 7, 3) := by decide +kernel
theorem dX4_hasPlaceLeft_14 : decode cX4_hasPlaceLeft 14 = .ok (.iconst 1, 1) := by decide +kernel
theorem dX4_hasPlaceLeft_15 : decode cX4_hasPlaceLeft 15 = .ok (.goto 4, 3) := by decide +kernel
theorem dX4_hasPlaceLeft_18 : decode cX4_hasPlaceLeft 18 = .ok (.iconst 0, 1) := by decide +kernel
theorem dX4_hasPlaceLeft_19 : decode cX4_hasPlaceLeft 19 = .ok (.ireturn, 1) := by decide +kernel
theorem dX4_leastOf_0 : decode cX4_leastOf 0 = .ok (.iconst (-1), 1) := by decide +kernel
theorem dX4_leastOf_1 : decode cX4_leastOf 1 = .ok (.istore_n 3, 1) := by decide +kernel
theorem dX4_leastOf_2 : decode cX4_leastOf 2 = .ok (.iconst 0, 1) := by decide +kernel
theorem dX4_leastOf_3 : decode cX4_leastOf 3 = .ok (.istore 4, 2) := by decide +kernel
theorem dX4_leastOf_5 : decode cX4_leastOf 5 = .ok (.iload 4, 2) := by decide +kernel
theorem dX4_leastOf_7 : decode cX4_leastOf 7 = .ok (.aload_n 1, 1) := by decide +kernel
theorem dX4_leastOf_8 : decode cX4_leastOf 8 = .ok (.getfield 37, 3) := by decide +kernel
theorem dX4_leastOf_11 : decode cX4_leastOf 11 = .ok (.if_icmp .ge 39, 3) := by decide +kernel
theorem dX4_leastOf_14 : decode cX4_leastOf 14 = .ok (.aload_n 0, 1) := by decide +kernel
theorem dX4_leastOf_15 : decode cX4_leastOf 15 = .ok (.getfield 9, 3) := by decide +kernel
theorem dX4_leastOf_18 : decode cX4_leastOf 18 = .ok (.iload 4, 2) := by decide +kernel
theorem dX4_leastOf_20 : decode cX4_leastOf 20 = .ok (.iaload, 1) := by decide +kernel
theorem dX4_leastOf_21 : decode cX4_leastOf 21 = .ok (.iload_n 2, 1) := by decide +kernel
theorem dX4_leastOf_22 : decode cX4_leastOf 22 = .ok (.if_icmp .ne 22, 3) := by decide +kernel
theorem dX4_leastOf_25 : decode cX4_leastOf 25 = .ok (.iload_n 3, 1) := by decide +kernel
theorem dX4_leastOf_26 : decode cX4_leastOf 26 = .ok (.iconst (-1), 1) := by decide +kernel
theorem dX4_leastOf_27 : decode cX4_leastOf 27 = .ok (.if_icmp .eq 14, 3) := by decide +kernel
theorem dX4_leastOf_30 : decode cX4_leastOf 30 = .ok (.aload_n 1, 1) := by decide +kernel
theorem dX4_leastOf_31 : decode cX4_leastOf 31 = .ok (.iload_n 2, 1) := by decide +kernel
theorem dX4_leastOf_32 : decode cX4_leastOf 32 = .ok (.iload_n 3, 1) := by decide +kernel
theorem dX4_leastOf_33 : decode cX4_leastOf 33 = .ok (.iload 4, 2) := by decide +kernel
theorem dX4_leastOf_35 : decode cX4_leastOf 35 = .ok (.invokevirtual 41, 3) := by decide +kernel
theorem dX4_leastOf_38 : decode cX4_leastOf 38 = .ok (.ifCond .eq 6, 3) := by decide +kernel
theorem dX4_leastOf_41 : decode cX4_leastOf 41 = .ok (.iload 4, 2) := by decide +kernel
theorem dX4_leastOf_43 : decode cX4_leastOf 43 = .ok (.istore_n 3, 1) := by decide +kernel
theorem dX4_leastOf_44 : decode cX4_leastOf 44 = .ok (.iinc 4 1, 3) := by decide +kernel
theorem dX4_leastOf_47 : decode cX4_leastOf 47 = .ok (.goto (-42), 3) := by decide +kernel
theorem dX4_leastOf_50 : decode cX4_leastOf 50 = .ok (.iload_n 3, 1) := by decide +kernel
theorem dX4_leastOf_51 : decode cX4_leastOf 51 = .ok (.ireturn, 1) := by decide +kernel
theorem dX4_makeBest_0 : decode cX4_makeBest 0 = .ok (.aload_n 0, 1) := by decide +kernel
theorem dX4_makeBest_1 : decode cX4_makeBest 1 = .ok (.iconst 1, 1) := by decide +kernel
theorem dX4_makeBest_2 : decode cX4_makeBest 2 = .ok (.putfield 18, 3) := by decide +kernel
theorem dX4_makeBest_5 : decode cX4_makeBest 5 = .ok (.aload_n 0, 1) := by decide +kernel
theorem dX4_makeBest_6 : decode cX4_makeBest 6 = .ok (.getfield 9, 3) := by decide +kernel
theorem dX4_makeBest_9 : decode cX4_makeBest 9 = .ok (.iconst (-1), 1) := by decide +kernel
theorem dX4_makeBest_10 : decode cX4_makeBest 10 = .ok (.invokestatic 22, 3) := by decide +kernel
theorem dX4_makeBest_13 : decode cX4_makeBest 13 = .ok (.aload_n 0, 1) := by decide +kernel
theorem dX4_makeBest_14 : decode cX4_makeBest 14 = .ok (.getfield 15, 3) := by decide +kernel
theorem dX4_makeBest_17 : decode cX4_makeBest 17 = .ok (.iconst (-1), 1) := by decide +kernel
theorem dX4_makeBest_18 : decode cX4_makeBest 18 = .ok (.invokestatic 22, 3) := by decide +kernel
theorem dX4_makeBest_21 : decode cX4_makeBest 21 = .ok (.iconst 0, 1) := by decide +kernel
theorem dX4_makeBest_22 : decode cX4_makeBest 22 = .ok (.istore_n 2, 1) := by decide +kernel
theorem dX4_makeBest_23 : decode cX4_makeBest 23 = .ok (.iload_n 2, 1) := by decide +kernel
theorem dX4_makeBest_24 : decode cX4_makeBest 24 = .ok (.aload_n 1, 1) := by decide +kernel
theorem dX4_makeBest_25 : decode cX4_makeBest 25 = .ok (.getfield 37, 3) := by decide +kernel
theorem dX4_makeBest_28 : decode cX4_makeBest 28 = .ok (.if_icmp .ge 15, 3) := by decide +kernel
theorem dX4_makeBest_31 : decode cX4_makeBest 31 = .ok (.aload_n 0, 1) := by decide +kernel
theorem dX4_makeBest_32 : decode cX4_makeBest 32 = .ok (.aload_n 1, 1) := by decide +kernel
theorem dX4_makeBest_33 : decode cX4_makeBest 33 = .ok (.iload_n 2, 1) := by decide +kernel
theorem dX4_makeBest_34 : decode cX4_makeBest 34 = .ok (.invokevirtual 45, 3) := by decide +kernel
theorem dX4_makeBest_37 : decode cX4_makeBest 37 = .ok (.iinc 2 1, 3) := by decide +kernel
theorem dX4_makeBest_40 : decode cX4_makeBest 40 = .ok (.goto (-17), 3) := by decide +kernel
theorem dX4_makeBest_43 : decode cX4_makeBest 43 = .ok (.aload_n 0, 1) := by decide +kernel
theorem dX4_makeBest_44 : decode cX4_makeBest 44 = .ok (.invokevirtual 49, 3) := by decide +kernel
theorem dX4_makeBest_47 : decode cX4_makeBest 47 = .ok (.ireturn, 1) := by decide +kernel
theorem dX4_countPairs_0 : decode cX4_countPairs 0 = .ok (.iconst 0, 1) := by decide +kernel
theorem dX4_countPairs_1 : decode cX4_countPairs 1 = .ok (.istore_n 1, 1) := by decide +kernel
theorem dX4_countPairs_2 : decode cX4_countPairs 2 = .ok (.iconst 0, 1) := by decide +kernel
theorem dX4_countPairs_3 : decode cX4_countPairs 3 = .ok (.istore_n 2, 1) := by decide +kernel
theorem dX4_countPairs_4 : decode cX4_countPairs 4 = .ok (.iload_n 2, 1) := by decide +kernel
theorem dX4_countPairs_5 : decode cX4_countPairs 5 = .ok (.bipush 16, 2) := by decide +kernel
theorem dX4_countPairs_7 : decode cX4_countPairs 7 = .ok (.if_icmp .ge 22, 3) := by decide +kernel
theorem dX4_countPairs_10 : decode cX4_countPairs 10 = .ok (.aload_n 0, 1) := by decide +kernel
theorem dX4_countPairs_11 : decode cX4_countPairs 11 = .ok (.getfield 9, 3) := by decide +kernel
theorem dX4_countPairs_14 : decode cX4_countPairs 14 = .ok (.iload_n 2, 1) := by decide +kernel
theorem dX4_countPairs_15 : decode cX4_countPairs 15 = .ok (.iaload, 1) := by decide +kernel
theorem dX4_countPairs_16 : decode cX4_countPairs 16 = .ok (.iconst (-1), 1) := by decide +kernel
theorem dX4_countPairs_17 : decode cX4_countPairs 17 = .ok (.if_icmp .eq 6, 3) := by decide +kernel
theorem dX4_countPairs_20 : decode cX4_countPairs 20 = .ok (.iinc 1 1, 3) := by decide +kernel
theorem dX4_countPairs_23 : decode cX4_countPairs 23 = .ok (.iinc 2 1, 3) := by decide +kernel
theorem dX4_countPairs_26 : decode cX4_countPairs 26 = .ok (.goto (-22), 3) := by decide +kernel
theorem dX4_countPairs_29 : decode cX4_countPairs 29 = .ok (.iload_n 1, 1) := by decide +kernel
theorem dX4_countPairs_30 : decode cX4_countPairs 30 = .ok (.ireturn, 1) := by decide +kernel
theorem dX4_seat_0 : decode cX4_seat 0 = .ok (.iload_n 2, 1) := by decide +kernel
theorem dX4_seat_1 : decode cX4_seat 1 = .ok (.istore_n 3, 1) := by decide +kernel
theorem dX4_seat_2 : decode cX4_seat 2 = .ok (.iconst 0, 1) := by decide +kernel
theorem dX4_seat_3 : decode cX4_seat 3 = .ok (.istore 4, 2) := by decide +kernel
theorem dX4_seat_5 : decode cX4_seat 5 = .ok (.iload 4, 2) := by decide +kernel
theorem dX4_seat_7 : decode cX4_seat 7 = .ok (.sipush 192, 3) := by decide +kernel
theorem dX4_seat_10 : decode cX4_seat 10 = .ok (.if_icmp .ge 46, 3) := by decide +kernel
theorem dX4_seat_13 : decode cX4_seat 13 = .ok (.iload_n 3, 1) := by decide +kernel
theorem dX4_seat_14 : decode cX4_seat 14 = .ok (.iconst (-1), 1) := by decide +kernel
theorem dX4_seat_15 : decode cX4_seat 15 = .ok (.if_icmp .eq 41, 3) := by decide +kernel
theorem dX4_seat_18 : decode cX4_seat 18 = .ok (.aload_n 0, 1) := by decide +kernel
theorem dX4_seat_19 : decode cX4_seat 19 = .ok (.aload_n 1, 1) := by decide +kernel
theorem dX4_seat_20 : decode cX4_seat 20 = .ok (.iload_n 3, 1) := by decide +kernel
theorem dX4_seat_21 : decode cX4_seat 21 = .ok (.invokevirtual 53, 3) := by decide +kernel
theorem dX4_seat_24 : decode cX4_seat 24 = .ok (.istore 5, 2) := by decide +kernel
theorem dX4_seat_26 : decode cX4_seat 26 = .ok (.iload 5, 2) := by decide +kernel
theorem dX4_seat_28 : decode cX4_seat 28 = .ok (.iconst (-1), 1) := by decide +kernel
theorem dX4_seat_29 : decode cX4_seat 29 = .ok (.if_icmp .ne 4, 3) := by decide +kernel
theorem dX4_seat_32 : decode cX4_seat 32 = .ok (.return_, 1) := by decide +kernel
theorem dX4_seat_33 : decode cX4_seat 33 = .ok (.aload_n 0, 1) := by decide +kernel
theorem dX4_seat_34 : decode cX4_seat 34 = .ok (.getfield 15, 3) := by decide +kernel
theorem dX4_seat_37 : decode cX4_seat 37 = .ok (.iload_n 3, 1) := by decide +kernel
theorem dX4_seat_38 : decode cX4_seat 38 = .ok (.iload 5, 2) := by decide +kernel
theorem dX4_seat_40 : decode cX4_seat 40 = .ok (.iastore, 1) := by decide +kernel
theorem dX4_seat_41 : decode cX4_seat 41 = .ok (.aload_n 0, 1) := by decide +kernel
theorem dX4_seat_42 : decode cX4_seat 42 = .ok (.aload_n 1, 1) := by decide +kernel
theorem dX4_seat_43 : decode cX4_seat 43 = .ok (.iload 5, 2) := by decide +kernel
theorem dX4_seat_45 : decode cX4_seat 45 = .ok (.iload_n 3, 1) := by decide +kernel
theorem dX4_seat_46 : decode cX4_seat 46 = .ok (.invokevirtual 57, 3) := by decide +kernel
theorem dX4_seat_49 : decode cX4_seat 49 = .ok (.istore_n 3, 1) := by decide +kernel
theorem dX4_seat_50 : decode cX4_seat 50 = .ok (.iinc 4 1, 3) := by decide +kernel
theorem dX4_seat_53 : decode cX4_seat 53 = .ok (.goto (-48), 3) := by decide +kernel
theorem dX4_seat_56 : decode cX4_seat 56 = .ok (.return_, 1) := by decide +kernel
theorem dX4_nextChoice_0 : decode cX4_nextChoice 0 = .ok (.aload_n 0, 1) := by decide +kernel
theorem dX4_nextChoice_1 : decode cX4_nextChoice 1 = .ok (.getfield 15, 3) := by decide +kernel
theorem dX4_nextChoice_4 : decode cX4_nextChoice 4 = .ok (.iload_n 2, 1) := by decide +kernel
theorem dX4_nextChoice_5 : decode cX4_nextChoice 5 = .ok (.iaload, 1) := by decide +kernel
theorem dX4_nextChoice_6 : decode cX4_nextChoice 6 = .ok (.istore_n 3, 1) := by decide +kernel
theorem dX4_nextChoice_7 : decode cX4_nextChoice 7 = .ok (.iconst (-1), 1) := by decide +kernel
theorem dX4_nextChoice_8 : decode cX4_nextChoice 8 = .ok (.istore 4, 2) := by decide +kernel
theorem dX4_nextChoice_10 : decode cX4_nextChoice 10 = .ok (.iconst 0, 1) := by decide +kernel
theorem dX4_nextChoice_11 : decode cX4_nextChoice 11 = .ok (.istore 5, 2) := by decide +kernel
theorem dX4_nextChoice_13 : decode cX4_nextChoice 13 = .ok (.iload 5, 2) := by decide +kernel
theorem dX4_nextChoice_15 : decode cX4_nextChoice 15 = .ok (.aload_n 1, 1) := by decide +kernel
theorem dX4_nextChoice_16 : decode cX4_nextChoice 16 = .ok (.getfield 61, 3) := by decide +kernel
theorem dX4_nextChoice_19 : decode cX4_nextChoice 19 = .ok (.if_icmp .ge 63, 3) := by decide +kernel
theorem dX4_nextChoice_22 : decode cX4_nextChoice 22 = .ok (.aload_n 1, 1) := by decide +kernel
theorem dX4_nextChoice_23 : decode cX4_nextChoice 23 = .ok (.iload 5, 2) := by decide +kernel
theorem dX4_nextChoice_25 : decode cX4_nextChoice 25 = .ok (.iload_n 2, 1) := by decide +kernel
theorem dX4_nextChoice_26 : decode cX4_nextChoice 26 = .ok (.invokevirtual 64, 3) := by decide +kernel
theorem dX4_nextChoice_29 : decode cX4_nextChoice 29 = .ok (.ifCond .eq 23, 3) := by decide +kernel
theorem dX4_nextChoice_32 : decode cX4_nextChoice 32 = .ok (.iload_n 3, 1) := by decide +kernel
theorem dX4_nextChoice_33 : decode cX4_nextChoice 33 = .ok (.iconst (-1), 1) := by decide +kernel
theorem dX4_nextChoice_34 : decode cX4_nextChoice 34 = .ok (.if_icmp .eq 14, 3) := by decide +kernel
theorem dX4_nextChoice_37 : decode cX4_nextChoice 37 = .ok (.aload_n 1, 1) := by decide +kernel
theorem dX4_nextChoice_38 : decode cX4_nextChoice 38 = .ok (.iload_n 2, 1) := by decide +kernel
theorem dX4_nextChoice_39 : decode cX4_nextChoice 39 = .ok (.iload_n 3, 1) := by decide +kernel
theorem dX4_nextChoice_40 : decode cX4_nextChoice 40 = .ok (.iload 5, 2) := by decide +kernel
theorem dX4_nextChoice_42 : decode cX4_nextChoice 42 = .ok (.invokevirtual 68, 3) := by decide +kernel
theorem dX4_nextChoice_45 : decode cX4_nextChoice 45 = .ok (.ifCond .eq 7, 3) := by decide +kernel
theorem dX4_nextChoice_48 : decode cX4_nextChoice 48 = .ok (.iconst 1, 1) := by decide +kernel
theorem dX4_nextChoice_49 : decode cX4_nextChoice 49 = .ok (.goto 4, 3) := by decide +kernel
theorem dX4_nextChoice_52 : decode cX4_nextChoice 52 = .ok (.iconst 0, 1) := by decide +kernel
theorem dX4_nextChoice_53 : decode cX4_nextChoice 53 = .ok (.istore 6, 2) := by decide +kernel
theorem dX4_nextChoice_55 : decode cX4_nextChoice 55 = .ok (.iload 6, 2) := by decide +kernel
theorem dX4_nextChoice_57 : decode cX4_nextChoice 57 = .ok (.ifCond .eq 19, 3) := by decide +kernel
theorem dX4_nextChoice_60 : decode cX4_nextChoice 60 = .ok (.aload_n 1, 1) := by decide +kernel
theorem dX4_nextChoice_61 : decode cX4_nextChoice 61 = .ok (.iload_n 2, 1) := by decide +kernel
theorem dX4_nextChoice_62 : decode cX4_nextChoice 62 = .ok (.iload 5, 2) := by decide +kernel
theorem dX4_nextChoice_64 : decode cX4_nextChoice 64 = .ok (.iload 4, 2) := by decide +kernel
theorem dX4_nextChoice_66 : decode cX4_nextChoice 66 = .ok (.invokevirtual 68, 3) := by decide +kernel
theorem dX4_nextChoice_69 : decode cX4_nextChoice 69 = .ok (.ifCond .eq 7, 3) := by decide +kernel
theorem dX4_nextChoice_72 : decode cX4_nextChoice 72 = .ok (.iload 5, 2) := by decide +kernel
theorem dX4_nextChoice_74 : decode cX4_nextChoice 74 = .ok (.istore 4, 2) := by decide +kernel
theorem dX4_nextChoice_76 : decode cX4_nextChoice 76 = .ok (.iinc 5 1, 3) := by decide +kernel
theorem dX4_nextChoice_79 : decode cX4_nextChoice 79 = .ok (.goto (-66), 3) := by decide +kernel
theorem dX4_nextChoice_82 : decode cX4_nextChoice 82 = .ok (.iload 4, 2) := by decide +kernel
theorem dX4_nextChoice_84 : decode cX4_nextChoice 84 = .ok (.ireturn, 1) := by decide +kernel
theorem dX4_askFor_0 : decode cX4_askFor 0 = .ok (.iconst (-1), 1) := by decide +kernel
theorem dX4_askFor_1 : decode cX4_askFor 1 = .ok (.istore 4, 2) := by decide +kernel
theorem dX4_askFor_3 : decode cX4_askFor 3 = .ok (.aload_n 0, 1) := by decide +kernel
theorem dX4_askFor_4 : decode cX4_askFor 4 = .ok (.aload_n 1, 1) := by decide +kernel
theorem dX4_askFor_5 : decode cX4_askFor 5 = .ok (.iload_n 2, 1) := by decide +kernel
theorem dX4_askFor_6 : decode cX4_askFor 6 = .ok (.invokevirtual 71, 3) := by decide +kernel
theorem dX4_askFor_9 : decode cX4_askFor 9 = .ok (.ifCond .ne 38, 3) := by decide +kernel
theorem dX4_askFor_12 : decode cX4_askFor 12 = .ok (.aload_n 0, 1) := by decide +kernel
theorem dX4_askFor_13 : decode cX4_askFor 13 = .ok (.aload_n 1, 1) := by decide +kernel
theorem dX4_askFor_14 : decode cX4_askFor 14 = .ok (.iload_n 2, 1) := by decide +kernel
theorem dX4_askFor_15 : decode cX4_askFor 15 = .ok (.invokevirtual 75, 3) := by decide +kernel
theorem dX4_askFor_18 : decode cX4_askFor 18 = .ok (.istore 4, 2) := by decide +kernel
theorem dX4_askFor_20 : decode cX4_askFor 20 = .ok (.iload 4, 2) := by decide +kernel
theorem dX4_askFor_22 : decode cX4_askFor 22 = .ok (.iconst (-1), 1) := by decide +kernel
theorem dX4_askFor_23 : decode cX4_askFor 23 = .ok (.if_icmp .eq 14, 3) := by decide +kernel
theorem dX4_askFor_26 : decode cX4_askFor 26 = .ok (.aload_n 1, 1) := by decide +kernel
theorem dX4_askFor_27 : decode cX4_askFor 27 = .ok (.iload_n 2, 1) := by decide +kernel
theorem dX4_askFor_28 : decode cX4_askFor 28 = .ok (.iload_n 3, 1) := by decide +kernel
theorem dX4_askFor_29 : decode cX4_askFor 29 = .ok (.iload 4, 2) := by decide +kernel
theorem dX4_askFor_31 : decode cX4_askFor 31 = .ok (.invokevirtual 41, 3) := by decide +kernel
theorem dX4_askFor_34 : decode cX4_askFor 34 = .ok (.ifCond .ne 5, 3) := by decide +kernel
theorem dX4_askFor_37 : decode cX4_askFor 37 = .ok (.iload_n 3, 1) := by decide +kernel
theorem dX4_askFor_38 : decode cX4_askFor 38 = .ok (.ireturn, 1) := by decide +kernel
theorem dX4_askFor_39 : decode cX4_askFor 39 = .ok (.aload_n 0, 1) := by decide +kernel
theorem dX4_askFor_40 : decode cX4_askFor 40 = .ok (.getfield 9, 3) := by decide +kernel
theorem dX4_askFor_43 : decode cX4_askFor 43 = .ok (.iload 4, 2) := by decide +kernel
theorem dX4_askFor_45 : decode cX4_askFor 45 = .ok (.iconst (-1), 1) := by decide +kernel
theorem dX4_askFor_46 : decode cX4_askFor 46 = .ok (.iastore, 1) := by decide +kernel
theorem dX4_askFor_47 : decode cX4_askFor 47 = .ok (.aload_n 0, 1) := by decide +kernel
theorem dX4_askFor_48 : decode cX4_askFor 48 = .ok (.getfield 9, 3) := by decide +kernel
theorem dX4_askFor_51 : decode cX4_askFor 51 = .ok (.iload_n 3, 1) := by decide +kernel
theorem dX4_askFor_52 : decode cX4_askFor 52 = .ok (.iload_n 2, 1) := by decide +kernel
theorem dX4_askFor_53 : decode cX4_askFor 53 = .ok (.iastore, 1) := by decide +kernel
theorem dX4_askFor_54 : decode cX4_askFor 54 = .ok (.iload 4, 2) := by decide +kernel
theorem dX4_askFor_56 : decode cX4_askFor 56 = .ok (.ireturn, 1) := by decide +kernel
theorem dX4_isBlockedBy_0 : decode cX4_isBlockedBy 0 = .ok (.aload_n 0, 1) := by decide +kernel
theorem dX4_isBlockedBy_1 : decode cX4_isBlockedBy 1 = .ok (.getfield 9, 3) := by decide +kernel
theorem dX4_isBlockedBy_4 : decode cX4_isBlockedBy 4 = .ok (.iload_n 3, 1) := by decide +kernel
theorem dX4_isBlockedBy_5 : decode cX4_isBlockedBy 5 = .ok (.iaload, 1) := by decide +kernel
theorem dX4_isBlockedBy_6 : decode cX4_isBlockedBy 6 = .ok (.istore 4, 2) := by decide +kernel
theorem dX4_isBlockedBy_8 : decode cX4_isBlockedBy 8 = .ok (.iload 4, 2) := by decide +kernel
theorem dX4_isBlockedBy_10 : decode cX4_isBlockedBy 10 = .ok (.iload_n 2, 1) := by decide +kernel
theorem dX4_isBlockedBy_11 : decode cX4_isBlockedBy 11 = .ok (.if_icmp .eq 23, 3) := by decide +kernel
theorem dX4_isBlockedBy_14 : decode cX4_isBlockedBy 14 = .ok (.aload_n 1, 1) := by decide +kernel
theorem dX4_isBlockedBy_15 : decode cX4_isBlockedBy 15 = .ok (.iload_n 2, 1) := by decide +kernel
theorem dX4_isBlockedBy_16 : decode cX4_isBlockedBy 16 = .ok (.iload_n 3, 1) := by decide +kernel
theorem dX4_isBlockedBy_17 : decode cX4_isBlockedBy 17 = .ok (.invokevirtual 64, 3) := by decide +kernel
theorem dX4_isBlockedBy_20 : decode cX4_isBlockedBy 20 = .ok (.ifCond .eq 14, 3) := by decide +kernel
theorem dX4_isBlockedBy_23 : decode cX4_isBlockedBy 23 = .ok (.aload_n 1, 1) := by decide +kernel
theorem dX4_isBlockedBy_24 : decode cX4_isBlockedBy 24 = .ok (.iload_n 3, 1) := by decide +kernel
theorem dX4_isBlockedBy_25 : decode cX4_isBlockedBy 25 = .ok (.iload_n 2, 1) := by decide +kernel
theorem dX4_isBlockedBy_26 : decode cX4_isBlockedBy 26 = .ok (.iload 4, 2) := by decide +kernel
theorem dX4_isBlockedBy_28 : decode cX4_isBlockedBy 28 = .ok (.invokevirtual 68, 3) := by decide +kernel
theorem dX4_isBlockedBy_31 : decode cX4_isBlockedBy 31 = .ok (.ifCond .ne 5, 3) := by decide +kernel
theorem dX4_isBlockedBy_34 : decode cX4_isBlockedBy 34 = .ok (.iconst 0, 1) := by decide +kernel
theorem dX4_isBlockedBy_35 : decode cX4_isBlockedBy 35 = .ok (.ireturn, 1) := by decide +kernel
theorem dX4_isBlockedBy_36 : decode cX4_isBlockedBy 36 = .ok (.aload_n 0, 1) := by decide +kernel
theorem dX4_isBlockedBy_37 : decode cX4_isBlockedBy 37 = .ok (.aload_n 1, 1) := by decide +kernel
theorem dX4_isBlockedBy_38 : decode cX4_isBlockedBy 38 = .ok (.iload_n 2, 1) := by decide +kernel
theorem dX4_isBlockedBy_39 : decode cX4_isBlockedBy 39 = .ok (.invokevirtual 71, 3) := by decide +kernel
theorem dX4_isBlockedBy_42 : decode cX4_isBlockedBy 42 = .ok (.ifCond .eq 5, 3) := by decide +kernel
theorem dX4_isBlockedBy_45 : decode cX4_isBlockedBy 45 = .ok (.iconst 1, 1) := by decide +kernel
theorem dX4_isBlockedBy_46 : decode cX4_isBlockedBy 46 = .ok (.ireturn, 1) := by decide +kernel
theorem dX4_isBlockedBy_47 : decode cX4_isBlockedBy 47 = .ok (.aload_n 0, 1) := by decide +kernel
theorem dX4_isBlockedBy_48 : decode cX4_isBlockedBy 48 = .ok (.aload_n 1, 1) := by decide +kernel
theorem dX4_isBlockedBy_49 : decode cX4_isBlockedBy 49 = .ok (.iload_n 2, 1) := by decide +kernel
theorem dX4_isBlockedBy_50 : decode cX4_isBlockedBy 50 = .ok (.invokevirtual 75, 3) := by decide +kernel
theorem dX4_isBlockedBy_53 : decode cX4_isBlockedBy 53 = .ok (.istore 5, 2) := by decide +kernel
theorem dX4_isBlockedBy_55 : decode cX4_isBlockedBy 55 = .ok (.iload 5, 2) := by decide +kernel
theorem dX4_isBlockedBy_57 : decode cX4_isBlockedBy 57 = .ok (.iconst (-1), 1) := by decide +kernel
theorem dX4_isBlockedBy_58 : decode cX4_isBlockedBy 58 = .ok (.if_icmp .eq 18, 3) := by decide +kernel
theorem dX4_isBlockedBy_61 : decode cX4_isBlockedBy 61 = .ok (.aload_n 1, 1) := by decide +kernel
theorem dX4_isBlockedBy_62 : decode cX4_isBlockedBy 62 = .ok (.iload_n 2, 1) := by decide +kernel
theorem dX4_isBlockedBy_63 : decode cX4_isBlockedBy 63 = .ok (.iload_n 3, 1) := by decide +kernel
theorem dX4_isBlockedBy_64 : decode cX4_isBlockedBy 64 = .ok (.iload 5, 2) := by decide +kernel
theorem dX4_isBlockedBy_66 : decode cX4_isBlockedBy 66 = .ok (.invokevirtual 41, 3) := by decide +kernel
theorem dX4_isBlockedBy_69 : decode cX4_isBlockedBy 69 = .ok (.ifCond .eq 7, 3) := by decide +kernel
theorem dX4_isBlockedBy_72 : decode cX4_isBlockedBy 72 = .ok (.iconst 1, 1) := by decide +kernel
theorem dX4_isBlockedBy_73 : decode cX4_isBlockedBy 73 = .ok (.goto 4, 3) := by decide +kernel
theorem dX4_isBlockedBy_76 : decode cX4_isBlockedBy 76 = .ok (.iconst 0, 1) := by decide +kernel
theorem dX4_isBlockedBy_77 : decode cX4_isBlockedBy 77 = .ok (.ireturn, 1) := by decide +kernel
theorem dX4_countBlocking_0 : decode cX4_countBlocking 0 = .ok (.iconst 0, 1) := by decide +kernel
theorem dX4_countBlocking_1 : decode cX4_countBlocking 1 = .ok (.istore_n 2, 1) := by decide +kernel
theorem dX4_countBlocking_2 : decode cX4_countBlocking 2 = .ok (.iconst 0, 1) := by decide +kernel
theorem dX4_countBlocking_3 : decode cX4_countBlocking 3 = .ok (.istore_n 3, 1) := by decide +kernel
theorem dX4_countBlocking_4 : decode cX4_countBlocking 4 = .ok (.iload_n 3, 1) := by decide +kernel
theorem dX4_countBlocking_5 : decode cX4_countBlocking 5 = .ok (.aload_n 1, 1) := by decide +kernel
theorem dX4_countBlocking_6 : decode cX4_countBlocking 6 = .ok (.getfield 61, 3) := by decide +kernel
theorem dX4_countBlocking_9 : decode cX4_countBlocking 9 = .ok (.if_icmp .ge 41, 3) := by decide +kernel
theorem dX4_countBlocking_12 : decode cX4_countBlocking 12 = .ok (.iconst 0, 1) := by decide +kernel
theorem dX4_countBlocking_13 : decode cX4_countBlocking 13 = .ok (.istore 4, 2) := by decide +kernel
theorem dX4_countBlocking_15 : decode cX4_countBlocking 15 = .ok (.iload 4, 2) := by decide +kernel
theorem dX4_countBlocking_17 : decode cX4_countBlocking 17 = .ok (.aload_n 1, 1) := by decide +kernel
theorem dX4_countBlocking_18 : decode cX4_countBlocking 18 = .ok (.getfield 37, 3) := by decide +kernel
theorem dX4_countBlocking_21 : decode cX4_countBlocking 21 = .ok (.if_icmp .ge 23, 3) := by decide +kernel
theorem dX4_countBlocking_24 : decode cX4_countBlocking 24 = .ok (.aload_n 0, 1) := by decide +kernel
theorem dX4_countBlocking_25 : decode cX4_countBlocking 25 = .ok (.aload_n 1, 1) := by decide +kernel
theorem dX4_countBlocking_26 : decode cX4_countBlocking 26 = .ok (.iload_n 3, 1) := by decide +kernel
theorem dX4_countBlocking_27 : decode cX4_countBlocking 27 = .ok (.iload 4, 2) := by decide +kernel
theorem dX4_countBlocking_29 : decode cX4_countBlocking 29 = .ok (.invokevirtual 78, 3) := by decide +kernel
theorem dX4_countBlocking_32 : decode cX4_countBlocking 32 = .ok (.ifCond .eq 6, 3) := by decide +kernel
theorem dX4_countBlocking_35 : decode cX4_countBlocking 35 = .ok (.iinc 2 1, 3) := by decide +kernel
theorem dX4_countBlocking_38 : decode cX4_countBlocking 38 = .ok (.iinc 4 1, 3) := by decide +kernel
theorem dX4_countBlocking_41 : decode cX4_countBlocking 41 = .ok (.goto (-26), 3) := by decide +kernel
theorem dX4_countBlocking_44 : decode cX4_countBlocking 44 = .ok (.iinc 3 1, 3) := by decide +kernel
theorem dX4_countBlocking_47 : decode cX4_countBlocking 47 = .ok (.goto (-43), 3) := by decide +kernel
theorem dX4_countBlocking_50 : decode cX4_countBlocking 50 = .ok (.iload_n 2, 1) := by decide +kernel
theorem dX4_countBlocking_51 : decode cX4_countBlocking 51 = .ok (.ireturn, 1) := by decide +kernel
theorem dX5_init_0 : decode cX5_init 0 = .ok (.aload_n 0, 1) := by decide +kernel
theorem dX5_init_1 : decode cX5_init 1 = .ok (.invokespecial 3, 3) := by decide +kernel
theorem dX5_init_4 : decode cX5_init 4 = .ok (.aload_n 0, 1) := by decide +kernel
theorem dX5_init_5 : decode cX5_init 5 = .ok (.bipush 16, 2) := by decide +kernel
theorem dX5_init_7 : decode cX5_init 7 = .ok (.newarray .int, 2) := by decide +kernel
theorem dX5_init_9 : decode cX5_init 9 = .ok (.putfield 9, 3) := by decide +kernel
theorem dX5_init_12 : decode cX5_init 12 = .ok (.aload_n 0, 1) := by decide +kernel
theorem dX5_init_13 : decode cX5_init 13 = .ok (.bipush 16, 2) := by decide +kernel
theorem dX5_init_15 : decode cX5_init 15 = .ok (.newarray .int, 2) := by decide +kernel
theorem dX5_init_17 : decode cX5_init 17 = .ok (.putfield 15, 3) := by decide +kernel
theorem dX5_init_20 : decode cX5_init 20 = .ok (.aload_n 0, 1) := by decide +kernel
theorem dX5_init_21 : decode cX5_init 21 = .ok (.iconst 0, 1) := by decide +kernel
theorem dX5_init_22 : decode cX5_init 22 = .ok (.putfield 18, 3) := by decide +kernel
theorem dX5_init_25 : decode cX5_init 25 = .ok (.aload_n 0, 1) := by decide +kernel
theorem dX5_init_26 : decode cX5_init 26 = .ok (.iconst (-1), 1) := by decide +kernel
theorem dX5_init_27 : decode cX5_init 27 = .ok (.putfield 22, 3) := by decide +kernel
theorem dX5_init_30 : decode cX5_init 30 = .ok (.aload_n 0, 1) := by decide +kernel
theorem dX5_init_31 : decode cX5_init 31 = .ok (.iconst (-1), 1) := by decide +kernel
theorem dX5_init_32 : decode cX5_init 32 = .ok (.putfield 25, 3) := by decide +kernel
theorem dX5_init_35 : decode cX5_init 35 = .ok (.return_, 1) := by decide +kernel
theorem dX5_findLast_0 : decode cX5_findLast 0 = .ok (.aload_n 0, 1) := by decide +kernel
theorem dX5_findLast_1 : decode cX5_findLast 1 = .ok (.getfield 15, 3) := by decide +kernel
theorem dX5_findLast_4 : decode cX5_findLast 4 = .ok (.iconst (-1), 1) := by decide +kernel
theorem dX5_findLast_5 : decode cX5_findLast 5 = .ok (.invokestatic 28, 3) := by decide +kernel
theorem dX5_findLast_8 : decode cX5_findLast 8 = .ok (.aload_n 0, 1) := by decide +kernel
theorem dX5_findLast_9 : decode cX5_findLast 9 = .ok (.iload_n 3, 1) := by decide +kernel
theorem dX5_findLast_10 : decode cX5_findLast 10 = .ok (.putfield 22, 3) := by decide +kernel
theorem dX5_findLast_13 : decode cX5_findLast 13 = .ok (.aload_n 0, 1) := by decide +kernel
theorem dX5_findLast_14 : decode cX5_findLast 14 = .ok (.getfield 9, 3) := by decide +kernel
theorem dX5_findLast_17 : decode cX5_findLast 17 = .ok (.iconst 0, 1) := by decide +kernel
theorem dX5_findLast_18 : decode cX5_findLast 18 = .ok (.iload_n 3, 1) := by decide +kernel
theorem dX5_findLast_19 : decode cX5_findLast 19 = .ok (.iastore, 1) := by decide +kernel
theorem dX5_findLast_20 : decode cX5_findLast 20 = .ok (.aload_n 0, 1) := by decide +kernel
theorem dX5_findLast_21 : decode cX5_findLast 21 = .ok (.iconst 1, 1) := by decide +kernel
theorem dX5_findLast_22 : decode cX5_findLast 22 = .ok (.putfield 18, 3) := by decide +kernel
theorem dX5_findLast_25 : decode cX5_findLast 25 = .ok (.iconst 0, 1) := by decide +kernel
theorem dX5_findLast_26 : decode cX5_findLast 26 = .ok (.istore 4, 2) := by decide +kernel
theorem dX5_findLast_28 : decode cX5_findLast 28 = .ok (.iload 4, 2) := by decide +kernel
theorem dX5_findLast_30 : decode cX5_findLast 30 = .ok (.bipush 16, 2) := by decide +kernel
theorem dX5_findLast_32 : decode cX5_findLast 32 = .ok (.if_icmp .ge 58, 3) := by decide +kernel
theorem dX5_findLast_35 : decode cX5_findLast 35 = .ok (.iload 4, 2) := by decide +kernel
theorem dX5_findLast_37 : decode cX5_findLast 37 = .ok (.aload_n 0, 1) := by decide +kernel
theorem dX5_findLast_38 : decode cX5_findLast 38 = .ok (.getfield 18, 3) := by decide +kernel
theorem dX5_findLast_41 : decode cX5_findLast 41 = .ok (.if_icmp .ge 49, 3) := by decide +kernel
theorem dX5_findLast_44 : decode cX5_findLast 44 = .ok (.aload_n 0, 1) := by decide +kernel
theorem dX5_findLast_45 : decode cX5_findLast 45 = .ok (.getfield 9, 3) := by decide +kernel
theorem dX5_findLast_48 : decode cX5_findLast 48 = .ok (.iload 4, 2) := by decide +kernel
theorem dX5_findLast_50 : decode cX5_findLast 50 = .ok (.iaload, 1) := by decide +kernel
theorem dX5_findLast_51 : decode cX5_findLast 51 = .ok (.istore 5, 2) := by decide +kernel
theorem dX5_findLast_53 : decode cX5_findLast 53 = .ok (.aload_n 0, 1) := by decide +kernel
theorem dX5_findLast_54 : decode cX5_findLast 54 = .ok (.aload_n 0, 1) := by decide +kernel
theorem dX5_findLast_55 : decode cX5_findLast 55 = .ok (.aload_n 1, 1) := by decide +kernel
theorem dX5_findLast_56 : decode cX5_findLast 56 = .ok (.aload_n 2, 1) := by decide +kernel
theorem dX5_findLast_57 : decode cX5_findLast 57 = .ok (.iload 5, 2) := by decide +kernel
theorem dX5_findLast_59 : decode cX5_findLast 59 = .ok (.invokevirtual 34, 3) := by decide +kernel
theorem dX5_findLast_62 : decode cX5_findLast 62 = .ok (.putfield 25, 3) := by decide +kernel
theorem dX5_findLast_65 : decode cX5_findLast 65 = .ok (.aload_n 0, 1) := by decide +kernel
theorem dX5_findLast_66 : decode cX5_findLast 66 = .ok (.getfield 25, 3) := by decide +kernel
theorem dX5_findLast_69 : decode cX5_findLast 69 = .ok (.iconst (-1), 1) := by decide +kernel
theorem dX5_findLast_70 : decode cX5_findLast 70 = .ok (.if_icmp .eq 6, 3) := by decide +kernel
theorem dX5_findLast_73 : decode cX5_findLast 73 = .ok (.iload 5, 2) := by decide +kernel
theorem dX5_findLast_75 : decode cX5_findLast 75 = .ok (.ireturn, 1) := by decide +kernel
theorem dX5_findLast_76 : decode cX5_findLast 76 = .ok (.aload_n 0, 1) := by decide +kernel
theorem dX5_findLast_77 : decode cX5_findLast 77 = .ok (.aload_n 1, 1) := by decide +kernel
theorem dX5_findLast_78 : decode cX5_findLast 78 = .ok (.aload_n 2, 1) := by decide +kernel
theorem dX5_findLast_79 : decode cX5_findLast 79 = .ok (.iload 5, 2) := by decide +kernel
theorem dX5_findLast_81 : decode cX5_findLast 81 = .ok (.invokevirtual 38, 3) := by decide +kernel
theorem dX5_findLast_84 : decode cX5_findLast 84 = .ok (.iinc 4 1, 3) := by decide +kernel
theorem dX5_findLast_87 : decode cX5_findLast 87 = .ok (.goto (-59), 3) := by decide +kernel
theorem dX5_findLast_90 : decode cX5_findLast 90 = .ok (.iconst (-1), 1) := by decide +kernel
theorem dX5_findLast_91 : decode cX5_findLast 91 = .ok (.ireturn, 1) := by decide +kernel
theorem dX5_mayMove_0 : decode cX5_mayMove 0 = .ok (.iload_n 3, 1) := by decide +kernel
theorem dX5_mayMove_1 : decode cX5_mayMove 1 = .ok (.aload_n 1, 1) := by decide +kernel
theorem dX5_mayMove_2 : decode cX5_mayMove 2 = .ok (.getfield 42, 3) := by decide +kernel
theorem dX5_mayMove_5 : decode cX5_mayMove 5 = .ok (.iload_n 2, 1) := by decide +kernel
theorem dX5_mayMove_6 : decode cX5_mayMove 6 = .ok (.iaload, 1) := by decide +kernel
theorem dX5_mayMove_7 : decode cX5_mayMove 7 = .ok (.if_icmp .eq 16, 3) := by decide +kernel
theorem dX5_mayMove_10 : decode cX5_mayMove 10 = .ok (.aload_n 0, 1) := by decide +kernel
theorem dX5_mayMove_11 : decode cX5_mayMove 11 = .ok (.iload_n 3, 1) := by decide +kernel
theorem dX5_mayMove_12 : decode cX5_mayMove 12 = .ok (.iload_n 2, 1) := by decide +kernel
theorem dX5_mayMove_13 : decode cX5_mayMove 13 = .ok (.invokevirtual 47, 3) := by decide +kernel
theorem dX5_mayMove_16 : decode cX5_mayMove 16 = .ok (.ifCond .eq 7, 3) := by decide +kernel
theorem dX5_mayMove_19 : decode cX5_mayMove 19 = .ok (.iconst 1, 1) := by decide +kernel
theorem dX5_mayMove_20 : decode cX5_mayMove 20 = .ok (.goto 4, 3) := by decide +kernel
theorem dX5_mayMove_23 : decode cX5_mayMove 23 = .ok (.iconst 0, 1) := by decide +kernel
theorem dX5_mayMove_24 : decode cX5_mayMove 24 = .ok (.ireturn, 1) := by decide +kernel
theorem dX5_freeElderFor_0 : decode cX5_freeElderFor 0 = .ok (.iconst 0, 1) := by decide +kernel
theorem dX5_freeElderFor_1 : decode cX5_freeElderFor 1 = .ok (.istore 4, 2) := by decide +kernel
theorem dX5_freeElderFor_3 : decode cX5_freeElderFor 3 = .ok (.iload 4, 2) := by decide +kernel
theorem dX5_freeElderFor_5 : decode cX5_freeElderFor 5 = .ok (.aload_n 1, 1) := by decide +kernel
theorem dX5_freeElderFor_6 : decode cX5_freeElderFor 6 = .ok (.getfield 53, 3) := by decide +kernel
theorem dX5_freeElderFor_9 : decode cX5_freeElderFor 9 = .ok (.if_icmp .ge 34, 3) := by decide +kernel
theorem dX5_freeElderFor_12 : decode cX5_freeElderFor 12 = .ok (.aload_n 1, 1) := by decide +kernel
theorem dX5_freeElderFor_13 : decode cX5_freeElderFor 13 = .ok (.aload_n 2, 1) := by decide +kernel
theorem dX5_freeElderFor_14 : decode cX5_freeElderFor 14 = .ok (.iload_n 3, 1) := by decide +kernel
theorem dX5_freeElderFor_15 : decode cX5_freeElderFor 15 = .ok (.iload 4, 2) := by decide +kernel
theorem dX5_freeElderFor_17 : decode cX5_freeElderFor 17 = .ok (.invokestatic 56, 3) := by decide +kernel
theorem dX5_freeElderFor_20 : decode cX5_freeElderFor 20 = .ok (.ifCond .eq 17, 3) := by decide +kernel
theorem dX5_freeElderFor_23 : decode cX5_freeElderFor 23 = .ok (.aload_n 0, 1) := by decide +kernel
theorem dX5_freeElderFor_24 : decode cX5_freeElderFor 24 = .ok (.aload_n 1, 1) := by decide +kernel
theorem dX5_freeElderFor_25 : decode cX5_freeElderFor 25 = .ok (.aload_n 2, 1) := by decide +kernel
theorem dX5_freeElderFor_26 : decode cX5_freeElderFor 26 = .ok (.iload 4, 2) := by decide +kernel
theorem dX5_freeElderFor_28 : decode cX5_freeElderFor 28 = .ok (.invokevirtual 60, 3) := by decide +kernel
theorem dX5_freeElderFor_31 : decode cX5_freeElderFor 31 = .ok (.ifCond .eq 6, 3) := by decide +kernel
theorem dX5_freeElderFor_34 : decode cX5_freeElderFor 34 = .ok (.iload 4, 2) := by decide +kernel
theorem dX5_freeElderFor_36 : decode cX5_freeElderFor 36 = .ok (.ireturn, 1) := by decide +kernel
theorem dX5_freeElderFor_37 : decode cX5_freeElderFor 37 = .ok (.iinc 4 1, 3) := by decide +kernel
theorem dX5_freeElderFor_40 : decode cX5_freeElderFor 40 = .ok (.goto (-37), 3) := by decide +kernel
theorem dX5_freeElderFor_43 : decode cX5_freeElderFor 43 = .ok (.iconst (-1), 1) := by decide +kernel
theorem dX5_freeElderFor_44 : decode cX5_freeElderFor 44 = .ok (.ireturn, 1) := by decide +kernel
theorem dX5_isFree_0 : decode cX5_isFree 0 = .ok (.aload_n 2, 1) := by decide +kernel
theorem dX5_isFree_1 : decode cX5_isFree 1 = .ok (.getfield 42, 3) := by decide +kernel
theorem dX5_isFree_4 : decode cX5_isFree 4 = .ok (.aload_n 0, 1) := by decide +kernel
theorem dX5_isFree_5 : decode cX5_isFree 5 = .ok (.getfield 22, 3) := by decide +kernel
theorem dX5_isFree_8 : decode cX5_isFree 8 = .ok (.iaload, 1) := by decide +kernel
theorem dX5_isFree_9 : decode cX5_isFree 9 = .ok (.iload_n 3, 1) := by decide +kernel
theorem dX5_isFree_10 : decode cX5_isFree 10 = .ok (.if_icmp .ne 7, 3) := by decide +kernel
theorem dX5_isFree_13 : decode cX5_isFree 13 = .ok (.iconst 1, 1) := by decide +kernel
theorem dX5_isFree_14 : decode cX5_isFree 14 = .ok (.goto 4, 3) := by decide +kernel
theorem dX5_isFree_17 : decode cX5_isFree 17 = .ok (.iconst 0, 1) := by decide +kernel
theorem dX5_isFree_18 : decode cX5_isFree 18 = .ok (.istore 4, 2) := by decide +kernel
theorem dX5_isFree_20 : decode cX5_isFree 20 = .ok (.aload_n 2, 1) := by decide +kernel
theorem dX5_isFree_21 : decode cX5_isFree 21 = .ok (.iload_n 3, 1) := by decide +kernel
theorem dX5_isFree_22 : decode cX5_isFree 22 = .ok (.invokevirtual 64, 3) := by decide +kernel
theorem dX5_isFree_25 : decode cX5_isFree 25 = .ok (.iload 4, 2) := by decide +kernel
theorem dX5_isFree_27 : decode cX5_isFree 27 = .ok (.isub, 1) := by decide +kernel
theorem dX5_isFree_28 : decode cX5_isFree 28 = .ok (.aload_n 1, 1) := by decide +kernel
theorem dX5_isFree_29 : decode cX5_isFree 29 = .ok (.getfield 68, 3) := by decide +kernel
theorem dX5_isFree_32 : decode cX5_isFree 32 = .ok (.iload_n 3, 1) := by decide +kernel
theorem dX5_isFree_33 : decode cX5_isFree 33 = .ok (.iaload, 1) := by decide +kernel
theorem dX5_isFree_34 : decode cX5_isFree 34 = .ok (.if_icmp .ge 7, 3) := by decide +kernel
theorem dX5_isFree_37 : decode cX5_isFree 37 = .ok (.iconst 1, 1) := by decide +kernel
theorem dX5_isFree_38 : decode cX5_isFree 38 = .ok (.goto 4, 3) := by decide +kernel
theorem dX5_isFree_41 : decode cX5_isFree 41 = .ok (.iconst 0, 1) := by decide +kernel
theorem dX5_isFree_42 : decode cX5_isFree 42 = .ok (.ireturn, 1) := by decide +kernel
theorem dX5_queueLeavers_0 : decode cX5_queueLeavers 0 = .ok (.iconst 0, 1) := by decide +kernel
theorem dX5_queueLeavers_1 : decode cX5_queueLeavers 1 = .ok (.istore 4, 2) := by decide +kernel
theorem dX5_queueLeavers_3 : decode cX5_queueLeavers 3 = .ok (.iload 4, 2) := by decide +kernel
theorem dX5_queueLeavers_5 : decode cX5_queueLeavers 5 = .ok (.aload_n 1, 1) := by decide +kernel
theorem dX5_queueLeavers_6 : decode cX5_queueLeavers 6 = .ok (.getfield 53, 3) := by decide +kernel
theorem dX5_queueLeavers_9 : decode cX5_queueLeavers 9 = .ok (.if_icmp .ge 29, 3) := by decide +kernel
theorem dX5_queueLeavers_12 : decode cX5_queueLeavers 12 = .ok (.aload_n 1, 1) := by decide +kernel
theorem dX5_queueLeavers_13 : decode cX5_queueLeavers 13 = .ok (.aload_n 2, 1) := by decide +kernel
theorem dX5_queueLeavers_14 : decode cX5_queueLeavers 14 = .ok (.iload_n 3, 1) := by decide +kernel
theorem dX5_queueLeavers_15 : decode cX5_queueLeavers 15 = .ok (.iload 4, 2) := by decide +kernel
theorem dX5_queueLeavers_17 : decode cX5_queueLeavers 17 = .ok (.invokestatic 56, 3) := by decide +kernel
theorem dX5_queueLeavers_20 : decode cX5_queueLeavers 20 = .ok (.ifCond .eq 12, 3) := by decide +kernel
theorem dX5_queueLeavers_23 : decode cX5_queueLeavers 23 = .ok (.aload_n 0, 1) := by decide +kernel
theorem dX5_queueLeavers_24 : decode cX5_queueLeavers 24 = .ok (.aload_n 1, 1) := by decide +kernel
theorem dX5_queueLeavers_25 : decode cX5_queueLeavers 25 = .ok (.aload_n 2, 1) := by decide +kernel
theorem dX5_queueLeavers_26 : decode cX5_queueLeavers 26 = .ok (.iload_n 3, 1) := by decide +kernel
theorem dX5_queueLeavers_27 : decode cX5_queueLeavers 27 = .ok (.iload 4, 2) := by decide +kernel
theorem dX5_queueLeavers_29 : decode cX5_queueLeavers 29 = .ok (.invokevirtual 71, 3) := by decide +kernel
theorem dX5_queueLeavers_32 : decode cX5_queueLeavers 32 = .ok (.iinc 4 1, 3) := by decide +kernel
theorem dX5_queueLeavers_35 : decode cX5_queueLeavers 35 = .ok (.goto (-32), 3) := by decide +kernel
theorem dX5_queueLeavers_38 : decode cX5_queueLeavers 38 = .ok (.return_, 1) := by decide +kernel
theorem dX5_queueLeaversOf_0 : decode cX5_queueLeaversOf 0 = .ok (.iconst 0, 1) := by decide +kernel
theorem dX5_queueLeaversOf_1 : decode cX5_queueLeaversOf 1 = .ok (.istore 5, 2) := by decide +kernel
theorem dX5_queueLeaversOf_3 : decode cX5_queueLeaversOf 3 = .ok (.iload 5, 2) := by decide +kernel
theorem dX5_queueLeaversOf_5 : decode cX5_queueLeaversOf 5 = .ok (.aload_n 1, 1) := by decide +kernel
theorem dX5_queueLeaversOf_6 : decode cX5_queueLeaversOf 6 = .ok (.getfield 75, 3) := by decide +kernel
theorem dX5_queueLeaversOf_9 : decode cX5_queueLeaversOf 9 = .ok (.if_icmp .ge 91, 3) := by decide +kernel
theorem dX5_queueLeaversOf_12 : decode cX5_queueLeaversOf 12 = .ok (.iload 5, 2) := by decide +kernel
theorem dX5_queueLeaversOf_14 : decode cX5_queueLeaversOf 14 = .ok (.aload_n 0, 1) := by decide +kernel
theorem dX5_queueLeaversOf_15 : decode cX5_queueLeaversOf 15 = .ok (.getfield 22, 3) := by decide +kernel
theorem dX5_queueLeaversOf_18 : decode cX5_queueLeaversOf 18 = .ok (.if_icmp .eq 18, 3) := by decide +kernel
theorem dX5_queueLeaversOf_21 : decode cX5_queueLeaversOf 21 = .ok (.aload_n 0, 1) := by decide +kernel
theorem dX5_queueLeaversOf_22 : decode cX5_queueLeaversOf 22 = .ok (.getfield 15, 3) := by decide +kernel
theorem dX5_queueLeaversOf_25 : decode cX5_queueLeaversOf 25 = .ok (.iload 5, 2) := by decide +kernel
theorem dX5_queueLeaversOf_27 : decode cX5_queueLeaversOf 27 = .ok (.iaload, 1) := by decide +kernel
theorem dX5_queueLeaversOf_28 : decode cX5_queueLeaversOf 28 = .ok (.iconst (-1), 1) := by decide +kernel
theorem dX5_queueLeaversOf_29 : decode cX5_queueLeaversOf 29 = .ok (.if_icmp .ne 7, 3) := by decide +kernel
theorem dX5_queueLeaversOf_32 : decode cX5_queueLeaversOf 32 = .ok (.iconst 1, 1) := by decide +kernel
theorem dX5_queueLeaversOf_33 : decode cX5_queueLeaversOf 33 = .ok (.goto 4, 3) := by decide +kernel
theorem dX5_queueLeaversOf_36 : decode cX5_queueLeaversOf 36 = .ok (.iconst 0, 1) := by decide +kernel
theorem dX5_queueLeaversOf_37 : decode cX5_queueLeaversOf 37 = .ok (.istore 6, 2) := by decide +kernel
theorem dX5_queueLeaversOf_39 : decode cX5_queueLeaversOf 39 = .ok (.iload 6, 2) := by decide +kernel
theorem dX5_queueLeaversOf_41 : decode cX5_queueLeaversOf 41 = .ok (.ifCond .eq 53, 3) := by decide +kernel
theorem dX5_queueLeaversOf_44 : decode cX5_queueLeaversOf 44 = .ok (.aload_n 2, 1) := by decide +kernel
theorem dX5_queueLeaversOf_45 : decode cX5_queueLeaversOf 45 = .ok (.getfield 42, 3) := by decide +kernel
theorem dX5_queueLeaversOf_48 : decode cX5_queueLeaversOf 48 = .ok (.iload 5, 2) := by decide +kernel
theorem dX5_queueLeaversOf_50 : decode cX5_queueLeaversOf 50 = .ok (.iaload, 1) := by decide +kernel
theorem dX5_queueLeaversOf_51 : decode cX5_queueLeaversOf 51 = .ok (.iload 4, 2) := by decide +kernel
theorem dX5_queueLeaversOf_53 : decode cX5_queueLeaversOf 53 = .ok (.if_icmp .ne 41, 3) := by decide +kernel
theorem dX5_queueLeaversOf_56 : decode cX5_queueLeaversOf 56 = .ok (.aload_n 0, 1) := by decide +kernel
theorem dX5_queueLeaversOf_57 : decode cX5_queueLeaversOf 57 = .ok (.getfield 18, 3) := by decide +kernel
theorem dX5_queueLeaversOf_60 : decode cX5_queueLeaversOf 60 = .ok (.bipush 16, 2) := by decide +kernel
theorem dX5_queueLeaversOf_62 : decode cX5_queueLeaversOf 62 = .ok (.if_icmp .ge 32, 3) := by decide +kernel
theorem dX5_queueLeaversOf_65 : decode cX5_queueLeaversOf 65 = .ok (.aload_n 0, 1) := by decide +kernel
theorem dX5_queueLeaversOf_66 : decode cX5_queueLeaversOf 66 = .ok (.getfield 15, 3) := by decide +kernel
theorem dX5_queueLeaversOf_69 : decode cX5_queueLeaversOf 69 = .ok (.iload 5, 2) := by decide +kernel
theorem dX5_queueLeaversOf_71 : decode cX5_queueLeaversOf 71 = .ok (.iload_n 3, 1) := by decide +kernel
theorem dX5_queueLeaversOf_72 : decode cX5_queueLeaversOf 72 = .ok (.iastore, 1) := by decide +kernel
theorem dX5_queueLeaversOf_73 : decode cX5_queueLeaversOf 73 = .ok (.aload_n 0, 1) := by decide +kernel
theorem dX5_queueLeaversOf_74 : decode cX5_queueLeaversOf 74 = .ok (.getfield 9, 3) := by decide +kernel
theorem dX5_queueLeaversOf_77 : decode cX5_queueLeaversOf 77 = .ok (.aload_n 0, 1) := by decide +kernel
theorem dX5_queueLeaversOf_78 : decode cX5_queueLeaversOf 78 = .ok (.getfield 18, 3) := by decide +kernel
theorem dX5_queueLeaversOf_81 : decode cX5_queueLeaversOf 81 = .ok (.iload 5, 2) := by decide +kernel
theorem dX5_queueLeaversOf_83 : decode cX5_queueLeaversOf 83 = .ok (.iastore, 1) := by decide +kernel
theorem dX5_queueLeaversOf_84 : decode cX5_queueLeaversOf 84 = .ok (.aload_n 0, 1) := by decide +kernel
theorem dX5_queueLeaversOf_85 : decode cX5_queueLeaversOf 85 = .ok (.dup, 1) := by decide +kernel
theorem dX5_queueLeaversOf_86 : decode cX5_queueLeaversOf 86 = .ok (.getfield 18, 3) := by decide +kernel
theorem dX5_queueLeaversOf_89 : decode cX5_queueLeaversOf 89 = .ok (.iconst 1, 1) := by decide +kernel
theorem dX5_queueLeaversOf_90 : decode cX5_queueLeaversOf 90 = .ok (.iadd, 1) := by decide +kernel
theorem dX5_queueLeaversOf_91 : decode cX5_queueLeaversOf 91 = .ok (.putfield 18, 3) := by decide +kernel
theorem dX5_queueLeaversOf_94 : decode cX5_queueLeaversOf 94 = .ok (.iinc 5 1, 3) := by decide +kernel
theorem dX5_queueLeaversOf_97 : decode cX5_queueLeaversOf 97 = .ok (.goto (-94), 3) := by decide +kernel
theorem dX5_queueLeaversOf_100 : decode cX5_queueLeaversOf 100 = .ok (.return_, 1) := by decide +kernel
theorem dX5_moveAll_0 : decode cX5_moveAll 0 = .ok (.iload_n 2, 1) := by decide +kernel
theorem dX5_moveAll_1 : decode cX5_moveAll 1 = .ok (.istore_n 3, 1) := by decide +kernel
theorem dX5_moveAll_2 : decode cX5_moveAll 2 = .ok (.aload_n 0, 1) := by decide +kernel
theorem dX5_moveAll_3 : decode cX5_moveAll 3 = .ok (.getfield 25, 3) := by decide +kernel
theorem dX5_moveAll_6 : decode cX5_moveAll 6 = .ok (.istore 4, 2) := by decide +kernel
theorem dX5_moveAll_8 : decode cX5_moveAll 8 = .ok (.iconst 0, 1) := by decide +kernel
theorem dX5_moveAll_9 : decode cX5_moveAll 9 = .ok (.istore 5, 2) := by decide +kernel
theorem dX5_moveAll_11 : decode cX5_moveAll 11 = .ok (.iload 5, 2) := by decide +kernel
theorem dX5_moveAll_13 : decode cX5_moveAll 13 = .ok (.bipush 16, 2) := by decide +kernel
theorem dX5_moveAll_15 : decode cX5_moveAll 15 = .ok (.if_icmp .ge 41, 3) := by decide +kernel
theorem dX5_moveAll_18 : decode cX5_moveAll 18 = .ok (.iload_n 3, 1) := by decide +kernel
theorem dX5_moveAll_19 : decode cX5_moveAll 19 = .ok (.iconst (-1), 1) := by decide +kernel
theorem dX5_moveAll_20 : decode cX5_moveAll 20 = .ok (.if_icmp .eq 36, 3) := by decide +kernel
theorem dX5_moveAll_23 : decode cX5_moveAll 23 = .ok (.aload_n 1, 1) := by decide +kernel
theorem dX5_moveAll_24 : decode cX5_moveAll 24 = .ok (.getfield 42, 3) := by decide +kernel
theorem dX5_moveAll_27 : decode cX5_moveAll 27 = .ok (.iload_n 3, 1) := by decide +kernel
theorem dX5_moveAll_28 : decode cX5_moveAll 28 = .ok (.iaload, 1) := by decide +kernel
theorem dX5_moveAll_29 : decode cX5_moveAll 29 = .ok (.istore 6, 2) := by decide +kernel
theorem dX5_moveAll_31 : decode cX5_moveAll 31 = .ok (.aload_n 1, 1) := by decide +kernel
theorem dX5_moveAll_32 : decode cX5_moveAll 32 = .ok (.getfield 42, 3) := by decide +kernel
theorem dX5_moveAll_35 : decode cX5_moveAll 35 = .ok (.iload_n 3, 1) := by decide +kernel
theorem dX5_moveAll_36 : decode cX5_moveAll 36 = .ok (.iload 4, 2) := by decide +kernel
theorem dX5_moveAll_38 : decode cX5_moveAll 38 = .ok (.iastore, 1) := by decide +kernel
theorem dX5_moveAll_39 : decode cX5_moveAll 39 = .ok (.iload 6, 2) := by decide +kernel
theorem dX5_moveAll_41 : decode cX5_moveAll 41 = .ok (.istore 4, 2) := by decide +kernel
theorem dX5_moveAll_43 : decode cX5_moveAll 43 = .ok (.aload_n 0, 1) := by decide +kernel
theorem dX5_moveAll_44 : decode cX5_moveAll 44 = .ok (.getfield 15, 3) := by decide +kernel
theorem dX5_moveAll_47 : decode cX5_moveAll 47 = .ok (.iload_n 3, 1) := by decide +kernel
theorem dX5_moveAll_48 : decode cX5_moveAll 48 = .ok (.iaload, 1) := by decide +kernel
theorem dX5_moveAll_49 : decode cX5_moveAll 49 = .ok (.istore_n 3, 1) := by decide +kernel
theorem dX5_moveAll_50 : decode cX5_moveAll 50 = .ok (.iinc 5 1, 3) := by decide +kernel
theorem dX5_moveAll_53 : decode cX5_moveAll 53 = .ok (.goto (-42), 3) := by decide +kernel
theorem dX5_moveAll_56 : decode cX5_moveAll 56 = .ok (.iload 5, 2) := by decide +kernel
theorem dX5_moveAll_58 : decode cX5_moveAll 58 = .ok (.ireturn, 1) := by decide +kernel
theorem dX6_init_0 : decode cX6_init 0 = .ok (.aload_n 0, 1) := by decide +kernel
theorem dX6_init_1 : decode cX6_init 1 = .ok (.invokespecial 3, 3) := by decide +kernel
theorem dX6_init_4 : decode cX6_init 4 = .ok (.aload_n 0, 1) := by decide +kernel
theorem dX6_init_5 : decode cX6_init 5 = .ok (.bipush 16, 2) := by decide +kernel
theorem dX6_init_7 : decode cX6_init 7 = .ok (.newarray .int, 2) := by decide +kernel
theorem dX6_init_9 : decode cX6_init 9 = .ok (.putfield 9, 3) := by decide +kernel
theorem dX6_init_12 : decode cX6_init 12 = .ok (.aload_n 0, 1) := by decide +kernel
theorem dX6_init_13 : decode cX6_init 13 = .ok (.bipush 16, 2) := by decide +kernel
theorem dX6_init_15 : decode cX6_init 15 = .ok (.newarray .boolean, 2) := by decide +kernel
theorem dX6_init_17 : decode cX6_init 17 = .ok (.putfield 15, 3) := by decide +kernel
theorem dX6_init_20 : decode cX6_init 20 = .ok (.aload_n 0, 1) := by decide +kernel
theorem dX6_init_21 : decode cX6_init 21 = .ok (.iconst 0, 1) := by decide +kernel
theorem dX6_init_22 : decode cX6_init 22 = .ok (.putfield 19, 3) := by decide +kernel
theorem dX6_init_25 : decode cX6_init 25 = .ok (.return_, 1) := by decide +kernel
theorem dX6_add_0 : decode cX6_add 0 = .ok (.aload_n 0, 1) := by decide +kernel
theorem dX6_add_1 : decode cX6_add 1 = .ok (.getfield 9, 3) := by decide +kernel
theorem dX6_add_4 : decode cX6_add 4 = .ok (.aload_n 0, 1) := by decide +kernel
theorem dX6_add_5 : decode cX6_add 5 = .ok (.getfield 19, 3) := by decide +kernel
theorem dX6_add_8 : decode cX6_add 8 = .ok (.iload_n 1, 1) := by decide +kernel
theorem dX6_add_9 : decode cX6_add 9 = .ok (.iastore, 1) := by decide +kernel
theorem dX6_add_10 : decode cX6_add 10 = .ok (.aload_n 0, 1) := by decide +kernel
theorem dX6_add_11 : decode cX6_add 11 = .ok (.getfield 15, 3) := by decide +kernel
theorem dX6_add_14 : decode cX6_add 14 = .ok (.aload_n 0, 1) := by decide +kernel
theorem dX6_add_15 : decode cX6_add 15 = .ok (.getfield 19, 3) := by decide +kernel
theorem dX6_add_18 : decode cX6_add 18 = .ok (.iload_n 2, 1) := by decide +kernel
theorem dX6_add_19 : decode cX6_add 19 = .ok (.bastore, 1) := by decide +kernel
theorem dX6_add_20 : decode cX6_add 20 = .ok (.aload_n 0, 1) := by decide +kernel
theorem dX6_add_21 : decode cX6_add 21 = .ok (.dup, 1) := by decide +kernel
theorem dX6_add_22 : decode cX6_add 22 = .ok (.getfield 19, 3) := by decide +kernel
theorem dX6_add_25 : decode cX6_add 25 = .ok (.iconst 1, 1) := by decide +kernel
theorem dX6_add_26 : decode cX6_add 26 = .ok (.iadd, 1) := by decide +kernel
theorem dX6_add_27 : decode cX6_add 27 = .ok (.putfield 19, 3) := by decide +kernel
theorem dX6_add_30 : decode cX6_add 30 = .ok (.return_, 1) := by decide +kernel
theorem dX6_shareBeyond_0 : decode cX6_shareBeyond 0 = .ok (.lconst 1, 1) := by decide +kernel
theorem dX6_shareBeyond_1 : decode cX6_shareBeyond 1 = .ok (.lstore_n 3, 1) := by decide +kernel
theorem dX6_shareBeyond_2 : decode cX6_shareBeyond 2 = .ok (.lconst 1, 1) := by decide +kernel
theorem dX6_shareBeyond_3 : decode cX6_shareBeyond 3 = .ok (.lstore 5, 2) := by decide +kernel
theorem dX6_shareBeyond_5 : decode cX6_shareBeyond 5 = .ok (.iconst 1, 1) := by decide +kernel
theorem dX6_shareBeyond_6 : decode cX6_shareBeyond 6 = .ok (.istore 7, 2) := by decide +kernel
theorem dX6_shareBeyond_8 : decode cX6_shareBeyond 8 = .ok (.iload 7, 2) := by decide +kernel
theorem dX6_shareBeyond_10 : decode cX6_shareBeyond 10 = .ok (.iload_n 1, 1) := by decide +kernel
theorem dX6_shareBeyond_11 : decode cX6_shareBeyond 11 = .ok (.if_icmp .gt 47, 3) := by decide +kernel
theorem dX6_shareBeyond_14 : decode cX6_shareBeyond 14 = .ok (.aload_n 0, 1) := by decide +kernel
theorem dX6_shareBeyond_15 : decode cX6_shareBeyond 15 = .ok (.iload 7, 2) := by decide +kernel
theorem dX6_shareBeyond_17 : decode cX6_shareBeyond 17 = .ok (.invokevirtual 23, 3) := by decide +kernel
theorem dX6_shareBeyond_20 : decode cX6_shareBeyond 20 = .ok (.istore 8, 2) := by decide +kernel
theorem dX6_shareBeyond_22 : decode cX6_shareBeyond 22 = .ok (.iload 8, 2) := by decide +kernel
theorem dX6_shareBeyond_24 : decode cX6_shareBeyond 24 = .ok (.ifCond .le 28, 3) := by decide +kernel
theorem dX6_shareBeyond_27 : decode cX6_shareBeyond 27 = .ok (.aload_n 0, 1) := by decide +kernel
theorem dX6_shareBeyond_28 : decode cX6_shareBeyond 28 = .ok (.iload 7, 2) := by decide +kernel
theorem dX6_shareBeyond_30 : decode cX6_shareBeyond 30 = .ok (.invokevirtual 27, 3) := by decide +kernel
theorem dX6_shareBeyond_33 : decode cX6_shareBeyond 33 = .ok (.istore 9, 2) := by decide +kernel
theorem dX6_shareBeyond_35 : decode cX6_shareBeyond 35 = .ok (.lload_n 3, 1) := by decide +kernel
theorem dX6_shareBeyond_36 : decode cX6_shareBeyond 36 = .ok (.iload 9, 2) := by decide +kernel
theorem dX6_shareBeyond_38 : decode cX6_shareBeyond 38 = .ok (.iload 8, 2) := by decide +kernel
theorem dX6_shareBeyond_40 : decode cX6_shareBeyond 40 = .ok (.isub, 1) := by decide +kernel
theorem dX6_shareBeyond_41 : decode cX6_shareBeyond 41 = .ok (.i2l, 1) := by decide +kernel
theorem dX6_shareBeyond_42 : decode cX6_shareBeyond 42 = .ok (.lmul, 1) := by decide +kernel
theorem dX6_shareBeyond_43 : decode cX6_shareBeyond 43 = .ok (.lstore_n 3, 1) := by decide +kernel
theorem dX6_shareBeyond_44 : decode cX6_shareBeyond 44 = .ok (.lload 5, 2) := by decide +kernel
theorem dX6_shareBeyond_46 : decode cX6_shareBeyond 46 = .ok (.iload 9, 2) := by decide +kernel
theorem dX6_shareBeyond_48 : decode cX6_shareBeyond 48 = .ok (.i2l, 1) := by decide +kernel
theorem dX6_shareBeyond_49 : decode cX6_shareBeyond 49 = .ok (.lmul, 1) := by decide +kernel
theorem dX6_shareBeyond_50 : decode cX6_shareBeyond 50 = .ok (.lstore 5, 2) := by decide +kernel
theorem dX6_shareBeyond_52 : decode cX6_shareBeyond 52 = .ok (.iinc 7 1, 3) := by decide +kernel
theorem dX6_shareBeyond_55 : decode cX6_shareBeyond 55 = .ok (.goto (-47), 3) := by decide +kernel
theorem dX6_shareBeyond_58 : decode cX6_shareBeyond 58 = .ok (.aload_n 2, 1) := by decide +kernel
theorem dX6_shareBeyond_59 : decode cX6_shareBeyond 59 = .ok (.lload_n 3, 1) := by decide +kernel
theorem dX6_shareBeyond_60 : decode cX6_shareBeyond 60 = .ok (.lload 5, 2) := by decide +kernel
theorem dX6_shareBeyond_62 : decode cX6_shareBeyond 62 = .ok (.invokevirtual 30, 3) := by decide +kernel
theorem dX6_shareBeyond_65 : decode cX6_shareBeyond 65 = .ok (.return_, 1) := by decide +kernel
theorem dX6_countEnded_0 : decode cX6_countEnded 0 = .ok (.iconst 0, 1) := by decide +kernel
theorem dX6_countEnded_1 : decode cX6_countEnded 1 = .ok (.istore_n 2, 1) := by decide +kernel
theorem dX6_countEnded_2 : decode cX6_countEnded 2 = .ok (.iconst 0, 1) := by decide +kernel
theorem dX6_countEnded_3 : decode cX6_countEnded 3 = .ok (.istore_n 3, 1) := by decide +kernel
theorem dX6_countEnded_4 : decode cX6_countEnded 4 = .ok (.iload_n 3, 1) := by decide +kernel
theorem dX6_countEnded_5 : decode cX6_countEnded 5 = .ok (.aload_n 0, 1) := by decide +kernel
theorem dX6_countEnded_6 : decode cX6_countEnded 6 = .ok (.getfield 19, 3) := by decide +kernel
theorem dX6_countEnded_9 : decode cX6_countEnded 9 = .ok (.if_icmp .ge 31, 3) := by decide +kernel
theorem dX6_countEnded_12 : decode cX6_countEnded 12 = .ok (.aload_n 0, 1) := by decide +kernel
theorem dX6_countEnded_13 : decode cX6_countEnded 13 = .ok (.getfield 15, 3) := by decide +kernel
theorem dX6_countEnded_16 : decode cX6_countEnded 16 = .ok (.iload_n 3, 1) := by decide +kernel
theorem dX6_countEnded_17 : decode cX6_countEnded 17 = .ok (.baload, 1) := by decide +kernel
theorem dX6_countEnded_18 : decode cX6_countEnded 18 = .ok (.ifCond .eq 16, 3) := by decide +kernel
theorem dX6_countEnded_21 : decode cX6_countEnded 21 = .ok (.aload_n 0, 1) := by decide +kernel
theorem dX6_countEnded_22 : decode cX6_countEnded 22 = .ok (.getfield 9, 3) := by decide +kernel
theorem dX6_countEnded_25 : decode cX6_countEnded 25 = .ok (.iload_n 3, 1) := by decide +kernel
theorem dX6_countEnded_26 : decode cX6_countEnded 26 = .ok (.iaload, 1) := by decide +kernel
theorem dX6_countEnded_27 : decode cX6_countEnded 27 = .ok (.iload_n 1, 1) := by decide +kernel
theorem dX6_countEnded_28 : decode cX6_countEnded 28 = .ok (.if_icmp .ne 6, 3) := by decide +kernel
theorem dX6_countEnded_31 : decode cX6_countEnded 31 = .ok (.iinc 2 1, 3) := by decide +kernel
theorem dX6_countEnded_34 : decode cX6_countEnded 34 = .ok (.iinc 3 1, 3) := by decide +kernel
theorem dX6_countEnded_37 : decode cX6_countEnded 37 = .ok (.goto (-33), 3) := by decide +kernel
theorem dX6_countEnded_40 : decode cX6_countEnded 40 = .ok (.iload_n 2, 1) := by decide +kernel
theorem dX6_countEnded_41 : decode cX6_countEnded 41 = .ok (.ireturn, 1) := by decide +kernel
theorem dX6_countAtRisk_0 : decode cX6_countAtRisk 0 = .ok (.iconst 0, 1) := by decide +kernel
theorem dX6_countAtRisk_1 : decode cX6_countAtRisk 1 = .ok (.istore_n 2, 1) := by decide +kernel
theorem dX6_countAtRisk_2 : decode cX6_countAtRisk 2 = .ok (.iconst 0, 1) := by decide +kernel
theorem dX6_countAtRisk_3 : decode cX6_countAtRisk 3 = .ok (.istore_n 3, 1) := by decide +kernel
theorem dX6_countAtRisk_4 : decode cX6_countAtRisk 4 = .ok (.iload_n 3, 1) := by decide +kernel
theorem dX6_countAtRisk_5 : decode cX6_countAtRisk 5 = .ok (.aload_n 0, 1) := by decide +kernel
theorem dX6_countAtRisk_6 : decode cX6_countAtRisk 6 = .ok (.getfield 19, 3) := by decide +kernel
theorem dX6_countAtRisk_9 : decode cX6_countAtRisk 9 = .ok (.if_icmp .ge 22, 3) := by decide +kernel
theorem dX6_countAtRisk_12 : decode cX6_countAtRisk 12 = .ok (.aload_n 0, 1) := by decide +kernel
theorem dX6_countAtRisk_13 : decode cX6_countAtRisk 13 = .ok (.getfield 9, 3) := by decide +kernel
theorem dX6_countAtRisk_16 : decode cX6_countAtRisk 16 = .ok (.iload_n 3, 1) := by decide +kernel
theorem dX6_countAtRisk_17 : decode cX6_countAtRisk 17 = .ok (.iaload, 1) := by decide +kernel
theorem dX6_countAtRisk_18 : decode cX6_countAtRisk 18 = .ok (.iload_n 1, 1) := by decide +kernel
theorem dX6_countAtRisk_19 : decode cX6_countAtRisk 19 = .ok (.if_icmp .lt 6, 3) := by decide +kernel
theorem dX6_countAtRisk_22 : decode cX6_countAtRisk 22 = .ok (.iinc 2 1, 3) := by decide +kernel
theorem dX6_countAtRisk_25 : decode cX6_countAtRisk 25 = .ok (.iinc 3 1, 3) := by decide +kernel
theorem dX6_countAtRisk_28 : decode cX6_countAtRisk 28 = .ok (.goto (-24), 3) := by decide +kernel
theorem dX6_countAtRisk_31 : decode cX6_countAtRisk 31 = .ok (.iload_n 2, 1) := by decide +kernel
theorem dX6_countAtRisk_32 : decode cX6_countAtRisk 32 = .ok (.ireturn, 1) := by decide +kernel
theorem dX7_init_0 : decode cX7_init 0 = .ok (.aload_n 0, 1) := by decide +kernel
theorem dX7_init_1 : decode cX7_init 1 = .ok (.invokespecial 3, 3) := by decide +kernel
theorem dX7_init_4 : decode cX7_init 4 = .ok (.aload_n 0, 1) := by decide +kernel
theorem dX7_init_5 : decode cX7_init 5 = .ok (.bipush 40, 2) := by decide +kernel
theorem dX7_init_7 : decode cX7_init 7 = .ok (.newarray .long, 2) := by decide +kernel
theorem dX7_init_9 : decode cX7_init 9 = .ok (.putfield 9, 3) := by decide +kernel
theorem dX7_init_12 : decode cX7_init 12 = .ok (.aload_n 0, 1) := by decide +kernel
theorem dX7_init_13 : decode cX7_init 13 = .ok (.iconst 1, 1) := by decide +kernel
theorem dX7_init_14 : decode cX7_init 14 = .ok (.putfield 15, 3) := by decide +kernel
theorem dX7_init_17 : decode cX7_init 17 = .ok (.aload_n 0, 1) := by decide +kernel
theorem dX7_init_18 : decode cX7_init 18 = .ok (.iconst 0, 1) := by decide +kernel
theorem dX7_init_19 : decode cX7_init 19 = .ok (.putfield 19, 3) := by decide +kernel
theorem dX7_init_22 : decode cX7_init 22 = .ok (.aload_n 0, 1) := by decide +kernel
theorem dX7_init_23 : decode cX7_init 23 = .ok (.iconst 0, 1) := by decide +kernel
theorem dX7_init_24 : decode cX7_init 24 = .ok (.putfield 23, 3) := by decide +kernel
theorem dX7_init_27 : decode cX7_init 27 = .ok (.return_, 1) := by decide +kernel
theorem dX7_make_0 : decode cX7_make 0 = .ok (.aload_n 0, 1) := by decide +kernel
theorem dX7_make_1 : decode cX7_make 1 = .ok (.iconst 0, 1) := by decide +kernel
theorem dX7_make_2 : decode cX7_make 2 = .ok (.putfield 15, 3) := by decide +kernel
theorem dX7_make_5 : decode cX7_make 5 = .ok (.aload_n 0, 1) := by decide +kernel
theorem dX7_make_6 : decode cX7_make 6 = .ok (.iload_n 1, 1) := by decide +kernel
theorem dX7_make_7 : decode cX7_make 7 = .ok (.putfield 19, 3) := by decide +kernel
theorem dX7_make_10 : decode cX7_make 10 = .ok (.aload_n 0, 1) := by decide +kernel
theorem dX7_make_11 : decode cX7_make 11 = .ok (.iload_n 2, 1) := by decide +kernel
theorem dX7_make_12 : decode cX7_make 12 = .ok (.putfield 23, 3) := by decide +kernel
theorem dX7_make_15 : decode cX7_make 15 = .ok (.aload_n 0, 1) := by decide +kernel
theorem dX7_make_16 : decode cX7_make 16 = .ok (.getfield 9, 3) := by decide +kernel
theorem dX7_make_19 : decode cX7_make 19 = .ok (.lconst 0, 1) := by decide +kernel
theorem dX7_make_20 : decode cX7_make 20 = .ok (.invokestatic 26, 3) := by decide +kernel
theorem dX7_make_23 : decode cX7_make 23 = .ok (.return_, 1) := by decide +kernel
theorem dX7_hasPlaces_0 : decode cX7_hasPlaces 0 = .ok (.iload_n 1, 1) := by decide +kernel
theorem dX7_hasPlaces_1 : decode cX7_hasPlaces 1 = .ok (.ifCond .lt 25, 3) := by decide +kernel
theorem dX7_hasPlaces_4 : decode cX7_hasPlaces 4 = .ok (.iload_n 1, 1) := by decide +kernel
theorem dX7_hasPlaces_5 : decode cX7_hasPlaces 5 = .ok (.aload_n 0, 1) := by decide +kernel
theorem dX7_hasPlaces_6 : decode cX7_hasPlaces 6 = .ok (.getfield 23, 3) := by decide +kernel
theorem dX7_hasPlaces_9 : decode cX7_hasPlaces 9 = .ok (.if_icmp .gt 17, 3) := by decide +kernel
theorem dX7_hasPlaces_12 : decode cX7_hasPlaces 12 = .ok (.iload_n 2, 1) := by decide +kernel
theorem dX7_hasPlaces_13 : decode cX7_hasPlaces 13 = .ok (.aload_n 0, 1) := by decide +kernel
theorem dX7_hasPlaces_14 : decode cX7_hasPlaces 14 = .ok (.getfield 23, 3) := by decide +kernel
theorem dX7_hasPlaces_17 : decode cX7_hasPlaces 17 = .ok (.iload_n 1, 1) := by decide +kernel
theorem dX7_hasPlaces_18 : decode cX7_hasPlaces 18 = .ok (.isub, 1) := by decide +kernel
theorem dX7_hasPlaces_19 : decode cX7_hasPlaces 19 = .ok (.if_icmp .gt 7, 3) := by decide +kernel
theorem dX7_hasPlaces_22 : decode cX7_hasPlaces 22 = .ok (.iconst 1, 1) := by decide +kernel
theorem dX7_hasPlaces_23 : decode cX7_hasPlaces 23 = .ok (.goto 4, 3) := by decide +kernel
theorem dX7_hasPlaces_26 : decode cX7_hasPlaces 26 = .ok (.iconst 0, 1) := by decide +kernel
theorem dX7_hasPlaces_27 : decode cX7_hasPlaces 27 = .ok (.ireturn, 1) := by decide +kernel
theorem dX7_put_0 : decode cX7_put 0 = .ok (.aload_n 0, 1) := by decide +kernel
theorem dX7_put_1 : decode cX7_put 1 = .ok (.getfield 9, 3) := by decide +kernel
theorem dX7_put_4 : decode cX7_put 4 = .ok (.iload_n 1, 1) := by decide +kernel
theorem dX7_put_5 : decode cX7_put 5 = .ok (.aload_n 0, 1) := by decide +kernel
theorem dX7_put_6 : decode cX7_put 6 = .ok (.lload_n 2, 1) := by decide +kernel
theorem dX7_put_7 : decode cX7_put 7 = .ok (.invokevirtual 32, 3) := by decide +kernel
theorem dX7_put_10 : decode cX7_put 10 = .ok (.lastore, 1) := by decide +kernel
theorem dX7_put_11 : decode cX7_put 11 = .ok (.return_, 1) := by decide +kernel
theorem dX7_cut_0 : decode cX7_cut 0 = .ok (.aload_n 0, 1) := by decide +kernel
theorem dX7_cut_1 : decode cX7_cut 1 = .ok (.getfield 19, 3) := by decide +kernel
theorem dX7_cut_4 : decode cX7_cut 4 = .ok (.tableswitch 42 0 2 #[28, 33, 38], 28) := by decide +kernel
theorem dX7_cut_32 : decode cX7_cut 32 = .ok (.lload_n 1, 1) := by decide +kernel
theorem dX7_cut_33 : decode cX7_cut 33 = .ok (.l2i, 1) := by decide +kernel
theorem dX7_cut_34 : decode cX7_cut 34 = .ok (.i2b, 1) := by decide +kernel
theorem dX7_cut_35 : decode cX7_cut 35 = .ok (.i2l, 1) := by decide +kernel
theorem dX7_cut_36 : decode cX7_cut 36 = .ok (.lreturn, 1) := by decide +kernel
theorem dX7_cut_37 : decode cX7_cut 37 = .ok (.lload_n 1, 1) := by decide +kernel
theorem dX7_cut_38 : decode cX7_cut 38 = .ok (.l2i, 1) := by decide +kernel
theorem dX7_cut_39 : decode cX7_cut 39 = .ok (.i2s, 1) := by decide +kernel
theorem dX7_cut_40 : decode cX7_cut 40 = .ok (.i2l, 1) := by decide +kernel
theorem dX7_cut_41 : decode cX7_cut 41 = .ok (.lreturn, 1) := by decide +kernel
theorem dX7_cut_42 : decode cX7_cut 42 = .ok (.lload_n 1, 1) := by decide +kernel
theorem dX7_cut_43 : decode cX7_cut 43 = .ok (.l2i, 1) := by decide +kernel
theorem dX7_cut_44 : decode cX7_cut 44 = .ok (.i2l, 1) := by decide +kernel
theorem dX7_cut_45 : decode cX7_cut 45 = .ok (.lreturn, 1) := by decide +kernel
theorem dX7_cut_46 : decode cX7_cut 46 = .ok (.lload_n 1, 1) := by decide +kernel
theorem dX7_cut_47 : decode cX7_cut 47 = .ok (.lreturn, 1) := by decide +kernel
theorem dX7_hasOutcomes_0 : decode cX7_hasOutcomes 0 = .ok (.iconst 0, 1) := by decide +kernel
theorem dX7_hasOutcomes_1 : decode cX7_hasOutcomes 1 = .ok (.istore_n 2, 1) := by decide +kernel
theorem dX7_hasOutcomes_2 : decode cX7_hasOutcomes 2 = .ok (.iload_n 2, 1) := by decide +kernel
theorem dX7_hasOutcomes_3 : decode cX7_hasOutcomes 3 = .ok (.iload_n 1, 1) := by decide +kernel
theorem dX7_hasOutcomes_4 : decode cX7_hasOutcomes 4 = .ok (.if_icmp .ge 35, 3) := by decide +kernel
theorem dX7_hasOutcomes_7 : decode cX7_hasOutcomes 7 = .ok (.aload_n 0, 1) := by decide +kernel
theorem dX7_hasOutcomes_8 : decode cX7_hasOutcomes 8 = .ok (.getfield 9, 3) := by decide +kernel
theorem dX7_hasOutcomes_11 : decode cX7_hasOutcomes 11 = .ok (.iload_n 2, 1) := by decide +kernel
theorem dX7_hasOutcomes_12 : decode cX7_hasOutcomes 12 = .ok (.laload, 1) := by decide +kernel
theorem dX7_hasOutcomes_13 : decode cX7_hasOutcomes 13 = .ok (.lconst 0, 1) := by decide +kernel
theorem dX7_hasOutcomes_14 : decode cX7_hasOutcomes 14 = .ok (.lcmp, 1) := by decide +kernel
theorem dX7_hasOutcomes_15 : decode cX7_hasOutcomes 15 = .ok (.ifCond .lt 16, 3) := by decide +kernel
theorem dX7_hasOutcomes_18 : decode cX7_hasOutcomes 18 = .ok (.aload_n 0, 1) := by decide +kernel
theorem dX7_hasOutcomes_19 : decode cX7_hasOutcomes 19 = .ok (.getfield 9, 3) := by decide +kernel
theorem dX7_hasOutcomes_22 : decode cX7_hasOutcomes 22 = .ok (.iload_n 2, 1) := by decide +kernel
theorem dX7_hasOutcomes_23 : decode cX7_hasOutcomes 23 = .ok (.laload, 1) := by decide +kernel
theorem dX7_hasOutcomes_24 : decode cX7_hasOutcomes 24 = .ok (.ldc2_w 36, 3) := by decide +kernel
theorem dX7_hasOutcomes_27 : decode cX7_hasOutcomes 27 = .ok (.lcmp, 1) := by decide +kernel
theorem dX7_hasOutcomes_28 : decode cX7_hasOutcomes 28 = .ok (.ifCond .le 5, 3) := by decide +kernel
theorem dX7_hasOutcomes_31 : decode cX7_hasOutcomes 31 = .ok (.iconst 0, 1) := by decide +kernel
theorem dX7_hasOutcomes_32 : decode cX7_hasOutcomes 32 = .ok (.ireturn, 1) := by decide +kernel
theorem dX7_hasOutcomes_33 : decode cX7_hasOutcomes 33 = .ok (.iinc 2 1, 3) := by decide +kernel
theorem dX7_hasOutcomes_36 : decode cX7_hasOutcomes 36 = .ok (.goto (-34), 3) := by decide +kernel
theorem dX7_hasOutcomes_39 : decode cX7_hasOutcomes 39 = .ok (.iconst 1, 1) := by decide +kernel
theorem dX7_hasOutcomes_40 : decode cX7_hasOutcomes 40 = .ok (.ireturn, 1) := by decide +kernel
theorem dX8_init_0 : decode cX8_init 0 = .ok (.aload_n 0, 1) := by decide +kernel
theorem dX8_init_1 : decode cX8_init 1 = .ok (.invokespecial 1, 3) := by decide +kernel
theorem dX8_init_4 : decode cX8_init 4 = .ok (.aload_n 0, 1) := by decide +kernel
theorem dX8_init_5 : decode cX8_init 5 = .ok (.sipush 256, 3) := by decide +kernel
theorem dX8_init_8 : decode cX8_init 8 = .ok (.newarray .long, 2) := by decide +kernel
theorem dX8_init_10 : decode cX8_init 10 = .ok (.putfield 9, 3) := by decide +kernel
theorem dX8_init_13 : decode cX8_init 13 = .ok (.aload_n 0, 1) := by decide +kernel
theorem dX8_init_14 : decode cX8_init 14 = .ok (.sipush 256, 3) := by decide +kernel
theorem dX8_init_17 : decode cX8_init 17 = .ok (.newarray .long, 2) := by decide +kernel
theorem dX8_init_19 : decode cX8_init 19 = .ok (.putfield 13, 3) := by decide +kernel
theorem dX8_init_22 : decode cX8_init 22 = .ok (.aload_n 0, 1) := by decide +kernel
theorem dX8_init_23 : decode cX8_init 23 = .ok (.iconst 0, 1) := by decide +kernel
theorem dX8_init_24 : decode cX8_init 24 = .ok (.putfield 16, 3) := by decide +kernel
theorem dX8_init_27 : decode cX8_init 27 = .ok (.return_, 1) := by decide +kernel
theorem dX8_lay_0 : decode cX8_lay 0 = .ok (.aload_n 0, 1) := by decide +kernel
theorem dX8_lay_1 : decode cX8_lay 1 = .ok (.iload_n 2, 1) := by decide +kernel
theorem dX8_lay_2 : decode cX8_lay 2 = .ok (.putfield 16, 3) := by decide +kernel
theorem dX8_lay_5 : decode cX8_lay 5 = .ok (.aload_n 0, 1) := by decide +kernel
theorem dX8_lay_6 : decode cX8_lay 6 = .ok (.aload_n 1, 1) := by decide +kernel
theorem dX8_lay_7 : decode cX8_lay 7 = .ok (.iconst 0, 1) := by decide +kernel
theorem dX8_lay_8 : decode cX8_lay 8 = .ok (.aload_n 0, 1) := by decide +kernel
theorem dX8_lay_9 : decode cX8_lay 9 = .ok (.getfield 9, 3) := by decide +kernel
theorem dX8_lay_12 : decode cX8_lay 12 = .ok (.invokevirtual 20, 3) := by decide +kernel
theorem dX8_lay_15 : decode cX8_lay 15 = .ok (.aload_n 0, 1) := by decide +kernel
theorem dX8_lay_16 : decode cX8_lay 16 = .ok (.aload_n 1, 1) := by decide +kernel
theorem dX8_lay_17 : decode cX8_lay 17 = .ok (.bipush 8, 2) := by decide +kernel
theorem dX8_lay_19 : decode cX8_lay 19 = .ok (.aload_n 0, 1) := by decide +kernel
theorem dX8_lay_20 : decode cX8_lay 20 = .ok (.getfield 13, 3) := by decide +kernel
theorem dX8_lay_23 : decode cX8_lay 23 = .ok (.invokevirtual 20, 3) := by decide +kernel
theorem dX8_lay_26 : decode cX8_lay 26 = .ok (.return_, 1) := by decide +kernel
theorem dX8_laySums_0 : decode cX8_laySums 0 = .ok (.iconst 1, 1) := by decide +kernel
theorem dX8_laySums_1 : decode cX8_laySums 1 = .ok (.istore 4, 2) := by decide +kernel
theorem dX8_laySums_3 : decode cX8_laySums 3 = .ok (.iload 4, 2) := by decide +kernel
theorem dX8_laySums_5 : decode cX8_laySums 5 = .ok (.sipush 256, 3) := by decide +kernel
theorem dX8_laySums_8 : decode cX8_laySums 8 = .ok (.if_icmp .ge 56, 3) := by decide +kernel
theorem dX8_laySums_11 : decode cX8_laySums 11 = .ok (.iload_n 2, 1) := by decide +kernel
theorem dX8_laySums_12 : decode cX8_laySums 12 = .ok (.iload 4, 2) := by decide +kernel
theorem dX8_laySums_14 : decode cX8_laySums 14 = .ok (.invokestatic 24, 3) := by decide +kernel
theorem dX8_laySums_17 : decode cX8_laySums 17 = .ok (.iadd, 1) := by decide +kernel
theorem dX8_laySums_18 : decode cX8_laySums 18 = .ok (.istore 5, 2) := by decide +kernel
theorem dX8_laySums_20 : decode cX8_laySums 20 = .ok (.iload 5, 2) := by decide +kernel
theorem dX8_laySums_22 : decode cX8_laySums 22 = .ok (.aload_n 0, 1) := by decide +kernel
theorem dX8_laySums_23 : decode cX8_laySums 23 = .ok (.getfield 16, 3) := by decide +kernel
theorem dX8_laySums_26 : decode cX8_laySums 26 = .ok (.if_icmp .ge 13, 3) := by decide +kernel
theorem dX8_laySums_29 : decode cX8_laySums 29 = .ok (.aload_n 1, 1) := by decide +kernel
theorem dX8_laySums_30 : decode cX8_laySums 30 = .ok (.getfield 30, 3) := by decide +kernel
theorem dX8_laySums_33 : decode cX8_laySums 33 = .ok (.iload 5, 2) := by decide +kernel
theorem dX8_laySums_35 : decode cX8_laySums 35 = .ok (.laload, 1) := by decide +kernel
theorem dX8_laySums_36 : decode cX8_laySums 36 = .ok (.goto 4, 3) := by decide +kernel
theorem dX8_laySums_39 : decode cX8_laySums 39 = .ok (.lconst 0, 1) := by decide +kernel
theorem dX8_laySums_40 : decode cX8_laySums 40 = .ok (.lstore 6, 2) := by decide +kernel
theorem dX8_laySums_42 : decode cX8_laySums 42 = .ok (.aload_n 3, 1) := by decide +kernel
theorem dX8_laySums_43 : decode cX8_laySums 43 = .ok (.iload 4, 2) := by decide +kernel
theorem dX8_laySums_45 : decode cX8_laySums 45 = .ok (.aload_n 3, 1) := by decide +kernel
theorem dX8_laySums_46 : decode cX8_laySums 46 = .ok (.iload 4, 2) := by decide +kernel
theorem dX8_laySums_48 : decode cX8_laySums 48 = .ok (.iload 4, 2) := by decide +kernel
theorem dX8_laySums_50 : decode cX8_laySums 50 = .ok (.iconst 1, 1) := by decide +kernel
theorem dX8_laySums_51 : decode cX8_laySums 51 = .ok (.isub, 1) := by decide +kernel
theorem dX8_laySums_52 : decode cX8_laySums 52 = .ok (.iand, 1) := by decide +kernel
theorem dX8_laySums_53 : decode cX8_laySums 53 = .ok (.laload, 1) := by decide +kernel
theorem dX8_laySums_54 : decode cX8_laySums 54 = .ok (.lload 6, 2) := by decide +kernel
theorem dX8_laySums_56 : decode cX8_laySums 56 = .ok (.ladd, 1) := by decide +kernel
theorem dX8_laySums_57 : decode cX8_laySums 57 = .ok (.lastore, 1) := by decide +kernel
theorem dX8_laySums_58 : decode cX8_laySums 58 = .ok (.iinc 4 1, 3) := by decide +kernel
theorem dX8_laySums_61 : decode cX8_laySums 61 = .ok (.goto (-58), 3) := by decide +kernel
theorem dX8_laySums_64 : decode cX8_laySums 64 = .ok (.return_, 1) := by decide +kernel
theorem dX8_sumOf_0 : decode cX8_sumOf 0 = .ok (.aload_n 0, 1) := by decide +kernel
theorem dX8_sumOf_1 : decode cX8_sumOf 1 = .ok (.getfield 9, 3) := by decide +kernel
theorem dX8_sumOf_4 : decode cX8_sumOf 4 = .ok (.iload_n 1, 1) := by decide +kernel
theorem dX8_sumOf_5 : decode cX8_sumOf 5 = .ok (.sipush 255, 3) := by decide +kernel
theorem dX8_sumOf_8 : decode cX8_sumOf 8 = .ok (.iand, 1) := by decide +kernel
theorem dX8_sumOf_9 : decode cX8_sumOf 9 = .ok (.laload, 1) := by decide +kernel
theorem dX8_sumOf_10 : decode cX8_sumOf 10 = .ok (.aload_n 0, 1) := by decide +kernel
theorem dX8_sumOf_11 : decode cX8_sumOf 11 = .ok (.getfield 13, 3) := by decide +kernel
theorem dX8_sumOf_14 : decode cX8_sumOf 14 = .ok (.iload_n 1, 1) := by decide +kernel
theorem dX8_sumOf_15 : decode cX8_sumOf 15 = .ok (.bipush 8, 2) := by decide +kernel
theorem dX8_sumOf_17 : decode cX8_sumOf 17 = .ok (.ishr, 1) := by decide +kernel
theorem dX8_sumOf_18 : decode cX8_sumOf 18 = .ok (.sipush 255, 3) := by decide +kernel
theorem dX8_sumOf_21 : decode cX8_sumOf 21 = .ok (.iand, 1) := by decide +kernel
theorem dX8_sumOf_22 : decode cX8_sumOf 22 = .ok (.laload, 1) := by decide +kernel
theorem dX8_sumOf_23 : decode cX8_sumOf 23 = .ok (.ladd, 1) := by decide +kernel
theorem dX8_sumOf_24 : decode cX8_sumOf 24 = .ok (.lreturn, 1) := by decide +kernel
theorem dX8_gainOf_0 : decode cX8_gainOf 0 = .ok (.iload_n 1, 1) := by decide +kernel
theorem dX8_gainOf_1 : decode cX8_gainOf 1 = .ok (.invokestatic 35, 3) := by decide +kernel
theorem dX8_gainOf_4 : decode cX8_gainOf 4 = .ok (.i2l, 1) := by decide +kernel
theorem dX8_gainOf_5 : decode cX8_gainOf 5 = .ok (.lstore_n 3, 1) := by decide +kernel
theorem dX8_gainOf_6 : decode cX8_gainOf 6 = .ok (.aload_n 0, 1) := by decide +kernel
theorem dX8_gainOf_7 : decode cX8_gainOf 7 = .ok (.getfield 16, 3) := by decide +kernel
theorem dX8_gainOf_10 : decode cX8_gainOf 10 = .ok (.i2l, 1) := by decide +kernel
theorem dX8_gainOf_11 : decode cX8_gainOf 11 = .ok (.lload_n 3, 1) := by decide +kernel
theorem dX8_gainOf_12 : decode cX8_gainOf 12 = .ok (.lsub, 1) := by decide +kernel
theorem dX8_gainOf_13 : decode cX8_gainOf 13 = .ok (.lstore 5, 2) := by decide +kernel
theorem dX8_gainOf_15 : decode cX8_gainOf 15 = .ok (.aload_n 0, 1) := by decide +kernel
theorem dX8_gainOf_16 : decode cX8_gainOf 16 = .ok (.iload_n 1, 1) := by decide +kernel
theorem dX8_gainOf_17 : decode cX8_gainOf 17 = .ok (.invokevirtual 38, 3) := by decide +kernel
theorem dX8_gainOf_20 : decode cX8_gainOf 20 = .ok (.lstore 7, 2) := by decide +kernel
theorem dX8_gainOf_22 : decode cX8_gainOf 22 = .ok (.aload_n 0, 1) := by decide +kernel
theorem dX8_gainOf_23 : decode cX8_gainOf 23 = .ok (.iconst 1, 1) := by decide +kernel
theorem dX8_gainOf_24 : decode cX8_gainOf 24 = .ok (.aload_n 0, 1) := by decide +kernel
theorem dX8_gainOf_25 : decode cX8_gainOf 25 = .ok (.getfield 16, 3) := by decide +kernel
theorem dX8_gainOf_28 : decode cX8_gainOf 28 = .ok (.ishl, 1) := by decide +kernel
theorem dX8_gainOf_29 : decode cX8_gainOf 29 = .ok (.iconst 1, 1) := by decide +kernel
theorem dX8_gainOf_30 : decode cX8_gainOf 30 = .ok (.isub, 1) := by decide +kernel
theorem dX8_gainOf_31 : decode cX8_gainOf 31 = .ok (.invokevirtual 38, 3) := by decide +kernel
theorem dX8_gainOf_34 : decode cX8_gainOf 34 = .ok (.lload 7, 2) := by decide +kernel
theorem dX8_gainOf_36 : decode cX8_gainOf 36 = .ok (.lsub, 1) := by decide +kernel
theorem dX8_gainOf_37 : decode cX8_gainOf 37 = .ok (.lstore 9, 2) := by decide +kernel
theorem dX8_gainOf_39 : decode cX8_gainOf 39 = .ok (.aload_n 2, 1) := by decide +kernel
theorem dX8_gainOf_40 : decode cX8_gainOf 40 = .ok (.lload 7, 2) := by decide +kernel
theorem dX8_gainOf_42 : decode cX8_gainOf 42 = .ok (.lload 5, 2) := by decide +kernel
theorem dX8_gainOf_44 : decode cX8_gainOf 44 = .ok (.lmul, 1) := by decide +kernel
theorem dX8_gainOf_45 : decode cX8_gainOf 45 = .ok (.lload 9, 2) := by decide +kernel
theorem dX8_gainOf_47 : decode cX8_gainOf 47 = .ok (.lload_n 3, 1) := by decide +kernel
theorem dX8_gainOf_48 : decode cX8_gainOf 48 = .ok (.lmul, 1) := by decide +kernel
theorem dX8_gainOf_49 : decode cX8_gainOf 49 = .ok (.lsub, 1) := by decide +kernel
theorem dX8_gainOf_50 : decode cX8_gainOf 50 = .ok (.lload_n 3, 1) := by decide +kernel
theorem dX8_gainOf_51 : decode cX8_gainOf 51 = .ok (.lload 5, 2) := by decide +kernel
theorem dX8_gainOf_53 : decode cX8_gainOf 53 = .ok (.lmul, 1) := by decide +kernel
theorem dX8_gainOf_54 : decode cX8_gainOf 54 = .ok (.invokevirtual 42, 3) := by decide +kernel
theorem dX8_gainOf_57 : decode cX8_gainOf 57 = .ok (.return_, 1) := by decide +kernel
theorem dX8_chanceOf_0 : decode cX8_chanceOf 0 = .ok (.iload_n 1, 1) := by decide +kernel
theorem dX8_chanceOf_1 : decode cX8_chanceOf 1 = .ok (.invokestatic 35, 3) := by decide +kernel
theorem dX8_chanceOf_4 : decode cX8_chanceOf 4 = .ok (.istore_n 3, 1) := by decide +kernel
theorem dX8_chanceOf_5 : decode cX8_chanceOf 5 = .ok (.aload_n 0, 1) := by decide +kernel
theorem dX8_chanceOf_6 : decode cX8_chanceOf 6 = .ok (.getfield 16, 3) := by decide +kernel
theorem dX8_chanceOf_9 : decode cX8_chanceOf 9 = .ok (.iload_n 3, 1) := by decide +kernel
theorem dX8_chanceOf_10 : decode cX8_chanceOf 10 = .ok (.invokestatic 48, 3) := by decide +kernel
theorem dX8_chanceOf_13 : decode cX8_chanceOf 13 = .ok (.istore 4, 2) := by decide +kernel
theorem dX8_chanceOf_15 : decode cX8_chanceOf 15 = .ok (.aload_n 0, 1) := by decide +kernel
theorem dX8_chanceOf_16 : decode cX8_chanceOf 16 = .ok (.iload_n 1, 1) := by decide +kernel
theorem dX8_chanceOf_17 : decode cX8_chanceOf 17 = .ok (.invokevirtual 38, 3) := by decide +kernel
theorem dX8_chanceOf_20 : decode cX8_chanceOf 20 = .ok (.lstore 5, 2) := by decide +kernel
theorem dX8_chanceOf_22 : decode cX8_chanceOf 22 = .ok (.iconst 0, 1) := by decide +kernel
theorem dX8_chanceOf_23 : decode cX8_chanceOf 23 = .ok (.istore 7, 2) := by decide +kernel
theorem dX8_chanceOf_25 : decode cX8_chanceOf 25 = .ok (.iconst 1, 1) := by decide +kernel
theorem dX8_chanceOf_26 : decode cX8_chanceOf 26 = .ok (.iload_n 3, 1) := by decide +kernel
theorem dX8_chanceOf_27 : decode cX8_chanceOf 27 = .ok (.ishl, 1) := by decide +kernel
theorem dX8_chanceOf_28 : decode cX8_chanceOf 28 = .ok (.iconst 1, 1) := by decide +kernel
theorem dX8_chanceOf_29 : decode cX8_chanceOf 29 = .ok (.isub, 1) := by decide +kernel
theorem dX8_chanceOf_30 : decode cX8_chanceOf 30 = .ok (.istore 8, 2) := by decide +kernel
theorem dX8_chanceOf_32 : decode cX8_chanceOf 32 = .ok (.iconst 0, 1) := by decide +kernel
theorem dX8_chanceOf_33 : decode cX8_chanceOf 33 = .ok (.istore 9, 2) := by decide +kernel
theorem dX8_chanceOf_35 : decode cX8_chanceOf 35 = .ok (.iload 9, 2) := by decide +kernel
theorem dX8_chanceOf_37 : decode cX8_chanceOf 37 = .ok (.iload 4, 2) := by decide +kernel
theorem dX8_chanceOf_39 : decode cX8_chanceOf 39 = .ok (.if_icmp .ge 31, 3) := by decide +kernel
theorem dX8_chanceOf_42 : decode cX8_chanceOf 42 = .ok (.aload_n 0, 1) := by decide +kernel
theorem dX8_chanceOf_43 : decode cX8_chanceOf 43 = .ok (.iload 8, 2) := by decide +kernel
theorem dX8_chanceOf_45 : decode cX8_chanceOf 45 = .ok (.invokevirtual 38, 3) := by decide +kernel
theorem dX8_chanceOf_48 : decode cX8_chanceOf 48 = .ok (.lload 5, 2) := by decide +kernel
theorem dX8_chanceOf_50 : decode cX8_chanceOf 50 = .ok (.lcmp, 1) := by decide +kernel
theorem dX8_chanceOf_51 : decode cX8_chanceOf 51 = .ok (.ifCond .lt 6, 3) := by decide +kernel
theorem dX8_chanceOf_54 : decode cX8_chanceOf 54 = .ok (.iinc 7 1, 3) := by decide +kernel
theorem dX8_chanceOf_57 : decode cX8_chanceOf 57 = .ok (.iload 8, 2) := by decide +kernel
theorem dX8_chanceOf_59 : decode cX8_chanceOf 59 = .ok (.invokestatic 52, 3) := by decide +kernel
theorem dX8_chanceOf_62 : decode cX8_chanceOf 62 = .ok (.istore 8, 2) := by decide +kernel
theorem dX8_chanceOf_64 : decode cX8_chanceOf 64 = .ok (.iinc 9 1, 3) := by decide +kernel
theorem dX8_chanceOf_67 : decode cX8_chanceOf 67 = .ok (.goto (-32), 3) := by decide +kernel
theorem dX8_chanceOf_70 : decode cX8_chanceOf 70 = .ok (.aload_n 2, 1) := by decide +kernel
theorem dX8_chanceOf_71 : decode cX8_chanceOf 71 = .ok (.iload 7, 2) := by decide +kernel
theorem dX8_chanceOf_73 : decode cX8_chanceOf 73 = .ok (.i2l, 1) := by decide +kernel
theorem dX8_chanceOf_74 : decode cX8_chanceOf 74 = .ok (.iload 4, 2) := by decide +kernel
theorem dX8_chanceOf_76 : decode cX8_chanceOf 76 = .ok (.i2l, 1) := by decide +kernel
theorem dX8_chanceOf_77 : decode cX8_chanceOf 77 = .ok (.invokevirtual 42, 3) := by decide +kernel
theorem dX8_chanceOf_80 : decode cX8_chanceOf 80 = .ok (.return_, 1) := by decide +kernel
theorem dX8_countSets_0 : decode cX8_countSets 0 = .ok (.iconst 1, 1) := by decide +kernel
theorem dX8_countSets_1 : decode cX8_countSets 1 = .ok (.istore_n 2, 1) := by decide +kernel
theorem dX8_countSets_2 : decode cX8_countSets 2 = .ok (.iconst 1, 1) := by decide +kernel
theorem dX8_countSets_3 : decode cX8_countSets 3 = .ok (.istore_n 3, 1) := by decide +kernel
theorem dX8_countSets_4 : decode cX8_countSets 4 = .ok (.iload_n 3, 1) := by decide +kernel
theorem dX8_countSets_5 : decode cX8_countSets 5 = .ok (.iload_n 1, 1) := by decide +kernel
theorem dX8_countSets_6 : decode cX8_countSets 6 = .ok (.if_icmp .gt 19, 3) := by decide +kernel
theorem dX8_countSets_9 : decode cX8_countSets 9 = .ok (.iload_n 2, 1) := by decide +kernel
theorem dX8_countSets_10 : decode cX8_countSets 10 = .ok (.iload_n 0, 1) := by decide +kernel
theorem dX8_countSets_11 : decode cX8_countSets 11 = .ok (.iload_n 1, 1) := by decide +kernel
theorem dX8_countSets_12 : decode cX8_countSets 12 = .ok (.isub, 1) := by decide +kernel
theorem dX8_countSets_13 : decode cX8_countSets 13 = .ok (.iload_n 3, 1) := by decide +kernel
theorem dX8_countSets_14 : decode cX8_countSets 14 = .ok (.iadd, 1) := by decide +kernel
theorem dX8_countSets_15 : decode cX8_countSets 15 = .ok (.imul, 1) := by decide +kernel
theorem dX8_countSets_16 : decode cX8_countSets 16 = .ok (.iload_n 3, 1) := by decide +kernel
theorem dX8_countSets_17 : decode cX8_countSets 17 = .ok (.idiv, 1) := by decide +kernel
theorem dX8_countSets_18 : decode cX8_countSets 18 = .ok (.istore_n 2, 1) := by decide +kernel
theorem dX8_countSets_19 : decode cX8_countSets 19 = .ok (.iinc 3 1, 3) := by decide +kernel
theorem dX8_countSets_22 : decode cX8_countSets 22 = .ok (.goto (-18), 3) := by decide +kernel
theorem dX8_countSets_25 : decode cX8_countSets 25 = .ok (.iload_n 2, 1) := by decide +kernel
theorem dX8_countSets_26 : decode cX8_countSets 26 = .ok (.ireturn, 1) := by decide +kernel
theorem dX8_nextOfSameSize_0 : decode cX8_nextOfSameSize 0 = .ok (.iload_n 0, 1) := by decide +kernel
theorem dX8_nextOfSameSize_1 : decode cX8_nextOfSameSize 1 = .ok (.iload_n 0, 1) := by decide +kernel
theorem dX8_nextOfSameSize_2 : decode cX8_nextOfSameSize 2 = .ok (.ineg, 1) := by decide +kernel
theorem dX8_nextOfSameSize_3 : decode cX8_nextOfSameSize 3 = .ok (.iand, 1) := by decide +kernel
theorem dX8_nextOfSameSize_4 : decode cX8_nextOfSameSize 4 = .ok (.istore_n 1, 1) := by decide +kernel
theorem dX8_nextOfSameSize_5 : decode cX8_nextOfSameSize 5 = .ok (.iload_n 0, 1) := by decide +kernel
theorem dX8_nextOfSameSize_6 : decode cX8_nextOfSameSize 6 = .ok (.iload_n 1, 1) := by decide +kernel
theorem dX8_nextOfSameSize_7 : decode cX8_nextOfSameSize 7 = .ok (.iadd, 1) := by decide +kernel
theorem dX8_nextOfSameSize_8 : decode cX8_nextOfSameSize 8 = .ok (.istore_n 2, 1) := by decide +kernel
theorem dX8_nextOfSameSize_9 : decode cX8_nextOfSameSize 9 = .ok (.iload_n 0, 1) := by decide +kernel
theorem dX8_nextOfSameSize_10 : decode cX8_nextOfSameSize 10 = .ok (.iload_n 2, 1) := by decide +kernel
theorem dX8_nextOfSameSize_11 : decode cX8_nextOfSameSize 11 = .ok (.ixor, 1) := by decide +kernel
theorem dX8_nextOfSameSize_12 : decode cX8_nextOfSameSize 12 = .ok (.iconst 2, 1) := by decide +kernel
theorem dX8_nextOfSameSize_13 : decode cX8_nextOfSameSize 13 = .ok (.iushr, 1) := by decide +kernel
theorem dX8_nextOfSameSize_14 : decode cX8_nextOfSameSize 14 = .ok (.istore_n 3, 1) := by decide +kernel
theorem dX8_nextOfSameSize_15 : decode cX8_nextOfSameSize 15 = .ok (.iload_n 2, 1) := by decide +kernel
theorem dX8_nextOfSameSize_16 : decode cX8_nextOfSameSize 16 = .ok (.iload_n 3, 1) := by decide +kernel
theorem dX8_nextOfSameSize_17 : decode cX8_nextOfSameSize 17 = .ok (.iload_n 1, 1) := by decide +kernel
theorem dX8_nextOfSameSize_18 : decode cX8_nextOfSameSize 18 = .ok (.invokestatic 24, 3) := by decide +kernel
theorem dX8_nextOfSameSize_21 : decode cX8_nextOfSameSize 21 = .ok (.iushr, 1) := by decide +kernel
theorem dX8_nextOfSameSize_22 : decode cX8_nextOfSameSize 22 = .ok (.ior, 1) := by decide +kernel
theorem dX8_nextOfSameSize_23 : decode cX8_nextOfSameSize 23 = .ok (.ireturn, 1) := by decide +kernel
theorem dX8_drawnSet_0 : decode cX8_drawnSet 0 = .ok (.iload_n 2, 1) := by decide +kernel
theorem dX8_drawnSet_1 : decode cX8_drawnSet 1 = .ok (.i2l, 1) := by decide +kernel
theorem dX8_drawnSet_2 : decode cX8_drawnSet 2 = .ok (.lstore_n 3, 1) := by decide +kernel
theorem dX8_drawnSet_3 : decode cX8_drawnSet 3 = .ok (.iload_n 1, 1) := by decide +kernel
theorem dX8_drawnSet_4 : decode cX8_drawnSet 4 = .ok (.istore 5, 2) := by decide +kernel
theorem dX8_drawnSet_6 : decode cX8_drawnSet 6 = .ok (.iconst 0, 1) := by decide +kernel
theorem dX8_drawnSet_7 : decode cX8_drawnSet 7 = .ok (.istore 6, 2) := by decide +kernel
theorem dX8_drawnSet_9 : decode cX8_drawnSet 9 = .ok (.iconst 0, 1) := by decide +kernel
theorem dX8_drawnSet_10 : decode cX8_drawnSet 10 = .ok (.istore 7, 2) := by decide +kernel
theorem dX8_drawnSet_12 : decode cX8_drawnSet 12 = .ok (.iload 7, 2) := by decide +kernel
theorem dX8_drawnSet_14 : decode cX8_drawnSet 14 = .ok (.iload_n 0, 1) := by decide +kernel
theorem dX8_drawnSet_15 : decode cX8_drawnSet 15 = .ok (.if_icmp .ge 52, 3) := by decide +kernel
theorem dX8_drawnSet_18 : decode cX8_drawnSet 18 = .ok (.ldc2_w 55, 3) := by decide +kernel
theorem dX8_drawnSet_21 : decode cX8_drawnSet 21 = .ok (.lload_n 3, 1) := by decide +kernel
theorem dX8_drawnSet_22 : decode cX8_drawnSet 22 = .ok (.lmul, 1) := by decide +kernel
theorem dX8_drawnSet_23 : decode cX8_drawnSet 23 = .ok (.ldc2_w 57, 3) := by decide +kernel
theorem dX8_drawnSet_26 : decode cX8_drawnSet 26 = .ok (.ladd, 1) := by decide +kernel
theorem dX8_drawnSet_27 : decode cX8_drawnSet 27 = .ok (.ldc2_w 59, 3) := by decide +kernel
theorem dX8_drawnSet_30 : decode cX8_drawnSet 30 = .ok (.land, 1) := by decide +kernel
theorem dX8_drawnSet_31 : decode cX8_drawnSet 31 = .ok (.lstore_n 3, 1) := by decide +kernel
theorem dX8_drawnSet_32 : decode cX8_drawnSet 32 = .ok (.lload_n 3, 1) := by decide +kernel
theorem dX8_drawnSet_33 : decode cX8_drawnSet 33 = .ok (.bipush 16, 2) := by decide +kernel
theorem dX8_drawnSet_35 : decode cX8_drawnSet 35 = .ok (.lshr, 1) := by decide +kernel
theorem dX8_drawnSet_36 : decode cX8_drawnSet 36 = .ok (.iload_n 0, 1) := by decide +kernel
theorem dX8_drawnSet_37 : decode cX8_drawnSet 37 = .ok (.iload 7, 2) := by decide +kernel
theorem dX8_drawnSet_39 : decode cX8_drawnSet 39 = .ok (.isub, 1) := by decide +kernel
theorem dX8_drawnSet_40 : decode cX8_drawnSet 40 = .ok (.i2l, 1) := by decide +kernel
theorem dX8_drawnSet_41 : decode cX8_drawnSet 41 = .ok (.lrem, 1) := by decide +kernel
theorem dX8_drawnSet_42 : decode cX8_drawnSet 42 = .ok (.iload 5, 2) := by decide +kernel
theorem dX8_drawnSet_44 : decode cX8_drawnSet 44 = .ok (.i2l, 1) := by decide +kernel
theorem dX8_drawnSet_45 : decode cX8_drawnSet 45 = .ok (.lcmp, 1) := by decide +kernel
theorem dX8_drawnSet_46 : decode cX8_drawnSet 46 = .ok (.ifCond .ge 15, 3) := by decide +kernel
theorem dX8_drawnSet_49 : decode cX8_drawnSet 49 = .ok (.iload 6, 2) := by decide +kernel
theorem dX8_drawnSet_51 : decode cX8_drawnSet 51 = .ok (.iconst 1, 1) := by decide +kernel
theorem dX8_drawnSet_52 : decode cX8_drawnSet 52 = .ok (.iload 7, 2) := by decide +kernel
theorem dX8_drawnSet_54 : decode cX8_drawnSet 54 = .ok (.ishl, 1) := by decide +kernel
theorem dX8_drawnSet_55 : decode cX8_drawnSet 55 = .ok (.ior, 1) := by decide +kernel
theorem dX8_drawnSet_56 : decode cX8_drawnSet 56 = .ok (.istore 6, 2) := by decide +kernel
theorem dX8_drawnSet_58 : decode cX8_drawnSet 58 = .ok (.iinc 5 (-1), 3) := by decide +kernel
theorem dX8_drawnSet_61 : decode cX8_drawnSet 61 = .ok (.iinc 7 1, 3) := by decide +kernel
theorem dX8_drawnSet_64 : decode cX8_drawnSet 64 = .ok (.goto (-52), 3) := by decide +kernel
theorem dX8_drawnSet_67 : decode cX8_drawnSet 67 = .ok (.iload 6, 2) := by decide +kernel
theorem dX8_drawnSet_69 : decode cX8_drawnSet 69 = .ok (.ireturn, 1) := by decide +kernel
theorem dJ6_numberOfTrailingZeros_0f7a4_0 : decode cJ6_numberOfTrailingZeros_0f7a4 0 = .ok (.iload_n 0, 1) := by decide +kernel
theorem dJ6_numberOfTrailingZeros_0f7a4_1 : decode cJ6_numberOfTrailingZeros_0f7a4 1 = .ok (.iconst (-1), 1) := by decide +kernel
theorem dJ6_numberOfTrailingZeros_0f7a4_2 : decode cJ6_numberOfTrailingZeros_0f7a4 2 = .ok (.ixor, 1) := by decide +kernel
theorem dJ6_numberOfTrailingZeros_0f7a4_3 : decode cJ6_numberOfTrailingZeros_0f7a4 3 = .ok (.iload_n 0, 1) := by decide +kernel
theorem dJ6_numberOfTrailingZeros_0f7a4_4 : decode cJ6_numberOfTrailingZeros_0f7a4 4 = .ok (.iconst 1, 1) := by decide +kernel
theorem dJ6_numberOfTrailingZeros_0f7a4_5 : decode cJ6_numberOfTrailingZeros_0f7a4 5 = .ok (.isub, 1) := by decide +kernel
theorem dJ6_numberOfTrailingZeros_0f7a4_6 : decode cJ6_numberOfTrailingZeros_0f7a4 6 = .ok (.iand, 1) := by decide +kernel
theorem dJ6_numberOfTrailingZeros_0f7a4_7 : decode cJ6_numberOfTrailingZeros_0f7a4 7 = .ok (.istore_n 0, 1) := by decide +kernel
theorem dJ6_numberOfTrailingZeros_0f7a4_8 : decode cJ6_numberOfTrailingZeros_0f7a4 8 = .ok (.iload_n 0, 1) := by decide +kernel
theorem dJ6_numberOfTrailingZeros_0f7a4_9 : decode cJ6_numberOfTrailingZeros_0f7a4 9 = .ok (.ifCond .gt 8, 3) := by decide +kernel
theorem dJ6_numberOfTrailingZeros_0f7a4_12 : decode cJ6_numberOfTrailingZeros_0f7a4 12 = .ok (.iload_n 0, 1) := by decide +kernel
theorem dJ6_numberOfTrailingZeros_0f7a4_13 : decode cJ6_numberOfTrailingZeros_0f7a4 13 = .ok (.bipush 32, 2) := by decide +kernel
theorem dJ6_numberOfTrailingZeros_0f7a4_15 : decode cJ6_numberOfTrailingZeros_0f7a4 15 = .ok (.iand, 1) := by decide +kernel
theorem dJ6_numberOfTrailingZeros_0f7a4_16 : decode cJ6_numberOfTrailingZeros_0f7a4 16 = .ok (.ireturn, 1) := by decide +kernel
theorem dJ6_numberOfTrailingZeros_0f7a4_17 : decode cJ6_numberOfTrailingZeros_0f7a4 17 = .ok (.iconst 1, 1) := by decide +kernel
theorem dJ6_numberOfTrailingZeros_0f7a4_18 : decode cJ6_numberOfTrailingZeros_0f7a4 18 = .ok (.istore_n 1, 1) := by decide +kernel
theorem dJ6_numberOfTrailingZeros_0f7a4_19 : decode cJ6_numberOfTrailingZeros_0f7a4 19 = .ok (.iload_n 0, 1) := by decide +kernel
theorem dJ6_numberOfTrailingZeros_0f7a4_20 : decode cJ6_numberOfTrailingZeros_0f7a4 20 = .ok (.ldc_w 264, 3) := by decide +kernel
theorem dJ6_numberOfTrailingZeros_0f7a4_23 : decode cJ6_numberOfTrailingZeros_0f7a4 23 = .ok (.if_icmp .le 11, 3) := by decide +kernel
theorem dJ6_numberOfTrailingZeros_0f7a4_26 : decode cJ6_numberOfTrailingZeros_0f7a4 26 = .ok (.iinc 1 16, 3) := by decide +kernel
theorem dJ6_numberOfTrailingZeros_0f7a4_29 : decode cJ6_numberOfTrailingZeros_0f7a4 29 = .ok (.iload_n 0, 1) := by decide +kernel
theorem dJ6_numberOfTrailingZeros_0f7a4_30 : decode cJ6_numberOfTrailingZeros_0f7a4 30 = .ok (.bipush 16, 2) := by decide +kernel
theorem dJ6_numberOfTrailingZeros_0f7a4_32 : decode cJ6_numberOfTrailingZeros_0f7a4 32 = .ok (.iushr, 1) := by decide +kernel
theorem dJ6_numberOfTrailingZeros_0f7a4_33 : decode cJ6_numberOfTrailingZeros_0f7a4 33 = .ok (.istore_n 0, 1) := by decide +kernel
theorem dJ6_numberOfTrailingZeros_0f7a4_34 : decode cJ6_numberOfTrailingZeros_0f7a4 34 = .ok (.iload_n 0, 1) := by decide +kernel
theorem dJ6_numberOfTrailingZeros_0f7a4_35 : decode cJ6_numberOfTrailingZeros_0f7a4 35 = .ok (.sipush 256, 3) := by decide +kernel
theorem dJ6_numberOfTrailingZeros_0f7a4_38 : decode cJ6_numberOfTrailingZeros_0f7a4 38 = .ok (.if_icmp .le 11, 3) := by decide +kernel
theorem dJ6_numberOfTrailingZeros_0f7a4_41 : decode cJ6_numberOfTrailingZeros_0f7a4 41 = .ok (.iinc 1 8, 3) := by decide +kernel
theorem dJ6_numberOfTrailingZeros_0f7a4_44 : decode cJ6_numberOfTrailingZeros_0f7a4 44 = .ok (.iload_n 0, 1) := by decide +kernel
theorem dJ6_numberOfTrailingZeros_0f7a4_45 : decode cJ6_numberOfTrailingZeros_0f7a4 45 = .ok (.bipush 8, 2) := by decide +kernel
theorem dJ6_numberOfTrailingZeros_0f7a4_47 : decode cJ6_numberOfTrailingZeros_0f7a4 47 = .ok (.iushr, 1) := by decide +kernel
theorem dJ6_numberOfTrailingZeros_0f7a4_48 : decode cJ6_numberOfTrailingZeros_0f7a4 48 = .ok (.istore_n 0, 1) := by decide +kernel
theorem dJ6_numberOfTrailingZeros_0f7a4_49 : decode cJ6_numberOfTrailingZeros_0f7a4 49 = .ok (.iload_n 0, 1) := by decide +kernel
theorem dJ6_numberOfTrailingZeros_0f7a4_50 : decode cJ6_numberOfTrailingZeros_0f7a4 50 = .ok (.bipush 16, 2) := by decide +kernel
theorem dJ6_numberOfTrailingZeros_0f7a4_52 : decode cJ6_numberOfTrailingZeros_0f7a4 52 = .ok (.if_icmp .le 10, 3) := by decide +kernel
theorem dJ6_numberOfTrailingZeros_0f7a4_55 : decode cJ6_numberOfTrailingZeros_0f7a4 55 = .ok (.iinc 1 4, 3) := by decide +kernel
theorem dJ6_numberOfTrailingZeros_0f7a4_58 : decode cJ6_numberOfTrailingZeros_0f7a4 58 = .ok (.iload_n 0, 1) := by decide +kernel
theorem dJ6_numberOfTrailingZeros_0f7a4_59 : decode cJ6_numberOfTrailingZeros_0f7a4 59 = .ok (.iconst 4, 1) := by decide +kernel
theorem dJ6_numberOfTrailingZeros_0f7a4_60 : decode cJ6_numberOfTrailingZeros_0f7a4 60 = .ok (.iushr, 1) := by decide +kernel
theorem dJ6_numberOfTrailingZeros_0f7a4_61 : decode cJ6_numberOfTrailingZeros_0f7a4 61 = .ok (.istore_n 0, 1) := by decide +kernel
theorem dJ6_numberOfTrailingZeros_0f7a4_62 : decode cJ6_numberOfTrailingZeros_0f7a4 62 = .ok (.iload_n 0, 1) := by decide +kernel
theorem dJ6_numberOfTrailingZeros_0f7a4_63 : decode cJ6_numberOfTrailingZeros_0f7a4 63 = .ok (.iconst 4, 1) := by decide +kernel
theorem dJ6_numberOfTrailingZeros_0f7a4_64 : decode cJ6_numberOfTrailingZeros_0f7a4 64 = .ok (.if_icmp .le 10, 3) := by decide +kernel
theorem dJ6_numberOfTrailingZeros_0f7a4_67 : decode cJ6_numberOfTrailingZeros_0f7a4 67 = .ok (.iinc 1 2, 3) := by decide +kernel
theorem dJ6_numberOfTrailingZeros_0f7a4_70 : decode cJ6_numberOfTrailingZeros_0f7a4 70 = .ok (.iload_n 0, 1) := by decide +kernel
theorem dJ6_numberOfTrailingZeros_0f7a4_71 : decode cJ6_numberOfTrailingZeros_0f7a4 71 = .ok (.iconst 2, 1) := by decide +kernel
theorem dJ6_numberOfTrailingZeros_0f7a4_72 : decode cJ6_numberOfTrailingZeros_0f7a4 72 = .ok (.iushr, 1) := by decide +kernel
theorem dJ6_numberOfTrailingZeros_0f7a4_73 : decode cJ6_numberOfTrailingZeros_0f7a4 73 = .ok (.istore_n 0, 1) := by decide +kernel
theorem dJ6_numberOfTrailingZeros_0f7a4_74 : decode cJ6_numberOfTrailingZeros_0f7a4 74 = .ok (.iload_n 1, 1) := by decide +kernel
theorem dJ6_numberOfTrailingZeros_0f7a4_75 : decode cJ6_numberOfTrailingZeros_0f7a4 75 = .ok (.iload_n 0, 1) := by decide +kernel
theorem dJ6_numberOfTrailingZeros_0f7a4_76 : decode cJ6_numberOfTrailingZeros_0f7a4 76 = .ok (.iconst 1, 1) := by decide +kernel
theorem dJ6_numberOfTrailingZeros_0f7a4_77 : decode cJ6_numberOfTrailingZeros_0f7a4 77 = .ok (.iushr, 1) := by decide +kernel
theorem dJ6_numberOfTrailingZeros_0f7a4_78 : decode cJ6_numberOfTrailingZeros_0f7a4 78 = .ok (.iadd, 1) := by decide +kernel
theorem dJ6_numberOfTrailingZeros_0f7a4_79 : decode cJ6_numberOfTrailingZeros_0f7a4 79 = .ok (.ireturn, 1) := by decide +kernel
theorem dJ6_bitCount_0f7a4_0 : decode cJ6_bitCount_0f7a4 0 = .ok (.iload_n 0, 1) := by decide +kernel
theorem dJ6_bitCount_0f7a4_1 : decode cJ6_bitCount_0f7a4 1 = .ok (.iload_n 0, 1) := by decide +kernel
theorem dJ6_bitCount_0f7a4_2 : decode cJ6_bitCount_0f7a4 2 = .ok (.iconst 1, 1) := by decide +kernel
theorem dJ6_bitCount_0f7a4_3 : decode cJ6_bitCount_0f7a4 3 = .ok (.iushr, 1) := by decide +kernel
theorem dJ6_bitCount_0f7a4_4 : decode cJ6_bitCount_0f7a4 4 = .ok (.ldc_w 265, 3) := by decide +kernel
theorem dJ6_bitCount_0f7a4_7 : decode cJ6_bitCount_0f7a4 7 = .ok (.iand, 1) := by decide +kernel
theorem dJ6_bitCount_0f7a4_8 : decode cJ6_bitCount_0f7a4 8 = .ok (.isub, 1) := by decide +kernel
theorem dJ6_bitCount_0f7a4_9 : decode cJ6_bitCount_0f7a4 9 = .ok (.istore_n 0, 1) := by decide +kernel
theorem dJ6_bitCount_0f7a4_10 : decode cJ6_bitCount_0f7a4 10 = .ok (.iload_n 0, 1) := by decide +kernel
theorem dJ6_bitCount_0f7a4_11 : decode cJ6_bitCount_0f7a4 11 = .ok (.ldc_w 266, 3) := by decide +kernel
theorem dJ6_bitCount_0f7a4_14 : decode cJ6_bitCount_0f7a4 14 = .ok (.iand, 1) := by decide +kernel
theorem dJ6_bitCount_0f7a4_15 : decode cJ6_bitCount_0f7a4 15 = .ok (.iload_n 0, 1) := by decide +kernel
theorem dJ6_bitCount_0f7a4_16 : decode cJ6_bitCount_0f7a4 16 = .ok (.iconst 2, 1) := by decide +kernel
theorem dJ6_bitCount_0f7a4_17 : decode cJ6_bitCount_0f7a4 17 = .ok (.iushr, 1) := by decide +kernel
theorem dJ6_bitCount_0f7a4_18 : decode cJ6_bitCount_0f7a4 18 = .ok (.ldc_w 266, 3) := by decide +kernel
theorem dJ6_bitCount_0f7a4_21 : decode cJ6_bitCount_0f7a4 21 = .ok (.iand, 1) := by decide +kernel
theorem dJ6_bitCount_0f7a4_22 : decode cJ6_bitCount_0f7a4 22 = .ok (.iadd, 1) := by decide +kernel
theorem dJ6_bitCount_0f7a4_23 : decode cJ6_bitCount_0f7a4 23 = .ok (.istore_n 0, 1) := by decide +kernel
theorem dJ6_bitCount_0f7a4_24 : decode cJ6_bitCount_0f7a4 24 = .ok (.iload_n 0, 1) := by decide +kernel
theorem dJ6_bitCount_0f7a4_25 : decode cJ6_bitCount_0f7a4 25 = .ok (.iload_n 0, 1) := by decide +kernel
theorem dJ6_bitCount_0f7a4_26 : decode cJ6_bitCount_0f7a4 26 = .ok (.iconst 4, 1) := by decide +kernel
theorem dJ6_bitCount_0f7a4_27 : decode cJ6_bitCount_0f7a4 27 = .ok (.iushr, 1) := by decide +kernel
theorem dJ6_bitCount_0f7a4_28 : decode cJ6_bitCount_0f7a4 28 = .ok (.iadd, 1) := by decide +kernel
theorem dJ6_bitCount_0f7a4_29 : decode cJ6_bitCount_0f7a4 29 = .ok (.ldc_w 267, 3) := by decide +kernel
theorem dJ6_bitCount_0f7a4_32 : decode cJ6_bitCount_0f7a4 32 = .ok (.iand, 1) := by decide +kernel
theorem dJ6_bitCount_0f7a4_33 : decode cJ6_bitCount_0f7a4 33 = .ok (.istore_n 0, 1) := by decide +kernel
theorem dJ6_bitCount_0f7a4_34 : decode cJ6_bitCount_0f7a4 34 = .ok (.iload_n 0, 1) := by decide +kernel
theorem dJ6_bitCount_0f7a4_35 : decode cJ6_bitCount_0f7a4 35 = .ok (.iload_n 0, 1) := by decide +kernel
theorem dJ6_bitCount_0f7a4_36 : decode cJ6_bitCount_0f7a4 36 = .ok (.bipush 8, 2) := by decide +kernel
theorem dJ6_bitCount_0f7a4_38 : decode cJ6_bitCount_0f7a4 38 = .ok (.iushr, 1) := by decide +kernel
theorem dJ6_bitCount_0f7a4_39 : decode cJ6_bitCount_0f7a4 39 = .ok (.iadd, 1) := by decide +kernel
theorem dJ6_bitCount_0f7a4_40 : decode cJ6_bitCount_0f7a4 40 = .ok (.istore_n 0, 1) := by decide +kernel
theorem dJ6_bitCount_0f7a4_41 : decode cJ6_bitCount_0f7a4 41 = .ok (.iload_n 0, 1) := by decide +kernel
theorem dJ6_bitCount_0f7a4_42 : decode cJ6_bitCount_0f7a4 42 = .ok (.iload_n 0, 1) := by decide +kernel
theorem dJ6_bitCount_0f7a4_43 : decode cJ6_bitCount_0f7a4 43 = .ok (.bipush 16, 2) := by decide +kernel
theorem dJ6_bitCount_0f7a4_45 : decode cJ6_bitCount_0f7a4 45 = .ok (.iushr, 1) := by decide +kernel
theorem dJ6_bitCount_0f7a4_46 : decode cJ6_bitCount_0f7a4 46 = .ok (.iadd, 1) := by decide +kernel
theorem dJ6_bitCount_0f7a4_47 : decode cJ6_bitCount_0f7a4 47 = .ok (.istore_n 0, 1) := by decide +kernel
theorem dJ6_bitCount_0f7a4_48 : decode cJ6_bitCount_0f7a4 48 = .ok (.iload_n 0, 1) := by decide +kernel
theorem dJ6_bitCount_0f7a4_49 : decode cJ6_bitCount_0f7a4 49 = .ok (.bipush 63, 2) := by decide +kernel
theorem dJ6_bitCount_0f7a4_51 : decode cJ6_bitCount_0f7a4 51 = .ok (.iand, 1) := by decide +kernel
theorem dJ6_bitCount_0f7a4_52 : decode cJ6_bitCount_0f7a4 52 = .ok (.ireturn, 1) := by decide +kernel
theorem dJ9_abs_067f4_0 : decode cJ9_abs_067f4 0 = .ok (.lload_n 0, 1) := by decide +kernel
theorem dJ9_abs_067f4_1 : decode cJ9_abs_067f4 1 = .ok (.lconst 0, 1) := by decide +kernel
theorem dJ9_abs_067f4_2 : decode cJ9_abs_067f4 2 = .ok (.lcmp, 1) := by decide +kernel
theorem dJ9_abs_067f4_3 : decode cJ9_abs_067f4 3 = .ok (.ifCond .ge 8, 3) := by decide +kernel
theorem dJ9_abs_067f4_6 : decode cJ9_abs_067f4 6 = .ok (.lload_n 0, 1) := by decide +kernel
theorem dJ9_abs_067f4_7 : decode cJ9_abs_067f4 7 = .ok (.lneg, 1) := by decide +kernel
theorem dJ9_abs_067f4_8 : decode cJ9_abs_067f4 8 = .ok (.goto 4, 3) := by decide +kernel
theorem dJ9_abs_067f4_11 : decode cJ9_abs_067f4 11 = .ok (.lload_n 0, 1) := by decide +kernel
theorem dJ9_abs_067f4_12 : decode cJ9_abs_067f4 12 = .ok (.lreturn, 1) := by decide +kernel
theorem dJ7_fill_d0a16_0 : decode cJ7_fill_d0a16 0 = .ok (.iconst 0, 1) := by decide +kernel
theorem dJ7_fill_d0a16_1 : decode cJ7_fill_d0a16 1 = .ok (.istore_n 3, 1) := by decide +kernel
theorem dJ7_fill_d0a16_2 : decode cJ7_fill_d0a16 2 = .ok (.aload_n 0, 1) := by decide +kernel
theorem dJ7_fill_d0a16_3 : decode cJ7_fill_d0a16 3 = .ok (.arraylength, 1) := by decide +kernel
theorem dJ7_fill_d0a16_4 : decode cJ7_fill_d0a16 4 = .ok (.istore 4, 2) := by decide +kernel
theorem dJ7_fill_d0a16_6 : decode cJ7_fill_d0a16 6 = .ok (.iload_n 3, 1) := by decide +kernel
theorem dJ7_fill_d0a16_7 : decode cJ7_fill_d0a16 7 = .ok (.iload 4, 2) := by decide +kernel
theorem dJ7_fill_d0a16_9 : decode cJ7_fill_d0a16 9 = .ok (.if_icmp .ge 13, 3) := by decide +kernel
theorem dJ7_fill_d0a16_12 : decode cJ7_fill_d0a16 12 = .ok (.aload_n 0, 1) := by decide +kernel
theorem dJ7_fill_d0a16_13 : decode cJ7_fill_d0a16 13 = .ok (.iload_n 3, 1) := by decide +kernel
theorem dJ7_fill_d0a16_14 : decode cJ7_fill_d0a16 14 = .ok (.lload_n 1, 1) := by decide +kernel
theorem dJ7_fill_d0a16_15 : decode cJ7_fill_d0a16 15 = .ok (.lastore, 1) := by decide +kernel
theorem dJ7_fill_d0a16_16 : decode cJ7_fill_d0a16 16 = .ok (.iinc 3 1, 3) := by decide +kernel
theorem dJ7_fill_d0a16_19 : decode cJ7_fill_d0a16 19 = .ok (.goto (-13), 3) := by decide +kernel
theorem dJ7_fill_d0a16_22 : decode cJ7_fill_d0a16 22 = .ok (.return_, 1) := by decide +kernel
theorem dJ7_fill_53178_0 : decode cJ7_fill_53178 0 = .ok (.iconst 0, 1) := by decide +kernel
theorem dJ7_fill_53178_1 : decode cJ7_fill_53178 1 = .ok (.istore_n 2, 1) := by decide +kernel
theorem dJ7_fill_53178_2 : decode cJ7_fill_53178 2 = .ok (.aload_n 0, 1) := by decide +kernel
theorem dJ7_fill_53178_3 : decode cJ7_fill_53178 3 = .ok (.arraylength, 1) := by decide +kernel
theorem dJ7_fill_53178_4 : decode cJ7_fill_53178 4 = .ok (.istore_n 3, 1) := by decide +kernel
theorem dJ7_fill_53178_5 : decode cJ7_fill_53178 5 = .ok (.iload_n 2, 1) := by decide +kernel
theorem dJ7_fill_53178_6 : decode cJ7_fill_53178 6 = .ok (.iload_n 3, 1) := by decide +kernel
theorem dJ7_fill_53178_7 : decode cJ7_fill_53178 7 = .ok (.if_icmp .ge 13, 3) := by decide +kernel
theorem dJ7_fill_53178_10 : decode cJ7_fill_53178 10 = .ok (.aload_n 0, 1) := by decide +kernel
theorem dJ7_fill_53178_11 : decode cJ7_fill_53178 11 = .ok (.iload_n 2, 1) := by decide +kernel
theorem dJ7_fill_53178_12 : decode cJ7_fill_53178 12 = .ok (.iload_n 1, 1) := by decide +kernel
theorem dJ7_fill_53178_13 : decode cJ7_fill_53178 13 = .ok (.iastore, 1) := by decide +kernel
theorem dJ7_fill_53178_14 : decode cJ7_fill_53178 14 = .ok (.iinc 2 1, 3) := by decide +kernel
theorem dJ7_fill_53178_17 : decode cJ7_fill_53178 17 = .ok (.goto (-12), 3) := by decide +kernel
theorem dJ7_fill_53178_20 : decode cJ7_fill_53178 20 = .ok (.return_, 1) := by decide +kernel
