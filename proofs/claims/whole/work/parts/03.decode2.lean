theorem dX9_init_0 : decode cX9_init 0 = .ok (.aload_n 0, 1) := by decide +kernel
theorem dX9_init_1 : decode cX9_init 1 = .ok (.invokespecial 1, 3) := by decide +kernel
theorem dX9_init_4 : decode cX9_init 4 = .ok (.aload_n 0, 1) := by decide +kernel
theorem dX9_init_5 : decode cX9_init 5 = .ok (.iconst 4, 1) := by decide +kernel
theorem dX9_init_6 : decode cX9_init 6 = .ok (.anewarray 9, 3) := by decide +kernel
theorem dX9_init_9 : decode cX9_init 9 = .ok (.putfield 11, 3) := by decide +kernel
theorem dX9_init_12 : decode cX9_init 12 = .ok (.aload_n 0, 1) := by decide +kernel
theorem dX9_init_13 : decode cX9_init 13 = .ok (.new 15, 3) := by decide +kernel
theorem dX9_init_16 : decode cX9_init 16 = .ok (.dup, 1) := by decide +kernel
theorem dX9_init_17 : decode cX9_init 17 = .ok (.invokespecial 17, 3) := by decide +kernel
theorem dX9_init_20 : decode cX9_init 20 = .ok (.putfield 18, 3) := by decide +kernel
theorem dX9_init_23 : decode cX9_init 23 = .ok (.aload_n 0, 1) := by decide +kernel
theorem dX9_init_24 : decode cX9_init 24 = .ok (.new 22, 3) := by decide +kernel
theorem dX9_init_27 : decode cX9_init 27 = .ok (.dup, 1) := by decide +kernel
theorem dX9_init_28 : decode cX9_init 28 = .ok (.invokespecial 24, 3) := by decide +kernel
theorem dX9_init_31 : decode cX9_init 31 = .ok (.putfield 25, 3) := by decide +kernel
theorem dX9_init_34 : decode cX9_init 34 = .ok (.aload_n 0, 1) := by decide +kernel
theorem dX9_init_35 : decode cX9_init 35 = .ok (.new 29, 3) := by decide +kernel
theorem dX9_init_38 : decode cX9_init 38 = .ok (.dup, 1) := by decide +kernel
theorem dX9_init_39 : decode cX9_init 39 = .ok (.invokespecial 31, 3) := by decide +kernel
theorem dX9_init_42 : decode cX9_init 42 = .ok (.putfield 32, 3) := by decide +kernel
theorem dX9_init_45 : decode cX9_init 45 = .ok (.aload_n 0, 1) := by decide +kernel
theorem dX9_init_46 : decode cX9_init 46 = .ok (.new 36, 3) := by decide +kernel
theorem dX9_init_49 : decode cX9_init 49 = .ok (.dup, 1) := by decide +kernel
theorem dX9_init_50 : decode cX9_init 50 = .ok (.invokespecial 38, 3) := by decide +kernel
theorem dX9_init_53 : decode cX9_init 53 = .ok (.putfield 39, 3) := by decide +kernel
theorem dX9_init_56 : decode cX9_init 56 = .ok (.aload_n 0, 1) := by decide +kernel
theorem dX9_init_57 : decode cX9_init 57 = .ok (.new 43, 3) := by decide +kernel
theorem dX9_init_60 : decode cX9_init 60 = .ok (.dup, 1) := by decide +kernel
theorem dX9_init_61 : decode cX9_init 61 = .ok (.invokespecial 45, 3) := by decide +kernel
theorem dX9_init_64 : decode cX9_init 64 = .ok (.putfield 46, 3) := by decide +kernel
theorem dX9_init_67 : decode cX9_init 67 = .ok (.aload_n 0, 1) := by decide +kernel
theorem dX9_init_68 : decode cX9_init 68 = .ok (.new 50, 3) := by decide +kernel
theorem dX9_init_71 : decode cX9_init 71 = .ok (.dup, 1) := by decide +kernel
theorem dX9_init_72 : decode cX9_init 72 = .ok (.invokespecial 52, 3) := by decide +kernel
theorem dX9_init_75 : decode cX9_init 75 = .ok (.putfield 53, 3) := by decide +kernel
theorem dX9_init_78 : decode cX9_init 78 = .ok (.aload_n 0, 1) := by decide +kernel
theorem dX9_init_79 : decode cX9_init 79 = .ok (.new 57, 3) := by decide +kernel
theorem dX9_init_82 : decode cX9_init 82 = .ok (.dup, 1) := by decide +kernel
theorem dX9_init_83 : decode cX9_init 83 = .ok (.invokespecial 59, 3) := by decide +kernel
theorem dX9_init_86 : decode cX9_init 86 = .ok (.putfield 60, 3) := by decide +kernel
theorem dX9_init_89 : decode cX9_init 89 = .ok (.aload_n 0, 1) := by decide +kernel
theorem dX9_init_90 : decode cX9_init 90 = .ok (.new 64, 3) := by decide +kernel
theorem dX9_init_93 : decode cX9_init 93 = .ok (.dup, 1) := by decide +kernel
theorem dX9_init_94 : decode cX9_init 94 = .ok (.invokespecial 66, 3) := by decide +kernel
theorem dX9_init_97 : decode cX9_init 97 = .ok (.putfield 67, 3) := by decide +kernel
theorem dX9_init_100 : decode cX9_init 100 = .ok (.aload_n 0, 1) := by decide +kernel
theorem dX9_init_101 : decode cX9_init 101 = .ok (.iconst 0, 1) := by decide +kernel
theorem dX9_init_102 : decode cX9_init 102 = .ok (.putfield 71, 3) := by decide +kernel
theorem dX9_init_105 : decode cX9_init 105 = .ok (.iconst 0, 1) := by decide +kernel
theorem dX9_init_106 : decode cX9_init 106 = .ok (.istore_n 1, 1) := by decide +kernel
theorem dX9_init_107 : decode cX9_init 107 = .ok (.iload_n 1, 1) := by decide +kernel
theorem dX9_init_108 : decode cX9_init 108 = .ok (.iconst 4, 1) := by decide +kernel
theorem dX9_init_109 : decode cX9_init 109 = .ok (.if_icmp .ge 22, 3) := by decide +kernel
theorem dX9_init_112 : decode cX9_init 112 = .ok (.aload_n 0, 1) := by decide +kernel
theorem dX9_init_113 : decode cX9_init 113 = .ok (.getfield 11, 3) := by decide +kernel
theorem dX9_init_116 : decode cX9_init 116 = .ok (.iload_n 1, 1) := by decide +kernel
theorem dX9_init_117 : decode cX9_init 117 = .ok (.new 9, 3) := by decide +kernel
theorem dX9_init_120 : decode cX9_init 120 = .ok (.dup, 1) := by decide +kernel
theorem dX9_init_121 : decode cX9_init 121 = .ok (.invokespecial 75, 3) := by decide +kernel
theorem dX9_init_124 : decode cX9_init 124 = .ok (.aastore, 1) := by decide +kernel
theorem dX9_init_125 : decode cX9_init 125 = .ok (.iinc 1 1, 3) := by decide +kernel
theorem dX9_init_128 : decode cX9_init 128 = .ok (.goto (-21), 3) := by decide +kernel
theorem dX9_init_131 : decode cX9_init 131 = .ok (.return_, 1) := by decide +kernel
theorem dX9_status_0 : decode cX9_status 0 = .ok (.aload_n 0, 1) := by decide +kernel
theorem dX9_status_1 : decode cX9_status 1 = .ok (.getfield 71, 3) := by decide +kernel
theorem dX9_status_4 : decode cX9_status 4 = .ok (.ireturn, 1) := by decide +kernel
theorem dX9_tray_0 : decode cX9_tray 0 = .ok (.iload_n 1, 1) := by decide +kernel
theorem dX9_tray_1 : decode cX9_tray 1 = .ok (.invokestatic 76, 3) := by decide +kernel
theorem dX9_tray_4 : decode cX9_tray 4 = .ok (.ifCond .eq 12, 3) := by decide +kernel
theorem dX9_tray_7 : decode cX9_tray 7 = .ok (.iload_n 2, 1) := by decide +kernel
theorem dX9_tray_8 : decode cX9_tray 8 = .ok (.ifCond .lt 8, 3) := by decide +kernel
theorem dX9_tray_11 : decode cX9_tray 11 = .ok (.iload_n 2, 1) := by decide +kernel
theorem dX9_tray_12 : decode cX9_tray 12 = .ok (.iconst 4, 1) := by decide +kernel
theorem dX9_tray_13 : decode cX9_tray 13 = .ok (.if_icmp .lt 9, 3) := by decide +kernel
theorem dX9_tray_16 : decode cX9_tray 16 = .ok (.aload_n 0, 1) := by decide +kernel
theorem dX9_tray_17 : decode cX9_tray 17 = .ok (.iconst 1, 1) := by decide +kernel
theorem dX9_tray_18 : decode cX9_tray 18 = .ok (.invokevirtual 80, 3) := by decide +kernel
theorem dX9_tray_21 : decode cX9_tray 21 = .ok (.ireturn, 1) := by decide +kernel
theorem dX9_tray_22 : decode cX9_tray 22 = .ok (.iload_n 3, 1) := by decide +kernel
theorem dX9_tray_23 : decode cX9_tray 23 = .ok (.bipush 40, 2) := by decide +kernel
theorem dX9_tray_25 : decode cX9_tray 25 = .ok (.if_icmp .le 9, 3) := by decide +kernel
theorem dX9_tray_28 : decode cX9_tray 28 = .ok (.aload_n 0, 1) := by decide +kernel
theorem dX9_tray_29 : decode cX9_tray 29 = .ok (.iconst 5, 1) := by decide +kernel
theorem dX9_tray_30 : decode cX9_tray 30 = .ok (.invokevirtual 80, 3) := by decide +kernel
theorem dX9_tray_33 : decode cX9_tray 33 = .ok (.ireturn, 1) := by decide +kernel
theorem dX9_tray_34 : decode cX9_tray 34 = .ok (.iload_n 3, 1) := by decide +kernel
theorem dX9_tray_35 : decode cX9_tray 35 = .ok (.ifCond .ge 10, 3) := by decide +kernel
theorem dX9_tray_38 : decode cX9_tray 38 = .ok (.aload_n 0, 1) := by decide +kernel
theorem dX9_tray_39 : decode cX9_tray 39 = .ok (.bipush 6, 2) := by decide +kernel
theorem dX9_tray_41 : decode cX9_tray 41 = .ok (.invokevirtual 80, 3) := by decide +kernel
theorem dX9_tray_44 : decode cX9_tray 44 = .ok (.ireturn, 1) := by decide +kernel
theorem dX9_tray_45 : decode cX9_tray 45 = .ok (.aload_n 0, 1) := by decide +kernel
theorem dX9_tray_46 : decode cX9_tray 46 = .ok (.getfield 11, 3) := by decide +kernel
theorem dX9_tray_49 : decode cX9_tray 49 = .ok (.iload_n 1, 1) := by decide +kernel
theorem dX9_tray_50 : decode cX9_tray 50 = .ok (.aaload, 1) := by decide +kernel
theorem dX9_tray_51 : decode cX9_tray 51 = .ok (.iload_n 2, 1) := by decide +kernel
theorem dX9_tray_52 : decode cX9_tray 52 = .ok (.iload_n 3, 1) := by decide +kernel
theorem dX9_tray_53 : decode cX9_tray 53 = .ok (.invokevirtual 83, 3) := by decide +kernel
theorem dX9_tray_56 : decode cX9_tray 56 = .ok (.aload_n 0, 1) := by decide +kernel
theorem dX9_tray_57 : decode cX9_tray 57 = .ok (.iconst 0, 1) := by decide +kernel
theorem dX9_tray_58 : decode cX9_tray 58 = .ok (.invokevirtual 80, 3) := by decide +kernel
theorem dX9_tray_61 : decode cX9_tray 61 = .ok (.ireturn, 1) := by decide +kernel
theorem dX9_write_0 : decode cX9_write 0 = .ok (.aload_n 0, 1) := by decide +kernel
theorem dX9_write_1 : decode cX9_write 1 = .ok (.iload_n 1, 1) := by decide +kernel
theorem dX9_write_2 : decode cX9_write 2 = .ok (.iload_n 2, 1) := by decide +kernel
theorem dX9_write_3 : decode cX9_write 3 = .ok (.invokevirtual 87, 3) := by decide +kernel
theorem dX9_write_6 : decode cX9_write 6 = .ok (.istore 5, 2) := by decide +kernel
theorem dX9_write_8 : decode cX9_write 8 = .ok (.iload 5, 2) := by decide +kernel
theorem dX9_write_10 : decode cX9_write 10 = .ok (.ifCond .ne 14, 3) := by decide +kernel
theorem dX9_write_13 : decode cX9_write 13 = .ok (.aload_n 0, 1) := by decide +kernel
theorem dX9_write_14 : decode cX9_write 14 = .ok (.getfield 11, 3) := by decide +kernel
theorem dX9_write_17 : decode cX9_write 17 = .ok (.iload_n 1, 1) := by decide +kernel
theorem dX9_write_18 : decode cX9_write 18 = .ok (.aaload, 1) := by decide +kernel
theorem dX9_write_19 : decode cX9_write 19 = .ok (.iload_n 2, 1) := by decide +kernel
theorem dX9_write_20 : decode cX9_write 20 = .ok (.lload_n 3, 1) := by decide +kernel
theorem dX9_write_21 : decode cX9_write 21 = .ok (.invokevirtual 91, 3) := by decide +kernel
theorem dX9_write_24 : decode cX9_write 24 = .ok (.aload_n 0, 1) := by decide +kernel
theorem dX9_write_25 : decode cX9_write 25 = .ok (.iload 5, 2) := by decide +kernel
theorem dX9_write_27 : decode cX9_write 27 = .ok (.invokevirtual 80, 3) := by decide +kernel
theorem dX9_write_30 : decode cX9_write 30 = .ok (.ireturn, 1) := by decide +kernel
theorem dX9_read_0 : decode cX9_read 0 = .ok (.aload_n 0, 1) := by decide +kernel
theorem dX9_read_1 : decode cX9_read 1 = .ok (.iload_n 1, 1) := by decide +kernel
theorem dX9_read_2 : decode cX9_read 2 = .ok (.iload_n 2, 1) := by decide +kernel
theorem dX9_read_3 : decode cX9_read 3 = .ok (.invokevirtual 87, 3) := by decide +kernel
theorem dX9_read_6 : decode cX9_read 6 = .ok (.istore_n 3, 1) := by decide +kernel
theorem dX9_read_7 : decode cX9_read 7 = .ok (.aload_n 0, 1) := by decide +kernel
theorem dX9_read_8 : decode cX9_read 8 = .ok (.iload_n 3, 1) := by decide +kernel
theorem dX9_read_9 : decode cX9_read 9 = .ok (.invokevirtual 80, 3) := by decide +kernel
theorem dX9_read_12 : decode cX9_read 12 = .ok (.pop, 1) := by decide +kernel
theorem dX9_read_13 : decode cX9_read 13 = .ok (.iload_n 3, 1) := by decide +kernel
theorem dX9_read_14 : decode cX9_read 14 = .ok (.ifCond .ne 17, 3) := by decide +kernel
theorem dX9_read_17 : decode cX9_read 17 = .ok (.aload_n 0, 1) := by decide +kernel
theorem dX9_read_18 : decode cX9_read 18 = .ok (.getfield 11, 3) := by decide +kernel
theorem dX9_read_21 : decode cX9_read 21 = .ok (.iload_n 1, 1) := by decide +kernel
theorem dX9_read_22 : decode cX9_read 22 = .ok (.aaload, 1) := by decide +kernel
theorem dX9_read_23 : decode cX9_read 23 = .ok (.getfield 95, 3) := by decide +kernel
theorem dX9_read_26 : decode cX9_read 26 = .ok (.iload_n 2, 1) := by decide +kernel
theorem dX9_read_27 : decode cX9_read 27 = .ok (.laload, 1) := by decide +kernel
theorem dX9_read_28 : decode cX9_read 28 = .ok (.goto 6, 3) := by decide +kernel
theorem dX9_read_31 : decode cX9_read 31 = .ok (.ldc2_w 99, 3) := by decide +kernel
theorem dX9_read_34 : decode cX9_read 34 = .ok (.lreturn, 1) := by decide +kernel
theorem dX9_pour_0 : decode cX9_pour 0 = .ok (.aload_n 0, 1) := by decide +kernel
theorem dX9_pour_1 : decode cX9_pour 1 = .ok (.iload_n 1, 1) := by decide +kernel
theorem dX9_pour_2 : decode cX9_pour 2 = .ok (.iload_n 2, 1) := by decide +kernel
theorem dX9_pour_3 : decode cX9_pour 3 = .ok (.iload_n 3, 1) := by decide +kernel
theorem dX9_pour_4 : decode cX9_pour 4 = .ok (.iload 4, 2) := by decide +kernel
theorem dX9_pour_6 : decode cX9_pour 6 = .ok (.iload 5, 2) := by decide +kernel
theorem dX9_pour_8 : decode cX9_pour 8 = .ok (.invokevirtual 101, 3) := by decide +kernel
theorem dX9_pour_11 : decode cX9_pour 11 = .ok (.istore 6, 2) := by decide +kernel
theorem dX9_pour_13 : decode cX9_pour 13 = .ok (.iload 6, 2) := by decide +kernel
theorem dX9_pour_15 : decode cX9_pour 15 = .ok (.ifCond .ne 29, 3) := by decide +kernel
theorem dX9_pour_18 : decode cX9_pour 18 = .ok (.aload_n 0, 1) := by decide +kernel
theorem dX9_pour_19 : decode cX9_pour 19 = .ok (.getfield 11, 3) := by decide +kernel
theorem dX9_pour_22 : decode cX9_pour 22 = .ok (.iload_n 1, 1) := by decide +kernel
theorem dX9_pour_23 : decode cX9_pour 23 = .ok (.aaload, 1) := by decide +kernel
theorem dX9_pour_24 : decode cX9_pour 24 = .ok (.getfield 95, 3) := by decide +kernel
theorem dX9_pour_27 : decode cX9_pour 27 = .ok (.iload_n 2, 1) := by decide +kernel
theorem dX9_pour_28 : decode cX9_pour 28 = .ok (.aload_n 0, 1) := by decide +kernel
theorem dX9_pour_29 : decode cX9_pour 29 = .ok (.getfield 11, 3) := by decide +kernel
theorem dX9_pour_32 : decode cX9_pour 32 = .ok (.iload_n 3, 1) := by decide +kernel
theorem dX9_pour_33 : decode cX9_pour 33 = .ok (.aaload, 1) := by decide +kernel
theorem dX9_pour_34 : decode cX9_pour 34 = .ok (.getfield 95, 3) := by decide +kernel
theorem dX9_pour_37 : decode cX9_pour 37 = .ok (.iload 4, 2) := by decide +kernel
theorem dX9_pour_39 : decode cX9_pour 39 = .ok (.iload 5, 2) := by decide +kernel
theorem dX9_pour_41 : decode cX9_pour 41 = .ok (.invokestatic 105, 3) := by decide +kernel
theorem dX9_pour_44 : decode cX9_pour 44 = .ok (.aload_n 0, 1) := by decide +kernel
theorem dX9_pour_45 : decode cX9_pour 45 = .ok (.iload 6, 2) := by decide +kernel
theorem dX9_pour_47 : decode cX9_pour 47 = .ok (.invokevirtual 80, 3) := by decide +kernel
theorem dX9_pour_50 : decode cX9_pour 50 = .ok (.ireturn, 1) := by decide +kernel
theorem dX9_elder_0 : decode cX9_elder 0 = .ok (.iload_n 1, 1) := by decide +kernel
theorem dX9_elder_1 : decode cX9_elder 1 = .ok (.invokestatic 111, 3) := by decide +kernel
theorem dX9_elder_4 : decode cX9_elder 4 = .ok (.ifCond .ne 9, 3) := by decide +kernel
theorem dX9_elder_7 : decode cX9_elder 7 = .ok (.aload_n 0, 1) := by decide +kernel
theorem dX9_elder_8 : decode cX9_elder 8 = .ok (.iconst 5, 1) := by decide +kernel
theorem dX9_elder_9 : decode cX9_elder 9 = .ok (.invokevirtual 114, 3) := by decide +kernel
theorem dX9_elder_12 : decode cX9_elder 12 = .ok (.ireturn, 1) := by decide +kernel
theorem dX9_elder_13 : decode cX9_elder 13 = .ok (.aload_n 0, 1) := by decide +kernel
theorem dX9_elder_14 : decode cX9_elder 14 = .ok (.getfield 18, 3) := by decide +kernel
theorem dX9_elder_17 : decode cX9_elder 17 = .ok (.getfield 118, 3) := by decide +kernel
theorem dX9_elder_20 : decode cX9_elder 20 = .ok (.bipush 12, 2) := by decide +kernel
theorem dX9_elder_22 : decode cX9_elder 22 = .ok (.if_icmp .lt 10, 3) := by decide +kernel
theorem dX9_elder_25 : decode cX9_elder 25 = .ok (.aload_n 0, 1) := by decide +kernel
theorem dX9_elder_26 : decode cX9_elder 26 = .ok (.bipush 7, 2) := by decide +kernel
theorem dX9_elder_28 : decode cX9_elder 28 = .ok (.invokevirtual 114, 3) := by decide +kernel
theorem dX9_elder_31 : decode cX9_elder 31 = .ok (.ireturn, 1) := by decide +kernel
theorem dX9_elder_32 : decode cX9_elder 32 = .ok (.aload_n 0, 1) := by decide +kernel
theorem dX9_elder_33 : decode cX9_elder 33 = .ok (.aload_n 0, 1) := by decide +kernel
theorem dX9_elder_34 : decode cX9_elder 34 = .ok (.getfield 18, 3) := by decide +kernel
theorem dX9_elder_37 : decode cX9_elder 37 = .ok (.iload_n 1, 1) := by decide +kernel
theorem dX9_elder_38 : decode cX9_elder 38 = .ok (.invokevirtual 121, 3) := by decide +kernel
theorem dX9_elder_41 : decode cX9_elder 41 = .ok (.invokevirtual 124, 3) := by decide +kernel
theorem dX9_elder_44 : decode cX9_elder 44 = .ok (.ireturn, 1) := by decide +kernel
theorem dX9_beginner_0 : decode cX9_beginner 0 = .ok (.aload_n 0, 1) := by decide +kernel
theorem dX9_beginner_1 : decode cX9_beginner 1 = .ok (.getfield 18, 3) := by decide +kernel
theorem dX9_beginner_4 : decode cX9_beginner 4 = .ok (.getfield 127, 3) := by decide +kernel
theorem dX9_beginner_7 : decode cX9_beginner 7 = .ok (.bipush 16, 2) := by decide +kernel
theorem dX9_beginner_9 : decode cX9_beginner 9 = .ok (.if_icmp .lt 10, 3) := by decide +kernel
theorem dX9_beginner_12 : decode cX9_beginner 12 = .ok (.aload_n 0, 1) := by decide +kernel
theorem dX9_beginner_13 : decode cX9_beginner 13 = .ok (.bipush 7, 2) := by decide +kernel
theorem dX9_beginner_15 : decode cX9_beginner 15 = .ok (.invokevirtual 114, 3) := by decide +kernel
theorem dX9_beginner_18 : decode cX9_beginner 18 = .ok (.ireturn, 1) := by decide +kernel
theorem dX9_beginner_19 : decode cX9_beginner 19 = .ok (.aload_n 0, 1) := by decide +kernel
theorem dX9_beginner_20 : decode cX9_beginner 20 = .ok (.aload_n 0, 1) := by decide +kernel
theorem dX9_beginner_21 : decode cX9_beginner 21 = .ok (.getfield 18, 3) := by decide +kernel
theorem dX9_beginner_24 : decode cX9_beginner 24 = .ok (.invokevirtual 130, 3) := by decide +kernel
theorem dX9_beginner_27 : decode cX9_beginner 27 = .ok (.invokevirtual 124, 3) := by decide +kernel
theorem dX9_beginner_30 : decode cX9_beginner 30 = .ok (.ireturn, 1) := by decide +kernel
theorem dX9_places_0 : decode cX9_places 0 = .ok (.aload_n 0, 1) := by decide +kernel
theorem dX9_places_1 : decode cX9_places 1 = .ok (.getfield 18, 3) := by decide +kernel
theorem dX9_places_4 : decode cX9_places 4 = .ok (.iload_n 1, 1) := by decide +kernel
theorem dX9_places_5 : decode cX9_places 5 = .ok (.invokevirtual 134, 3) := by decide +kernel
theorem dX9_places_8 : decode cX9_places 8 = .ok (.ifCond .ne 9, 3) := by decide +kernel
theorem dX9_places_11 : decode cX9_places 11 = .ok (.aload_n 0, 1) := by decide +kernel
theorem dX9_places_12 : decode cX9_places 12 = .ok (.iconst 2, 1) := by decide +kernel
theorem dX9_places_13 : decode cX9_places 13 = .ok (.invokevirtual 80, 3) := by decide +kernel
theorem dX9_places_16 : decode cX9_places 16 = .ok (.ireturn, 1) := by decide +kernel
theorem dX9_places_17 : decode cX9_places 17 = .ok (.iload_n 2, 1) := by decide +kernel
theorem dX9_places_18 : decode cX9_places 18 = .ok (.invokestatic 111, 3) := by decide +kernel
theorem dX9_places_21 : decode cX9_places 21 = .ok (.ifCond .ne 9, 3) := by decide +kernel
theorem dX9_places_24 : decode cX9_places 24 = .ok (.aload_n 0, 1) := by decide +kernel
theorem dX9_places_25 : decode cX9_places 25 = .ok (.iconst 5, 1) := by decide +kernel
theorem dX9_places_26 : decode cX9_places 26 = .ok (.invokevirtual 80, 3) := by decide +kernel
theorem dX9_places_29 : decode cX9_places 29 = .ok (.ireturn, 1) := by decide +kernel
theorem dX9_places_30 : decode cX9_places 30 = .ok (.aload_n 0, 1) := by decide +kernel
theorem dX9_places_31 : decode cX9_places 31 = .ok (.getfield 18, 3) := by decide +kernel
theorem dX9_places_34 : decode cX9_places 34 = .ok (.getfield 137, 3) := by decide +kernel
theorem dX9_places_37 : decode cX9_places 37 = .ok (.iload_n 1, 1) := by decide +kernel
theorem dX9_places_38 : decode cX9_places 38 = .ok (.iload_n 2, 1) := by decide +kernel
theorem dX9_places_39 : decode cX9_places 39 = .ok (.iastore, 1) := by decide +kernel
theorem dX9_places_40 : decode cX9_places 40 = .ok (.aload_n 0, 1) := by decide +kernel
theorem dX9_places_41 : decode cX9_places 41 = .ok (.iconst 0, 1) := by decide +kernel
theorem dX9_places_42 : decode cX9_places 42 = .ok (.invokevirtual 80, 3) := by decide +kernel
theorem dX9_places_45 : decode cX9_places 45 = .ok (.ireturn, 1) := by decide +kernel
theorem dX9_like_0 : decode cX9_like 0 = .ok (.aload_n 0, 1) := by decide +kernel
theorem dX9_like_1 : decode cX9_like 1 = .ok (.getfield 18, 3) := by decide +kernel
theorem dX9_like_4 : decode cX9_like 4 = .ok (.iload_n 1, 1) := by decide +kernel
theorem dX9_like_5 : decode cX9_like 5 = .ok (.iload_n 2, 1) := by decide +kernel
theorem dX9_like_6 : decode cX9_like 6 = .ok (.invokevirtual 141, 3) := by decide +kernel
theorem dX9_like_9 : decode cX9_like 9 = .ok (.ifCond .ne 9, 3) := by decide +kernel
theorem dX9_like_12 : decode cX9_like 12 = .ok (.aload_n 0, 1) := by decide +kernel
theorem dX9_like_13 : decode cX9_like 13 = .ok (.iconst 2, 1) := by decide +kernel
theorem dX9_like_14 : decode cX9_like 14 = .ok (.invokevirtual 80, 3) := by decide +kernel
theorem dX9_like_17 : decode cX9_like 17 = .ok (.ireturn, 1) := by decide +kernel
theorem dX9_like_18 : decode cX9_like 18 = .ok (.iload 4, 2) := by decide +kernel
theorem dX9_like_20 : decode cX9_like 20 = .ok (.ifCond .lt 10, 3) := by decide +kernel
theorem dX9_like_23 : decode cX9_like 23 = .ok (.iload 4, 2) := by decide +kernel
theorem dX9_like_25 : decode cX9_like 25 = .ok (.bipush 100, 2) := by decide +kernel
theorem dX9_like_27 : decode cX9_like 27 = .ok (.if_icmp .le 9, 3) := by decide +kernel
theorem dX9_like_30 : decode cX9_like 30 = .ok (.aload_n 0, 1) := by decide +kernel
theorem dX9_like_31 : decode cX9_like 31 = .ok (.iconst 5, 1) := by decide +kernel
theorem dX9_like_32 : decode cX9_like 32 = .ok (.invokevirtual 80, 3) := by decide +kernel
theorem dX9_like_35 : decode cX9_like 35 = .ok (.ireturn, 1) := by decide +kernel
theorem dX9_like_36 : decode cX9_like 36 = .ok (.aload_n 0, 1) := by decide +kernel
theorem dX9_like_37 : decode cX9_like 37 = .ok (.getfield 18, 3) := by decide +kernel
theorem dX9_like_40 : decode cX9_like 40 = .ok (.iload_n 1, 1) := by decide +kernel
theorem dX9_like_41 : decode cX9_like 41 = .ok (.iload_n 2, 1) := by decide +kernel
theorem dX9_like_42 : decode cX9_like 42 = .ok (.iload_n 3, 1) := by decide +kernel
theorem dX9_like_43 : decode cX9_like 43 = .ok (.iload 4, 2) := by decide +kernel
theorem dX9_like_45 : decode cX9_like 45 = .ok (.invokevirtual 145, 3) := by decide +kernel
theorem dX9_like_48 : decode cX9_like 48 = .ok (.aload_n 0, 1) := by decide +kernel
theorem dX9_like_49 : decode cX9_like 49 = .ok (.iconst 0, 1) := by decide +kernel
theorem dX9_like_50 : decode cX9_like 50 = .ok (.invokevirtual 80, 3) := by decide +kernel
theorem dX9_like_53 : decode cX9_like 53 = .ok (.ireturn, 1) := by decide +kernel
theorem dX9_bar_0 : decode cX9_bar 0 = .ok (.aload_n 0, 1) := by decide +kernel
theorem dX9_bar_1 : decode cX9_bar 1 = .ok (.getfield 18, 3) := by decide +kernel
theorem dX9_bar_4 : decode cX9_bar 4 = .ok (.iload_n 1, 1) := by decide +kernel
theorem dX9_bar_5 : decode cX9_bar 5 = .ok (.iload_n 2, 1) := by decide +kernel
theorem dX9_bar_6 : decode cX9_bar 6 = .ok (.invokevirtual 141, 3) := by decide +kernel
theorem dX9_bar_9 : decode cX9_bar 9 = .ok (.ifCond .ne 9, 3) := by decide +kernel
theorem dX9_bar_12 : decode cX9_bar 12 = .ok (.aload_n 0, 1) := by decide +kernel
theorem dX9_bar_13 : decode cX9_bar 13 = .ok (.iconst 2, 1) := by decide +kernel
theorem dX9_bar_14 : decode cX9_bar 14 = .ok (.invokevirtual 80, 3) := by decide +kernel
theorem dX9_bar_17 : decode cX9_bar 17 = .ok (.ireturn, 1) := by decide +kernel
theorem dX9_bar_18 : decode cX9_bar 18 = .ok (.aload_n 0, 1) := by decide +kernel
theorem dX9_bar_19 : decode cX9_bar 19 = .ok (.getfield 18, 3) := by decide +kernel
theorem dX9_bar_22 : decode cX9_bar 22 = .ok (.iload_n 1, 1) := by decide +kernel
theorem dX9_bar_23 : decode cX9_bar 23 = .ok (.iload_n 2, 1) := by decide +kernel
theorem dX9_bar_24 : decode cX9_bar 24 = .ok (.invokevirtual 149, 3) := by decide +kernel
theorem dX9_bar_27 : decode cX9_bar 27 = .ok (.iload_n 3, 1) := by decide +kernel
theorem dX9_bar_28 : decode cX9_bar 28 = .ok (.if_icmp .ne 10, 3) := by decide +kernel
theorem dX9_bar_31 : decode cX9_bar 31 = .ok (.aload_n 0, 1) := by decide +kernel
theorem dX9_bar_32 : decode cX9_bar 32 = .ok (.bipush 8, 2) := by decide +kernel
theorem dX9_bar_34 : decode cX9_bar 34 = .ok (.invokevirtual 80, 3) := by decide +kernel
theorem dX9_bar_37 : decode cX9_bar 37 = .ok (.ireturn, 1) := by decide +kernel
theorem dX9_bar_38 : decode cX9_bar 38 = .ok (.aload_n 0, 1) := by decide +kernel
theorem dX9_bar_39 : decode cX9_bar 39 = .ok (.getfield 18, 3) := by decide +kernel
theorem dX9_bar_42 : decode cX9_bar 42 = .ok (.iload_n 1, 1) := by decide +kernel
theorem dX9_bar_43 : decode cX9_bar 43 = .ok (.iload_n 2, 1) := by decide +kernel
theorem dX9_bar_44 : decode cX9_bar 44 = .ok (.iload_n 3, 1) := by decide +kernel
theorem dX9_bar_45 : decode cX9_bar 45 = .ok (.invokevirtual 152, 3) := by decide +kernel
theorem dX9_bar_48 : decode cX9_bar 48 = .ok (.aload_n 0, 1) := by decide +kernel
theorem dX9_bar_49 : decode cX9_bar 49 = .ok (.iconst 0, 1) := by decide +kernel
theorem dX9_bar_50 : decode cX9_bar 50 = .ok (.invokevirtual 80, 3) := by decide +kernel
theorem dX9_bar_53 : decode cX9_bar 53 = .ok (.ireturn, 1) := by decide +kernel
theorem dX9_pair_0 : decode cX9_pair 0 = .ok (.aload_n 0, 1) := by decide +kernel
theorem dX9_pair_1 : decode cX9_pair 1 = .ok (.aload_n 0, 1) := by decide +kernel
theorem dX9_pair_2 : decode cX9_pair 2 = .ok (.getfield 25, 3) := by decide +kernel
theorem dX9_pair_5 : decode cX9_pair 5 = .ok (.aload_n 0, 1) := by decide +kernel
theorem dX9_pair_6 : decode cX9_pair 6 = .ok (.getfield 18, 3) := by decide +kernel
theorem dX9_pair_9 : decode cX9_pair 9 = .ok (.invokevirtual 156, 3) := by decide +kernel
theorem dX9_pair_12 : decode cX9_pair 12 = .ok (.invokevirtual 124, 3) := by decide +kernel
theorem dX9_pair_15 : decode cX9_pair 15 = .ok (.ireturn, 1) := by decide +kernel
theorem dX9_elderOf_0 : decode cX9_elderOf 0 = .ok (.aload_n 0, 1) := by decide +kernel
theorem dX9_elderOf_1 : decode cX9_elderOf 1 = .ok (.iload_n 1, 1) := by decide +kernel
theorem dX9_elderOf_2 : decode cX9_elderOf 2 = .ok (.invokevirtual 160, 3) := by decide +kernel
theorem dX9_elderOf_5 : decode cX9_elderOf 5 = .ok (.istore_n 2, 1) := by decide +kernel
theorem dX9_elderOf_6 : decode cX9_elderOf 6 = .ok (.iload_n 2, 1) := by decide +kernel
theorem dX9_elderOf_7 : decode cX9_elderOf 7 = .ok (.ifCond .ne 19, 3) := by decide +kernel
theorem dX9_elderOf_10 : decode cX9_elderOf 10 = .ok (.aload_n 0, 1) := by decide +kernel
theorem dX9_elderOf_11 : decode cX9_elderOf 11 = .ok (.aload_n 0, 1) := by decide +kernel
theorem dX9_elderOf_12 : decode cX9_elderOf 12 = .ok (.getfield 25, 3) := by decide +kernel
theorem dX9_elderOf_15 : decode cX9_elderOf 15 = .ok (.getfield 163, 3) := by decide +kernel
theorem dX9_elderOf_18 : decode cX9_elderOf 18 = .ok (.iload_n 1, 1) := by decide +kernel
theorem dX9_elderOf_19 : decode cX9_elderOf 19 = .ok (.iaload, 1) := by decide +kernel
theorem dX9_elderOf_20 : decode cX9_elderOf 20 = .ok (.invokevirtual 124, 3) := by decide +kernel
theorem dX9_elderOf_23 : decode cX9_elderOf 23 = .ok (.goto 8, 3) := by decide +kernel
theorem dX9_elderOf_26 : decode cX9_elderOf 26 = .ok (.aload_n 0, 1) := by decide +kernel
theorem dX9_elderOf_27 : decode cX9_elderOf 27 = .ok (.iload_n 2, 1) := by decide +kernel
theorem dX9_elderOf_28 : decode cX9_elderOf 28 = .ok (.invokevirtual 114, 3) := by decide +kernel
theorem dX9_elderOf_31 : decode cX9_elderOf 31 = .ok (.ireturn, 1) := by decide +kernel
theorem dX9_has_0 : decode cX9_has 0 = .ok (.aload_n 0, 1) := by decide +kernel
theorem dX9_has_1 : decode cX9_has 1 = .ok (.getfield 18, 3) := by decide +kernel
theorem dX9_has_4 : decode cX9_has 4 = .ok (.iload_n 1, 1) := by decide +kernel
theorem dX9_has_5 : decode cX9_has 5 = .ok (.invokevirtual 134, 3) := by decide +kernel
theorem dX9_has_8 : decode cX9_has 8 = .ok (.ifCond .ne 9, 3) := by decide +kernel
theorem dX9_has_11 : decode cX9_has 11 = .ok (.aload_n 0, 1) := by decide +kernel
theorem dX9_has_12 : decode cX9_has 12 = .ok (.iconst 2, 1) := by decide +kernel
theorem dX9_has_13 : decode cX9_has 13 = .ok (.invokevirtual 114, 3) := by decide +kernel
theorem dX9_has_16 : decode cX9_has 16 = .ok (.ireturn, 1) := by decide +kernel
theorem dX9_has_17 : decode cX9_has 17 = .ok (.aload_n 0, 1) := by decide +kernel
theorem dX9_has_18 : decode cX9_has 18 = .ok (.getfield 25, 3) := by decide +kernel
theorem dX9_has_21 : decode cX9_has 21 = .ok (.getfield 166, 3) := by decide +kernel
theorem dX9_has_24 : decode cX9_has 24 = .ok (.ifCond .ne 10, 3) := by decide +kernel
theorem dX9_has_27 : decode cX9_has 27 = .ok (.aload_n 0, 1) := by decide +kernel
theorem dX9_has_28 : decode cX9_has 28 = .ok (.bipush 10, 2) := by decide +kernel
theorem dX9_has_30 : decode cX9_has 30 = .ok (.invokevirtual 114, 3) := by decide +kernel
theorem dX9_has_33 : decode cX9_has 33 = .ok (.ireturn, 1) := by decide +kernel
theorem dX9_has_34 : decode cX9_has 34 = .ok (.aload_n 0, 1) := by decide +kernel
theorem dX9_has_35 : decode cX9_has 35 = .ok (.aload_n 0, 1) := by decide +kernel
theorem dX9_has_36 : decode cX9_has 36 = .ok (.getfield 25, 3) := by decide +kernel
theorem dX9_has_39 : decode cX9_has 39 = .ok (.iload_n 1, 1) := by decide +kernel
theorem dX9_has_40 : decode cX9_has 40 = .ok (.invokevirtual 170, 3) := by decide +kernel
theorem dX9_has_43 : decode cX9_has 43 = .ok (.invokevirtual 124, 3) := by decide +kernel
theorem dX9_has_46 : decode cX9_has 46 = .ok (.ireturn, 1) := by decide +kernel
theorem dX9_blocks_0 : decode cX9_blocks 0 = .ok (.aload_n 0, 1) := by decide +kernel
theorem dX9_blocks_1 : decode cX9_blocks 1 = .ok (.getfield 25, 3) := by decide +kernel
theorem dX9_blocks_4 : decode cX9_blocks 4 = .ok (.getfield 166, 3) := by decide +kernel
theorem dX9_blocks_7 : decode cX9_blocks 7 = .ok (.ifCond .ne 10, 3) := by decide +kernel
theorem dX9_blocks_10 : decode cX9_blocks 10 = .ok (.aload_n 0, 1) := by decide +kernel
theorem dX9_blocks_11 : decode cX9_blocks 11 = .ok (.bipush 10, 2) := by decide +kernel
theorem dX9_blocks_13 : decode cX9_blocks 13 = .ok (.invokevirtual 114, 3) := by decide +kernel
theorem dX9_blocks_16 : decode cX9_blocks 16 = .ok (.ireturn, 1) := by decide +kernel
theorem dX9_blocks_17 : decode cX9_blocks 17 = .ok (.aload_n 0, 1) := by decide +kernel
theorem dX9_blocks_18 : decode cX9_blocks 18 = .ok (.aload_n 0, 1) := by decide +kernel
theorem dX9_blocks_19 : decode cX9_blocks 19 = .ok (.getfield 25, 3) := by decide +kernel
theorem dX9_blocks_22 : decode cX9_blocks 22 = .ok (.aload_n 0, 1) := by decide +kernel
theorem dX9_blocks_23 : decode cX9_blocks 23 = .ok (.getfield 18, 3) := by decide +kernel
theorem dX9_blocks_26 : decode cX9_blocks 26 = .ok (.invokevirtual 173, 3) := by decide +kernel
theorem dX9_blocks_29 : decode cX9_blocks 29 = .ok (.invokevirtual 124, 3) := by decide +kernel
theorem dX9_blocks_32 : decode cX9_blocks 32 = .ok (.ireturn, 1) := by decide +kernel
theorem dX9_block_0 : decode cX9_block 0 = .ok (.aload_n 0, 1) := by decide +kernel
theorem dX9_block_1 : decode cX9_block 1 = .ok (.getfield 18, 3) := by decide +kernel
theorem dX9_block_4 : decode cX9_block 4 = .ok (.iload_n 1, 1) := by decide +kernel
theorem dX9_block_5 : decode cX9_block 5 = .ok (.iload_n 2, 1) := by decide +kernel
theorem dX9_block_6 : decode cX9_block 6 = .ok (.invokevirtual 141, 3) := by decide +kernel
theorem dX9_block_9 : decode cX9_block 9 = .ok (.ifCond .ne 9, 3) := by decide +kernel
theorem dX9_block_12 : decode cX9_block 12 = .ok (.aload_n 0, 1) := by decide +kernel
theorem dX9_block_13 : decode cX9_block 13 = .ok (.iconst 2, 1) := by decide +kernel
theorem dX9_block_14 : decode cX9_block 14 = .ok (.invokevirtual 114, 3) := by decide +kernel
theorem dX9_block_17 : decode cX9_block 17 = .ok (.ireturn, 1) := by decide +kernel
theorem dX9_block_18 : decode cX9_block 18 = .ok (.aload_n 0, 1) := by decide +kernel
theorem dX9_block_19 : decode cX9_block 19 = .ok (.getfield 25, 3) := by decide +kernel
theorem dX9_block_22 : decode cX9_block 22 = .ok (.getfield 166, 3) := by decide +kernel
theorem dX9_block_25 : decode cX9_block 25 = .ok (.ifCond .ne 10, 3) := by decide +kernel
theorem dX9_block_28 : decode cX9_block 28 = .ok (.aload_n 0, 1) := by decide +kernel
theorem dX9_block_29 : decode cX9_block 29 = .ok (.bipush 10, 2) := by decide +kernel
theorem dX9_block_31 : decode cX9_block 31 = .ok (.invokevirtual 114, 3) := by decide +kernel
theorem dX9_block_34 : decode cX9_block 34 = .ok (.ireturn, 1) := by decide +kernel
theorem dX9_block_35 : decode cX9_block 35 = .ok (.aload_n 0, 1) := by decide +kernel
theorem dX9_block_36 : decode cX9_block 36 = .ok (.aload_n 0, 1) := by decide +kernel
theorem dX9_block_37 : decode cX9_block 37 = .ok (.getfield 25, 3) := by decide +kernel
theorem dX9_block_40 : decode cX9_block 40 = .ok (.aload_n 0, 1) := by decide +kernel
theorem dX9_block_41 : decode cX9_block 41 = .ok (.getfield 18, 3) := by decide +kernel
theorem dX9_block_44 : decode cX9_block 44 = .ok (.iload_n 1, 1) := by decide +kernel
theorem dX9_block_45 : decode cX9_block 45 = .ok (.iload_n 2, 1) := by decide +kernel
theorem dX9_block_46 : decode cX9_block 46 = .ok (.invokevirtual 176, 3) := by decide +kernel
theorem dX9_block_49 : decode cX9_block 49 = .ok (.ifCond .eq 7, 3) := by decide +kernel
theorem dX9_block_52 : decode cX9_block 52 = .ok (.iconst 1, 1) := by decide +kernel
theorem dX9_block_53 : decode cX9_block 53 = .ok (.goto 4, 3) := by decide +kernel
theorem dX9_block_56 : decode cX9_block 56 = .ok (.iconst 0, 1) := by decide +kernel
theorem dX9_block_57 : decode cX9_block 57 = .ok (.invokevirtual 124, 3) := by decide +kernel
theorem dX9_block_60 : decode cX9_block 60 = .ok (.ireturn, 1) := by decide +kernel
theorem dX9_change_0 : decode cX9_change 0 = .ok (.aload_n 0, 1) := by decide +kernel
theorem dX9_change_1 : decode cX9_change 1 = .ok (.iload_n 1, 1) := by decide +kernel
theorem dX9_change_2 : decode cX9_change 2 = .ok (.invokevirtual 160, 3) := by decide +kernel
theorem dX9_change_5 : decode cX9_change 5 = .ok (.istore_n 2, 1) := by decide +kernel
theorem dX9_change_6 : decode cX9_change 6 = .ok (.iload_n 2, 1) := by decide +kernel
theorem dX9_change_7 : decode cX9_change 7 = .ok (.ifCond .eq 9, 3) := by decide +kernel
theorem dX9_change_10 : decode cX9_change 10 = .ok (.aload_n 0, 1) := by decide +kernel
theorem dX9_change_11 : decode cX9_change 11 = .ok (.iload_n 2, 1) := by decide +kernel
theorem dX9_change_12 : decode cX9_change 12 = .ok (.invokevirtual 114, 3) := by decide +kernel
theorem dX9_change_15 : decode cX9_change 15 = .ok (.ireturn, 1) := by decide +kernel
theorem dX9_change_16 : decode cX9_change 16 = .ok (.aload_n 0, 1) := by decide +kernel
theorem dX9_change_17 : decode cX9_change 17 = .ok (.getfield 25, 3) := by decide +kernel
theorem dX9_change_20 : decode cX9_change 20 = .ok (.getfield 163, 3) := by decide +kernel
theorem dX9_change_23 : decode cX9_change 23 = .ok (.iload_n 1, 1) := by decide +kernel
theorem dX9_change_24 : decode cX9_change 24 = .ok (.iaload, 1) := by decide +kernel
theorem dX9_change_25 : decode cX9_change 25 = .ok (.istore_n 3, 1) := by decide +kernel
theorem dX9_change_26 : decode cX9_change 26 = .ok (.aload_n 0, 1) := by decide +kernel
theorem dX9_change_27 : decode cX9_change 27 = .ok (.getfield 32, 3) := by decide +kernel
theorem dX9_change_30 : decode cX9_change 30 = .ok (.aload_n 0, 1) := by decide +kernel
theorem dX9_change_31 : decode cX9_change 31 = .ok (.getfield 18, 3) := by decide +kernel
theorem dX9_change_34 : decode cX9_change 34 = .ok (.aload_n 0, 1) := by decide +kernel
theorem dX9_change_35 : decode cX9_change 35 = .ok (.getfield 25, 3) := by decide +kernel
theorem dX9_change_38 : decode cX9_change 38 = .ok (.iload_n 1, 1) := by decide +kernel
theorem dX9_change_39 : decode cX9_change 39 = .ok (.invokevirtual 180, 3) := by decide +kernel
theorem dX9_change_42 : decode cX9_change 42 = .ok (.istore 4, 2) := by decide +kernel
theorem dX9_change_44 : decode cX9_change 44 = .ok (.iload 4, 2) := by decide +kernel
theorem dX9_change_46 : decode cX9_change 46 = .ok (.iconst (-1), 1) := by decide +kernel
theorem dX9_change_47 : decode cX9_change 47 = .ok (.if_icmp .ne 10, 3) := by decide +kernel
theorem dX9_change_50 : decode cX9_change 50 = .ok (.aload_n 0, 1) := by decide +kernel
theorem dX9_change_51 : decode cX9_change 51 = .ok (.bipush 12, 2) := by decide +kernel
theorem dX9_change_53 : decode cX9_change 53 = .ok (.invokevirtual 114, 3) := by decide +kernel
theorem dX9_change_56 : decode cX9_change 56 = .ok (.ireturn, 1) := by decide +kernel
theorem dX9_change_57 : decode cX9_change 57 = .ok (.aload_n 0, 1) := by decide +kernel
theorem dX9_change_58 : decode cX9_change 58 = .ok (.getfield 18, 3) := by decide +kernel
theorem dX9_change_61 : decode cX9_change 61 = .ok (.iload_n 3, 1) := by decide +kernel
theorem dX9_change_62 : decode cX9_change 62 = .ok (.iload_n 1, 1) := by decide +kernel
theorem dX9_change_63 : decode cX9_change 63 = .ok (.iconst 1, 1) := by decide +kernel
theorem dX9_change_64 : decode cX9_change 64 = .ok (.invokevirtual 152, 3) := by decide +kernel
theorem dX9_change_67 : decode cX9_change 67 = .ok (.aload_n 0, 1) := by decide +kernel
theorem dX9_change_68 : decode cX9_change 68 = .ok (.aload_n 0, 1) := by decide +kernel
theorem dX9_change_69 : decode cX9_change 69 = .ok (.getfield 32, 3) := by decide +kernel
theorem dX9_change_72 : decode cX9_change 72 = .ok (.aload_n 0, 1) := by decide +kernel
theorem dX9_change_73 : decode cX9_change 73 = .ok (.getfield 25, 3) := by decide +kernel
theorem dX9_change_76 : decode cX9_change 76 = .ok (.iload 4, 2) := by decide +kernel
theorem dX9_change_78 : decode cX9_change 78 = .ok (.invokevirtual 184, 3) := by decide +kernel
theorem dX9_change_81 : decode cX9_change 81 = .ok (.invokevirtual 124, 3) := by decide +kernel
theorem dX9_change_84 : decode cX9_change 84 = .ok (.ireturn, 1) := by decide +kernel
theorem dX9_meeting_0 : decode cX9_meeting 0 = .ok (.aload_n 0, 1) := by decide +kernel
theorem dX9_meeting_1 : decode cX9_meeting 1 = .ok (.getfield 18, 3) := by decide +kernel
theorem dX9_meeting_4 : decode cX9_meeting 4 = .ok (.iload_n 1, 1) := by decide +kernel
theorem dX9_meeting_5 : decode cX9_meeting 5 = .ok (.invokevirtual 188, 3) := by decide +kernel
theorem dX9_meeting_8 : decode cX9_meeting 8 = .ok (.ifCond .ne 9, 3) := by decide +kernel
theorem dX9_meeting_11 : decode cX9_meeting 11 = .ok (.aload_n 0, 1) := by decide +kernel
theorem dX9_meeting_12 : decode cX9_meeting 12 = .ok (.iconst 2, 1) := by decide +kernel
theorem dX9_meeting_13 : decode cX9_meeting 13 = .ok (.invokevirtual 114, 3) := by decide +kernel
theorem dX9_meeting_16 : decode cX9_meeting 16 = .ok (.ireturn, 1) := by decide +kernel
theorem dX9_meeting_17 : decode cX9_meeting 17 = .ok (.iload_n 2, 1) := by decide +kernel
theorem dX9_meeting_18 : decode cX9_meeting 18 = .ok (.invokestatic 191, 3) := by decide +kernel
theorem dX9_meeting_21 : decode cX9_meeting 21 = .ok (.ifCond .ne 9, 3) := by decide +kernel
theorem dX9_meeting_24 : decode cX9_meeting 24 = .ok (.aload_n 0, 1) := by decide +kernel
theorem dX9_meeting_25 : decode cX9_meeting 25 = .ok (.iconst 5, 1) := by decide +kernel
theorem dX9_meeting_26 : decode cX9_meeting 26 = .ok (.invokevirtual 114, 3) := by decide +kernel
theorem dX9_meeting_29 : decode cX9_meeting 29 = .ok (.ireturn, 1) := by decide +kernel
theorem dX9_meeting_30 : decode cX9_meeting 30 = .ok (.aload_n 0, 1) := by decide +kernel
theorem dX9_meeting_31 : decode cX9_meeting 31 = .ok (.getfield 39, 3) := by decide +kernel
theorem dX9_meeting_34 : decode cX9_meeting 34 = .ok (.getfield 194, 3) := by decide +kernel
theorem dX9_meeting_37 : decode cX9_meeting 37 = .ok (.bipush 100, 2) := by decide +kernel
theorem dX9_meeting_39 : decode cX9_meeting 39 = .ok (.if_icmp .lt 10, 3) := by decide +kernel
theorem dX9_meeting_42 : decode cX9_meeting 42 = .ok (.aload_n 0, 1) := by decide +kernel
theorem dX9_meeting_43 : decode cX9_meeting 43 = .ok (.bipush 7, 2) := by decide +kernel
theorem dX9_meeting_45 : decode cX9_meeting 45 = .ok (.invokevirtual 114, 3) := by decide +kernel
theorem dX9_meeting_48 : decode cX9_meeting 48 = .ok (.ireturn, 1) := by decide +kernel
theorem dX9_meeting_49 : decode cX9_meeting 49 = .ok (.aload_n 0, 1) := by decide +kernel
theorem dX9_meeting_50 : decode cX9_meeting 50 = .ok (.aload_n 0, 1) := by decide +kernel
theorem dX9_meeting_51 : decode cX9_meeting 51 = .ok (.getfield 39, 3) := by decide +kernel
theorem dX9_meeting_54 : decode cX9_meeting 54 = .ok (.iload_n 1, 1) := by decide +kernel
theorem dX9_meeting_55 : decode cX9_meeting 55 = .ok (.iload_n 2, 1) := by decide +kernel
theorem dX9_meeting_56 : decode cX9_meeting 56 = .ok (.invokevirtual 197, 3) := by decide +kernel
theorem dX9_meeting_59 : decode cX9_meeting 59 = .ok (.invokevirtual 124, 3) := by decide +kernel
theorem dX9_meeting_62 : decode cX9_meeting 62 = .ok (.ireturn, 1) := by decide +kernel
theorem dX9_tell_0 : decode cX9_tell 0 = .ok (.aload_n 0, 1) := by decide +kernel
theorem dX9_tell_1 : decode cX9_tell 1 = .ok (.getfield 39, 3) := by decide +kernel
theorem dX9_tell_4 : decode cX9_tell 4 = .ok (.iload_n 1, 1) := by decide +kernel
theorem dX9_tell_5 : decode cX9_tell 5 = .ok (.invokevirtual 200, 3) := by decide +kernel
theorem dX9_tell_8 : decode cX9_tell 8 = .ok (.ifCond .ne 9, 3) := by decide +kernel
theorem dX9_tell_11 : decode cX9_tell 11 = .ok (.aload_n 0, 1) := by decide +kernel
theorem dX9_tell_12 : decode cX9_tell 12 = .ok (.iconst 2, 1) := by decide +kernel
theorem dX9_tell_13 : decode cX9_tell 13 = .ok (.invokevirtual 80, 3) := by decide +kernel
theorem dX9_tell_16 : decode cX9_tell 16 = .ok (.ireturn, 1) := by decide +kernel
theorem dX9_tell_17 : decode cX9_tell 17 = .ok (.iload_n 3, 1) := by decide +kernel
theorem dX9_tell_18 : decode cX9_tell 18 = .ok (.invokestatic 191, 3) := by decide +kernel
theorem dX9_tell_21 : decode cX9_tell 21 = .ok (.ifCond .eq 16, 3) := by decide +kernel
theorem dX9_tell_24 : decode cX9_tell 24 = .ok (.iload_n 3, 1) := by decide +kernel
theorem dX9_tell_25 : decode cX9_tell 25 = .ok (.aload_n 0, 1) := by decide +kernel
theorem dX9_tell_26 : decode cX9_tell 26 = .ok (.getfield 39, 3) := by decide +kernel
theorem dX9_tell_29 : decode cX9_tell 29 = .ok (.getfield 203, 3) := by decide +kernel
theorem dX9_tell_32 : decode cX9_tell 32 = .ok (.iload_n 1, 1) := by decide +kernel
theorem dX9_tell_33 : decode cX9_tell 33 = .ok (.iaload, 1) := by decide +kernel
theorem dX9_tell_34 : decode cX9_tell 34 = .ok (.if_icmp .ge 9, 3) := by decide +kernel
theorem dX9_tell_37 : decode cX9_tell 37 = .ok (.aload_n 0, 1) := by decide +kernel
theorem dX9_tell_38 : decode cX9_tell 38 = .ok (.iconst 5, 1) := by decide +kernel
theorem dX9_tell_39 : decode cX9_tell 39 = .ok (.invokevirtual 80, 3) := by decide +kernel
theorem dX9_tell_42 : decode cX9_tell 42 = .ok (.ireturn, 1) := by decide +kernel
theorem dX9_tell_43 : decode cX9_tell 43 = .ok (.aload_n 0, 1) := by decide +kernel
theorem dX9_tell_44 : decode cX9_tell 44 = .ok (.getfield 39, 3) := by decide +kernel
theorem dX9_tell_47 : decode cX9_tell 47 = .ok (.getfield 206, 3) := by decide +kernel
theorem dX9_tell_50 : decode cX9_tell 50 = .ok (.sipush 200, 3) := by decide +kernel
theorem dX9_tell_53 : decode cX9_tell 53 = .ok (.if_icmp .lt 10, 3) := by decide +kernel
theorem dX9_tell_56 : decode cX9_tell 56 = .ok (.aload_n 0, 1) := by decide +kernel
theorem dX9_tell_57 : decode cX9_tell 57 = .ok (.bipush 7, 2) := by decide +kernel
theorem dX9_tell_59 : decode cX9_tell 59 = .ok (.invokevirtual 80, 3) := by decide +kernel
theorem dX9_tell_62 : decode cX9_tell 62 = .ok (.ireturn, 1) := by decide +kernel
theorem dX9_tell_63 : decode cX9_tell 63 = .ok (.aload_n 0, 1) := by decide +kernel
theorem dX9_tell_64 : decode cX9_tell 64 = .ok (.getfield 39, 3) := by decide +kernel
theorem dX9_tell_67 : decode cX9_tell 67 = .ok (.iload_n 1, 1) := by decide +kernel
theorem dX9_tell_68 : decode cX9_tell 68 = .ok (.iload_n 2, 1) := by decide +kernel
theorem dX9_tell_69 : decode cX9_tell 69 = .ok (.iload_n 3, 1) := by decide +kernel
theorem dX9_tell_70 : decode cX9_tell 70 = .ok (.invokevirtual 209, 3) := by decide +kernel
theorem dX9_tell_73 : decode cX9_tell 73 = .ok (.aload_n 0, 1) := by decide +kernel
theorem dX9_tell_74 : decode cX9_tell 74 = .ok (.iconst 0, 1) := by decide +kernel
theorem dX9_tell_75 : decode cX9_tell 75 = .ok (.invokevirtual 80, 3) := by decide +kernel
theorem dX9_tell_78 : decode cX9_tell 78 = .ok (.ireturn, 1) := by decide +kernel
theorem dX9_met_0 : decode cX9_met 0 = .ok (.aload_n 0, 1) := by decide +kernel
theorem dX9_met_1 : decode cX9_met 1 = .ok (.getfield 18, 3) := by decide +kernel
theorem dX9_met_4 : decode cX9_met 4 = .ok (.iload_n 1, 1) := by decide +kernel
theorem dX9_met_5 : decode cX9_met 5 = .ok (.invokevirtual 188, 3) := by decide +kernel
theorem dX9_met_8 : decode cX9_met 8 = .ok (.ifCond .ne 9, 3) := by decide +kernel
theorem dX9_met_11 : decode cX9_met 11 = .ok (.aload_n 0, 1) := by decide +kernel
theorem dX9_met_12 : decode cX9_met 12 = .ok (.iconst 2, 1) := by decide +kernel
theorem dX9_met_13 : decode cX9_met 13 = .ok (.invokevirtual 114, 3) := by decide +kernel
theorem dX9_met_16 : decode cX9_met 16 = .ok (.ireturn, 1) := by decide +kernel
theorem dX9_met_17 : decode cX9_met 17 = .ok (.iload_n 2, 1) := by decide +kernel
theorem dX9_met_18 : decode cX9_met 18 = .ok (.invokestatic 191, 3) := by decide +kernel
theorem dX9_met_21 : decode cX9_met 21 = .ok (.ifCond .eq 12, 3) := by decide +kernel
theorem dX9_met_24 : decode cX9_met 24 = .ok (.iload_n 3, 1) := by decide +kernel
theorem dX9_met_25 : decode cX9_met 25 = .ok (.ifCond .lt 8, 3) := by decide +kernel
theorem dX9_met_28 : decode cX9_met 28 = .ok (.iload_n 3, 1) := by decide +kernel
theorem dX9_met_29 : decode cX9_met 29 = .ok (.iconst 2, 1) := by decide +kernel
theorem dX9_met_30 : decode cX9_met 30 = .ok (.if_icmp .le 9, 3) := by decide +kernel
theorem dX9_met_33 : decode cX9_met 33 = .ok (.aload_n 0, 1) := by decide +kernel
theorem dX9_met_34 : decode cX9_met 34 = .ok (.iconst 5, 1) := by decide +kernel
theorem dX9_met_35 : decode cX9_met 35 = .ok (.invokevirtual 114, 3) := by decide +kernel
theorem dX9_met_38 : decode cX9_met 38 = .ok (.ireturn, 1) := by decide +kernel
theorem dX9_met_39 : decode cX9_met 39 = .ok (.aload_n 0, 1) := by decide +kernel
theorem dX9_met_40 : decode cX9_met 40 = .ok (.aload_n 0, 1) := by decide +kernel
theorem dX9_met_41 : decode cX9_met 41 = .ok (.getfield 39, 3) := by decide +kernel
theorem dX9_met_44 : decode cX9_met 44 = .ok (.iload_n 1, 1) := by decide +kernel
theorem dX9_met_45 : decode cX9_met 45 = .ok (.iload_n 2, 1) := by decide +kernel
theorem dX9_met_46 : decode cX9_met 46 = .ok (.iload_n 3, 1) := by decide +kernel
theorem dX9_met_47 : decode cX9_met 47 = .ok (.invokevirtual 213, 3) := by decide +kernel
theorem dX9_met_50 : decode cX9_met 50 = .ok (.invokevirtual 124, 3) := by decide +kernel
theorem dX9_met_53 : decode cX9_met 53 = .ok (.ireturn, 1) := by decide +kernel
theorem dX9_goal_0 : decode cX9_goal 0 = .ok (.aload_n 0, 1) := by decide +kernel
theorem dX9_goal_1 : decode cX9_goal 1 = .ok (.getfield 18, 3) := by decide +kernel
theorem dX9_goal_4 : decode cX9_goal 4 = .ok (.iload_n 1, 1) := by decide +kernel
theorem dX9_goal_5 : decode cX9_goal 5 = .ok (.invokevirtual 188, 3) := by decide +kernel
theorem dX9_goal_8 : decode cX9_goal 8 = .ok (.ifCond .ne 9, 3) := by decide +kernel
theorem dX9_goal_11 : decode cX9_goal 11 = .ok (.aload_n 0, 1) := by decide +kernel
theorem dX9_goal_12 : decode cX9_goal 12 = .ok (.iconst 2, 1) := by decide +kernel
theorem dX9_goal_13 : decode cX9_goal 13 = .ok (.invokevirtual 114, 3) := by decide +kernel
theorem dX9_goal_16 : decode cX9_goal 16 = .ok (.ireturn, 1) := by decide +kernel
theorem dX9_goal_17 : decode cX9_goal 17 = .ok (.iload_n 3, 1) := by decide +kernel
theorem dX9_goal_18 : decode cX9_goal 18 = .ok (.iconst (-1), 1) := by decide +kernel
theorem dX9_goal_19 : decode cX9_goal 19 = .ok (.if_icmp .eq 21, 3) := by decide +kernel
theorem dX9_goal_22 : decode cX9_goal 22 = .ok (.aload_n 0, 1) := by decide +kernel
theorem dX9_goal_23 : decode cX9_goal 23 = .ok (.getfield 46, 3) := by decide +kernel
theorem dX9_goal_26 : decode cX9_goal 26 = .ok (.iload_n 3, 1) := by decide +kernel
theorem dX9_goal_27 : decode cX9_goal 27 = .ok (.iload_n 1, 1) := by decide +kernel
theorem dX9_goal_28 : decode cX9_goal 28 = .ok (.invokevirtual 217, 3) := by decide +kernel
theorem dX9_goal_31 : decode cX9_goal 31 = .ok (.ifCond .ne 9, 3) := by decide +kernel
theorem dX9_goal_34 : decode cX9_goal 34 = .ok (.aload_n 0, 1) := by decide +kernel
theorem dX9_goal_35 : decode cX9_goal 35 = .ok (.iconst 2, 1) := by decide +kernel
theorem dX9_goal_36 : decode cX9_goal 36 = .ok (.invokevirtual 114, 3) := by decide +kernel
theorem dX9_goal_39 : decode cX9_goal 39 = .ok (.ireturn, 1) := by decide +kernel
theorem dX9_goal_40 : decode cX9_goal 40 = .ok (.iload_n 2, 1) := by decide +kernel
theorem dX9_goal_41 : decode cX9_goal 41 = .ok (.invokestatic 191, 3) := by decide +kernel
theorem dX9_goal_44 : decode cX9_goal 44 = .ok (.ifCond .ne 9, 3) := by decide +kernel
theorem dX9_goal_47 : decode cX9_goal 47 = .ok (.aload_n 0, 1) := by decide +kernel
theorem dX9_goal_48 : decode cX9_goal 48 = .ok (.iconst 5, 1) := by decide +kernel
theorem dX9_goal_49 : decode cX9_goal 49 = .ok (.invokevirtual 114, 3) := by decide +kernel
theorem dX9_goal_52 : decode cX9_goal 52 = .ok (.ireturn, 1) := by decide +kernel
theorem dX9_goal_53 : decode cX9_goal 53 = .ok (.aload_n 0, 1) := by decide +kernel
theorem dX9_goal_54 : decode cX9_goal 54 = .ok (.getfield 46, 3) := by decide +kernel
theorem dX9_goal_57 : decode cX9_goal 57 = .ok (.getfield 220, 3) := by decide +kernel
theorem dX9_goal_60 : decode cX9_goal 60 = .ok (.bipush 40, 2) := by decide +kernel
theorem dX9_goal_62 : decode cX9_goal 62 = .ok (.if_icmp .lt 10, 3) := by decide +kernel
theorem dX9_goal_65 : decode cX9_goal 65 = .ok (.aload_n 0, 1) := by decide +kernel
theorem dX9_goal_66 : decode cX9_goal 66 = .ok (.bipush 7, 2) := by decide +kernel
theorem dX9_goal_68 : decode cX9_goal 68 = .ok (.invokevirtual 114, 3) := by decide +kernel
theorem dX9_goal_71 : decode cX9_goal 71 = .ok (.ireturn, 1) := by decide +kernel
theorem dX9_goal_72 : decode cX9_goal 72 = .ok (.aload_n 0, 1) := by decide +kernel
theorem dX9_goal_73 : decode cX9_goal 73 = .ok (.aload_n 0, 1) := by decide +kernel
theorem dX9_goal_74 : decode cX9_goal 74 = .ok (.getfield 46, 3) := by decide +kernel
theorem dX9_goal_77 : decode cX9_goal 77 = .ok (.iload_n 1, 1) := by decide +kernel
theorem dX9_goal_78 : decode cX9_goal 78 = .ok (.iload_n 2, 1) := by decide +kernel
theorem dX9_goal_79 : decode cX9_goal 79 = .ok (.iload_n 3, 1) := by decide +kernel
theorem dX9_goal_80 : decode cX9_goal 80 = .ok (.invokevirtual 221, 3) := by decide +kernel
theorem dX9_goal_83 : decode cX9_goal 83 = .ok (.invokevirtual 124, 3) := by decide +kernel
theorem dX9_goal_86 : decode cX9_goal 86 = .ok (.ireturn, 1) := by decide +kernel
theorem dX9_confirm_0 : decode cX9_confirm 0 = .ok (.aload_n 0, 1) := by decide +kernel
theorem dX9_confirm_1 : decode cX9_confirm 1 = .ok (.getfield 46, 3) := by decide +kernel
theorem dX9_confirm_4 : decode cX9_confirm 4 = .ok (.iload_n 1, 1) := by decide +kernel
theorem dX9_confirm_5 : decode cX9_confirm 5 = .ok (.invokevirtual 223, 3) := by decide +kernel
theorem dX9_confirm_8 : decode cX9_confirm 8 = .ok (.ifCond .ne 9, 3) := by decide +kernel
theorem dX9_confirm_11 : decode cX9_confirm 11 = .ok (.aload_n 0, 1) := by decide +kernel
theorem dX9_confirm_12 : decode cX9_confirm 12 = .ok (.iconst 2, 1) := by decide +kernel
theorem dX9_confirm_13 : decode cX9_confirm 13 = .ok (.invokevirtual 80, 3) := by decide +kernel
theorem dX9_confirm_16 : decode cX9_confirm 16 = .ok (.ireturn, 1) := by decide +kernel
theorem dX9_confirm_17 : decode cX9_confirm 17 = .ok (.iload_n 2, 1) := by decide +kernel
theorem dX9_confirm_18 : decode cX9_confirm 18 = .ok (.invokestatic 191, 3) := by decide +kernel
theorem dX9_confirm_21 : decode cX9_confirm 21 = .ok (.ifCond .ne 9, 3) := by decide +kernel
theorem dX9_confirm_24 : decode cX9_confirm 24 = .ok (.aload_n 0, 1) := by decide +kernel
theorem dX9_confirm_25 : decode cX9_confirm 25 = .ok (.iconst 5, 1) := by decide +kernel
theorem dX9_confirm_26 : decode cX9_confirm 26 = .ok (.invokevirtual 80, 3) := by decide +kernel
theorem dX9_confirm_29 : decode cX9_confirm 29 = .ok (.ireturn, 1) := by decide +kernel
theorem dX9_confirm_30 : decode cX9_confirm 30 = .ok (.aload_n 0, 1) := by decide +kernel
theorem dX9_confirm_31 : decode cX9_confirm 31 = .ok (.getfield 46, 3) := by decide +kernel
theorem dX9_confirm_34 : decode cX9_confirm 34 = .ok (.getfield 226, 3) := by decide +kernel
theorem dX9_confirm_37 : decode cX9_confirm 37 = .ok (.iload_n 1, 1) := by decide +kernel
theorem dX9_confirm_38 : decode cX9_confirm 38 = .ok (.iaload, 1) := by decide +kernel
theorem dX9_confirm_39 : decode cX9_confirm 39 = .ok (.iconst (-1), 1) := by decide +kernel
theorem dX9_confirm_40 : decode cX9_confirm 40 = .ok (.if_icmp .eq 10, 3) := by decide +kernel
theorem dX9_confirm_43 : decode cX9_confirm 43 = .ok (.aload_n 0, 1) := by decide +kernel
theorem dX9_confirm_44 : decode cX9_confirm 44 = .ok (.bipush 8, 2) := by decide +kernel
theorem dX9_confirm_46 : decode cX9_confirm 46 = .ok (.invokevirtual 80, 3) := by decide +kernel
theorem dX9_confirm_49 : decode cX9_confirm 49 = .ok (.ireturn, 1) := by decide +kernel
theorem dX9_confirm_50 : decode cX9_confirm 50 = .ok (.aload_n 0, 1) := by decide +kernel
theorem dX9_confirm_51 : decode cX9_confirm 51 = .ok (.getfield 46, 3) := by decide +kernel
theorem dX9_confirm_54 : decode cX9_confirm 54 = .ok (.getfield 226, 3) := by decide +kernel
theorem dX9_confirm_57 : decode cX9_confirm 57 = .ok (.iload_n 1, 1) := by decide +kernel
theorem dX9_confirm_58 : decode cX9_confirm 58 = .ok (.iload_n 2, 1) := by decide +kernel
theorem dX9_confirm_59 : decode cX9_confirm 59 = .ok (.iastore, 1) := by decide +kernel
theorem dX9_confirm_60 : decode cX9_confirm 60 = .ok (.aload_n 0, 1) := by decide +kernel
theorem dX9_confirm_61 : decode cX9_confirm 61 = .ok (.iconst 0, 1) := by decide +kernel
theorem dX9_confirm_62 : decode cX9_confirm 62 = .ok (.invokevirtual 80, 3) := by decide +kernel
theorem dX9_confirm_65 : decode cX9_confirm 65 = .ok (.ireturn, 1) := by decide +kernel
theorem dX9_goalAt_0 : decode cX9_goalAt 0 = .ok (.aload_n 0, 1) := by decide +kernel
theorem dX9_goalAt_1 : decode cX9_goalAt 1 = .ok (.getfield 46, 3) := by decide +kernel
theorem dX9_goalAt_4 : decode cX9_goalAt 4 = .ok (.iload_n 1, 1) := by decide +kernel
theorem dX9_goalAt_5 : decode cX9_goalAt 5 = .ok (.invokevirtual 223, 3) := by decide +kernel
theorem dX9_goalAt_8 : decode cX9_goalAt 8 = .ok (.ifCond .ne 9, 3) := by decide +kernel
theorem dX9_goalAt_11 : decode cX9_goalAt 11 = .ok (.aload_n 0, 1) := by decide +kernel
theorem dX9_goalAt_12 : decode cX9_goalAt 12 = .ok (.iconst 2, 1) := by decide +kernel
theorem dX9_goalAt_13 : decode cX9_goalAt 13 = .ok (.invokevirtual 114, 3) := by decide +kernel
theorem dX9_goalAt_16 : decode cX9_goalAt 16 = .ok (.ireturn, 1) := by decide +kernel
theorem dX9_goalAt_17 : decode cX9_goalAt 17 = .ok (.iload_n 2, 1) := by decide +kernel
theorem dX9_goalAt_18 : decode cX9_goalAt 18 = .ok (.invokestatic 191, 3) := by decide +kernel
theorem dX9_goalAt_21 : decode cX9_goalAt 21 = .ok (.ifCond .ne 9, 3) := by decide +kernel
theorem dX9_goalAt_24 : decode cX9_goalAt 24 = .ok (.aload_n 0, 1) := by decide +kernel
theorem dX9_goalAt_25 : decode cX9_goalAt 25 = .ok (.iconst 5, 1) := by decide +kernel
theorem dX9_goalAt_26 : decode cX9_goalAt 26 = .ok (.invokevirtual 114, 3) := by decide +kernel
theorem dX9_goalAt_29 : decode cX9_goalAt 29 = .ok (.ireturn, 1) := by decide +kernel
theorem dX9_goalAt_30 : decode cX9_goalAt 30 = .ok (.aload_n 0, 1) := by decide +kernel
theorem dX9_goalAt_31 : decode cX9_goalAt 31 = .ok (.aload_n 0, 1) := by decide +kernel
theorem dX9_goalAt_32 : decode cX9_goalAt 32 = .ok (.getfield 46, 3) := by decide +kernel
theorem dX9_goalAt_35 : decode cX9_goalAt 35 = .ok (.iload_n 1, 1) := by decide +kernel
theorem dX9_goalAt_36 : decode cX9_goalAt 36 = .ok (.iload_n 2, 1) := by decide +kernel
theorem dX9_goalAt_37 : decode cX9_goalAt 37 = .ok (.invokevirtual 229, 3) := by decide +kernel
theorem dX9_goalAt_40 : decode cX9_goalAt 40 = .ok (.invokevirtual 124, 3) := by decide +kernel
theorem dX9_goalAt_43 : decode cX9_goalAt 43 = .ok (.ireturn, 1) := by decide +kernel
theorem dX9_run_0 : decode cX9_run 0 = .ok (.iload_n 1, 1) := by decide +kernel
theorem dX9_run_1 : decode cX9_run 1 = .ok (.iconst 1, 1) := by decide +kernel
theorem dX9_run_2 : decode cX9_run 2 = .ok (.if_icmp .lt 9, 3) := by decide +kernel
theorem dX9_run_5 : decode cX9_run 5 = .ok (.iload_n 1, 1) := by decide +kernel
theorem dX9_run_6 : decode cX9_run 6 = .ok (.bipush 60, 2) := by decide +kernel
theorem dX9_run_8 : decode cX9_run 8 = .ok (.if_icmp .le 9, 3) := by decide +kernel
theorem dX9_run_11 : decode cX9_run 11 = .ok (.aload_n 0, 1) := by decide +kernel
theorem dX9_run_12 : decode cX9_run 12 = .ok (.iconst 5, 1) := by decide +kernel
theorem dX9_run_13 : decode cX9_run 13 = .ok (.invokevirtual 80, 3) := by decide +kernel
theorem dX9_run_16 : decode cX9_run 16 = .ok (.ireturn, 1) := by decide +kernel
theorem dX9_run_17 : decode cX9_run 17 = .ok (.aload_n 0, 1) := by decide +kernel
theorem dX9_run_18 : decode cX9_run 18 = .ok (.getfield 53, 3) := by decide +kernel
theorem dX9_run_21 : decode cX9_run 21 = .ok (.getfield 232, 3) := by decide +kernel
theorem dX9_run_24 : decode cX9_run 24 = .ok (.bipush 16, 2) := by decide +kernel
theorem dX9_run_26 : decode cX9_run 26 = .ok (.if_icmp .lt 10, 3) := by decide +kernel
theorem dX9_run_29 : decode cX9_run 29 = .ok (.aload_n 0, 1) := by decide +kernel
theorem dX9_run_30 : decode cX9_run 30 = .ok (.bipush 7, 2) := by decide +kernel
theorem dX9_run_32 : decode cX9_run 32 = .ok (.invokevirtual 80, 3) := by decide +kernel
theorem dX9_run_35 : decode cX9_run 35 = .ok (.ireturn, 1) := by decide +kernel
theorem dX9_run_36 : decode cX9_run 36 = .ok (.aload_n 0, 1) := by decide +kernel
theorem dX9_run_37 : decode cX9_run 37 = .ok (.getfield 53, 3) := by decide +kernel
theorem dX9_run_40 : decode cX9_run 40 = .ok (.iload_n 1, 1) := by decide +kernel
theorem dX9_run_41 : decode cX9_run 41 = .ok (.iload_n 2, 1) := by decide +kernel
theorem dX9_run_42 : decode cX9_run 42 = .ok (.invokevirtual 233, 3) := by decide +kernel
theorem dX9_run_45 : decode cX9_run 45 = .ok (.aload_n 0, 1) := by decide +kernel
theorem dX9_run_46 : decode cX9_run 46 = .ok (.iconst 0, 1) := by decide +kernel
theorem dX9_run_47 : decode cX9_run 47 = .ok (.invokevirtual 80, 3) := by decide +kernel
theorem dX9_run_50 : decode cX9_run 50 = .ok (.ireturn, 1) := by decide +kernel
theorem dX9_clear_0 : decode cX9_clear 0 = .ok (.aload_n 0, 1) := by decide +kernel
theorem dX9_clear_1 : decode cX9_clear 1 = .ok (.getfield 53, 3) := by decide +kernel
theorem dX9_clear_4 : decode cX9_clear 4 = .ok (.iconst 0, 1) := by decide +kernel
theorem dX9_clear_5 : decode cX9_clear 5 = .ok (.putfield 232, 3) := by decide +kernel
theorem dX9_clear_8 : decode cX9_clear 8 = .ok (.aload_n 0, 1) := by decide +kernel
theorem dX9_clear_9 : decode cX9_clear 9 = .ok (.iconst 0, 1) := by decide +kernel
theorem dX9_clear_10 : decode cX9_clear 10 = .ok (.invokevirtual 80, 3) := by decide +kernel
theorem dX9_clear_13 : decode cX9_clear 13 = .ok (.ireturn, 1) := by decide +kernel
theorem dX9_lasts_0 : decode cX9_lasts 0 = .ok (.iload_n 1, 1) := by decide +kernel
theorem dX9_lasts_1 : decode cX9_lasts 1 = .ok (.ifCond .lt 9, 3) := by decide +kernel
theorem dX9_lasts_4 : decode cX9_lasts 4 = .ok (.iload_n 1, 1) := by decide +kernel
theorem dX9_lasts_5 : decode cX9_lasts 5 = .ok (.bipush 60, 2) := by decide +kernel
theorem dX9_lasts_7 : decode cX9_lasts 7 = .ok (.if_icmp .le 9, 3) := by decide +kernel
theorem dX9_lasts_10 : decode cX9_lasts 10 = .ok (.aload_n 0, 1) := by decide +kernel
theorem dX9_lasts_11 : decode cX9_lasts 11 = .ok (.iconst 5, 1) := by decide +kernel
theorem dX9_lasts_12 : decode cX9_lasts 12 = .ok (.invokevirtual 80, 3) := by decide +kernel
theorem dX9_lasts_15 : decode cX9_lasts 15 = .ok (.ireturn, 1) := by decide +kernel
theorem dX9_lasts_16 : decode cX9_lasts 16 = .ok (.aload_n 0, 1) := by decide +kernel
theorem dX9_lasts_17 : decode cX9_lasts 17 = .ok (.getfield 53, 3) := by decide +kernel
theorem dX9_lasts_20 : decode cX9_lasts 20 = .ok (.getfield 232, 3) := by decide +kernel
theorem dX9_lasts_23 : decode cX9_lasts 23 = .ok (.ifCond .ne 10, 3) := by decide +kernel
theorem dX9_lasts_26 : decode cX9_lasts 26 = .ok (.aload_n 0, 1) := by decide +kernel
theorem dX9_lasts_27 : decode cX9_lasts 27 = .ok (.bipush 9, 2) := by decide +kernel
theorem dX9_lasts_29 : decode cX9_lasts 29 = .ok (.invokevirtual 80, 3) := by decide +kernel
theorem dX9_lasts_32 : decode cX9_lasts 32 = .ok (.ireturn, 1) := by decide +kernel
theorem dX9_lasts_33 : decode cX9_lasts 33 = .ok (.aload_n 0, 1) := by decide +kernel
theorem dX9_lasts_34 : decode cX9_lasts 34 = .ok (.getfield 53, 3) := by decide +kernel
theorem dX9_lasts_37 : decode cX9_lasts 37 = .ok (.iload_n 1, 1) := by decide +kernel
theorem dX9_lasts_38 : decode cX9_lasts 38 = .ok (.aload_n 0, 1) := by decide +kernel
theorem dX9_lasts_39 : decode cX9_lasts 39 = .ok (.getfield 67, 3) := by decide +kernel
theorem dX9_lasts_42 : decode cX9_lasts 42 = .ok (.invokevirtual 236, 3) := by decide +kernel
theorem dX9_lasts_45 : decode cX9_lasts 45 = .ok (.aload_n 0, 1) := by decide +kernel
theorem dX9_lasts_46 : decode cX9_lasts 46 = .ok (.iconst 0, 1) := by decide +kernel
theorem dX9_lasts_47 : decode cX9_lasts 47 = .ok (.invokevirtual 80, 3) := by decide +kernel
theorem dX9_lasts_50 : decode cX9_lasts 50 = .ok (.ireturn, 1) := by decide +kernel
theorem dX9_upper_0 : decode cX9_upper 0 = .ok (.aload_n 0, 1) := by decide +kernel
theorem dX9_upper_1 : decode cX9_upper 1 = .ok (.getfield 67, 3) := by decide +kernel
theorem dX9_upper_4 : decode cX9_upper 4 = .ok (.getfield 240, 3) := by decide +kernel
theorem dX9_upper_7 : decode cX9_upper 7 = .ok (.lreturn, 1) := by decide +kernel
theorem dX9_lower_0 : decode cX9_lower 0 = .ok (.aload_n 0, 1) := by decide +kernel
theorem dX9_lower_1 : decode cX9_lower 1 = .ok (.getfield 67, 3) := by decide +kernel
theorem dX9_lower_4 : decode cX9_lower 4 = .ok (.getfield 244, 3) := by decide +kernel
theorem dX9_lower_7 : decode cX9_lower 7 = .ok (.lreturn, 1) := by decide +kernel
theorem dX9_gain_0 : decode cX9_gain 0 = .ok (.aload_n 0, 1) := by decide +kernel
theorem dX9_gain_1 : decode cX9_gain 1 = .ok (.iload_n 1, 1) := by decide +kernel
theorem dX9_gain_2 : decode cX9_gain 2 = .ok (.iload_n 2, 1) := by decide +kernel
theorem dX9_gain_3 : decode cX9_gain 3 = .ok (.iload_n 3, 1) := by decide +kernel
theorem dX9_gain_4 : decode cX9_gain 4 = .ok (.invokevirtual 247, 3) := by decide +kernel
theorem dX9_gain_7 : decode cX9_gain 7 = .ok (.istore 4, 2) := by decide +kernel
theorem dX9_gain_9 : decode cX9_gain 9 = .ok (.iload 4, 2) := by decide +kernel
theorem dX9_gain_11 : decode cX9_gain 11 = .ok (.ifCond .ne 29, 3) := by decide +kernel
theorem dX9_gain_14 : decode cX9_gain 14 = .ok (.aload_n 0, 1) := by decide +kernel
theorem dX9_gain_15 : decode cX9_gain 15 = .ok (.getfield 60, 3) := by decide +kernel
theorem dX9_gain_18 : decode cX9_gain 18 = .ok (.aload_n 0, 1) := by decide +kernel
theorem dX9_gain_19 : decode cX9_gain 19 = .ok (.getfield 11, 3) := by decide +kernel
theorem dX9_gain_22 : decode cX9_gain 22 = .ok (.iload_n 1, 1) := by decide +kernel
theorem dX9_gain_23 : decode cX9_gain 23 = .ok (.aaload, 1) := by decide +kernel
theorem dX9_gain_24 : decode cX9_gain 24 = .ok (.iload_n 2, 1) := by decide +kernel
theorem dX9_gain_25 : decode cX9_gain 25 = .ok (.invokevirtual 250, 3) := by decide +kernel
theorem dX9_gain_28 : decode cX9_gain 28 = .ok (.aload_n 0, 1) := by decide +kernel
theorem dX9_gain_29 : decode cX9_gain 29 = .ok (.getfield 60, 3) := by decide +kernel
theorem dX9_gain_32 : decode cX9_gain 32 = .ok (.iload_n 3, 1) := by decide +kernel
theorem dX9_gain_33 : decode cX9_gain 33 = .ok (.aload_n 0, 1) := by decide +kernel
theorem dX9_gain_34 : decode cX9_gain 34 = .ok (.getfield 67, 3) := by decide +kernel
theorem dX9_gain_37 : decode cX9_gain 37 = .ok (.invokevirtual 254, 3) := by decide +kernel
theorem dX9_gain_40 : decode cX9_gain 40 = .ok (.aload_n 0, 1) := by decide +kernel
theorem dX9_gain_41 : decode cX9_gain 41 = .ok (.iload 4, 2) := by decide +kernel
theorem dX9_gain_43 : decode cX9_gain 43 = .ok (.invokevirtual 80, 3) := by decide +kernel
theorem dX9_gain_46 : decode cX9_gain 46 = .ok (.ireturn, 1) := by decide +kernel
theorem dX9_chance_0 : decode cX9_chance 0 = .ok (.aload_n 0, 1) := by decide +kernel
theorem dX9_chance_1 : decode cX9_chance 1 = .ok (.iload_n 1, 1) := by decide +kernel
theorem dX9_chance_2 : decode cX9_chance 2 = .ok (.iload_n 2, 1) := by decide +kernel
theorem dX9_chance_3 : decode cX9_chance 3 = .ok (.iload_n 3, 1) := by decide +kernel
theorem dX9_chance_4 : decode cX9_chance 4 = .ok (.invokevirtual 247, 3) := by decide +kernel
theorem dX9_chance_7 : decode cX9_chance 7 = .ok (.istore 4, 2) := by decide +kernel
theorem dX9_chance_9 : decode cX9_chance 9 = .ok (.iload 4, 2) := by decide +kernel
theorem dX9_chance_11 : decode cX9_chance 11 = .ok (.ifCond .ne 29, 3) := by decide +kernel
theorem dX9_chance_14 : decode cX9_chance 14 = .ok (.aload_n 0, 1) := by decide +kernel
theorem dX9_chance_15 : decode cX9_chance 15 = .ok (.getfield 60, 3) := by decide +kernel
theorem dX9_chance_18 : decode cX9_chance 18 = .ok (.aload_n 0, 1) := by decide +kernel
theorem dX9_chance_19 : decode cX9_chance 19 = .ok (.getfield 11, 3) := by decide +kernel
theorem dX9_chance_22 : decode cX9_chance 22 = .ok (.iload_n 1, 1) := by decide +kernel
theorem dX9_chance_23 : decode cX9_chance 23 = .ok (.aaload, 1) := by decide +kernel
theorem dX9_chance_24 : decode cX9_chance 24 = .ok (.iload_n 2, 1) := by decide +kernel
theorem dX9_chance_25 : decode cX9_chance 25 = .ok (.invokevirtual 250, 3) := by decide +kernel
theorem dX9_chance_28 : decode cX9_chance 28 = .ok (.aload_n 0, 1) := by decide +kernel
theorem dX9_chance_29 : decode cX9_chance 29 = .ok (.getfield 60, 3) := by decide +kernel
theorem dX9_chance_32 : decode cX9_chance 32 = .ok (.iload_n 3, 1) := by decide +kernel
theorem dX9_chance_33 : decode cX9_chance 33 = .ok (.aload_n 0, 1) := by decide +kernel
theorem dX9_chance_34 : decode cX9_chance 34 = .ok (.getfield 67, 3) := by decide +kernel
theorem dX9_chance_37 : decode cX9_chance 37 = .ok (.invokevirtual 257, 3) := by decide +kernel
theorem dX9_chance_40 : decode cX9_chance 40 = .ok (.aload_n 0, 1) := by decide +kernel
theorem dX9_chance_41 : decode cX9_chance 41 = .ok (.iload 4, 2) := by decide +kernel
theorem dX9_chance_43 : decode cX9_chance 43 = .ok (.invokevirtual 80, 3) := by decide +kernel
theorem dX9_chance_46 : decode cX9_chance 46 = .ok (.ireturn, 1) := by decide +kernel
theorem dX9_draw_0 : decode cX9_draw 0 = .ok (.iload_n 1, 1) := by decide +kernel
theorem dX9_draw_1 : decode cX9_draw 1 = .ok (.iconst 1, 1) := by decide +kernel
theorem dX9_draw_2 : decode cX9_draw 2 = .ok (.if_icmp .lt 22, 3) := by decide +kernel
theorem dX9_draw_5 : decode cX9_draw 5 = .ok (.iload_n 1, 1) := by decide +kernel
theorem dX9_draw_6 : decode cX9_draw 6 = .ok (.bipush 16, 2) := by decide +kernel
theorem dX9_draw_8 : decode cX9_draw 8 = .ok (.if_icmp .gt 16, 3) := by decide +kernel
theorem dX9_draw_11 : decode cX9_draw 11 = .ok (.iload_n 2, 1) := by decide +kernel
theorem dX9_draw_12 : decode cX9_draw 12 = .ok (.ifCond .lt 12, 3) := by decide +kernel
theorem dX9_draw_15 : decode cX9_draw 15 = .ok (.iload_n 2, 1) := by decide +kernel
theorem dX9_draw_16 : decode cX9_draw 16 = .ok (.iload_n 1, 1) := by decide +kernel
theorem dX9_draw_17 : decode cX9_draw 17 = .ok (.if_icmp .gt 7, 3) := by decide +kernel
theorem dX9_draw_20 : decode cX9_draw 20 = .ok (.iload_n 3, 1) := by decide +kernel
theorem dX9_draw_21 : decode cX9_draw 21 = .ok (.ifCond .ge 9, 3) := by decide +kernel
theorem dX9_draw_24 : decode cX9_draw 24 = .ok (.aload_n 0, 1) := by decide +kernel
theorem dX9_draw_25 : decode cX9_draw 25 = .ok (.iconst 5, 1) := by decide +kernel
theorem dX9_draw_26 : decode cX9_draw 26 = .ok (.invokevirtual 114, 3) := by decide +kernel
theorem dX9_draw_29 : decode cX9_draw 29 = .ok (.ireturn, 1) := by decide +kernel
theorem dX9_draw_30 : decode cX9_draw 30 = .ok (.aload_n 0, 1) := by decide +kernel
theorem dX9_draw_31 : decode cX9_draw 31 = .ok (.iload_n 1, 1) := by decide +kernel
theorem dX9_draw_32 : decode cX9_draw 32 = .ok (.iload_n 2, 1) := by decide +kernel
theorem dX9_draw_33 : decode cX9_draw 33 = .ok (.iload_n 3, 1) := by decide +kernel
theorem dX9_draw_34 : decode cX9_draw 34 = .ok (.invokestatic 260, 3) := by decide +kernel
theorem dX9_draw_37 : decode cX9_draw 37 = .ok (.invokevirtual 124, 3) := by decide +kernel
theorem dX9_draw_40 : decode cX9_draw 40 = .ok (.ireturn, 1) := by decide +kernel
theorem dX9_finish_0 : decode cX9_finish 0 = .ok (.aload_n 0, 1) := by decide +kernel
theorem dX9_finish_1 : decode cX9_finish 1 = .ok (.iload_n 1, 1) := by decide +kernel
theorem dX9_finish_2 : decode cX9_finish 2 = .ok (.putfield 71, 3) := by decide +kernel
theorem dX9_finish_5 : decode cX9_finish 5 = .ok (.iload_n 1, 1) := by decide +kernel
theorem dX9_finish_6 : decode cX9_finish 6 = .ok (.ifCond .ne 7, 3) := by decide +kernel
theorem dX9_finish_9 : decode cX9_finish 9 = .ok (.iconst 1, 1) := by decide +kernel
theorem dX9_finish_10 : decode cX9_finish 10 = .ok (.goto 4, 3) := by decide +kernel
theorem dX9_finish_13 : decode cX9_finish 13 = .ok (.iconst 0, 1) := by decide +kernel
theorem dX9_finish_14 : decode cX9_finish 14 = .ok (.ireturn, 1) := by decide +kernel
theorem dX9_refused_0 : decode cX9_refused 0 = .ok (.aload_n 0, 1) := by decide +kernel
theorem dX9_refused_1 : decode cX9_refused 1 = .ok (.iload_n 1, 1) := by decide +kernel
theorem dX9_refused_2 : decode cX9_refused 2 = .ok (.putfield 71, 3) := by decide +kernel
theorem dX9_refused_5 : decode cX9_refused 5 = .ok (.iconst (-1), 1) := by decide +kernel
theorem dX9_refused_6 : decode cX9_refused 6 = .ok (.ireturn, 1) := by decide +kernel
theorem dX9_answered_0 : decode cX9_answered 0 = .ok (.aload_n 0, 1) := by decide +kernel
theorem dX9_answered_1 : decode cX9_answered 1 = .ok (.iconst 0, 1) := by decide +kernel
theorem dX9_answered_2 : decode cX9_answered 2 = .ok (.putfield 71, 3) := by decide +kernel
theorem dX9_answered_5 : decode cX9_answered 5 = .ok (.iload_n 1, 1) := by decide +kernel
theorem dX9_answered_6 : decode cX9_answered 6 = .ok (.ireturn, 1) := by decide +kernel
theorem dX9_isTray_0 : decode cX9_isTray 0 = .ok (.iload_n 0, 1) := by decide +kernel
theorem dX9_isTray_1 : decode cX9_isTray 1 = .ok (.ifCond .lt 12, 3) := by decide +kernel
theorem dX9_isTray_4 : decode cX9_isTray 4 = .ok (.iload_n 0, 1) := by decide +kernel
theorem dX9_isTray_5 : decode cX9_isTray 5 = .ok (.iconst 4, 1) := by decide +kernel
theorem dX9_isTray_6 : decode cX9_isTray 6 = .ok (.if_icmp .ge 7, 3) := by decide +kernel
theorem dX9_isTray_9 : decode cX9_isTray 9 = .ok (.iconst 1, 1) := by decide +kernel
theorem dX9_isTray_10 : decode cX9_isTray 10 = .ok (.goto 4, 3) := by decide +kernel
theorem dX9_isTray_13 : decode cX9_isTray 13 = .ok (.iconst 0, 1) := by decide +kernel
theorem dX9_isTray_14 : decode cX9_isTray 14 = .ok (.ireturn, 1) := by decide +kernel
theorem dX9_isPlaces_0 : decode cX9_isPlaces 0 = .ok (.iload_n 0, 1) := by decide +kernel
theorem dX9_isPlaces_1 : decode cX9_isPlaces 1 = .ok (.ifCond .lt 12, 3) := by decide +kernel
theorem dX9_isPlaces_4 : decode cX9_isPlaces 4 = .ok (.iload_n 0, 1) := by decide +kernel
theorem dX9_isPlaces_5 : decode cX9_isPlaces 5 = .ok (.iconst 4, 1) := by decide +kernel
theorem dX9_isPlaces_6 : decode cX9_isPlaces 6 = .ok (.if_icmp .gt 7, 3) := by decide +kernel
theorem dX9_isPlaces_9 : decode cX9_isPlaces 9 = .ok (.iconst 1, 1) := by decide +kernel
theorem dX9_isPlaces_10 : decode cX9_isPlaces 10 = .ok (.goto 4, 3) := by decide +kernel
theorem dX9_isPlaces_13 : decode cX9_isPlaces 13 = .ok (.iconst 0, 1) := by decide +kernel
theorem dX9_isPlaces_14 : decode cX9_isPlaces 14 = .ok (.ireturn, 1) := by decide +kernel
theorem dX9_isDay_0 : decode cX9_isDay 0 = .ok (.iload_n 0, 1) := by decide +kernel
theorem dX9_isDay_1 : decode cX9_isDay 1 = .ok (.ifCond .lt 14, 3) := by decide +kernel
theorem dX9_isDay_4 : decode cX9_isDay 4 = .ok (.iload_n 0, 1) := by decide +kernel
theorem dX9_isDay_5 : decode cX9_isDay 5 = .ok (.sipush 9999, 3) := by decide +kernel
theorem dX9_isDay_8 : decode cX9_isDay 8 = .ok (.if_icmp .gt 7, 3) := by decide +kernel
theorem dX9_isDay_11 : decode cX9_isDay 11 = .ok (.iconst 1, 1) := by decide +kernel
theorem dX9_isDay_12 : decode cX9_isDay 12 = .ok (.goto 4, 3) := by decide +kernel
theorem dX9_isDay_15 : decode cX9_isDay 15 = .ok (.iconst 0, 1) := by decide +kernel
theorem dX9_isDay_16 : decode cX9_isDay 16 = .ok (.ireturn, 1) := by decide +kernel
theorem dX9_trayFault_0 : decode cX9_trayFault 0 = .ok (.iload_n 1, 1) := by decide +kernel
theorem dX9_trayFault_1 : decode cX9_trayFault 1 = .ok (.invokestatic 76, 3) := by decide +kernel
theorem dX9_trayFault_4 : decode cX9_trayFault 4 = .ok (.ifCond .ne 5, 3) := by decide +kernel
theorem dX9_trayFault_7 : decode cX9_trayFault 7 = .ok (.iconst 1, 1) := by decide +kernel
theorem dX9_trayFault_8 : decode cX9_trayFault 8 = .ok (.ireturn, 1) := by decide +kernel
theorem dX9_trayFault_9 : decode cX9_trayFault 9 = .ok (.aload_n 0, 1) := by decide +kernel
theorem dX9_trayFault_10 : decode cX9_trayFault 10 = .ok (.getfield 11, 3) := by decide +kernel
theorem dX9_trayFault_13 : decode cX9_trayFault 13 = .ok (.iload_n 1, 1) := by decide +kernel
theorem dX9_trayFault_14 : decode cX9_trayFault 14 = .ok (.aaload, 1) := by decide +kernel
theorem dX9_trayFault_15 : decode cX9_trayFault 15 = .ok (.getfield 263, 3) := by decide +kernel
theorem dX9_trayFault_18 : decode cX9_trayFault 18 = .ok (.ifCond .eq 7, 3) := by decide +kernel
theorem dX9_trayFault_21 : decode cX9_trayFault 21 = .ok (.iconst 3, 1) := by decide +kernel
theorem dX9_trayFault_22 : decode cX9_trayFault 22 = .ok (.goto 4, 3) := by decide +kernel
theorem dX9_trayFault_25 : decode cX9_trayFault 25 = .ok (.iconst 0, 1) := by decide +kernel
theorem dX9_trayFault_26 : decode cX9_trayFault 26 = .ok (.ireturn, 1) := by decide +kernel
theorem dX9_placeFault_0 : decode cX9_placeFault 0 = .ok (.aload_n 0, 1) := by decide +kernel
theorem dX9_placeFault_1 : decode cX9_placeFault 1 = .ok (.iload_n 1, 1) := by decide +kernel
theorem dX9_placeFault_2 : decode cX9_placeFault 2 = .ok (.invokevirtual 266, 3) := by decide +kernel
theorem dX9_placeFault_5 : decode cX9_placeFault 5 = .ok (.istore_n 3, 1) := by decide +kernel
theorem dX9_placeFault_6 : decode cX9_placeFault 6 = .ok (.iload_n 3, 1) := by decide +kernel
theorem dX9_placeFault_7 : decode cX9_placeFault 7 = .ok (.ifCond .eq 5, 3) := by decide +kernel
theorem dX9_placeFault_10 : decode cX9_placeFault 10 = .ok (.iload_n 3, 1) := by decide +kernel
theorem dX9_placeFault_11 : decode cX9_placeFault 11 = .ok (.ireturn, 1) := by decide +kernel
theorem dX9_placeFault_12 : decode cX9_placeFault 12 = .ok (.aload_n 0, 1) := by decide +kernel
theorem dX9_placeFault_13 : decode cX9_placeFault 13 = .ok (.getfield 11, 3) := by decide +kernel
theorem dX9_placeFault_16 : decode cX9_placeFault 16 = .ok (.iload_n 1, 1) := by decide +kernel
theorem dX9_placeFault_17 : decode cX9_placeFault 17 = .ok (.aaload, 1) := by decide +kernel
theorem dX9_placeFault_18 : decode cX9_placeFault 18 = .ok (.iload_n 2, 1) := by decide +kernel
theorem dX9_placeFault_19 : decode cX9_placeFault 19 = .ok (.iconst 1, 1) := by decide +kernel
theorem dX9_placeFault_20 : decode cX9_placeFault 20 = .ok (.invokevirtual 269, 3) := by decide +kernel
theorem dX9_placeFault_23 : decode cX9_placeFault 23 = .ok (.ifCond .eq 7, 3) := by decide +kernel
theorem dX9_placeFault_26 : decode cX9_placeFault 26 = .ok (.iconst 0, 1) := by decide +kernel
theorem dX9_placeFault_27 : decode cX9_placeFault 27 = .ok (.goto 4, 3) := by decide +kernel
theorem dX9_placeFault_30 : decode cX9_placeFault 30 = .ok (.iconst 4, 1) := by decide +kernel
theorem dX9_placeFault_31 : decode cX9_placeFault 31 = .ok (.ireturn, 1) := by decide +kernel
theorem dX9_pourFault_0 : decode cX9_pourFault 0 = .ok (.iload_n 1, 1) := by decide +kernel
theorem dX9_pourFault_1 : decode cX9_pourFault 1 = .ok (.invokestatic 76, 3) := by decide +kernel
theorem dX9_pourFault_4 : decode cX9_pourFault 4 = .ok (.ifCond .eq 10, 3) := by decide +kernel
theorem dX9_pourFault_7 : decode cX9_pourFault 7 = .ok (.iload_n 3, 1) := by decide +kernel
theorem dX9_pourFault_8 : decode cX9_pourFault 8 = .ok (.invokestatic 76, 3) := by decide +kernel
theorem dX9_pourFault_11 : decode cX9_pourFault 11 = .ok (.ifCond .ne 5, 3) := by decide +kernel
theorem dX9_pourFault_14 : decode cX9_pourFault 14 = .ok (.iconst 1, 1) := by decide +kernel
theorem dX9_pourFault_15 : decode cX9_pourFault 15 = .ok (.ireturn, 1) := by decide +kernel
theorem dX9_pourFault_16 : decode cX9_pourFault 16 = .ok (.aload_n 0, 1) := by decide +kernel
theorem dX9_pourFault_17 : decode cX9_pourFault 17 = .ok (.getfield 11, 3) := by decide +kernel
theorem dX9_pourFault_20 : decode cX9_pourFault 20 = .ok (.iload_n 1, 1) := by decide +kernel
theorem dX9_pourFault_21 : decode cX9_pourFault 21 = .ok (.aaload, 1) := by decide +kernel
theorem dX9_pourFault_22 : decode cX9_pourFault 22 = .ok (.getfield 263, 3) := by decide +kernel
theorem dX9_pourFault_25 : decode cX9_pourFault 25 = .ok (.ifCond .ne 15, 3) := by decide +kernel
theorem dX9_pourFault_28 : decode cX9_pourFault 28 = .ok (.aload_n 0, 1) := by decide +kernel
theorem dX9_pourFault_29 : decode cX9_pourFault 29 = .ok (.getfield 11, 3) := by decide +kernel
theorem dX9_pourFault_32 : decode cX9_pourFault 32 = .ok (.iload_n 3, 1) := by decide +kernel
theorem dX9_pourFault_33 : decode cX9_pourFault 33 = .ok (.aaload, 1) := by decide +kernel
theorem dX9_pourFault_34 : decode cX9_pourFault 34 = .ok (.getfield 263, 3) := by decide +kernel
theorem dX9_pourFault_37 : decode cX9_pourFault 37 = .ok (.ifCond .eq 5, 3) := by decide +kernel
theorem dX9_pourFault_40 : decode cX9_pourFault 40 = .ok (.iconst 3, 1) := by decide +kernel
theorem dX9_pourFault_41 : decode cX9_pourFault 41 = .ok (.ireturn, 1) := by decide +kernel
theorem dX9_pourFault_42 : decode cX9_pourFault 42 = .ok (.aload_n 0, 1) := by decide +kernel
theorem dX9_pourFault_43 : decode cX9_pourFault 43 = .ok (.getfield 11, 3) := by decide +kernel
theorem dX9_pourFault_46 : decode cX9_pourFault 46 = .ok (.iload_n 1, 1) := by decide +kernel
theorem dX9_pourFault_47 : decode cX9_pourFault 47 = .ok (.aaload, 1) := by decide +kernel
theorem dX9_pourFault_48 : decode cX9_pourFault 48 = .ok (.getfield 272, 3) := by decide +kernel
theorem dX9_pourFault_51 : decode cX9_pourFault 51 = .ok (.aload_n 0, 1) := by decide +kernel
theorem dX9_pourFault_52 : decode cX9_pourFault 52 = .ok (.getfield 11, 3) := by decide +kernel
theorem dX9_pourFault_55 : decode cX9_pourFault 55 = .ok (.iload_n 3, 1) := by decide +kernel
theorem dX9_pourFault_56 : decode cX9_pourFault 56 = .ok (.aaload, 1) := by decide +kernel
theorem dX9_pourFault_57 : decode cX9_pourFault 57 = .ok (.getfield 272, 3) := by decide +kernel
theorem dX9_pourFault_60 : decode cX9_pourFault 60 = .ok (.if_icmp .eq 6, 3) := by decide +kernel
theorem dX9_pourFault_63 : decode cX9_pourFault 63 = .ok (.bipush 11, 2) := by decide +kernel
theorem dX9_pourFault_65 : decode cX9_pourFault 65 = .ok (.ireturn, 1) := by decide +kernel
theorem dX9_pourFault_66 : decode cX9_pourFault 66 = .ok (.iload 5, 2) := by decide +kernel
theorem dX9_pourFault_68 : decode cX9_pourFault 68 = .ok (.ifCond .ge 6, 3) := by decide +kernel
theorem dX9_pourFault_71 : decode cX9_pourFault 71 = .ok (.bipush 6, 2) := by decide +kernel
theorem dX9_pourFault_73 : decode cX9_pourFault 73 = .ok (.ireturn, 1) := by decide +kernel
theorem dX9_pourFault_74 : decode cX9_pourFault 74 = .ok (.aload_n 0, 1) := by decide +kernel
theorem dX9_pourFault_75 : decode cX9_pourFault 75 = .ok (.getfield 11, 3) := by decide +kernel
theorem dX9_pourFault_78 : decode cX9_pourFault 78 = .ok (.iload_n 1, 1) := by decide +kernel
theorem dX9_pourFault_79 : decode cX9_pourFault 79 = .ok (.aaload, 1) := by decide +kernel
theorem dX9_pourFault_80 : decode cX9_pourFault 80 = .ok (.iload_n 2, 1) := by decide +kernel
theorem dX9_pourFault_81 : decode cX9_pourFault 81 = .ok (.iload 5, 2) := by decide +kernel
theorem dX9_pourFault_83 : decode cX9_pourFault 83 = .ok (.invokevirtual 269, 3) := by decide +kernel
theorem dX9_pourFault_86 : decode cX9_pourFault 86 = .ok (.ifCond .eq 23, 3) := by decide +kernel
theorem dX9_pourFault_89 : decode cX9_pourFault 89 = .ok (.aload_n 0, 1) := by decide +kernel
theorem dX9_pourFault_90 : decode cX9_pourFault 90 = .ok (.getfield 11, 3) := by decide +kernel
theorem dX9_pourFault_93 : decode cX9_pourFault 93 = .ok (.iload_n 3, 1) := by decide +kernel
theorem dX9_pourFault_94 : decode cX9_pourFault 94 = .ok (.aaload, 1) := by decide +kernel
theorem dX9_pourFault_95 : decode cX9_pourFault 95 = .ok (.iload 4, 2) := by decide +kernel
theorem dX9_pourFault_97 : decode cX9_pourFault 97 = .ok (.iload 5, 2) := by decide +kernel
theorem dX9_pourFault_99 : decode cX9_pourFault 99 = .ok (.invokevirtual 269, 3) := by decide +kernel
theorem dX9_pourFault_102 : decode cX9_pourFault 102 = .ok (.ifCond .eq 7, 3) := by decide +kernel
theorem dX9_pourFault_105 : decode cX9_pourFault 105 = .ok (.iconst 1, 1) := by decide +kernel
theorem dX9_pourFault_106 : decode cX9_pourFault 106 = .ok (.goto 4, 3) := by decide +kernel
theorem dX9_pourFault_109 : decode cX9_pourFault 109 = .ok (.iconst 0, 1) := by decide +kernel
theorem dX9_pourFault_110 : decode cX9_pourFault 110 = .ok (.istore 6, 2) := by decide +kernel
theorem dX9_pourFault_112 : decode cX9_pourFault 112 = .ok (.iload 6, 2) := by decide +kernel
theorem dX9_pourFault_114 : decode cX9_pourFault 114 = .ok (.ifCond .eq 7, 3) := by decide +kernel
theorem dX9_pourFault_117 : decode cX9_pourFault 117 = .ok (.iconst 0, 1) := by decide +kernel
theorem dX9_pourFault_118 : decode cX9_pourFault 118 = .ok (.goto 4, 3) := by decide +kernel
theorem dX9_pourFault_121 : decode cX9_pourFault 121 = .ok (.iconst 4, 1) := by decide +kernel
theorem dX9_pourFault_122 : decode cX9_pourFault 122 = .ok (.ireturn, 1) := by decide +kernel
theorem dX9_pairedFault_0 : decode cX9_pairedFault 0 = .ok (.aload_n 0, 1) := by decide +kernel
theorem dX9_pairedFault_1 : decode cX9_pairedFault 1 = .ok (.getfield 18, 3) := by decide +kernel
theorem dX9_pairedFault_4 : decode cX9_pairedFault 4 = .ok (.iload_n 1, 1) := by decide +kernel
theorem dX9_pairedFault_5 : decode cX9_pairedFault 5 = .ok (.invokevirtual 188, 3) := by decide +kernel
theorem dX9_pairedFault_8 : decode cX9_pairedFault 8 = .ok (.ifCond .ne 5, 3) := by decide +kernel
theorem dX9_pairedFault_11 : decode cX9_pairedFault 11 = .ok (.iconst 2, 1) := by decide +kernel
theorem dX9_pairedFault_12 : decode cX9_pairedFault 12 = .ok (.ireturn, 1) := by decide +kernel
theorem dX9_pairedFault_13 : decode cX9_pairedFault 13 = .ok (.aload_n 0, 1) := by decide +kernel
theorem dX9_pairedFault_14 : decode cX9_pairedFault 14 = .ok (.getfield 25, 3) := by decide +kernel
theorem dX9_pairedFault_17 : decode cX9_pairedFault 17 = .ok (.getfield 166, 3) := by decide +kernel
theorem dX9_pairedFault_20 : decode cX9_pairedFault 20 = .ok (.ifCond .ne 6, 3) := by decide +kernel
theorem dX9_pairedFault_23 : decode cX9_pairedFault 23 = .ok (.bipush 10, 2) := by decide +kernel
theorem dX9_pairedFault_25 : decode cX9_pairedFault 25 = .ok (.ireturn, 1) := by decide +kernel
theorem dX9_pairedFault_26 : decode cX9_pairedFault 26 = .ok (.aload_n 0, 1) := by decide +kernel
theorem dX9_pairedFault_27 : decode cX9_pairedFault 27 = .ok (.getfield 25, 3) := by decide +kernel
theorem dX9_pairedFault_30 : decode cX9_pairedFault 30 = .ok (.getfield 163, 3) := by decide +kernel
theorem dX9_pairedFault_33 : decode cX9_pairedFault 33 = .ok (.iload_n 1, 1) := by decide +kernel
theorem dX9_pairedFault_34 : decode cX9_pairedFault 34 = .ok (.iaload, 1) := by decide +kernel
theorem dX9_pairedFault_35 : decode cX9_pairedFault 35 = .ok (.iconst (-1), 1) := by decide +kernel
theorem dX9_pairedFault_36 : decode cX9_pairedFault 36 = .ok (.if_icmp .ne 8, 3) := by decide +kernel
theorem dX9_pairedFault_39 : decode cX9_pairedFault 39 = .ok (.bipush 9, 2) := by decide +kernel
theorem dX9_pairedFault_41 : decode cX9_pairedFault 41 = .ok (.goto 4, 3) := by decide +kernel
theorem dX9_pairedFault_44 : decode cX9_pairedFault 44 = .ok (.iconst 0, 1) := by decide +kernel
theorem dX9_pairedFault_45 : decode cX9_pairedFault 45 = .ok (.ireturn, 1) := by decide +kernel
theorem dX9_trialFault_0 : decode cX9_trialFault 0 = .ok (.aload_n 0, 1) := by decide +kernel
theorem dX9_trialFault_1 : decode cX9_trialFault 1 = .ok (.iload_n 1, 1) := by decide +kernel
theorem dX9_trialFault_2 : decode cX9_trialFault 2 = .ok (.invokevirtual 266, 3) := by decide +kernel
theorem dX9_trialFault_5 : decode cX9_trialFault 5 = .ok (.istore 4, 2) := by decide +kernel
theorem dX9_trialFault_7 : decode cX9_trialFault 7 = .ok (.iload 4, 2) := by decide +kernel
theorem dX9_trialFault_9 : decode cX9_trialFault 9 = .ok (.ifCond .eq 6, 3) := by decide +kernel
theorem dX9_trialFault_12 : decode cX9_trialFault 12 = .ok (.iload 4, 2) := by decide +kernel
theorem dX9_trialFault_14 : decode cX9_trialFault 14 = .ok (.ireturn, 1) := by decide +kernel
theorem dX9_trialFault_15 : decode cX9_trialFault 15 = .ok (.iload_n 2, 1) := by decide +kernel
theorem dX9_trialFault_16 : decode cX9_trialFault 16 = .ok (.iconst 2, 1) := by decide +kernel
theorem dX9_trialFault_17 : decode cX9_trialFault 17 = .ok (.if_icmp .lt 9, 3) := by decide +kernel
theorem dX9_trialFault_20 : decode cX9_trialFault 20 = .ok (.iload_n 2, 1) := by decide +kernel
theorem dX9_trialFault_21 : decode cX9_trialFault 21 = .ok (.bipush 16, 2) := by decide +kernel
theorem dX9_trialFault_23 : decode cX9_trialFault 23 = .ok (.if_icmp .le 5, 3) := by decide +kernel
theorem dX9_trialFault_26 : decode cX9_trialFault 26 = .ok (.iconst 5, 1) := by decide +kernel
theorem dX9_trialFault_27 : decode cX9_trialFault 27 = .ok (.ireturn, 1) := by decide +kernel
theorem dX9_trialFault_28 : decode cX9_trialFault 28 = .ok (.aload_n 0, 1) := by decide +kernel
theorem dX9_trialFault_29 : decode cX9_trialFault 29 = .ok (.getfield 11, 3) := by decide +kernel
theorem dX9_trialFault_32 : decode cX9_trialFault 32 = .ok (.iload_n 1, 1) := by decide +kernel
theorem dX9_trialFault_33 : decode cX9_trialFault 33 = .ok (.aaload, 1) := by decide +kernel
theorem dX9_trialFault_34 : decode cX9_trialFault 34 = .ok (.iconst 0, 1) := by decide +kernel
theorem dX9_trialFault_35 : decode cX9_trialFault 35 = .ok (.iload_n 2, 1) := by decide +kernel
theorem dX9_trialFault_36 : decode cX9_trialFault 36 = .ok (.invokevirtual 269, 3) := by decide +kernel
theorem dX9_trialFault_39 : decode cX9_trialFault 39 = .ok (.ifCond .ne 5, 3) := by decide +kernel
theorem dX9_trialFault_42 : decode cX9_trialFault 42 = .ok (.iconst 4, 1) := by decide +kernel
theorem dX9_trialFault_43 : decode cX9_trialFault 43 = .ok (.ireturn, 1) := by decide +kernel
theorem dX9_trialFault_44 : decode cX9_trialFault 44 = .ok (.iconst 1, 1) := by decide +kernel
theorem dX9_trialFault_45 : decode cX9_trialFault 45 = .ok (.iload_n 2, 1) := by decide +kernel
theorem dX9_trialFault_46 : decode cX9_trialFault 46 = .ok (.ishl, 1) := by decide +kernel
theorem dX9_trialFault_47 : decode cX9_trialFault 47 = .ok (.iconst 1, 1) := by decide +kernel
theorem dX9_trialFault_48 : decode cX9_trialFault 48 = .ok (.isub, 1) := by decide +kernel
theorem dX9_trialFault_49 : decode cX9_trialFault 49 = .ok (.istore 5, 2) := by decide +kernel
theorem dX9_trialFault_51 : decode cX9_trialFault 51 = .ok (.iload_n 3, 1) := by decide +kernel
theorem dX9_trialFault_52 : decode cX9_trialFault 52 = .ok (.ifCond .le 13, 3) := by decide +kernel
theorem dX9_trialFault_55 : decode cX9_trialFault 55 = .ok (.iload_n 3, 1) := by decide +kernel
theorem dX9_trialFault_56 : decode cX9_trialFault 56 = .ok (.iload 5, 2) := by decide +kernel
theorem dX9_trialFault_58 : decode cX9_trialFault 58 = .ok (.if_icmp .ge 7, 3) := by decide +kernel
theorem dX9_trialFault_61 : decode cX9_trialFault 61 = .ok (.iconst 1, 1) := by decide +kernel
theorem dX9_trialFault_62 : decode cX9_trialFault 62 = .ok (.goto 4, 3) := by decide +kernel
theorem dX9_trialFault_65 : decode cX9_trialFault 65 = .ok (.iconst 0, 1) := by decide +kernel
theorem dX9_trialFault_66 : decode cX9_trialFault 66 = .ok (.istore 6, 2) := by decide +kernel
theorem dX9_trialFault_68 : decode cX9_trialFault 68 = .ok (.iload 6, 2) := by decide +kernel
theorem dX9_trialFault_70 : decode cX9_trialFault 70 = .ok (.ifCond .eq 20, 3) := by decide +kernel
theorem dX9_trialFault_73 : decode cX9_trialFault 73 = .ok (.aload_n 0, 1) := by decide +kernel
theorem dX9_trialFault_74 : decode cX9_trialFault 74 = .ok (.getfield 11, 3) := by decide +kernel
theorem dX9_trialFault_77 : decode cX9_trialFault 77 = .ok (.iload_n 1, 1) := by decide +kernel
theorem dX9_trialFault_78 : decode cX9_trialFault 78 = .ok (.aaload, 1) := by decide +kernel
theorem dX9_trialFault_79 : decode cX9_trialFault 79 = .ok (.iload_n 2, 1) := by decide +kernel
theorem dX9_trialFault_80 : decode cX9_trialFault 80 = .ok (.invokevirtual 275, 3) := by decide +kernel
theorem dX9_trialFault_83 : decode cX9_trialFault 83 = .ok (.ifCond .eq 7, 3) := by decide +kernel
theorem dX9_trialFault_86 : decode cX9_trialFault 86 = .ok (.iconst 0, 1) := by decide +kernel
theorem dX9_trialFault_87 : decode cX9_trialFault 87 = .ok (.goto 4, 3) := by decide +kernel
theorem dX9_trialFault_90 : decode cX9_trialFault 90 = .ok (.iconst 5, 1) := by decide +kernel
theorem dX9_trialFault_91 : decode cX9_trialFault 91 = .ok (.ireturn, 1) := by decide +kernel
