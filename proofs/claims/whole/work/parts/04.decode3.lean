theorem dX10_init_0 : decode cX10_init 0 = .ok (.aload_n 0, 1) := by decide +kernel
theorem dX10_init_1 : decode cX10_init 1 = .ok (.invokespecial 1, 3) := by decide +kernel
theorem dX10_init_4 : decode cX10_init 4 = .ok (.aload_n 0, 1) := by decide +kernel
theorem dX10_init_5 : decode cX10_init 5 = .ok (.lconst 1, 1) := by decide +kernel
theorem dX10_init_6 : decode cX10_init 6 = .ok (.putfield 7, 3) := by decide +kernel
theorem dX10_init_9 : decode cX10_init 9 = .ok (.aload_n 0, 1) := by decide +kernel
theorem dX10_init_10 : decode cX10_init 10 = .ok (.iconst 4, 1) := by decide +kernel
theorem dX10_init_11 : decode cX10_init 11 = .ok (.newarray .int, 2) := by decide +kernel
theorem dX10_init_13 : decode cX10_init 13 = .ok (.putfield 13, 3) := by decide +kernel
theorem dX10_init_16 : decode cX10_init 16 = .ok (.aload_n 0, 1) := by decide +kernel
theorem dX10_init_17 : decode cX10_init 17 = .ok (.iconst 4, 1) := by decide +kernel
theorem dX10_init_18 : decode cX10_init 18 = .ok (.newarray .int, 2) := by decide +kernel
theorem dX10_init_20 : decode cX10_init 20 = .ok (.putfield 17, 3) := by decide +kernel
theorem dX10_init_23 : decode cX10_init 23 = .ok (.aload_n 0, 1) := by decide +kernel
theorem dX10_init_24 : decode cX10_init 24 = .ok (.sipush 160, 3) := by decide +kernel
theorem dX10_init_27 : decode cX10_init 27 = .ok (.newarray .long, 2) := by decide +kernel
theorem dX10_init_29 : decode cX10_init 29 = .ok (.putfield 20, 3) := by decide +kernel
theorem dX10_init_32 : decode cX10_init 32 = .ok (.aload_n 0, 1) := by decide +kernel
theorem dX10_init_33 : decode cX10_init 33 = .ok (.bipush 12, 2) := by decide +kernel
theorem dX10_init_35 : decode cX10_init 35 = .ok (.newarray .int, 2) := by decide +kernel
theorem dX10_init_37 : decode cX10_init 37 = .ok (.putfield 24, 3) := by decide +kernel
theorem dX10_init_40 : decode cX10_init 40 = .ok (.aload_n 0, 1) := by decide +kernel
theorem dX10_init_41 : decode cX10_init 41 = .ok (.sipush 192, 3) := by decide +kernel
theorem dX10_init_44 : decode cX10_init 44 = .ok (.newarray .int, 2) := by decide +kernel
theorem dX10_init_46 : decode cX10_init 46 = .ok (.putfield 27, 3) := by decide +kernel
theorem dX10_init_49 : decode cX10_init 49 = .ok (.aload_n 0, 1) := by decide +kernel
theorem dX10_init_50 : decode cX10_init 50 = .ok (.sipush 192, 3) := by decide +kernel
theorem dX10_init_53 : decode cX10_init 53 = .ok (.newarray .int, 2) := by decide +kernel
theorem dX10_init_55 : decode cX10_init 55 = .ok (.putfield 30, 3) := by decide +kernel
theorem dX10_init_58 : decode cX10_init 58 = .ok (.aload_n 0, 1) := by decide +kernel
theorem dX10_init_59 : decode cX10_init 59 = .ok (.sipush 192, 3) := by decide +kernel
theorem dX10_init_62 : decode cX10_init 62 = .ok (.newarray .boolean, 2) := by decide +kernel
theorem dX10_init_64 : decode cX10_init 64 = .ok (.putfield 33, 3) := by decide +kernel
theorem dX10_init_67 : decode cX10_init 67 = .ok (.aload_n 0, 1) := by decide +kernel
theorem dX10_init_68 : decode cX10_init 68 = .ok (.bipush 16, 2) := by decide +kernel
theorem dX10_init_70 : decode cX10_init 70 = .ok (.newarray .int, 2) := by decide +kernel
theorem dX10_init_72 : decode cX10_init 72 = .ok (.putfield 37, 3) := by decide +kernel
theorem dX10_init_75 : decode cX10_init 75 = .ok (.aload_n 0, 1) := by decide +kernel
theorem dX10_init_76 : decode cX10_init 76 = .ok (.bipush 16, 2) := by decide +kernel
theorem dX10_init_78 : decode cX10_init 78 = .ok (.newarray .int, 2) := by decide +kernel
theorem dX10_init_80 : decode cX10_init 80 = .ok (.putfield 40, 3) := by decide +kernel
theorem dX10_init_83 : decode cX10_init 83 = .ok (.aload_n 0, 1) := by decide +kernel
theorem dX10_init_84 : decode cX10_init 84 = .ok (.bipush 16, 2) := by decide +kernel
theorem dX10_init_86 : decode cX10_init 86 = .ok (.newarray .int, 2) := by decide +kernel
theorem dX10_init_88 : decode cX10_init 88 = .ok (.putfield 43, 3) := by decide +kernel
theorem dX10_init_91 : decode cX10_init 91 = .ok (.aload_n 0, 1) := by decide +kernel
theorem dX10_init_92 : decode cX10_init 92 = .ok (.bipush 100, 2) := by decide +kernel
theorem dX10_init_94 : decode cX10_init 94 = .ok (.newarray .int, 2) := by decide +kernel
theorem dX10_init_96 : decode cX10_init 96 = .ok (.putfield 46, 3) := by decide +kernel
theorem dX10_init_99 : decode cX10_init 99 = .ok (.aload_n 0, 1) := by decide +kernel
theorem dX10_init_100 : decode cX10_init 100 = .ok (.bipush 100, 2) := by decide +kernel
theorem dX10_init_102 : decode cX10_init 102 = .ok (.newarray .int, 2) := by decide +kernel
theorem dX10_init_104 : decode cX10_init 104 = .ok (.putfield 49, 3) := by decide +kernel
theorem dX10_init_107 : decode cX10_init 107 = .ok (.aload_n 0, 1) := by decide +kernel
theorem dX10_init_108 : decode cX10_init 108 = .ok (.sipush 200, 3) := by decide +kernel
theorem dX10_init_111 : decode cX10_init 111 = .ok (.newarray .int, 2) := by decide +kernel
theorem dX10_init_113 : decode cX10_init 113 = .ok (.putfield 52, 3) := by decide +kernel
theorem dX10_init_116 : decode cX10_init 116 = .ok (.aload_n 0, 1) := by decide +kernel
theorem dX10_init_117 : decode cX10_init 117 = .ok (.sipush 200, 3) := by decide +kernel
theorem dX10_init_120 : decode cX10_init 120 = .ok (.newarray .int, 2) := by decide +kernel
theorem dX10_init_122 : decode cX10_init 122 = .ok (.putfield 55, 3) := by decide +kernel
theorem dX10_init_125 : decode cX10_init 125 = .ok (.aload_n 0, 1) := by decide +kernel
theorem dX10_init_126 : decode cX10_init 126 = .ok (.sipush 200, 3) := by decide +kernel
theorem dX10_init_129 : decode cX10_init 129 = .ok (.newarray .boolean, 2) := by decide +kernel
theorem dX10_init_131 : decode cX10_init 131 = .ok (.putfield 58, 3) := by decide +kernel
theorem dX10_init_134 : decode cX10_init 134 = .ok (.aload_n 0, 1) := by decide +kernel
theorem dX10_init_135 : decode cX10_init 135 = .ok (.bipush 40, 2) := by decide +kernel
theorem dX10_init_137 : decode cX10_init 137 = .ok (.newarray .int, 2) := by decide +kernel
theorem dX10_init_139 : decode cX10_init 139 = .ok (.putfield 61, 3) := by decide +kernel
theorem dX10_init_142 : decode cX10_init 142 = .ok (.aload_n 0, 1) := by decide +kernel
theorem dX10_init_143 : decode cX10_init 143 = .ok (.bipush 40, 2) := by decide +kernel
theorem dX10_init_145 : decode cX10_init 145 = .ok (.newarray .int, 2) := by decide +kernel
theorem dX10_init_147 : decode cX10_init 147 = .ok (.putfield 64, 3) := by decide +kernel
theorem dX10_init_150 : decode cX10_init 150 = .ok (.aload_n 0, 1) := by decide +kernel
theorem dX10_init_151 : decode cX10_init 151 = .ok (.bipush 40, 2) := by decide +kernel
theorem dX10_init_153 : decode cX10_init 153 = .ok (.newarray .int, 2) := by decide +kernel
theorem dX10_init_155 : decode cX10_init 155 = .ok (.putfield 67, 3) := by decide +kernel
theorem dX10_init_158 : decode cX10_init 158 = .ok (.aload_n 0, 1) := by decide +kernel
theorem dX10_init_159 : decode cX10_init 159 = .ok (.bipush 40, 2) := by decide +kernel
theorem dX10_init_161 : decode cX10_init 161 = .ok (.newarray .int, 2) := by decide +kernel
theorem dX10_init_163 : decode cX10_init 163 = .ok (.putfield 70, 3) := by decide +kernel
theorem dX10_init_166 : decode cX10_init 166 = .ok (.aload_n 0, 1) := by decide +kernel
theorem dX10_init_167 : decode cX10_init 167 = .ok (.bipush 16, 2) := by decide +kernel
theorem dX10_init_169 : decode cX10_init 169 = .ok (.newarray .int, 2) := by decide +kernel
theorem dX10_init_171 : decode cX10_init 171 = .ok (.putfield 73, 3) := by decide +kernel
theorem dX10_init_174 : decode cX10_init 174 = .ok (.aload_n 0, 1) := by decide +kernel
theorem dX10_init_175 : decode cX10_init 175 = .ok (.bipush 16, 2) := by decide +kernel
theorem dX10_init_177 : decode cX10_init 177 = .ok (.newarray .boolean, 2) := by decide +kernel
theorem dX10_init_179 : decode cX10_init 179 = .ok (.putfield 76, 3) := by decide +kernel
theorem dX10_init_182 : decode cX10_init 182 = .ok (.aload_n 0, 1) := by decide +kernel
theorem dX10_init_183 : decode cX10_init 183 = .ok (.bipush 12, 2) := by decide +kernel
theorem dX10_init_185 : decode cX10_init 185 = .ok (.newarray .boolean, 2) := by decide +kernel
theorem dX10_init_187 : decode cX10_init 187 = .ok (.putfield 79, 3) := by decide +kernel
theorem dX10_init_190 : decode cX10_init 190 = .ok (.iconst 0, 1) := by decide +kernel
theorem dX10_init_191 : decode cX10_init 191 = .ok (.istore_n 1, 1) := by decide +kernel
theorem dX10_init_192 : decode cX10_init 192 = .ok (.iload_n 1, 1) := by decide +kernel
theorem dX10_init_193 : decode cX10_init 193 = .ok (.iconst 4, 1) := by decide +kernel
theorem dX10_init_194 : decode cX10_init 194 = .ok (.if_icmp .ge 16, 3) := by decide +kernel
theorem dX10_init_197 : decode cX10_init 197 = .ok (.aload_n 0, 1) := by decide +kernel
theorem dX10_init_198 : decode cX10_init 198 = .ok (.getfield 17, 3) := by decide +kernel
theorem dX10_init_201 : decode cX10_init 201 = .ok (.iload_n 1, 1) := by decide +kernel
theorem dX10_init_202 : decode cX10_init 202 = .ok (.iconst (-1), 1) := by decide +kernel
theorem dX10_init_203 : decode cX10_init 203 = .ok (.iastore, 1) := by decide +kernel
theorem dX10_init_204 : decode cX10_init 204 = .ok (.iinc 1 1, 3) := by decide +kernel
theorem dX10_init_207 : decode cX10_init 207 = .ok (.goto (-15), 3) := by decide +kernel
theorem dX10_init_210 : decode cX10_init 210 = .ok (.return_, 1) := by decide +kernel
theorem dX10_status_0 : decode cX10_status 0 = .ok (.aload_n 0, 1) := by decide +kernel
theorem dX10_status_1 : decode cX10_status 1 = .ok (.iconst 0, 1) := by decide +kernel
theorem dX10_status_2 : decode cX10_status 2 = .ok (.putfield 82, 3) := by decide +kernel
theorem dX10_status_5 : decode cX10_status 5 = .ok (.aload_n 0, 1) := by decide +kernel
theorem dX10_status_6 : decode cX10_status 6 = .ok (.getfield 86, 3) := by decide +kernel
theorem dX10_status_9 : decode cX10_status 9 = .ok (.ireturn, 1) := by decide +kernel
theorem dX10_refuse_0 : decode cX10_refuse 0 = .ok (.aload_n 0, 1) := by decide +kernel
theorem dX10_refuse_1 : decode cX10_refuse 1 = .ok (.iload_n 1, 1) := by decide +kernel
theorem dX10_refuse_2 : decode cX10_refuse 2 = .ok (.putfield 86, 3) := by decide +kernel
theorem dX10_refuse_5 : decode cX10_refuse 5 = .ok (.iconst (-1), 1) := by decide +kernel
theorem dX10_refuse_6 : decode cX10_refuse 6 = .ok (.ireturn, 1) := by decide +kernel
theorem dX10_no_0 : decode cX10_no 0 = .ok (.aload_n 0, 1) := by decide +kernel
theorem dX10_no_1 : decode cX10_no 1 = .ok (.iload_n 1, 1) := by decide +kernel
theorem dX10_no_2 : decode cX10_no 2 = .ok (.putfield 86, 3) := by decide +kernel
theorem dX10_no_5 : decode cX10_no 5 = .ok (.iconst 0, 1) := by decide +kernel
theorem dX10_no_6 : decode cX10_no 6 = .ok (.ireturn, 1) := by decide +kernel
theorem dX10_cut_0 : decode cX10_cut 0 = .ok (.iload_n 0, 1) := by decide +kernel
theorem dX10_cut_1 : decode cX10_cut 1 = .ok (.ifCond .ne 10, 3) := by decide +kernel
theorem dX10_cut_4 : decode cX10_cut 4 = .ok (.lload_n 1, 1) := by decide +kernel
theorem dX10_cut_5 : decode cX10_cut 5 = .ok (.l2i, 1) := by decide +kernel
theorem dX10_cut_6 : decode cX10_cut 6 = .ok (.i2b, 1) := by decide +kernel
theorem dX10_cut_7 : decode cX10_cut 7 = .ok (.i2l, 1) := by decide +kernel
theorem dX10_cut_8 : decode cX10_cut 8 = .ok (.goto 27, 3) := by decide +kernel
theorem dX10_cut_11 : decode cX10_cut 11 = .ok (.iload_n 0, 1) := by decide +kernel
theorem dX10_cut_12 : decode cX10_cut 12 = .ok (.iconst 1, 1) := by decide +kernel
theorem dX10_cut_13 : decode cX10_cut 13 = .ok (.if_icmp .ne 10, 3) := by decide +kernel
theorem dX10_cut_16 : decode cX10_cut 16 = .ok (.lload_n 1, 1) := by decide +kernel
theorem dX10_cut_17 : decode cX10_cut 17 = .ok (.l2i, 1) := by decide +kernel
theorem dX10_cut_18 : decode cX10_cut 18 = .ok (.i2s, 1) := by decide +kernel
theorem dX10_cut_19 : decode cX10_cut 19 = .ok (.i2l, 1) := by decide +kernel
theorem dX10_cut_20 : decode cX10_cut 20 = .ok (.goto 15, 3) := by decide +kernel
theorem dX10_cut_23 : decode cX10_cut 23 = .ok (.iload_n 0, 1) := by decide +kernel
theorem dX10_cut_24 : decode cX10_cut 24 = .ok (.iconst 2, 1) := by decide +kernel
theorem dX10_cut_25 : decode cX10_cut 25 = .ok (.if_icmp .ne 9, 3) := by decide +kernel
theorem dX10_cut_28 : decode cX10_cut 28 = .ok (.lload_n 1, 1) := by decide +kernel
theorem dX10_cut_29 : decode cX10_cut 29 = .ok (.l2i, 1) := by decide +kernel
theorem dX10_cut_30 : decode cX10_cut 30 = .ok (.i2l, 1) := by decide +kernel
theorem dX10_cut_31 : decode cX10_cut 31 = .ok (.goto 4, 3) := by decide +kernel
theorem dX10_cut_34 : decode cX10_cut 34 = .ok (.lload_n 1, 1) := by decide +kernel
theorem dX10_cut_35 : decode cX10_cut 35 = .ok (.lreturn, 1) := by decide +kernel
theorem dX10_tray_0 : decode cX10_tray 0 = .ok (.aload_n 0, 1) := by decide +kernel
theorem dX10_tray_1 : decode cX10_tray 1 = .ok (.iconst 0, 1) := by decide +kernel
theorem dX10_tray_2 : decode cX10_tray 2 = .ok (.putfield 82, 3) := by decide +kernel
theorem dX10_tray_5 : decode cX10_tray 5 = .ok (.aload_n 0, 1) := by decide +kernel
theorem dX10_tray_6 : decode cX10_tray 6 = .ok (.iconst 0, 1) := by decide +kernel
theorem dX10_tray_7 : decode cX10_tray 7 = .ok (.putfield 86, 3) := by decide +kernel
theorem dX10_tray_10 : decode cX10_tray 10 = .ok (.iload_n 1, 1) := by decide +kernel
theorem dX10_tray_11 : decode cX10_tray 11 = .ok (.ifCond .lt 17, 3) := by decide +kernel
theorem dX10_tray_14 : decode cX10_tray 14 = .ok (.iload_n 1, 1) := by decide +kernel
theorem dX10_tray_15 : decode cX10_tray 15 = .ok (.iconst 4, 1) := by decide +kernel
theorem dX10_tray_16 : decode cX10_tray 16 = .ok (.if_icmp .ge 12, 3) := by decide +kernel
theorem dX10_tray_19 : decode cX10_tray 19 = .ok (.iload_n 2, 1) := by decide +kernel
theorem dX10_tray_20 : decode cX10_tray 20 = .ok (.ifCond .lt 8, 3) := by decide +kernel
theorem dX10_tray_23 : decode cX10_tray 23 = .ok (.iload_n 2, 1) := by decide +kernel
theorem dX10_tray_24 : decode cX10_tray 24 = .ok (.iconst 3, 1) := by decide +kernel
theorem dX10_tray_25 : decode cX10_tray 25 = .ok (.if_icmp .le 9, 3) := by decide +kernel
theorem dX10_tray_28 : decode cX10_tray 28 = .ok (.aload_n 0, 1) := by decide +kernel
theorem dX10_tray_29 : decode cX10_tray 29 = .ok (.iconst 1, 1) := by decide +kernel
theorem dX10_tray_30 : decode cX10_tray 30 = .ok (.invokevirtual 89, 3) := by decide +kernel
theorem dX10_tray_33 : decode cX10_tray 33 = .ok (.ireturn, 1) := by decide +kernel
theorem dX10_tray_34 : decode cX10_tray 34 = .ok (.iload_n 3, 1) := by decide +kernel
theorem dX10_tray_35 : decode cX10_tray 35 = .ok (.bipush 40, 2) := by decide +kernel
theorem dX10_tray_37 : decode cX10_tray 37 = .ok (.if_icmp .le 9, 3) := by decide +kernel
theorem dX10_tray_40 : decode cX10_tray 40 = .ok (.aload_n 0, 1) := by decide +kernel
theorem dX10_tray_41 : decode cX10_tray 41 = .ok (.iconst 5, 1) := by decide +kernel
theorem dX10_tray_42 : decode cX10_tray 42 = .ok (.invokevirtual 89, 3) := by decide +kernel
theorem dX10_tray_45 : decode cX10_tray 45 = .ok (.ireturn, 1) := by decide +kernel
theorem dX10_tray_46 : decode cX10_tray 46 = .ok (.iload_n 3, 1) := by decide +kernel
theorem dX10_tray_47 : decode cX10_tray 47 = .ok (.ifCond .ge 10, 3) := by decide +kernel
theorem dX10_tray_50 : decode cX10_tray 50 = .ok (.aload_n 0, 1) := by decide +kernel
theorem dX10_tray_51 : decode cX10_tray 51 = .ok (.bipush 6, 2) := by decide +kernel
theorem dX10_tray_53 : decode cX10_tray 53 = .ok (.invokevirtual 89, 3) := by decide +kernel
theorem dX10_tray_56 : decode cX10_tray 56 = .ok (.ireturn, 1) := by decide +kernel
theorem dX10_tray_57 : decode cX10_tray 57 = .ok (.aload_n 0, 1) := by decide +kernel
theorem dX10_tray_58 : decode cX10_tray 58 = .ok (.getfield 13, 3) := by decide +kernel
theorem dX10_tray_61 : decode cX10_tray 61 = .ok (.iload_n 1, 1) := by decide +kernel
theorem dX10_tray_62 : decode cX10_tray 62 = .ok (.iload_n 2, 1) := by decide +kernel
theorem dX10_tray_63 : decode cX10_tray 63 = .ok (.iastore, 1) := by decide +kernel
theorem dX10_tray_64 : decode cX10_tray 64 = .ok (.aload_n 0, 1) := by decide +kernel
theorem dX10_tray_65 : decode cX10_tray 65 = .ok (.getfield 17, 3) := by decide +kernel
theorem dX10_tray_68 : decode cX10_tray 68 = .ok (.iload_n 1, 1) := by decide +kernel
theorem dX10_tray_69 : decode cX10_tray 69 = .ok (.iload_n 3, 1) := by decide +kernel
theorem dX10_tray_70 : decode cX10_tray 70 = .ok (.iastore, 1) := by decide +kernel
theorem dX10_tray_71 : decode cX10_tray 71 = .ok (.iconst 0, 1) := by decide +kernel
theorem dX10_tray_72 : decode cX10_tray 72 = .ok (.istore 4, 2) := by decide +kernel
theorem dX10_tray_74 : decode cX10_tray 74 = .ok (.iload 4, 2) := by decide +kernel
theorem dX10_tray_76 : decode cX10_tray 76 = .ok (.iload_n 3, 1) := by decide +kernel
theorem dX10_tray_77 : decode cX10_tray 77 = .ok (.if_icmp .ge 22, 3) := by decide +kernel
theorem dX10_tray_80 : decode cX10_tray 80 = .ok (.aload_n 0, 1) := by decide +kernel
theorem dX10_tray_81 : decode cX10_tray 81 = .ok (.getfield 20, 3) := by decide +kernel
theorem dX10_tray_84 : decode cX10_tray 84 = .ok (.bipush 40, 2) := by decide +kernel
theorem dX10_tray_86 : decode cX10_tray 86 = .ok (.iload_n 1, 1) := by decide +kernel
theorem dX10_tray_87 : decode cX10_tray 87 = .ok (.imul, 1) := by decide +kernel
theorem dX10_tray_88 : decode cX10_tray 88 = .ok (.iload 4, 2) := by decide +kernel
theorem dX10_tray_90 : decode cX10_tray 90 = .ok (.iadd, 1) := by decide +kernel
theorem dX10_tray_91 : decode cX10_tray 91 = .ok (.lconst 0, 1) := by decide +kernel
theorem dX10_tray_92 : decode cX10_tray 92 = .ok (.lastore, 1) := by decide +kernel
theorem dX10_tray_93 : decode cX10_tray 93 = .ok (.iinc 4 1, 3) := by decide +kernel
theorem dX10_tray_96 : decode cX10_tray 96 = .ok (.goto (-22), 3) := by decide +kernel
theorem dX10_tray_99 : decode cX10_tray 99 = .ok (.iconst 1, 1) := by decide +kernel
theorem dX10_tray_100 : decode cX10_tray 100 = .ok (.ireturn, 1) := by decide +kernel
theorem dX10_trayed_0 : decode cX10_trayed 0 = .ok (.iload_n 1, 1) := by decide +kernel
theorem dX10_trayed_1 : decode cX10_trayed 1 = .ok (.ifCond .lt 8, 3) := by decide +kernel
theorem dX10_trayed_4 : decode cX10_trayed 4 = .ok (.iload_n 1, 1) := by decide +kernel
theorem dX10_trayed_5 : decode cX10_trayed 5 = .ok (.iconst 4, 1) := by decide +kernel
theorem dX10_trayed_6 : decode cX10_trayed 6 = .ok (.if_icmp .lt 7, 3) := by decide +kernel
theorem dX10_trayed_9 : decode cX10_trayed 9 = .ok (.iconst 1, 1) := by decide +kernel
theorem dX10_trayed_10 : decode cX10_trayed 10 = .ok (.goto 17, 3) := by decide +kernel
theorem dX10_trayed_13 : decode cX10_trayed 13 = .ok (.aload_n 0, 1) := by decide +kernel
theorem dX10_trayed_14 : decode cX10_trayed 14 = .ok (.getfield 17, 3) := by decide +kernel
theorem dX10_trayed_17 : decode cX10_trayed 17 = .ok (.iload_n 1, 1) := by decide +kernel
theorem dX10_trayed_18 : decode cX10_trayed 18 = .ok (.iaload, 1) := by decide +kernel
theorem dX10_trayed_19 : decode cX10_trayed 19 = .ok (.ifCond .ge 7, 3) := by decide +kernel
theorem dX10_trayed_22 : decode cX10_trayed 22 = .ok (.iconst 3, 1) := by decide +kernel
theorem dX10_trayed_23 : decode cX10_trayed 23 = .ok (.goto 4, 3) := by decide +kernel
theorem dX10_trayed_26 : decode cX10_trayed 26 = .ok (.iconst 0, 1) := by decide +kernel
theorem dX10_trayed_27 : decode cX10_trayed 27 = .ok (.ireturn, 1) := by decide +kernel
theorem dX10_placed_0 : decode cX10_placed 0 = .ok (.aload_n 0, 1) := by decide +kernel
theorem dX10_placed_1 : decode cX10_placed 1 = .ok (.iload_n 1, 1) := by decide +kernel
theorem dX10_placed_2 : decode cX10_placed 2 = .ok (.invokevirtual 93, 3) := by decide +kernel
theorem dX10_placed_5 : decode cX10_placed 5 = .ok (.istore_n 3, 1) := by decide +kernel
theorem dX10_placed_6 : decode cX10_placed 6 = .ok (.iload_n 3, 1) := by decide +kernel
theorem dX10_placed_7 : decode cX10_placed 7 = .ok (.ifCond .le 7, 3) := by decide +kernel
theorem dX10_placed_10 : decode cX10_placed 10 = .ok (.iload_n 3, 1) := by decide +kernel
theorem dX10_placed_11 : decode cX10_placed 11 = .ok (.goto 22, 3) := by decide +kernel
theorem dX10_placed_14 : decode cX10_placed 14 = .ok (.iload_n 2, 1) := by decide +kernel
theorem dX10_placed_15 : decode cX10_placed 15 = .ok (.ifCond .lt 13, 3) := by decide +kernel
theorem dX10_placed_18 : decode cX10_placed 18 = .ok (.iload_n 2, 1) := by decide +kernel
theorem dX10_placed_19 : decode cX10_placed 19 = .ok (.aload_n 0, 1) := by decide +kernel
theorem dX10_placed_20 : decode cX10_placed 20 = .ok (.getfield 17, 3) := by decide +kernel
theorem dX10_placed_23 : decode cX10_placed 23 = .ok (.iload_n 1, 1) := by decide +kernel
theorem dX10_placed_24 : decode cX10_placed 24 = .ok (.iaload, 1) := by decide +kernel
theorem dX10_placed_25 : decode cX10_placed 25 = .ok (.if_icmp .lt 7, 3) := by decide +kernel
theorem dX10_placed_28 : decode cX10_placed 28 = .ok (.iconst 4, 1) := by decide +kernel
theorem dX10_placed_29 : decode cX10_placed 29 = .ok (.goto 4, 3) := by decide +kernel
theorem dX10_placed_32 : decode cX10_placed 32 = .ok (.iconst 0, 1) := by decide +kernel
theorem dX10_placed_33 : decode cX10_placed 33 = .ok (.ireturn, 1) := by decide +kernel
theorem dX10_write_0 : decode cX10_write 0 = .ok (.aload_n 0, 1) := by decide +kernel
theorem dX10_write_1 : decode cX10_write 1 = .ok (.iconst 0, 1) := by decide +kernel
theorem dX10_write_2 : decode cX10_write 2 = .ok (.putfield 82, 3) := by decide +kernel
theorem dX10_write_5 : decode cX10_write 5 = .ok (.aload_n 0, 1) := by decide +kernel
theorem dX10_write_6 : decode cX10_write 6 = .ok (.aload_n 0, 1) := by decide +kernel
theorem dX10_write_7 : decode cX10_write 7 = .ok (.iload_n 1, 1) := by decide +kernel
theorem dX10_write_8 : decode cX10_write 8 = .ok (.iload_n 2, 1) := by decide +kernel
theorem dX10_write_9 : decode cX10_write 9 = .ok (.invokevirtual 97, 3) := by decide +kernel
theorem dX10_write_12 : decode cX10_write 12 = .ok (.putfield 86, 3) := by decide +kernel
theorem dX10_write_15 : decode cX10_write 15 = .ok (.aload_n 0, 1) := by decide +kernel
theorem dX10_write_16 : decode cX10_write 16 = .ok (.getfield 86, 3) := by decide +kernel
theorem dX10_write_19 : decode cX10_write 19 = .ok (.ifCond .le 5, 3) := by decide +kernel
theorem dX10_write_22 : decode cX10_write 22 = .ok (.iconst 0, 1) := by decide +kernel
theorem dX10_write_23 : decode cX10_write 23 = .ok (.ireturn, 1) := by decide +kernel
theorem dX10_write_24 : decode cX10_write 24 = .ok (.aload_n 0, 1) := by decide +kernel
theorem dX10_write_25 : decode cX10_write 25 = .ok (.getfield 20, 3) := by decide +kernel
theorem dX10_write_28 : decode cX10_write 28 = .ok (.bipush 40, 2) := by decide +kernel
theorem dX10_write_30 : decode cX10_write 30 = .ok (.iload_n 1, 1) := by decide +kernel
theorem dX10_write_31 : decode cX10_write 31 = .ok (.imul, 1) := by decide +kernel
theorem dX10_write_32 : decode cX10_write 32 = .ok (.iload_n 2, 1) := by decide +kernel
theorem dX10_write_33 : decode cX10_write 33 = .ok (.iadd, 1) := by decide +kernel
theorem dX10_write_34 : decode cX10_write 34 = .ok (.aload_n 0, 1) := by decide +kernel
theorem dX10_write_35 : decode cX10_write 35 = .ok (.getfield 13, 3) := by decide +kernel
theorem dX10_write_38 : decode cX10_write 38 = .ok (.iload_n 1, 1) := by decide +kernel
theorem dX10_write_39 : decode cX10_write 39 = .ok (.iaload, 1) := by decide +kernel
theorem dX10_write_40 : decode cX10_write 40 = .ok (.lload_n 3, 1) := by decide +kernel
theorem dX10_write_41 : decode cX10_write 41 = .ok (.invokestatic 101, 3) := by decide +kernel
theorem dX10_write_44 : decode cX10_write 44 = .ok (.lastore, 1) := by decide +kernel
theorem dX10_write_45 : decode cX10_write 45 = .ok (.iconst 1, 1) := by decide +kernel
theorem dX10_write_46 : decode cX10_write 46 = .ok (.ireturn, 1) := by decide +kernel
theorem dX10_read_0 : decode cX10_read 0 = .ok (.aload_n 0, 1) := by decide +kernel
theorem dX10_read_1 : decode cX10_read 1 = .ok (.iconst 0, 1) := by decide +kernel
theorem dX10_read_2 : decode cX10_read 2 = .ok (.putfield 82, 3) := by decide +kernel
theorem dX10_read_5 : decode cX10_read 5 = .ok (.aload_n 0, 1) := by decide +kernel
theorem dX10_read_6 : decode cX10_read 6 = .ok (.aload_n 0, 1) := by decide +kernel
theorem dX10_read_7 : decode cX10_read 7 = .ok (.iload_n 1, 1) := by decide +kernel
theorem dX10_read_8 : decode cX10_read 8 = .ok (.iload_n 2, 1) := by decide +kernel
theorem dX10_read_9 : decode cX10_read 9 = .ok (.invokevirtual 97, 3) := by decide +kernel
theorem dX10_read_12 : decode cX10_read 12 = .ok (.putfield 86, 3) := by decide +kernel
theorem dX10_read_15 : decode cX10_read 15 = .ok (.aload_n 0, 1) := by decide +kernel
theorem dX10_read_16 : decode cX10_read 16 = .ok (.getfield 86, 3) := by decide +kernel
theorem dX10_read_19 : decode cX10_read 19 = .ok (.ifCond .le 9, 3) := by decide +kernel
theorem dX10_read_22 : decode cX10_read 22 = .ok (.ldc2_w 105, 3) := by decide +kernel
theorem dX10_read_25 : decode cX10_read 25 = .ok (.goto 14, 3) := by decide +kernel
theorem dX10_read_28 : decode cX10_read 28 = .ok (.aload_n 0, 1) := by decide +kernel
theorem dX10_read_29 : decode cX10_read 29 = .ok (.getfield 20, 3) := by decide +kernel
theorem dX10_read_32 : decode cX10_read 32 = .ok (.bipush 40, 2) := by decide +kernel
theorem dX10_read_34 : decode cX10_read 34 = .ok (.iload_n 1, 1) := by decide +kernel
theorem dX10_read_35 : decode cX10_read 35 = .ok (.imul, 1) := by decide +kernel
theorem dX10_read_36 : decode cX10_read 36 = .ok (.iload_n 2, 1) := by decide +kernel
theorem dX10_read_37 : decode cX10_read 37 = .ok (.iadd, 1) := by decide +kernel
theorem dX10_read_38 : decode cX10_read 38 = .ok (.laload, 1) := by decide +kernel
theorem dX10_read_39 : decode cX10_read 39 = .ok (.lreturn, 1) := by decide +kernel
theorem dX10_pour_0 : decode cX10_pour 0 = .ok (.aload_n 0, 1) := by decide +kernel
theorem dX10_pour_1 : decode cX10_pour 1 = .ok (.iconst 0, 1) := by decide +kernel
theorem dX10_pour_2 : decode cX10_pour 2 = .ok (.putfield 82, 3) := by decide +kernel
theorem dX10_pour_5 : decode cX10_pour 5 = .ok (.aload_n 0, 1) := by decide +kernel
theorem dX10_pour_6 : decode cX10_pour 6 = .ok (.iconst 0, 1) := by decide +kernel
theorem dX10_pour_7 : decode cX10_pour 7 = .ok (.putfield 86, 3) := by decide +kernel
theorem dX10_pour_10 : decode cX10_pour 10 = .ok (.iload_n 1, 1) := by decide +kernel
theorem dX10_pour_11 : decode cX10_pour 11 = .ok (.ifCond .lt 17, 3) := by decide +kernel
theorem dX10_pour_14 : decode cX10_pour 14 = .ok (.iload_n 1, 1) := by decide +kernel
theorem dX10_pour_15 : decode cX10_pour 15 = .ok (.iconst 4, 1) := by decide +kernel
theorem dX10_pour_16 : decode cX10_pour 16 = .ok (.if_icmp .ge 12, 3) := by decide +kernel
theorem dX10_pour_19 : decode cX10_pour 19 = .ok (.iload_n 3, 1) := by decide +kernel
theorem dX10_pour_20 : decode cX10_pour 20 = .ok (.ifCond .lt 8, 3) := by decide +kernel
theorem dX10_pour_23 : decode cX10_pour 23 = .ok (.iload_n 3, 1) := by decide +kernel
theorem dX10_pour_24 : decode cX10_pour 24 = .ok (.iconst 4, 1) := by decide +kernel
theorem dX10_pour_25 : decode cX10_pour 25 = .ok (.if_icmp .lt 9, 3) := by decide +kernel
theorem dX10_pour_28 : decode cX10_pour 28 = .ok (.aload_n 0, 1) := by decide +kernel
theorem dX10_pour_29 : decode cX10_pour 29 = .ok (.iconst 1, 1) := by decide +kernel
theorem dX10_pour_30 : decode cX10_pour 30 = .ok (.invokevirtual 89, 3) := by decide +kernel
theorem dX10_pour_33 : decode cX10_pour 33 = .ok (.ireturn, 1) := by decide +kernel
theorem dX10_pour_34 : decode cX10_pour 34 = .ok (.aload_n 0, 1) := by decide +kernel
theorem dX10_pour_35 : decode cX10_pour 35 = .ok (.getfield 17, 3) := by decide +kernel
theorem dX10_pour_38 : decode cX10_pour 38 = .ok (.iload_n 1, 1) := by decide +kernel
theorem dX10_pour_39 : decode cX10_pour 39 = .ok (.iaload, 1) := by decide +kernel
theorem dX10_pour_40 : decode cX10_pour 40 = .ok (.ifCond .lt 12, 3) := by decide +kernel
theorem dX10_pour_43 : decode cX10_pour 43 = .ok (.aload_n 0, 1) := by decide +kernel
theorem dX10_pour_44 : decode cX10_pour 44 = .ok (.getfield 17, 3) := by decide +kernel
theorem dX10_pour_47 : decode cX10_pour 47 = .ok (.iload_n 3, 1) := by decide +kernel
theorem dX10_pour_48 : decode cX10_pour 48 = .ok (.iaload, 1) := by decide +kernel
theorem dX10_pour_49 : decode cX10_pour 49 = .ok (.ifCond .ge 9, 3) := by decide +kernel
theorem dX10_pour_52 : decode cX10_pour 52 = .ok (.aload_n 0, 1) := by decide +kernel
theorem dX10_pour_53 : decode cX10_pour 53 = .ok (.iconst 3, 1) := by decide +kernel
theorem dX10_pour_54 : decode cX10_pour 54 = .ok (.invokevirtual 89, 3) := by decide +kernel
theorem dX10_pour_57 : decode cX10_pour 57 = .ok (.ireturn, 1) := by decide +kernel
theorem dX10_pour_58 : decode cX10_pour 58 = .ok (.aload_n 0, 1) := by decide +kernel
theorem dX10_pour_59 : decode cX10_pour 59 = .ok (.getfield 13, 3) := by decide +kernel
theorem dX10_pour_62 : decode cX10_pour 62 = .ok (.iload_n 1, 1) := by decide +kernel
theorem dX10_pour_63 : decode cX10_pour 63 = .ok (.iaload, 1) := by decide +kernel
theorem dX10_pour_64 : decode cX10_pour 64 = .ok (.aload_n 0, 1) := by decide +kernel
theorem dX10_pour_65 : decode cX10_pour 65 = .ok (.getfield 13, 3) := by decide +kernel
theorem dX10_pour_68 : decode cX10_pour 68 = .ok (.iload_n 3, 1) := by decide +kernel
theorem dX10_pour_69 : decode cX10_pour 69 = .ok (.iaload, 1) := by decide +kernel
theorem dX10_pour_70 : decode cX10_pour 70 = .ok (.if_icmp .eq 10, 3) := by decide +kernel
theorem dX10_pour_73 : decode cX10_pour 73 = .ok (.aload_n 0, 1) := by decide +kernel
theorem dX10_pour_74 : decode cX10_pour 74 = .ok (.bipush 11, 2) := by decide +kernel
theorem dX10_pour_76 : decode cX10_pour 76 = .ok (.invokevirtual 89, 3) := by decide +kernel
theorem dX10_pour_79 : decode cX10_pour 79 = .ok (.ireturn, 1) := by decide +kernel
theorem dX10_pour_80 : decode cX10_pour 80 = .ok (.iload 5, 2) := by decide +kernel
theorem dX10_pour_82 : decode cX10_pour 82 = .ok (.ifCond .ge 10, 3) := by decide +kernel
theorem dX10_pour_85 : decode cX10_pour 85 = .ok (.aload_n 0, 1) := by decide +kernel
theorem dX10_pour_86 : decode cX10_pour 86 = .ok (.bipush 6, 2) := by decide +kernel
theorem dX10_pour_88 : decode cX10_pour 88 = .ok (.invokevirtual 89, 3) := by decide +kernel
theorem dX10_pour_91 : decode cX10_pour 91 = .ok (.ireturn, 1) := by decide +kernel
theorem dX10_pour_92 : decode cX10_pour 92 = .ok (.iload_n 2, 1) := by decide +kernel
theorem dX10_pour_93 : decode cX10_pour 93 = .ok (.ifCond .lt 43, 3) := by decide +kernel
theorem dX10_pour_96 : decode cX10_pour 96 = .ok (.iload 4, 2) := by decide +kernel
theorem dX10_pour_98 : decode cX10_pour 98 = .ok (.ifCond .lt 38, 3) := by decide +kernel
theorem dX10_pour_101 : decode cX10_pour 101 = .ok (.iload_n 2, 1) := by decide +kernel
theorem dX10_pour_102 : decode cX10_pour 102 = .ok (.i2l, 1) := by decide +kernel
theorem dX10_pour_103 : decode cX10_pour 103 = .ok (.iload 5, 2) := by decide +kernel
theorem dX10_pour_105 : decode cX10_pour 105 = .ok (.i2l, 1) := by decide +kernel
theorem dX10_pour_106 : decode cX10_pour 106 = .ok (.ladd, 1) := by decide +kernel
theorem dX10_pour_107 : decode cX10_pour 107 = .ok (.aload_n 0, 1) := by decide +kernel
theorem dX10_pour_108 : decode cX10_pour 108 = .ok (.getfield 17, 3) := by decide +kernel
theorem dX10_pour_111 : decode cX10_pour 111 = .ok (.iload_n 1, 1) := by decide +kernel
theorem dX10_pour_112 : decode cX10_pour 112 = .ok (.iaload, 1) := by decide +kernel
theorem dX10_pour_113 : decode cX10_pour 113 = .ok (.i2l, 1) := by decide +kernel
theorem dX10_pour_114 : decode cX10_pour 114 = .ok (.lcmp, 1) := by decide +kernel
theorem dX10_pour_115 : decode cX10_pour 115 = .ok (.ifCond .gt 21, 3) := by decide +kernel
theorem dX10_pour_118 : decode cX10_pour 118 = .ok (.iload 4, 2) := by decide +kernel
theorem dX10_pour_120 : decode cX10_pour 120 = .ok (.i2l, 1) := by decide +kernel
theorem dX10_pour_121 : decode cX10_pour 121 = .ok (.iload 5, 2) := by decide +kernel
theorem dX10_pour_123 : decode cX10_pour 123 = .ok (.i2l, 1) := by decide +kernel
theorem dX10_pour_124 : decode cX10_pour 124 = .ok (.ladd, 1) := by decide +kernel
theorem dX10_pour_125 : decode cX10_pour 125 = .ok (.aload_n 0, 1) := by decide +kernel
theorem dX10_pour_126 : decode cX10_pour 126 = .ok (.getfield 17, 3) := by decide +kernel
theorem dX10_pour_129 : decode cX10_pour 129 = .ok (.iload_n 3, 1) := by decide +kernel
theorem dX10_pour_130 : decode cX10_pour 130 = .ok (.iaload, 1) := by decide +kernel
theorem dX10_pour_131 : decode cX10_pour 131 = .ok (.i2l, 1) := by decide +kernel
theorem dX10_pour_132 : decode cX10_pour 132 = .ok (.lcmp, 1) := by decide +kernel
theorem dX10_pour_133 : decode cX10_pour 133 = .ok (.ifCond .le 9, 3) := by decide +kernel
theorem dX10_pour_136 : decode cX10_pour 136 = .ok (.aload_n 0, 1) := by decide +kernel
theorem dX10_pour_137 : decode cX10_pour 137 = .ok (.iconst 4, 1) := by decide +kernel
theorem dX10_pour_138 : decode cX10_pour 138 = .ok (.invokevirtual 89, 3) := by decide +kernel
theorem dX10_pour_141 : decode cX10_pour 141 = .ok (.ireturn, 1) := by decide +kernel
theorem dX10_pour_142 : decode cX10_pour 142 = .ok (.iload_n 2, 1) := by decide +kernel
theorem dX10_pour_143 : decode cX10_pour 143 = .ok (.iload 4, 2) := by decide +kernel
theorem dX10_pour_145 : decode cX10_pour 145 = .ok (.if_icmp .ge 7, 3) := by decide +kernel
theorem dX10_pour_148 : decode cX10_pour 148 = .ok (.iconst 1, 1) := by decide +kernel
theorem dX10_pour_149 : decode cX10_pour 149 = .ok (.goto 4, 3) := by decide +kernel
theorem dX10_pour_152 : decode cX10_pour 152 = .ok (.iconst 0, 1) := by decide +kernel
theorem dX10_pour_153 : decode cX10_pour 153 = .ok (.istore 6, 2) := by decide +kernel
theorem dX10_pour_155 : decode cX10_pour 155 = .ok (.iconst 0, 1) := by decide +kernel
theorem dX10_pour_156 : decode cX10_pour 156 = .ok (.istore 7, 2) := by decide +kernel
theorem dX10_pour_158 : decode cX10_pour 158 = .ok (.iload 7, 2) := by decide +kernel
theorem dX10_pour_160 : decode cX10_pour 160 = .ok (.iload 5, 2) := by decide +kernel
theorem dX10_pour_162 : decode cX10_pour 162 = .ok (.if_icmp .ge 57, 3) := by decide +kernel
theorem dX10_pour_165 : decode cX10_pour 165 = .ok (.iload 6, 2) := by decide +kernel
theorem dX10_pour_167 : decode cX10_pour 167 = .ok (.ifCond .eq 13, 3) := by decide +kernel
theorem dX10_pour_170 : decode cX10_pour 170 = .ok (.iload 5, 2) := by decide +kernel
theorem dX10_pour_172 : decode cX10_pour 172 = .ok (.iconst 1, 1) := by decide +kernel
theorem dX10_pour_173 : decode cX10_pour 173 = .ok (.isub, 1) := by decide +kernel
theorem dX10_pour_174 : decode cX10_pour 174 = .ok (.iload 7, 2) := by decide +kernel
theorem dX10_pour_176 : decode cX10_pour 176 = .ok (.isub, 1) := by decide +kernel
theorem dX10_pour_177 : decode cX10_pour 177 = .ok (.goto 5, 3) := by decide +kernel
theorem dX10_pour_180 : decode cX10_pour 180 = .ok (.iload 7, 2) := by decide +kernel
theorem dX10_pour_182 : decode cX10_pour 182 = .ok (.istore 8, 2) := by decide +kernel
theorem dX10_pour_184 : decode cX10_pour 184 = .ok (.aload_n 0, 1) := by decide +kernel
theorem dX10_pour_185 : decode cX10_pour 185 = .ok (.getfield 20, 3) := by decide +kernel
theorem dX10_pour_188 : decode cX10_pour 188 = .ok (.bipush 40, 2) := by decide +kernel
theorem dX10_pour_190 : decode cX10_pour 190 = .ok (.iload_n 3, 1) := by decide +kernel
theorem dX10_pour_191 : decode cX10_pour 191 = .ok (.imul, 1) := by decide +kernel
theorem dX10_pour_192 : decode cX10_pour 192 = .ok (.iload 4, 2) := by decide +kernel
theorem dX10_pour_194 : decode cX10_pour 194 = .ok (.iadd, 1) := by decide +kernel
theorem dX10_pour_195 : decode cX10_pour 195 = .ok (.iload 8, 2) := by decide +kernel
theorem dX10_pour_197 : decode cX10_pour 197 = .ok (.iadd, 1) := by decide +kernel
theorem dX10_pour_198 : decode cX10_pour 198 = .ok (.aload_n 0, 1) := by decide +kernel
theorem dX10_pour_199 : decode cX10_pour 199 = .ok (.getfield 20, 3) := by decide +kernel
theorem dX10_pour_202 : decode cX10_pour 202 = .ok (.bipush 40, 2) := by decide +kernel
theorem dX10_pour_204 : decode cX10_pour 204 = .ok (.iload_n 1, 1) := by decide +kernel
theorem dX10_pour_205 : decode cX10_pour 205 = .ok (.imul, 1) := by decide +kernel
theorem dX10_pour_206 : decode cX10_pour 206 = .ok (.iload_n 2, 1) := by decide +kernel
theorem dX10_pour_207 : decode cX10_pour 207 = .ok (.iadd, 1) := by decide +kernel
theorem dX10_pour_208 : decode cX10_pour 208 = .ok (.iload 8, 2) := by decide +kernel
theorem dX10_pour_210 : decode cX10_pour 210 = .ok (.iadd, 1) := by decide +kernel
theorem dX10_pour_211 : decode cX10_pour 211 = .ok (.laload, 1) := by decide +kernel
theorem dX10_pour_212 : decode cX10_pour 212 = .ok (.lastore, 1) := by decide +kernel
theorem dX10_pour_213 : decode cX10_pour 213 = .ok (.iinc 7 1, 3) := by decide +kernel
theorem dX10_pour_216 : decode cX10_pour 216 = .ok (.goto (-58), 3) := by decide +kernel
theorem dX10_pour_219 : decode cX10_pour 219 = .ok (.iconst 1, 1) := by decide +kernel
theorem dX10_pour_220 : decode cX10_pour 220 = .ok (.ireturn, 1) := by decide +kernel
theorem dX10_isElder_0 : decode cX10_isElder 0 = .ok (.iload_n 1, 1) := by decide +kernel
theorem dX10_isElder_1 : decode cX10_isElder 1 = .ok (.ifCond .lt 15, 3) := by decide +kernel
theorem dX10_isElder_4 : decode cX10_isElder 4 = .ok (.iload_n 1, 1) := by decide +kernel
theorem dX10_isElder_5 : decode cX10_isElder 5 = .ok (.aload_n 0, 1) := by decide +kernel
theorem dX10_isElder_6 : decode cX10_isElder 6 = .ok (.getfield 107, 3) := by decide +kernel
theorem dX10_isElder_9 : decode cX10_isElder 9 = .ok (.if_icmp .ge 7, 3) := by decide +kernel
theorem dX10_isElder_12 : decode cX10_isElder 12 = .ok (.iconst 1, 1) := by decide +kernel
theorem dX10_isElder_13 : decode cX10_isElder 13 = .ok (.goto 4, 3) := by decide +kernel
theorem dX10_isElder_16 : decode cX10_isElder 16 = .ok (.iconst 0, 1) := by decide +kernel
theorem dX10_isElder_17 : decode cX10_isElder 17 = .ok (.ireturn, 1) := by decide +kernel
theorem dX10_isBeginner_0 : decode cX10_isBeginner 0 = .ok (.iload_n 1, 1) := by decide +kernel
theorem dX10_isBeginner_1 : decode cX10_isBeginner 1 = .ok (.ifCond .lt 15, 3) := by decide +kernel
theorem dX10_isBeginner_4 : decode cX10_isBeginner 4 = .ok (.iload_n 1, 1) := by decide +kernel
theorem dX10_isBeginner_5 : decode cX10_isBeginner 5 = .ok (.aload_n 0, 1) := by decide +kernel
theorem dX10_isBeginner_6 : decode cX10_isBeginner 6 = .ok (.getfield 110, 3) := by decide +kernel
theorem dX10_isBeginner_9 : decode cX10_isBeginner 9 = .ok (.if_icmp .ge 7, 3) := by decide +kernel
theorem dX10_isBeginner_12 : decode cX10_isBeginner 12 = .ok (.iconst 1, 1) := by decide +kernel
theorem dX10_isBeginner_13 : decode cX10_isBeginner 13 = .ok (.goto 4, 3) := by decide +kernel
theorem dX10_isBeginner_16 : decode cX10_isBeginner 16 = .ok (.iconst 0, 1) := by decide +kernel
theorem dX10_isBeginner_17 : decode cX10_isBeginner 17 = .ok (.ireturn, 1) := by decide +kernel
theorem dX10_elder_0 : decode cX10_elder 0 = .ok (.aload_n 0, 1) := by decide +kernel
theorem dX10_elder_1 : decode cX10_elder 1 = .ok (.iconst 0, 1) := by decide +kernel
theorem dX10_elder_2 : decode cX10_elder 2 = .ok (.putfield 82, 3) := by decide +kernel
theorem dX10_elder_5 : decode cX10_elder 5 = .ok (.aload_n 0, 1) := by decide +kernel
theorem dX10_elder_6 : decode cX10_elder 6 = .ok (.iconst 0, 1) := by decide +kernel
theorem dX10_elder_7 : decode cX10_elder 7 = .ok (.putfield 86, 3) := by decide +kernel
theorem dX10_elder_10 : decode cX10_elder 10 = .ok (.iload_n 1, 1) := by decide +kernel
theorem dX10_elder_11 : decode cX10_elder 11 = .ok (.ifCond .lt 8, 3) := by decide +kernel
theorem dX10_elder_14 : decode cX10_elder 14 = .ok (.iload_n 1, 1) := by decide +kernel
theorem dX10_elder_15 : decode cX10_elder 15 = .ok (.iconst 4, 1) := by decide +kernel
theorem dX10_elder_16 : decode cX10_elder 16 = .ok (.if_icmp .le 9, 3) := by decide +kernel
theorem dX10_elder_19 : decode cX10_elder 19 = .ok (.aload_n 0, 1) := by decide +kernel
theorem dX10_elder_20 : decode cX10_elder 20 = .ok (.iconst 5, 1) := by decide +kernel
theorem dX10_elder_21 : decode cX10_elder 21 = .ok (.invokevirtual 113, 3) := by decide +kernel
theorem dX10_elder_24 : decode cX10_elder 24 = .ok (.ireturn, 1) := by decide +kernel
theorem dX10_elder_25 : decode cX10_elder 25 = .ok (.aload_n 0, 1) := by decide +kernel
theorem dX10_elder_26 : decode cX10_elder 26 = .ok (.getfield 107, 3) := by decide +kernel
theorem dX10_elder_29 : decode cX10_elder 29 = .ok (.bipush 12, 2) := by decide +kernel
theorem dX10_elder_31 : decode cX10_elder 31 = .ok (.if_icmp .ne 10, 3) := by decide +kernel
theorem dX10_elder_34 : decode cX10_elder 34 = .ok (.aload_n 0, 1) := by decide +kernel
theorem dX10_elder_35 : decode cX10_elder 35 = .ok (.bipush 7, 2) := by decide +kernel
theorem dX10_elder_37 : decode cX10_elder 37 = .ok (.invokevirtual 113, 3) := by decide +kernel
theorem dX10_elder_40 : decode cX10_elder 40 = .ok (.ireturn, 1) := by decide +kernel
theorem dX10_elder_41 : decode cX10_elder 41 = .ok (.aload_n 0, 1) := by decide +kernel
theorem dX10_elder_42 : decode cX10_elder 42 = .ok (.getfield 24, 3) := by decide +kernel
theorem dX10_elder_45 : decode cX10_elder 45 = .ok (.aload_n 0, 1) := by decide +kernel
theorem dX10_elder_46 : decode cX10_elder 46 = .ok (.getfield 107, 3) := by decide +kernel
theorem dX10_elder_49 : decode cX10_elder 49 = .ok (.iload_n 1, 1) := by decide +kernel
theorem dX10_elder_50 : decode cX10_elder 50 = .ok (.iastore, 1) := by decide +kernel
theorem dX10_elder_51 : decode cX10_elder 51 = .ok (.aload_n 0, 1) := by decide +kernel
theorem dX10_elder_52 : decode cX10_elder 52 = .ok (.dup, 1) := by decide +kernel
theorem dX10_elder_53 : decode cX10_elder 53 = .ok (.getfield 107, 3) := by decide +kernel
theorem dX10_elder_56 : decode cX10_elder 56 = .ok (.iconst 1, 1) := by decide +kernel
theorem dX10_elder_57 : decode cX10_elder 57 = .ok (.iadd, 1) := by decide +kernel
theorem dX10_elder_58 : decode cX10_elder 58 = .ok (.putfield 107, 3) := by decide +kernel
theorem dX10_elder_61 : decode cX10_elder 61 = .ok (.aload_n 0, 1) := by decide +kernel
theorem dX10_elder_62 : decode cX10_elder 62 = .ok (.getfield 107, 3) := by decide +kernel
theorem dX10_elder_65 : decode cX10_elder 65 = .ok (.iconst 1, 1) := by decide +kernel
theorem dX10_elder_66 : decode cX10_elder 66 = .ok (.isub, 1) := by decide +kernel
theorem dX10_elder_67 : decode cX10_elder 67 = .ok (.ireturn, 1) := by decide +kernel
theorem dX10_beginner_0 : decode cX10_beginner 0 = .ok (.aload_n 0, 1) := by decide +kernel
theorem dX10_beginner_1 : decode cX10_beginner 1 = .ok (.iconst 0, 1) := by decide +kernel
theorem dX10_beginner_2 : decode cX10_beginner 2 = .ok (.putfield 82, 3) := by decide +kernel
theorem dX10_beginner_5 : decode cX10_beginner 5 = .ok (.aload_n 0, 1) := by decide +kernel
theorem dX10_beginner_6 : decode cX10_beginner 6 = .ok (.iconst 0, 1) := by decide +kernel
theorem dX10_beginner_7 : decode cX10_beginner 7 = .ok (.putfield 86, 3) := by decide +kernel
theorem dX10_beginner_10 : decode cX10_beginner 10 = .ok (.aload_n 0, 1) := by decide +kernel
theorem dX10_beginner_11 : decode cX10_beginner 11 = .ok (.getfield 110, 3) := by decide +kernel
theorem dX10_beginner_14 : decode cX10_beginner 14 = .ok (.bipush 16, 2) := by decide +kernel
theorem dX10_beginner_16 : decode cX10_beginner 16 = .ok (.if_icmp .ne 10, 3) := by decide +kernel
theorem dX10_beginner_19 : decode cX10_beginner 19 = .ok (.aload_n 0, 1) := by decide +kernel
theorem dX10_beginner_20 : decode cX10_beginner 20 = .ok (.bipush 7, 2) := by decide +kernel
theorem dX10_beginner_22 : decode cX10_beginner 22 = .ok (.invokevirtual 113, 3) := by decide +kernel
theorem dX10_beginner_25 : decode cX10_beginner 25 = .ok (.ireturn, 1) := by decide +kernel
theorem dX10_beginner_26 : decode cX10_beginner 26 = .ok (.aload_n 0, 1) := by decide +kernel
theorem dX10_beginner_27 : decode cX10_beginner 27 = .ok (.getfield 37, 3) := by decide +kernel
theorem dX10_beginner_30 : decode cX10_beginner 30 = .ok (.aload_n 0, 1) := by decide +kernel
theorem dX10_beginner_31 : decode cX10_beginner 31 = .ok (.getfield 110, 3) := by decide +kernel
theorem dX10_beginner_34 : decode cX10_beginner 34 = .ok (.iconst (-1), 1) := by decide +kernel
theorem dX10_beginner_35 : decode cX10_beginner 35 = .ok (.iastore, 1) := by decide +kernel
theorem dX10_beginner_36 : decode cX10_beginner 36 = .ok (.aload_n 0, 1) := by decide +kernel
theorem dX10_beginner_37 : decode cX10_beginner 37 = .ok (.dup, 1) := by decide +kernel
theorem dX10_beginner_38 : decode cX10_beginner 38 = .ok (.getfield 110, 3) := by decide +kernel
theorem dX10_beginner_41 : decode cX10_beginner 41 = .ok (.iconst 1, 1) := by decide +kernel
theorem dX10_beginner_42 : decode cX10_beginner 42 = .ok (.iadd, 1) := by decide +kernel
theorem dX10_beginner_43 : decode cX10_beginner 43 = .ok (.putfield 110, 3) := by decide +kernel
theorem dX10_beginner_46 : decode cX10_beginner 46 = .ok (.aload_n 0, 1) := by decide +kernel
theorem dX10_beginner_47 : decode cX10_beginner 47 = .ok (.getfield 110, 3) := by decide +kernel
theorem dX10_beginner_50 : decode cX10_beginner 50 = .ok (.iconst 1, 1) := by decide +kernel
theorem dX10_beginner_51 : decode cX10_beginner 51 = .ok (.isub, 1) := by decide +kernel
theorem dX10_beginner_52 : decode cX10_beginner 52 = .ok (.ireturn, 1) := by decide +kernel
theorem dX10_places_0 : decode cX10_places 0 = .ok (.aload_n 0, 1) := by decide +kernel
theorem dX10_places_1 : decode cX10_places 1 = .ok (.iconst 0, 1) := by decide +kernel
theorem dX10_places_2 : decode cX10_places 2 = .ok (.putfield 82, 3) := by decide +kernel
theorem dX10_places_5 : decode cX10_places 5 = .ok (.aload_n 0, 1) := by decide +kernel
theorem dX10_places_6 : decode cX10_places 6 = .ok (.iconst 0, 1) := by decide +kernel
theorem dX10_places_7 : decode cX10_places 7 = .ok (.putfield 86, 3) := by decide +kernel
theorem dX10_places_10 : decode cX10_places 10 = .ok (.aload_n 0, 1) := by decide +kernel
theorem dX10_places_11 : decode cX10_places 11 = .ok (.iload_n 1, 1) := by decide +kernel
theorem dX10_places_12 : decode cX10_places 12 = .ok (.invokevirtual 116, 3) := by decide +kernel
theorem dX10_places_15 : decode cX10_places 15 = .ok (.ifCond .ne 9, 3) := by decide +kernel
theorem dX10_places_18 : decode cX10_places 18 = .ok (.aload_n 0, 1) := by decide +kernel
theorem dX10_places_19 : decode cX10_places 19 = .ok (.iconst 2, 1) := by decide +kernel
theorem dX10_places_20 : decode cX10_places 20 = .ok (.invokevirtual 89, 3) := by decide +kernel
theorem dX10_places_23 : decode cX10_places 23 = .ok (.ireturn, 1) := by decide +kernel
theorem dX10_places_24 : decode cX10_places 24 = .ok (.iload_n 2, 1) := by decide +kernel
theorem dX10_places_25 : decode cX10_places 25 = .ok (.ifCond .lt 8, 3) := by decide +kernel
theorem dX10_places_28 : decode cX10_places 28 = .ok (.iload_n 2, 1) := by decide +kernel
theorem dX10_places_29 : decode cX10_places 29 = .ok (.iconst 4, 1) := by decide +kernel
theorem dX10_places_30 : decode cX10_places 30 = .ok (.if_icmp .le 9, 3) := by decide +kernel
theorem dX10_places_33 : decode cX10_places 33 = .ok (.aload_n 0, 1) := by decide +kernel
theorem dX10_places_34 : decode cX10_places 34 = .ok (.iconst 5, 1) := by decide +kernel
theorem dX10_places_35 : decode cX10_places 35 = .ok (.invokevirtual 89, 3) := by decide +kernel
theorem dX10_places_38 : decode cX10_places 38 = .ok (.ireturn, 1) := by decide +kernel
theorem dX10_places_39 : decode cX10_places 39 = .ok (.aload_n 0, 1) := by decide +kernel
theorem dX10_places_40 : decode cX10_places 40 = .ok (.getfield 24, 3) := by decide +kernel
theorem dX10_places_43 : decode cX10_places 43 = .ok (.iload_n 1, 1) := by decide +kernel
theorem dX10_places_44 : decode cX10_places 44 = .ok (.iload_n 2, 1) := by decide +kernel
theorem dX10_places_45 : decode cX10_places 45 = .ok (.iastore, 1) := by decide +kernel
theorem dX10_places_46 : decode cX10_places 46 = .ok (.iconst 1, 1) := by decide +kernel
theorem dX10_places_47 : decode cX10_places 47 = .ok (.ireturn, 1) := by decide +kernel
theorem dX10_like_0 : decode cX10_like 0 = .ok (.aload_n 0, 1) := by decide +kernel
theorem dX10_like_1 : decode cX10_like 1 = .ok (.iconst 0, 1) := by decide +kernel
theorem dX10_like_2 : decode cX10_like 2 = .ok (.putfield 82, 3) := by decide +kernel
theorem dX10_like_5 : decode cX10_like 5 = .ok (.aload_n 0, 1) := by decide +kernel
theorem dX10_like_6 : decode cX10_like 6 = .ok (.iconst 0, 1) := by decide +kernel
theorem dX10_like_7 : decode cX10_like 7 = .ok (.putfield 86, 3) := by decide +kernel
theorem dX10_like_10 : decode cX10_like 10 = .ok (.aload_n 0, 1) := by decide +kernel
theorem dX10_like_11 : decode cX10_like 11 = .ok (.iload_n 1, 1) := by decide +kernel
theorem dX10_like_12 : decode cX10_like 12 = .ok (.invokevirtual 116, 3) := by decide +kernel
theorem dX10_like_15 : decode cX10_like 15 = .ok (.ifCond .eq 11, 3) := by decide +kernel
theorem dX10_like_18 : decode cX10_like 18 = .ok (.aload_n 0, 1) := by decide +kernel
theorem dX10_like_19 : decode cX10_like 19 = .ok (.iload_n 2, 1) := by decide +kernel
theorem dX10_like_20 : decode cX10_like 20 = .ok (.invokevirtual 119, 3) := by decide +kernel
theorem dX10_like_23 : decode cX10_like 23 = .ok (.ifCond .ne 9, 3) := by decide +kernel
theorem dX10_like_26 : decode cX10_like 26 = .ok (.aload_n 0, 1) := by decide +kernel
theorem dX10_like_27 : decode cX10_like 27 = .ok (.iconst 2, 1) := by decide +kernel
theorem dX10_like_28 : decode cX10_like 28 = .ok (.invokevirtual 89, 3) := by decide +kernel
theorem dX10_like_31 : decode cX10_like 31 = .ok (.ireturn, 1) := by decide +kernel
theorem dX10_like_32 : decode cX10_like 32 = .ok (.iload 4, 2) := by decide +kernel
theorem dX10_like_34 : decode cX10_like 34 = .ok (.ifCond .lt 10, 3) := by decide +kernel
theorem dX10_like_37 : decode cX10_like 37 = .ok (.iload 4, 2) := by decide +kernel
theorem dX10_like_39 : decode cX10_like 39 = .ok (.bipush 100, 2) := by decide +kernel
theorem dX10_like_41 : decode cX10_like 41 = .ok (.if_icmp .le 9, 3) := by decide +kernel
theorem dX10_like_44 : decode cX10_like 44 = .ok (.aload_n 0, 1) := by decide +kernel
theorem dX10_like_45 : decode cX10_like 45 = .ok (.iconst 5, 1) := by decide +kernel
theorem dX10_like_46 : decode cX10_like 46 = .ok (.invokevirtual 89, 3) := by decide +kernel
theorem dX10_like_49 : decode cX10_like 49 = .ok (.ireturn, 1) := by decide +kernel
theorem dX10_like_50 : decode cX10_like 50 = .ok (.iload_n 3, 1) := by decide +kernel
theorem dX10_like_51 : decode cX10_like 51 = .ok (.ifCond .eq 19, 3) := by decide +kernel
theorem dX10_like_54 : decode cX10_like 54 = .ok (.aload_n 0, 1) := by decide +kernel
theorem dX10_like_55 : decode cX10_like 55 = .ok (.getfield 27, 3) := by decide +kernel
theorem dX10_like_58 : decode cX10_like 58 = .ok (.bipush 16, 2) := by decide +kernel
theorem dX10_like_60 : decode cX10_like 60 = .ok (.iload_n 1, 1) := by decide +kernel
theorem dX10_like_61 : decode cX10_like 61 = .ok (.imul, 1) := by decide +kernel
theorem dX10_like_62 : decode cX10_like 62 = .ok (.iload_n 2, 1) := by decide +kernel
theorem dX10_like_63 : decode cX10_like 63 = .ok (.iadd, 1) := by decide +kernel
theorem dX10_like_64 : decode cX10_like 64 = .ok (.iload 4, 2) := by decide +kernel
theorem dX10_like_66 : decode cX10_like 66 = .ok (.iastore, 1) := by decide +kernel
theorem dX10_like_67 : decode cX10_like 67 = .ok (.goto 16, 3) := by decide +kernel
theorem dX10_like_70 : decode cX10_like 70 = .ok (.aload_n 0, 1) := by decide +kernel
theorem dX10_like_71 : decode cX10_like 71 = .ok (.getfield 30, 3) := by decide +kernel
theorem dX10_like_74 : decode cX10_like 74 = .ok (.bipush 16, 2) := by decide +kernel
theorem dX10_like_76 : decode cX10_like 76 = .ok (.iload_n 1, 1) := by decide +kernel
theorem dX10_like_77 : decode cX10_like 77 = .ok (.imul, 1) := by decide +kernel
theorem dX10_like_78 : decode cX10_like 78 = .ok (.iload_n 2, 1) := by decide +kernel
theorem dX10_like_79 : decode cX10_like 79 = .ok (.iadd, 1) := by decide +kernel
theorem dX10_like_80 : decode cX10_like 80 = .ok (.iload 4, 2) := by decide +kernel
theorem dX10_like_82 : decode cX10_like 82 = .ok (.iastore, 1) := by decide +kernel
theorem dX10_like_83 : decode cX10_like 83 = .ok (.iconst 1, 1) := by decide +kernel
theorem dX10_like_84 : decode cX10_like 84 = .ok (.ireturn, 1) := by decide +kernel
theorem dX10_bar_0 : decode cX10_bar 0 = .ok (.aload_n 0, 1) := by decide +kernel
theorem dX10_bar_1 : decode cX10_bar 1 = .ok (.iconst 0, 1) := by decide +kernel
theorem dX10_bar_2 : decode cX10_bar 2 = .ok (.putfield 82, 3) := by decide +kernel
theorem dX10_bar_5 : decode cX10_bar 5 = .ok (.aload_n 0, 1) := by decide +kernel
theorem dX10_bar_6 : decode cX10_bar 6 = .ok (.iconst 0, 1) := by decide +kernel
theorem dX10_bar_7 : decode cX10_bar 7 = .ok (.putfield 86, 3) := by decide +kernel
theorem dX10_bar_10 : decode cX10_bar 10 = .ok (.aload_n 0, 1) := by decide +kernel
theorem dX10_bar_11 : decode cX10_bar 11 = .ok (.iload_n 1, 1) := by decide +kernel
theorem dX10_bar_12 : decode cX10_bar 12 = .ok (.invokevirtual 116, 3) := by decide +kernel
theorem dX10_bar_15 : decode cX10_bar 15 = .ok (.ifCond .eq 11, 3) := by decide +kernel
theorem dX10_bar_18 : decode cX10_bar 18 = .ok (.aload_n 0, 1) := by decide +kernel
theorem dX10_bar_19 : decode cX10_bar 19 = .ok (.iload_n 2, 1) := by decide +kernel
theorem dX10_bar_20 : decode cX10_bar 20 = .ok (.invokevirtual 119, 3) := by decide +kernel
theorem dX10_bar_23 : decode cX10_bar 23 = .ok (.ifCond .ne 9, 3) := by decide +kernel
theorem dX10_bar_26 : decode cX10_bar 26 = .ok (.aload_n 0, 1) := by decide +kernel
theorem dX10_bar_27 : decode cX10_bar 27 = .ok (.iconst 2, 1) := by decide +kernel
theorem dX10_bar_28 : decode cX10_bar 28 = .ok (.invokevirtual 89, 3) := by decide +kernel
theorem dX10_bar_31 : decode cX10_bar 31 = .ok (.ireturn, 1) := by decide +kernel
theorem dX10_bar_32 : decode cX10_bar 32 = .ok (.aload_n 0, 1) := by decide +kernel
theorem dX10_bar_33 : decode cX10_bar 33 = .ok (.getfield 33, 3) := by decide +kernel
theorem dX10_bar_36 : decode cX10_bar 36 = .ok (.bipush 16, 2) := by decide +kernel
theorem dX10_bar_38 : decode cX10_bar 38 = .ok (.iload_n 1, 1) := by decide +kernel
theorem dX10_bar_39 : decode cX10_bar 39 = .ok (.imul, 1) := by decide +kernel
theorem dX10_bar_40 : decode cX10_bar 40 = .ok (.iload_n 2, 1) := by decide +kernel
theorem dX10_bar_41 : decode cX10_bar 41 = .ok (.iadd, 1) := by decide +kernel
theorem dX10_bar_42 : decode cX10_bar 42 = .ok (.baload, 1) := by decide +kernel
theorem dX10_bar_43 : decode cX10_bar 43 = .ok (.iload_n 3, 1) := by decide +kernel
theorem dX10_bar_44 : decode cX10_bar 44 = .ok (.if_icmp .ne 10, 3) := by decide +kernel
theorem dX10_bar_47 : decode cX10_bar 47 = .ok (.aload_n 0, 1) := by decide +kernel
theorem dX10_bar_48 : decode cX10_bar 48 = .ok (.bipush 8, 2) := by decide +kernel
theorem dX10_bar_50 : decode cX10_bar 50 = .ok (.invokevirtual 89, 3) := by decide +kernel
theorem dX10_bar_53 : decode cX10_bar 53 = .ok (.ireturn, 1) := by decide +kernel
theorem dX10_bar_54 : decode cX10_bar 54 = .ok (.aload_n 0, 1) := by decide +kernel
theorem dX10_bar_55 : decode cX10_bar 55 = .ok (.getfield 33, 3) := by decide +kernel
theorem dX10_bar_58 : decode cX10_bar 58 = .ok (.bipush 16, 2) := by decide +kernel
theorem dX10_bar_60 : decode cX10_bar 60 = .ok (.iload_n 1, 1) := by decide +kernel
theorem dX10_bar_61 : decode cX10_bar 61 = .ok (.imul, 1) := by decide +kernel
theorem dX10_bar_62 : decode cX10_bar 62 = .ok (.iload_n 2, 1) := by decide +kernel
theorem dX10_bar_63 : decode cX10_bar 63 = .ok (.iadd, 1) := by decide +kernel
theorem dX10_bar_64 : decode cX10_bar 64 = .ok (.iload_n 3, 1) := by decide +kernel
theorem dX10_bar_65 : decode cX10_bar 65 = .ok (.bastore, 1) := by decide +kernel
theorem dX10_bar_66 : decode cX10_bar 66 = .ok (.iconst 1, 1) := by decide +kernel
theorem dX10_bar_67 : decode cX10_bar 67 = .ok (.ireturn, 1) := by decide +kernel
theorem dX10_can_0 : decode cX10_can 0 = .ok (.bipush 16, 2) := by decide +kernel
theorem dX10_can_2 : decode cX10_can 2 = .ok (.iload_n 1, 1) := by decide +kernel
theorem dX10_can_3 : decode cX10_can 3 = .ok (.imul, 1) := by decide +kernel
theorem dX10_can_4 : decode cX10_can 4 = .ok (.iload_n 2, 1) := by decide +kernel
theorem dX10_can_5 : decode cX10_can 5 = .ok (.iadd, 1) := by decide +kernel
theorem dX10_can_6 : decode cX10_can 6 = .ok (.istore_n 3, 1) := by decide +kernel
theorem dX10_can_7 : decode cX10_can 7 = .ok (.aload_n 0, 1) := by decide +kernel
theorem dX10_can_8 : decode cX10_can 8 = .ok (.getfield 27, 3) := by decide +kernel
theorem dX10_can_11 : decode cX10_can 11 = .ok (.iload_n 3, 1) := by decide +kernel
theorem dX10_can_12 : decode cX10_can 12 = .ok (.iaload, 1) := by decide +kernel
theorem dX10_can_13 : decode cX10_can 13 = .ok (.ifCond .le 25, 3) := by decide +kernel
theorem dX10_can_16 : decode cX10_can 16 = .ok (.aload_n 0, 1) := by decide +kernel
theorem dX10_can_17 : decode cX10_can 17 = .ok (.getfield 30, 3) := by decide +kernel
theorem dX10_can_20 : decode cX10_can 20 = .ok (.iload_n 3, 1) := by decide +kernel
theorem dX10_can_21 : decode cX10_can 21 = .ok (.iaload, 1) := by decide +kernel
theorem dX10_can_22 : decode cX10_can 22 = .ok (.ifCond .le 16, 3) := by decide +kernel
theorem dX10_can_25 : decode cX10_can 25 = .ok (.aload_n 0, 1) := by decide +kernel
theorem dX10_can_26 : decode cX10_can 26 = .ok (.getfield 33, 3) := by decide +kernel
theorem dX10_can_29 : decode cX10_can 29 = .ok (.iload_n 3, 1) := by decide +kernel
theorem dX10_can_30 : decode cX10_can 30 = .ok (.baload, 1) := by decide +kernel
theorem dX10_can_31 : decode cX10_can 31 = .ok (.ifCond .ne 7, 3) := by decide +kernel
theorem dX10_can_34 : decode cX10_can 34 = .ok (.iconst 1, 1) := by decide +kernel
theorem dX10_can_35 : decode cX10_can 35 = .ok (.goto 4, 3) := by decide +kernel
theorem dX10_can_38 : decode cX10_can 38 = .ok (.iconst 0, 1) := by decide +kernel
theorem dX10_can_39 : decode cX10_can 39 = .ok (.ireturn, 1) := by decide +kernel
theorem dX10_elderPrefers_0 : decode cX10_elderPrefers 0 = .ok (.aload_n 0, 1) := by decide +kernel
theorem dX10_elderPrefers_1 : decode cX10_elderPrefers 1 = .ok (.getfield 27, 3) := by decide +kernel
theorem dX10_elderPrefers_4 : decode cX10_elderPrefers 4 = .ok (.bipush 16, 2) := by decide +kernel
theorem dX10_elderPrefers_6 : decode cX10_elderPrefers 6 = .ok (.iload_n 1, 1) := by decide +kernel
theorem dX10_elderPrefers_7 : decode cX10_elderPrefers 7 = .ok (.imul, 1) := by decide +kernel
theorem dX10_elderPrefers_8 : decode cX10_elderPrefers 8 = .ok (.iload_n 2, 1) := by decide +kernel
theorem dX10_elderPrefers_9 : decode cX10_elderPrefers 9 = .ok (.iadd, 1) := by decide +kernel
theorem dX10_elderPrefers_10 : decode cX10_elderPrefers 10 = .ok (.iaload, 1) := by decide +kernel
theorem dX10_elderPrefers_11 : decode cX10_elderPrefers 11 = .ok (.istore 4, 2) := by decide +kernel
theorem dX10_elderPrefers_13 : decode cX10_elderPrefers 13 = .ok (.aload_n 0, 1) := by decide +kernel
theorem dX10_elderPrefers_14 : decode cX10_elderPrefers 14 = .ok (.getfield 27, 3) := by decide +kernel
theorem dX10_elderPrefers_17 : decode cX10_elderPrefers 17 = .ok (.bipush 16, 2) := by decide +kernel
theorem dX10_elderPrefers_19 : decode cX10_elderPrefers 19 = .ok (.iload_n 1, 1) := by decide +kernel
theorem dX10_elderPrefers_20 : decode cX10_elderPrefers 20 = .ok (.imul, 1) := by decide +kernel
theorem dX10_elderPrefers_21 : decode cX10_elderPrefers 21 = .ok (.iload_n 3, 1) := by decide +kernel
theorem dX10_elderPrefers_22 : decode cX10_elderPrefers 22 = .ok (.iadd, 1) := by decide +kernel
theorem dX10_elderPrefers_23 : decode cX10_elderPrefers 23 = .ok (.iaload, 1) := by decide +kernel
theorem dX10_elderPrefers_24 : decode cX10_elderPrefers 24 = .ok (.istore 5, 2) := by decide +kernel
theorem dX10_elderPrefers_26 : decode cX10_elderPrefers 26 = .ok (.iload 4, 2) := by decide +kernel
theorem dX10_elderPrefers_28 : decode cX10_elderPrefers 28 = .ok (.iload 5, 2) := by decide +kernel
theorem dX10_elderPrefers_30 : decode cX10_elderPrefers 30 = .ok (.if_icmp .gt 15, 3) := by decide +kernel
theorem dX10_elderPrefers_33 : decode cX10_elderPrefers 33 = .ok (.iload 4, 2) := by decide +kernel
theorem dX10_elderPrefers_35 : decode cX10_elderPrefers 35 = .ok (.iload 5, 2) := by decide +kernel
theorem dX10_elderPrefers_37 : decode cX10_elderPrefers 37 = .ok (.if_icmp .ne 12, 3) := by decide +kernel
theorem dX10_elderPrefers_40 : decode cX10_elderPrefers 40 = .ok (.iload_n 2, 1) := by decide +kernel
theorem dX10_elderPrefers_41 : decode cX10_elderPrefers 41 = .ok (.iload_n 3, 1) := by decide +kernel
theorem dX10_elderPrefers_42 : decode cX10_elderPrefers 42 = .ok (.if_icmp .ge 7, 3) := by decide +kernel
theorem dX10_elderPrefers_45 : decode cX10_elderPrefers 45 = .ok (.iconst 1, 1) := by decide +kernel
theorem dX10_elderPrefers_46 : decode cX10_elderPrefers 46 = .ok (.goto 4, 3) := by decide +kernel
theorem dX10_elderPrefers_49 : decode cX10_elderPrefers 49 = .ok (.iconst 0, 1) := by decide +kernel
theorem dX10_elderPrefers_50 : decode cX10_elderPrefers 50 = .ok (.ireturn, 1) := by decide +kernel
theorem dX10_beginnerPrefers_0 : decode cX10_beginnerPrefers 0 = .ok (.iload_n 3, 1) := by decide +kernel
theorem dX10_beginnerPrefers_1 : decode cX10_beginnerPrefers 1 = .ok (.ifCond .ge 5, 3) := by decide +kernel
theorem dX10_beginnerPrefers_4 : decode cX10_beginnerPrefers 4 = .ok (.iconst 1, 1) := by decide +kernel
theorem dX10_beginnerPrefers_5 : decode cX10_beginnerPrefers 5 = .ok (.ireturn, 1) := by decide +kernel
theorem dX10_beginnerPrefers_6 : decode cX10_beginnerPrefers 6 = .ok (.aload_n 0, 1) := by decide +kernel
theorem dX10_beginnerPrefers_7 : decode cX10_beginnerPrefers 7 = .ok (.getfield 30, 3) := by decide +kernel
theorem dX10_beginnerPrefers_10 : decode cX10_beginnerPrefers 10 = .ok (.bipush 16, 2) := by decide +kernel
theorem dX10_beginnerPrefers_12 : decode cX10_beginnerPrefers 12 = .ok (.iload_n 2, 1) := by decide +kernel
theorem dX10_beginnerPrefers_13 : decode cX10_beginnerPrefers 13 = .ok (.imul, 1) := by decide +kernel
theorem dX10_beginnerPrefers_14 : decode cX10_beginnerPrefers 14 = .ok (.iload_n 1, 1) := by decide +kernel
theorem dX10_beginnerPrefers_15 : decode cX10_beginnerPrefers 15 = .ok (.iadd, 1) := by decide +kernel
theorem dX10_beginnerPrefers_16 : decode cX10_beginnerPrefers 16 = .ok (.iaload, 1) := by decide +kernel
theorem dX10_beginnerPrefers_17 : decode cX10_beginnerPrefers 17 = .ok (.istore 4, 2) := by decide +kernel
theorem dX10_beginnerPrefers_19 : decode cX10_beginnerPrefers 19 = .ok (.aload_n 0, 1) := by decide +kernel
theorem dX10_beginnerPrefers_20 : decode cX10_beginnerPrefers 20 = .ok (.getfield 30, 3) := by decide +kernel
theorem dX10_beginnerPrefers_23 : decode cX10_beginnerPrefers 23 = .ok (.bipush 16, 2) := by decide +kernel
theorem dX10_beginnerPrefers_25 : decode cX10_beginnerPrefers 25 = .ok (.iload_n 3, 1) := by decide +kernel
theorem dX10_beginnerPrefers_26 : decode cX10_beginnerPrefers 26 = .ok (.imul, 1) := by decide +kernel
theorem dX10_beginnerPrefers_27 : decode cX10_beginnerPrefers 27 = .ok (.iload_n 1, 1) := by decide +kernel
theorem dX10_beginnerPrefers_28 : decode cX10_beginnerPrefers 28 = .ok (.iadd, 1) := by decide +kernel
theorem dX10_beginnerPrefers_29 : decode cX10_beginnerPrefers 29 = .ok (.iaload, 1) := by decide +kernel
theorem dX10_beginnerPrefers_30 : decode cX10_beginnerPrefers 30 = .ok (.istore 5, 2) := by decide +kernel
theorem dX10_beginnerPrefers_32 : decode cX10_beginnerPrefers 32 = .ok (.iload 4, 2) := by decide +kernel
theorem dX10_beginnerPrefers_34 : decode cX10_beginnerPrefers 34 = .ok (.iload 5, 2) := by decide +kernel
theorem dX10_beginnerPrefers_36 : decode cX10_beginnerPrefers 36 = .ok (.if_icmp .gt 15, 3) := by decide +kernel
theorem dX10_beginnerPrefers_39 : decode cX10_beginnerPrefers 39 = .ok (.iload 4, 2) := by decide +kernel
theorem dX10_beginnerPrefers_41 : decode cX10_beginnerPrefers 41 = .ok (.iload 5, 2) := by decide +kernel
theorem dX10_beginnerPrefers_43 : decode cX10_beginnerPrefers 43 = .ok (.if_icmp .ne 12, 3) := by decide +kernel
theorem dX10_beginnerPrefers_46 : decode cX10_beginnerPrefers 46 = .ok (.iload_n 2, 1) := by decide +kernel
theorem dX10_beginnerPrefers_47 : decode cX10_beginnerPrefers 47 = .ok (.iload_n 3, 1) := by decide +kernel
theorem dX10_beginnerPrefers_48 : decode cX10_beginnerPrefers 48 = .ok (.if_icmp .ge 7, 3) := by decide +kernel
theorem dX10_beginnerPrefers_51 : decode cX10_beginnerPrefers 51 = .ok (.iconst 1, 1) := by decide +kernel
theorem dX10_beginnerPrefers_52 : decode cX10_beginnerPrefers 52 = .ok (.goto 4, 3) := by decide +kernel
theorem dX10_beginnerPrefers_55 : decode cX10_beginnerPrefers 55 = .ok (.iconst 0, 1) := by decide +kernel
theorem dX10_beginnerPrefers_56 : decode cX10_beginnerPrefers 56 = .ok (.ireturn, 1) := by decide +kernel
theorem dX10_hasOf_0 : decode cX10_hasOf 0 = .ok (.iconst 0, 1) := by decide +kernel
theorem dX10_hasOf_1 : decode cX10_hasOf 1 = .ok (.istore_n 2, 1) := by decide +kernel
theorem dX10_hasOf_2 : decode cX10_hasOf 2 = .ok (.iconst 0, 1) := by decide +kernel
theorem dX10_hasOf_3 : decode cX10_hasOf 3 = .ok (.istore_n 3, 1) := by decide +kernel
theorem dX10_hasOf_4 : decode cX10_hasOf 4 = .ok (.iload_n 3, 1) := by decide +kernel
theorem dX10_hasOf_5 : decode cX10_hasOf 5 = .ok (.aload_n 0, 1) := by decide +kernel
theorem dX10_hasOf_6 : decode cX10_hasOf 6 = .ok (.getfield 110, 3) := by decide +kernel
theorem dX10_hasOf_9 : decode cX10_hasOf 9 = .ok (.if_icmp .ge 27, 3) := by decide +kernel
theorem dX10_hasOf_12 : decode cX10_hasOf 12 = .ok (.iload_n 2, 1) := by decide +kernel
theorem dX10_hasOf_13 : decode cX10_hasOf 13 = .ok (.aload_n 0, 1) := by decide +kernel
theorem dX10_hasOf_14 : decode cX10_hasOf 14 = .ok (.getfield 37, 3) := by decide +kernel
theorem dX10_hasOf_17 : decode cX10_hasOf 17 = .ok (.iload_n 3, 1) := by decide +kernel
theorem dX10_hasOf_18 : decode cX10_hasOf 18 = .ok (.iaload, 1) := by decide +kernel
theorem dX10_hasOf_19 : decode cX10_hasOf 19 = .ok (.iload_n 1, 1) := by decide +kernel
theorem dX10_hasOf_20 : decode cX10_hasOf 20 = .ok (.if_icmp .ne 7, 3) := by decide +kernel
theorem dX10_hasOf_23 : decode cX10_hasOf 23 = .ok (.iconst 1, 1) := by decide +kernel
theorem dX10_hasOf_24 : decode cX10_hasOf 24 = .ok (.goto 4, 3) := by decide +kernel
theorem dX10_hasOf_27 : decode cX10_hasOf 27 = .ok (.iconst 0, 1) := by decide +kernel
theorem dX10_hasOf_28 : decode cX10_hasOf 28 = .ok (.iadd, 1) := by decide +kernel
theorem dX10_hasOf_29 : decode cX10_hasOf 29 = .ok (.istore_n 2, 1) := by decide +kernel
theorem dX10_hasOf_30 : decode cX10_hasOf 30 = .ok (.iinc 3 1, 3) := by decide +kernel
theorem dX10_hasOf_33 : decode cX10_hasOf 33 = .ok (.goto (-29), 3) := by decide +kernel
theorem dX10_hasOf_36 : decode cX10_hasOf 36 = .ok (.iload_n 2, 1) := by decide +kernel
theorem dX10_hasOf_37 : decode cX10_hasOf 37 = .ok (.ireturn, 1) := by decide +kernel
theorem dX10_worst_0 : decode cX10_worst 0 = .ok (.iconst (-1), 1) := by decide +kernel
theorem dX10_worst_1 : decode cX10_worst 1 = .ok (.istore_n 2, 1) := by decide +kernel
theorem dX10_worst_2 : decode cX10_worst 2 = .ok (.iconst 0, 1) := by decide +kernel
theorem dX10_worst_3 : decode cX10_worst 3 = .ok (.istore_n 3, 1) := by decide +kernel
theorem dX10_worst_4 : decode cX10_worst 4 = .ok (.iload_n 3, 1) := by decide +kernel
theorem dX10_worst_5 : decode cX10_worst 5 = .ok (.aload_n 0, 1) := by decide +kernel
theorem dX10_worst_6 : decode cX10_worst 6 = .ok (.getfield 110, 3) := by decide +kernel
theorem dX10_worst_9 : decode cX10_worst 9 = .ok (.if_icmp .ge 35, 3) := by decide +kernel
theorem dX10_worst_12 : decode cX10_worst 12 = .ok (.aload_n 0, 1) := by decide +kernel
theorem dX10_worst_13 : decode cX10_worst 13 = .ok (.getfield 37, 3) := by decide +kernel
theorem dX10_worst_16 : decode cX10_worst 16 = .ok (.iload_n 3, 1) := by decide +kernel
theorem dX10_worst_17 : decode cX10_worst 17 = .ok (.iaload, 1) := by decide +kernel
theorem dX10_worst_18 : decode cX10_worst 18 = .ok (.iload_n 1, 1) := by decide +kernel
theorem dX10_worst_19 : decode cX10_worst 19 = .ok (.if_icmp .ne 19, 3) := by decide +kernel
theorem dX10_worst_22 : decode cX10_worst 22 = .ok (.iload_n 2, 1) := by decide +kernel
theorem dX10_worst_23 : decode cX10_worst 23 = .ok (.ifCond .lt 13, 3) := by decide +kernel
theorem dX10_worst_26 : decode cX10_worst 26 = .ok (.aload_n 0, 1) := by decide +kernel
theorem dX10_worst_27 : decode cX10_worst 27 = .ok (.iload_n 1, 1) := by decide +kernel
theorem dX10_worst_28 : decode cX10_worst 28 = .ok (.iload_n 2, 1) := by decide +kernel
theorem dX10_worst_29 : decode cX10_worst 29 = .ok (.iload_n 3, 1) := by decide +kernel
theorem dX10_worst_30 : decode cX10_worst 30 = .ok (.invokevirtual 122, 3) := by decide +kernel
theorem dX10_worst_33 : decode cX10_worst 33 = .ok (.ifCond .eq 5, 3) := by decide +kernel
theorem dX10_worst_36 : decode cX10_worst 36 = .ok (.iload_n 3, 1) := by decide +kernel
theorem dX10_worst_37 : decode cX10_worst 37 = .ok (.istore_n 2, 1) := by decide +kernel
theorem dX10_worst_38 : decode cX10_worst 38 = .ok (.iinc 3 1, 3) := by decide +kernel
theorem dX10_worst_41 : decode cX10_worst 41 = .ok (.goto (-37), 3) := by decide +kernel
theorem dX10_worst_44 : decode cX10_worst 44 = .ok (.iload_n 2, 1) := by decide +kernel
theorem dX10_worst_45 : decode cX10_worst 45 = .ok (.ireturn, 1) := by decide +kernel
theorem dX10_rank_0 : decode cX10_rank 0 = .ok (.iconst 0, 1) := by decide +kernel
theorem dX10_rank_1 : decode cX10_rank 1 = .ok (.istore_n 3, 1) := by decide +kernel
theorem dX10_rank_2 : decode cX10_rank 2 = .ok (.iconst 0, 1) := by decide +kernel
theorem dX10_rank_3 : decode cX10_rank 3 = .ok (.istore 4, 2) := by decide +kernel
theorem dX10_rank_5 : decode cX10_rank 5 = .ok (.iload 4, 2) := by decide +kernel
theorem dX10_rank_7 : decode cX10_rank 7 = .ok (.aload_n 0, 1) := by decide +kernel
theorem dX10_rank_8 : decode cX10_rank 8 = .ok (.getfield 107, 3) := by decide +kernel
theorem dX10_rank_11 : decode cX10_rank 11 = .ok (.if_icmp .ge 44, 3) := by decide +kernel
theorem dX10_rank_14 : decode cX10_rank 14 = .ok (.iload_n 3, 1) := by decide +kernel
theorem dX10_rank_15 : decode cX10_rank 15 = .ok (.iload 4, 2) := by decide +kernel
theorem dX10_rank_17 : decode cX10_rank 17 = .ok (.iload_n 2, 1) := by decide +kernel
theorem dX10_rank_18 : decode cX10_rank 18 = .ok (.if_icmp .eq 28, 3) := by decide +kernel
theorem dX10_rank_21 : decode cX10_rank 21 = .ok (.aload_n 0, 1) := by decide +kernel
theorem dX10_rank_22 : decode cX10_rank 22 = .ok (.iload 4, 2) := by decide +kernel
theorem dX10_rank_24 : decode cX10_rank 24 = .ok (.iload_n 1, 1) := by decide +kernel
theorem dX10_rank_25 : decode cX10_rank 25 = .ok (.invokevirtual 126, 3) := by decide +kernel
theorem dX10_rank_28 : decode cX10_rank 28 = .ok (.ifCond .eq 18, 3) := by decide +kernel
theorem dX10_rank_31 : decode cX10_rank 31 = .ok (.aload_n 0, 1) := by decide +kernel
theorem dX10_rank_32 : decode cX10_rank 32 = .ok (.iload_n 1, 1) := by decide +kernel
theorem dX10_rank_33 : decode cX10_rank 33 = .ok (.iload 4, 2) := by decide +kernel
theorem dX10_rank_35 : decode cX10_rank 35 = .ok (.iload_n 2, 1) := by decide +kernel
theorem dX10_rank_36 : decode cX10_rank 36 = .ok (.invokevirtual 130, 3) := by decide +kernel
theorem dX10_rank_39 : decode cX10_rank 39 = .ok (.ifCond .eq 7, 3) := by decide +kernel
theorem dX10_rank_42 : decode cX10_rank 42 = .ok (.iconst 1, 1) := by decide +kernel
theorem dX10_rank_43 : decode cX10_rank 43 = .ok (.goto 4, 3) := by decide +kernel
theorem dX10_rank_46 : decode cX10_rank 46 = .ok (.iconst 0, 1) := by decide +kernel
theorem dX10_rank_47 : decode cX10_rank 47 = .ok (.iadd, 1) := by decide +kernel
theorem dX10_rank_48 : decode cX10_rank 48 = .ok (.istore_n 3, 1) := by decide +kernel
theorem dX10_rank_49 : decode cX10_rank 49 = .ok (.iinc 4 1, 3) := by decide +kernel
theorem dX10_rank_52 : decode cX10_rank 52 = .ok (.goto (-47), 3) := by decide +kernel
theorem dX10_rank_55 : decode cX10_rank 55 = .ok (.iload_n 3, 1) := by decide +kernel
theorem dX10_rank_56 : decode cX10_rank 56 = .ok (.ireturn, 1) := by decide +kernel
theorem dX10_asked_0 : decode cX10_asked 0 = .ok (.iconst 0, 1) := by decide +kernel
theorem dX10_asked_1 : decode cX10_asked 1 = .ok (.istore_n 3, 1) := by decide +kernel
theorem dX10_asked_2 : decode cX10_asked 2 = .ok (.iload_n 3, 1) := by decide +kernel
theorem dX10_asked_3 : decode cX10_asked 3 = .ok (.aload_n 0, 1) := by decide +kernel
theorem dX10_asked_4 : decode cX10_asked 4 = .ok (.getfield 107, 3) := by decide +kernel
theorem dX10_asked_7 : decode cX10_asked 7 = .ok (.if_icmp .ge 30, 3) := by decide +kernel
theorem dX10_asked_10 : decode cX10_asked 10 = .ok (.aload_n 0, 1) := by decide +kernel
theorem dX10_asked_11 : decode cX10_asked 11 = .ok (.iload_n 3, 1) := by decide +kernel
theorem dX10_asked_12 : decode cX10_asked 12 = .ok (.iload_n 1, 1) := by decide +kernel
theorem dX10_asked_13 : decode cX10_asked 13 = .ok (.invokevirtual 126, 3) := by decide +kernel
theorem dX10_asked_16 : decode cX10_asked 16 = .ok (.ifCond .eq 15, 3) := by decide +kernel
theorem dX10_asked_19 : decode cX10_asked 19 = .ok (.aload_n 0, 1) := by decide +kernel
theorem dX10_asked_20 : decode cX10_asked 20 = .ok (.iload_n 1, 1) := by decide +kernel
theorem dX10_asked_21 : decode cX10_asked 21 = .ok (.iload_n 3, 1) := by decide +kernel
theorem dX10_asked_22 : decode cX10_asked 22 = .ok (.invokevirtual 133, 3) := by decide +kernel
theorem dX10_asked_25 : decode cX10_asked 25 = .ok (.iload_n 2, 1) := by decide +kernel
theorem dX10_asked_26 : decode cX10_asked 26 = .ok (.if_icmp .ne 5, 3) := by decide +kernel
theorem dX10_asked_29 : decode cX10_asked 29 = .ok (.iload_n 3, 1) := by decide +kernel
theorem dX10_asked_30 : decode cX10_asked 30 = .ok (.ireturn, 1) := by decide +kernel
theorem dX10_asked_31 : decode cX10_asked 31 = .ok (.iinc 3 1, 3) := by decide +kernel
theorem dX10_asked_34 : decode cX10_asked 34 = .ok (.goto (-32), 3) := by decide +kernel
theorem dX10_asked_37 : decode cX10_asked 37 = .ok (.iconst (-1), 1) := by decide +kernel
theorem dX10_asked_38 : decode cX10_asked 38 = .ok (.ireturn, 1) := by decide +kernel
theorem dX10_pair_0 : decode cX10_pair 0 = .ok (.aload_n 0, 1) := by decide +kernel
theorem dX10_pair_1 : decode cX10_pair 1 = .ok (.iconst 0, 1) := by decide +kernel
theorem dX10_pair_2 : decode cX10_pair 2 = .ok (.putfield 82, 3) := by decide +kernel
theorem dX10_pair_5 : decode cX10_pair 5 = .ok (.aload_n 0, 1) := by decide +kernel
theorem dX10_pair_6 : decode cX10_pair 6 = .ok (.iconst 0, 1) := by decide +kernel
theorem dX10_pair_7 : decode cX10_pair 7 = .ok (.putfield 86, 3) := by decide +kernel
theorem dX10_pair_10 : decode cX10_pair 10 = .ok (.iconst 0, 1) := by decide +kernel
theorem dX10_pair_11 : decode cX10_pair 11 = .ok (.istore_n 1, 1) := by decide +kernel
theorem dX10_pair_12 : decode cX10_pair 12 = .ok (.iload_n 1, 1) := by decide +kernel
theorem dX10_pair_13 : decode cX10_pair 13 = .ok (.aload_n 0, 1) := by decide +kernel
theorem dX10_pair_14 : decode cX10_pair 14 = .ok (.getfield 110, 3) := by decide +kernel
theorem dX10_pair_17 : decode cX10_pair 17 = .ok (.if_icmp .ge 23, 3) := by decide +kernel
theorem dX10_pair_20 : decode cX10_pair 20 = .ok (.aload_n 0, 1) := by decide +kernel
theorem dX10_pair_21 : decode cX10_pair 21 = .ok (.getfield 37, 3) := by decide +kernel
theorem dX10_pair_24 : decode cX10_pair 24 = .ok (.iload_n 1, 1) := by decide +kernel
theorem dX10_pair_25 : decode cX10_pair 25 = .ok (.iconst (-1), 1) := by decide +kernel
theorem dX10_pair_26 : decode cX10_pair 26 = .ok (.iastore, 1) := by decide +kernel
theorem dX10_pair_27 : decode cX10_pair 27 = .ok (.aload_n 0, 1) := by decide +kernel
theorem dX10_pair_28 : decode cX10_pair 28 = .ok (.getfield 40, 3) := by decide +kernel
theorem dX10_pair_31 : decode cX10_pair 31 = .ok (.iload_n 1, 1) := by decide +kernel
theorem dX10_pair_32 : decode cX10_pair 32 = .ok (.iconst 0, 1) := by decide +kernel
theorem dX10_pair_33 : decode cX10_pair 33 = .ok (.iastore, 1) := by decide +kernel
theorem dX10_pair_34 : decode cX10_pair 34 = .ok (.iinc 1 1, 3) := by decide +kernel
theorem dX10_pair_37 : decode cX10_pair 37 = .ok (.goto (-25), 3) := by decide +kernel
theorem dX10_pair_40 : decode cX10_pair 40 = .ok (.iconst 1, 1) := by decide +kernel
theorem dX10_pair_41 : decode cX10_pair 41 = .ok (.istore_n 1, 1) := by decide +kernel
theorem dX10_pair_42 : decode cX10_pair 42 = .ok (.iload_n 1, 1) := by decide +kernel
theorem dX10_pair_43 : decode cX10_pair 43 = .ok (.ifCond .eq 100, 3) := by decide +kernel
theorem dX10_pair_46 : decode cX10_pair 46 = .ok (.iconst 0, 1) := by decide +kernel
theorem dX10_pair_47 : decode cX10_pair 47 = .ok (.istore_n 1, 1) := by decide +kernel
theorem dX10_pair_48 : decode cX10_pair 48 = .ok (.iconst 0, 1) := by decide +kernel
theorem dX10_pair_49 : decode cX10_pair 49 = .ok (.istore_n 2, 1) := by decide +kernel
theorem dX10_pair_50 : decode cX10_pair 50 = .ok (.iload_n 2, 1) := by decide +kernel
theorem dX10_pair_51 : decode cX10_pair 51 = .ok (.aload_n 0, 1) := by decide +kernel
theorem dX10_pair_52 : decode cX10_pair 52 = .ok (.getfield 110, 3) := by decide +kernel
theorem dX10_pair_55 : decode cX10_pair 55 = .ok (.if_icmp .ge 85, 3) := by decide +kernel
theorem dX10_pair_58 : decode cX10_pair 58 = .ok (.aload_n 0, 1) := by decide +kernel
theorem dX10_pair_59 : decode cX10_pair 59 = .ok (.getfield 37, 3) := by decide +kernel
theorem dX10_pair_62 : decode cX10_pair 62 = .ok (.iload_n 2, 1) := by decide +kernel
theorem dX10_pair_63 : decode cX10_pair 63 = .ok (.iaload, 1) := by decide +kernel
theorem dX10_pair_64 : decode cX10_pair 64 = .ok (.ifCond .lt 7, 3) := by decide +kernel
theorem dX10_pair_67 : decode cX10_pair 67 = .ok (.iconst (-1), 1) := by decide +kernel
theorem dX10_pair_68 : decode cX10_pair 68 = .ok (.goto 14, 3) := by decide +kernel
theorem dX10_pair_71 : decode cX10_pair 71 = .ok (.aload_n 0, 1) := by decide +kernel
theorem dX10_pair_72 : decode cX10_pair 72 = .ok (.iload_n 2, 1) := by decide +kernel
theorem dX10_pair_73 : decode cX10_pair 73 = .ok (.aload_n 0, 1) := by decide +kernel
theorem dX10_pair_74 : decode cX10_pair 74 = .ok (.getfield 40, 3) := by decide +kernel
theorem dX10_pair_77 : decode cX10_pair 77 = .ok (.iload_n 2, 1) := by decide +kernel
theorem dX10_pair_78 : decode cX10_pair 78 = .ok (.iaload, 1) := by decide +kernel
theorem dX10_pair_79 : decode cX10_pair 79 = .ok (.invokevirtual 136, 3) := by decide +kernel
theorem dX10_pair_82 : decode cX10_pair 82 = .ok (.istore_n 3, 1) := by decide +kernel
theorem dX10_pair_83 : decode cX10_pair 83 = .ok (.iload_n 3, 1) := by decide +kernel
theorem dX10_pair_84 : decode cX10_pair 84 = .ok (.ifCond .ge 6, 3) := by decide +kernel
theorem dX10_pair_87 : decode cX10_pair 87 = .ok (.goto 47, 3) := by decide +kernel
theorem dX10_pair_90 : decode cX10_pair 90 = .ok (.iconst 1, 1) := by decide +kernel
theorem dX10_pair_91 : decode cX10_pair 91 = .ok (.istore_n 1, 1) := by decide +kernel
theorem dX10_pair_92 : decode cX10_pair 92 = .ok (.aload_n 0, 1) := by decide +kernel
theorem dX10_pair_93 : decode cX10_pair 93 = .ok (.getfield 40, 3) := by decide +kernel
theorem dX10_pair_96 : decode cX10_pair 96 = .ok (.iload_n 2, 1) := by decide +kernel
theorem dX10_pair_97 : decode cX10_pair 97 = .ok (.dup2, 1) := by decide +kernel
theorem dX10_pair_98 : decode cX10_pair 98 = .ok (.iaload, 1) := by decide +kernel
theorem dX10_pair_99 : decode cX10_pair 99 = .ok (.iconst 1, 1) := by decide +kernel
theorem dX10_pair_100 : decode cX10_pair 100 = .ok (.iadd, 1) := by decide +kernel
theorem dX10_pair_101 : decode cX10_pair 101 = .ok (.iastore, 1) := by decide +kernel
theorem dX10_pair_102 : decode cX10_pair 102 = .ok (.aload_n 0, 1) := by decide +kernel
theorem dX10_pair_103 : decode cX10_pair 103 = .ok (.getfield 37, 3) := by decide +kernel
theorem dX10_pair_106 : decode cX10_pair 106 = .ok (.iload_n 2, 1) := by decide +kernel
theorem dX10_pair_107 : decode cX10_pair 107 = .ok (.iload_n 3, 1) := by decide +kernel
theorem dX10_pair_108 : decode cX10_pair 108 = .ok (.iastore, 1) := by decide +kernel
theorem dX10_pair_109 : decode cX10_pair 109 = .ok (.aload_n 0, 1) := by decide +kernel
theorem dX10_pair_110 : decode cX10_pair 110 = .ok (.iload_n 3, 1) := by decide +kernel
theorem dX10_pair_111 : decode cX10_pair 111 = .ok (.invokevirtual 139, 3) := by decide +kernel
theorem dX10_pair_114 : decode cX10_pair 114 = .ok (.aload_n 0, 1) := by decide +kernel
theorem dX10_pair_115 : decode cX10_pair 115 = .ok (.getfield 24, 3) := by decide +kernel
theorem dX10_pair_118 : decode cX10_pair 118 = .ok (.iload_n 3, 1) := by decide +kernel
theorem dX10_pair_119 : decode cX10_pair 119 = .ok (.iaload, 1) := by decide +kernel
theorem dX10_pair_120 : decode cX10_pair 120 = .ok (.if_icmp .le 14, 3) := by decide +kernel
theorem dX10_pair_123 : decode cX10_pair 123 = .ok (.aload_n 0, 1) := by decide +kernel
theorem dX10_pair_124 : decode cX10_pair 124 = .ok (.getfield 37, 3) := by decide +kernel
theorem dX10_pair_127 : decode cX10_pair 127 = .ok (.aload_n 0, 1) := by decide +kernel
theorem dX10_pair_128 : decode cX10_pair 128 = .ok (.iload_n 3, 1) := by decide +kernel
theorem dX10_pair_129 : decode cX10_pair 129 = .ok (.invokevirtual 142, 3) := by decide +kernel
theorem dX10_pair_132 : decode cX10_pair 132 = .ok (.iconst (-1), 1) := by decide +kernel
theorem dX10_pair_133 : decode cX10_pair 133 = .ok (.iastore, 1) := by decide +kernel
theorem dX10_pair_134 : decode cX10_pair 134 = .ok (.iinc 2 1, 3) := by decide +kernel
theorem dX10_pair_137 : decode cX10_pair 137 = .ok (.goto (-87), 3) := by decide +kernel
theorem dX10_pair_140 : decode cX10_pair 140 = .ok (.goto (-98), 3) := by decide +kernel
theorem dX10_pair_143 : decode cX10_pair 143 = .ok (.aload_n 0, 1) := by decide +kernel
theorem dX10_pair_144 : decode cX10_pair 144 = .ok (.iconst 1, 1) := by decide +kernel
theorem dX10_pair_145 : decode cX10_pair 145 = .ok (.putfield 145, 3) := by decide +kernel
theorem dX10_pair_148 : decode cX10_pair 148 = .ok (.iconst 0, 1) := by decide +kernel
theorem dX10_pair_149 : decode cX10_pair 149 = .ok (.istore_n 2, 1) := by decide +kernel
theorem dX10_pair_150 : decode cX10_pair 150 = .ok (.iconst 0, 1) := by decide +kernel
theorem dX10_pair_151 : decode cX10_pair 151 = .ok (.istore_n 3, 1) := by decide +kernel
theorem dX10_pair_152 : decode cX10_pair 152 = .ok (.iload_n 3, 1) := by decide +kernel
theorem dX10_pair_153 : decode cX10_pair 153 = .ok (.aload_n 0, 1) := by decide +kernel
theorem dX10_pair_154 : decode cX10_pair 154 = .ok (.getfield 110, 3) := by decide +kernel
theorem dX10_pair_157 : decode cX10_pair 157 = .ok (.if_icmp .ge 26, 3) := by decide +kernel
theorem dX10_pair_160 : decode cX10_pair 160 = .ok (.iload_n 2, 1) := by decide +kernel
theorem dX10_pair_161 : decode cX10_pair 161 = .ok (.aload_n 0, 1) := by decide +kernel
theorem dX10_pair_162 : decode cX10_pair 162 = .ok (.getfield 37, 3) := by decide +kernel
theorem dX10_pair_165 : decode cX10_pair 165 = .ok (.iload_n 3, 1) := by decide +kernel
theorem dX10_pair_166 : decode cX10_pair 166 = .ok (.iaload, 1) := by decide +kernel
theorem dX10_pair_167 : decode cX10_pair 167 = .ok (.ifCond .lt 7, 3) := by decide +kernel
theorem dX10_pair_170 : decode cX10_pair 170 = .ok (.iconst 1, 1) := by decide +kernel
theorem dX10_pair_171 : decode cX10_pair 171 = .ok (.goto 4, 3) := by decide +kernel
theorem dX10_pair_174 : decode cX10_pair 174 = .ok (.iconst 0, 1) := by decide +kernel
theorem dX10_pair_175 : decode cX10_pair 175 = .ok (.iadd, 1) := by decide +kernel
theorem dX10_pair_176 : decode cX10_pair 176 = .ok (.istore_n 2, 1) := by decide +kernel
theorem dX10_pair_177 : decode cX10_pair 177 = .ok (.iinc 3 1, 3) := by decide +kernel
theorem dX10_pair_180 : decode cX10_pair 180 = .ok (.goto (-28), 3) := by decide +kernel
theorem dX10_pair_183 : decode cX10_pair 183 = .ok (.iload_n 2, 1) := by decide +kernel
theorem dX10_pair_184 : decode cX10_pair 184 = .ok (.ireturn, 1) := by decide +kernel
theorem dX10_elderOf_0 : decode cX10_elderOf 0 = .ok (.aload_n 0, 1) := by decide +kernel
theorem dX10_elderOf_1 : decode cX10_elderOf 1 = .ok (.iconst 0, 1) := by decide +kernel
theorem dX10_elderOf_2 : decode cX10_elderOf 2 = .ok (.putfield 82, 3) := by decide +kernel
theorem dX10_elderOf_5 : decode cX10_elderOf 5 = .ok (.aload_n 0, 1) := by decide +kernel
theorem dX10_elderOf_6 : decode cX10_elderOf 6 = .ok (.iconst 0, 1) := by decide +kernel
theorem dX10_elderOf_7 : decode cX10_elderOf 7 = .ok (.putfield 86, 3) := by decide +kernel
theorem dX10_elderOf_10 : decode cX10_elderOf 10 = .ok (.aload_n 0, 1) := by decide +kernel
theorem dX10_elderOf_11 : decode cX10_elderOf 11 = .ok (.iload_n 1, 1) := by decide +kernel
theorem dX10_elderOf_12 : decode cX10_elderOf 12 = .ok (.invokevirtual 119, 3) := by decide +kernel
theorem dX10_elderOf_15 : decode cX10_elderOf 15 = .ok (.ifCond .ne 9, 3) := by decide +kernel
theorem dX10_elderOf_18 : decode cX10_elderOf 18 = .ok (.aload_n 0, 1) := by decide +kernel
theorem dX10_elderOf_19 : decode cX10_elderOf 19 = .ok (.iconst 2, 1) := by decide +kernel
theorem dX10_elderOf_20 : decode cX10_elderOf 20 = .ok (.invokevirtual 113, 3) := by decide +kernel
theorem dX10_elderOf_23 : decode cX10_elderOf 23 = .ok (.ireturn, 1) := by decide +kernel
theorem dX10_elderOf_24 : decode cX10_elderOf 24 = .ok (.aload_n 0, 1) := by decide +kernel
theorem dX10_elderOf_25 : decode cX10_elderOf 25 = .ok (.getfield 145, 3) := by decide +kernel
theorem dX10_elderOf_28 : decode cX10_elderOf 28 = .ok (.ifCond .ne 10, 3) := by decide +kernel
theorem dX10_elderOf_31 : decode cX10_elderOf 31 = .ok (.aload_n 0, 1) := by decide +kernel
theorem dX10_elderOf_32 : decode cX10_elderOf 32 = .ok (.bipush 10, 2) := by decide +kernel
theorem dX10_elderOf_34 : decode cX10_elderOf 34 = .ok (.invokevirtual 113, 3) := by decide +kernel
theorem dX10_elderOf_37 : decode cX10_elderOf 37 = .ok (.ireturn, 1) := by decide +kernel
theorem dX10_elderOf_38 : decode cX10_elderOf 38 = .ok (.aload_n 0, 1) := by decide +kernel
theorem dX10_elderOf_39 : decode cX10_elderOf 39 = .ok (.getfield 37, 3) := by decide +kernel
theorem dX10_elderOf_42 : decode cX10_elderOf 42 = .ok (.iload_n 1, 1) := by decide +kernel
theorem dX10_elderOf_43 : decode cX10_elderOf 43 = .ok (.iaload, 1) := by decide +kernel
theorem dX10_elderOf_44 : decode cX10_elderOf 44 = .ok (.ifCond .ge 12, 3) := by decide +kernel
theorem dX10_elderOf_47 : decode cX10_elderOf 47 = .ok (.aload_n 0, 1) := by decide +kernel
theorem dX10_elderOf_48 : decode cX10_elderOf 48 = .ok (.bipush 9, 2) := by decide +kernel
theorem dX10_elderOf_50 : decode cX10_elderOf 50 = .ok (.invokevirtual 113, 3) := by decide +kernel
theorem dX10_elderOf_53 : decode cX10_elderOf 53 = .ok (.goto 9, 3) := by decide +kernel
theorem dX10_elderOf_56 : decode cX10_elderOf 56 = .ok (.aload_n 0, 1) := by decide +kernel
theorem dX10_elderOf_57 : decode cX10_elderOf 57 = .ok (.getfield 37, 3) := by decide +kernel
theorem dX10_elderOf_60 : decode cX10_elderOf 60 = .ok (.iload_n 1, 1) := by decide +kernel
theorem dX10_elderOf_61 : decode cX10_elderOf 61 = .ok (.iaload, 1) := by decide +kernel
theorem dX10_elderOf_62 : decode cX10_elderOf 62 = .ok (.ireturn, 1) := by decide +kernel
theorem dX10_has_0 : decode cX10_has 0 = .ok (.aload_n 0, 1) := by decide +kernel
theorem dX10_has_1 : decode cX10_has 1 = .ok (.iconst 0, 1) := by decide +kernel
theorem dX10_has_2 : decode cX10_has 2 = .ok (.putfield 82, 3) := by decide +kernel
theorem dX10_has_5 : decode cX10_has 5 = .ok (.aload_n 0, 1) := by decide +kernel
theorem dX10_has_6 : decode cX10_has 6 = .ok (.iconst 0, 1) := by decide +kernel
theorem dX10_has_7 : decode cX10_has 7 = .ok (.putfield 86, 3) := by decide +kernel
theorem dX10_has_10 : decode cX10_has 10 = .ok (.aload_n 0, 1) := by decide +kernel
theorem dX10_has_11 : decode cX10_has 11 = .ok (.iload_n 1, 1) := by decide +kernel
theorem dX10_has_12 : decode cX10_has 12 = .ok (.invokevirtual 116, 3) := by decide +kernel
theorem dX10_has_15 : decode cX10_has 15 = .ok (.ifCond .ne 9, 3) := by decide +kernel
theorem dX10_has_18 : decode cX10_has 18 = .ok (.aload_n 0, 1) := by decide +kernel
theorem dX10_has_19 : decode cX10_has 19 = .ok (.iconst 2, 1) := by decide +kernel
theorem dX10_has_20 : decode cX10_has 20 = .ok (.invokevirtual 113, 3) := by decide +kernel
theorem dX10_has_23 : decode cX10_has 23 = .ok (.ireturn, 1) := by decide +kernel
theorem dX10_has_24 : decode cX10_has 24 = .ok (.aload_n 0, 1) := by decide +kernel
theorem dX10_has_25 : decode cX10_has 25 = .ok (.getfield 145, 3) := by decide +kernel
theorem dX10_has_28 : decode cX10_has 28 = .ok (.ifCond .eq 11, 3) := by decide +kernel
theorem dX10_has_31 : decode cX10_has 31 = .ok (.aload_n 0, 1) := by decide +kernel
theorem dX10_has_32 : decode cX10_has 32 = .ok (.iload_n 1, 1) := by decide +kernel
theorem dX10_has_33 : decode cX10_has 33 = .ok (.invokevirtual 139, 3) := by decide +kernel
theorem dX10_has_36 : decode cX10_has 36 = .ok (.goto 9, 3) := by decide +kernel
theorem dX10_has_39 : decode cX10_has 39 = .ok (.aload_n 0, 1) := by decide +kernel
theorem dX10_has_40 : decode cX10_has 40 = .ok (.bipush 10, 2) := by decide +kernel
theorem dX10_has_42 : decode cX10_has 42 = .ok (.invokevirtual 113, 3) := by decide +kernel
theorem dX10_has_45 : decode cX10_has 45 = .ok (.ireturn, 1) := by decide +kernel
theorem dX10_isBlock_0 : decode cX10_isBlock 0 = .ok (.aload_n 0, 1) := by decide +kernel
theorem dX10_isBlock_1 : decode cX10_isBlock 1 = .ok (.iload_n 1, 1) := by decide +kernel
theorem dX10_isBlock_2 : decode cX10_isBlock 2 = .ok (.iload_n 2, 1) := by decide +kernel
theorem dX10_isBlock_3 : decode cX10_isBlock 3 = .ok (.invokevirtual 126, 3) := by decide +kernel
theorem dX10_isBlock_6 : decode cX10_isBlock 6 = .ok (.ifCond .eq 28, 3) := by decide +kernel
theorem dX10_isBlock_9 : decode cX10_isBlock 9 = .ok (.aload_n 0, 1) := by decide +kernel
theorem dX10_isBlock_10 : decode cX10_isBlock 10 = .ok (.getfield 37, 3) := by decide +kernel
theorem dX10_isBlock_13 : decode cX10_isBlock 13 = .ok (.iload_n 2, 1) := by decide +kernel
theorem dX10_isBlock_14 : decode cX10_isBlock 14 = .ok (.iaload, 1) := by decide +kernel
theorem dX10_isBlock_15 : decode cX10_isBlock 15 = .ok (.iload_n 1, 1) := by decide +kernel
theorem dX10_isBlock_16 : decode cX10_isBlock 16 = .ok (.if_icmp .eq 18, 3) := by decide +kernel
theorem dX10_isBlock_19 : decode cX10_isBlock 19 = .ok (.aload_n 0, 1) := by decide +kernel
theorem dX10_isBlock_20 : decode cX10_isBlock 20 = .ok (.iload_n 2, 1) := by decide +kernel
theorem dX10_isBlock_21 : decode cX10_isBlock 21 = .ok (.iload_n 1, 1) := by decide +kernel
theorem dX10_isBlock_22 : decode cX10_isBlock 22 = .ok (.aload_n 0, 1) := by decide +kernel
theorem dX10_isBlock_23 : decode cX10_isBlock 23 = .ok (.getfield 37, 3) := by decide +kernel
theorem dX10_isBlock_26 : decode cX10_isBlock 26 = .ok (.iload_n 2, 1) := by decide +kernel
theorem dX10_isBlock_27 : decode cX10_isBlock 27 = .ok (.iaload, 1) := by decide +kernel
theorem dX10_isBlock_28 : decode cX10_isBlock 28 = .ok (.invokevirtual 130, 3) := by decide +kernel
theorem dX10_isBlock_31 : decode cX10_isBlock 31 = .ok (.ifCond .ne 5, 3) := by decide +kernel
theorem dX10_isBlock_34 : decode cX10_isBlock 34 = .ok (.iconst 0, 1) := by decide +kernel
theorem dX10_isBlock_35 : decode cX10_isBlock 35 = .ok (.ireturn, 1) := by decide +kernel
theorem dX10_isBlock_36 : decode cX10_isBlock 36 = .ok (.aload_n 0, 1) := by decide +kernel
theorem dX10_isBlock_37 : decode cX10_isBlock 37 = .ok (.iload_n 1, 1) := by decide +kernel
theorem dX10_isBlock_38 : decode cX10_isBlock 38 = .ok (.invokevirtual 139, 3) := by decide +kernel
theorem dX10_isBlock_41 : decode cX10_isBlock 41 = .ok (.aload_n 0, 1) := by decide +kernel
theorem dX10_isBlock_42 : decode cX10_isBlock 42 = .ok (.getfield 24, 3) := by decide +kernel
theorem dX10_isBlock_45 : decode cX10_isBlock 45 = .ok (.iload_n 1, 1) := by decide +kernel
theorem dX10_isBlock_46 : decode cX10_isBlock 46 = .ok (.iaload, 1) := by decide +kernel
theorem dX10_isBlock_47 : decode cX10_isBlock 47 = .ok (.if_icmp .ge 5, 3) := by decide +kernel
theorem dX10_isBlock_50 : decode cX10_isBlock 50 = .ok (.iconst 1, 1) := by decide +kernel
theorem dX10_isBlock_51 : decode cX10_isBlock 51 = .ok (.ireturn, 1) := by decide +kernel
theorem dX10_isBlock_52 : decode cX10_isBlock 52 = .ok (.aload_n 0, 1) := by decide +kernel
theorem dX10_isBlock_53 : decode cX10_isBlock 53 = .ok (.iload_n 1, 1) := by decide +kernel
theorem dX10_isBlock_54 : decode cX10_isBlock 54 = .ok (.invokevirtual 142, 3) := by decide +kernel
theorem dX10_isBlock_57 : decode cX10_isBlock 57 = .ok (.istore_n 3, 1) := by decide +kernel
theorem dX10_isBlock_58 : decode cX10_isBlock 58 = .ok (.iload_n 3, 1) := by decide +kernel
theorem dX10_isBlock_59 : decode cX10_isBlock 59 = .ok (.ifCond .lt 17, 3) := by decide +kernel
theorem dX10_isBlock_62 : decode cX10_isBlock 62 = .ok (.aload_n 0, 1) := by decide +kernel
theorem dX10_isBlock_63 : decode cX10_isBlock 63 = .ok (.iload_n 1, 1) := by decide +kernel
theorem dX10_isBlock_64 : decode cX10_isBlock 64 = .ok (.iload_n 2, 1) := by decide +kernel
theorem dX10_isBlock_65 : decode cX10_isBlock 65 = .ok (.iload_n 3, 1) := by decide +kernel
theorem dX10_isBlock_66 : decode cX10_isBlock 66 = .ok (.invokevirtual 122, 3) := by decide +kernel
theorem dX10_isBlock_69 : decode cX10_isBlock 69 = .ok (.ifCond .eq 7, 3) := by decide +kernel
theorem dX10_isBlock_72 : decode cX10_isBlock 72 = .ok (.iconst 1, 1) := by decide +kernel
theorem dX10_isBlock_73 : decode cX10_isBlock 73 = .ok (.goto 4, 3) := by decide +kernel
theorem dX10_isBlock_76 : decode cX10_isBlock 76 = .ok (.iconst 0, 1) := by decide +kernel
theorem dX10_isBlock_77 : decode cX10_isBlock 77 = .ok (.ireturn, 1) := by decide +kernel
theorem dX10_blocks_0 : decode cX10_blocks 0 = .ok (.aload_n 0, 1) := by decide +kernel
theorem dX10_blocks_1 : decode cX10_blocks 1 = .ok (.iconst 0, 1) := by decide +kernel
theorem dX10_blocks_2 : decode cX10_blocks 2 = .ok (.putfield 82, 3) := by decide +kernel
theorem dX10_blocks_5 : decode cX10_blocks 5 = .ok (.aload_n 0, 1) := by decide +kernel
theorem dX10_blocks_6 : decode cX10_blocks 6 = .ok (.iconst 0, 1) := by decide +kernel
theorem dX10_blocks_7 : decode cX10_blocks 7 = .ok (.putfield 86, 3) := by decide +kernel
theorem dX10_blocks_10 : decode cX10_blocks 10 = .ok (.aload_n 0, 1) := by decide +kernel
theorem dX10_blocks_11 : decode cX10_blocks 11 = .ok (.getfield 145, 3) := by decide +kernel
theorem dX10_blocks_14 : decode cX10_blocks 14 = .ok (.ifCond .ne 10, 3) := by decide +kernel
theorem dX10_blocks_17 : decode cX10_blocks 17 = .ok (.aload_n 0, 1) := by decide +kernel
theorem dX10_blocks_18 : decode cX10_blocks 18 = .ok (.bipush 10, 2) := by decide +kernel
theorem dX10_blocks_20 : decode cX10_blocks 20 = .ok (.invokevirtual 113, 3) := by decide +kernel
theorem dX10_blocks_23 : decode cX10_blocks 23 = .ok (.ireturn, 1) := by decide +kernel
theorem dX10_blocks_24 : decode cX10_blocks 24 = .ok (.iconst 0, 1) := by decide +kernel
theorem dX10_blocks_25 : decode cX10_blocks 25 = .ok (.istore_n 1, 1) := by decide +kernel
theorem dX10_blocks_26 : decode cX10_blocks 26 = .ok (.iconst 0, 1) := by decide +kernel
theorem dX10_blocks_27 : decode cX10_blocks 27 = .ok (.istore_n 2, 1) := by decide +kernel
theorem dX10_blocks_28 : decode cX10_blocks 28 = .ok (.iload_n 2, 1) := by decide +kernel
theorem dX10_blocks_29 : decode cX10_blocks 29 = .ok (.aload_n 0, 1) := by decide +kernel
theorem dX10_blocks_30 : decode cX10_blocks 30 = .ok (.getfield 107, 3) := by decide +kernel
theorem dX10_blocks_33 : decode cX10_blocks 33 = .ok (.if_icmp .ge 42, 3) := by decide +kernel
theorem dX10_blocks_36 : decode cX10_blocks 36 = .ok (.iconst 0, 1) := by decide +kernel
theorem dX10_blocks_37 : decode cX10_blocks 37 = .ok (.istore_n 3, 1) := by decide +kernel
theorem dX10_blocks_38 : decode cX10_blocks 38 = .ok (.iload_n 3, 1) := by decide +kernel
theorem dX10_blocks_39 : decode cX10_blocks 39 = .ok (.aload_n 0, 1) := by decide +kernel
theorem dX10_blocks_40 : decode cX10_blocks 40 = .ok (.getfield 110, 3) := by decide +kernel
theorem dX10_blocks_43 : decode cX10_blocks 43 = .ok (.if_icmp .ge 26, 3) := by decide +kernel
theorem dX10_blocks_46 : decode cX10_blocks 46 = .ok (.iload_n 1, 1) := by decide +kernel
theorem dX10_blocks_47 : decode cX10_blocks 47 = .ok (.aload_n 0, 1) := by decide +kernel
theorem dX10_blocks_48 : decode cX10_blocks 48 = .ok (.iload_n 2, 1) := by decide +kernel
theorem dX10_blocks_49 : decode cX10_blocks 49 = .ok (.iload_n 3, 1) := by decide +kernel
theorem dX10_blocks_50 : decode cX10_blocks 50 = .ok (.invokevirtual 149, 3) := by decide +kernel
theorem dX10_blocks_53 : decode cX10_blocks 53 = .ok (.ifCond .eq 7, 3) := by decide +kernel
theorem dX10_blocks_56 : decode cX10_blocks 56 = .ok (.iconst 1, 1) := by decide +kernel
theorem dX10_blocks_57 : decode cX10_blocks 57 = .ok (.goto 4, 3) := by decide +kernel
theorem dX10_blocks_60 : decode cX10_blocks 60 = .ok (.iconst 0, 1) := by decide +kernel
theorem dX10_blocks_61 : decode cX10_blocks 61 = .ok (.iadd, 1) := by decide +kernel
theorem dX10_blocks_62 : decode cX10_blocks 62 = .ok (.istore_n 1, 1) := by decide +kernel
theorem dX10_blocks_63 : decode cX10_blocks 63 = .ok (.iinc 3 1, 3) := by decide +kernel
theorem dX10_blocks_66 : decode cX10_blocks 66 = .ok (.goto (-28), 3) := by decide +kernel
theorem dX10_blocks_69 : decode cX10_blocks 69 = .ok (.iinc 2 1, 3) := by decide +kernel
theorem dX10_blocks_72 : decode cX10_blocks 72 = .ok (.goto (-44), 3) := by decide +kernel
theorem dX10_blocks_75 : decode cX10_blocks 75 = .ok (.iload_n 1, 1) := by decide +kernel
theorem dX10_blocks_76 : decode cX10_blocks 76 = .ok (.ireturn, 1) := by decide +kernel
theorem dX10_block_0 : decode cX10_block 0 = .ok (.aload_n 0, 1) := by decide +kernel
theorem dX10_block_1 : decode cX10_block 1 = .ok (.iconst 0, 1) := by decide +kernel
theorem dX10_block_2 : decode cX10_block 2 = .ok (.putfield 82, 3) := by decide +kernel
theorem dX10_block_5 : decode cX10_block 5 = .ok (.aload_n 0, 1) := by decide +kernel
theorem dX10_block_6 : decode cX10_block 6 = .ok (.iconst 0, 1) := by decide +kernel
theorem dX10_block_7 : decode cX10_block 7 = .ok (.putfield 86, 3) := by decide +kernel
theorem dX10_block_10 : decode cX10_block 10 = .ok (.aload_n 0, 1) := by decide +kernel
theorem dX10_block_11 : decode cX10_block 11 = .ok (.iload_n 1, 1) := by decide +kernel
theorem dX10_block_12 : decode cX10_block 12 = .ok (.invokevirtual 116, 3) := by decide +kernel
theorem dX10_block_15 : decode cX10_block 15 = .ok (.ifCond .eq 11, 3) := by decide +kernel
theorem dX10_block_18 : decode cX10_block 18 = .ok (.aload_n 0, 1) := by decide +kernel
theorem dX10_block_19 : decode cX10_block 19 = .ok (.iload_n 2, 1) := by decide +kernel
theorem dX10_block_20 : decode cX10_block 20 = .ok (.invokevirtual 119, 3) := by decide +kernel
theorem dX10_block_23 : decode cX10_block 23 = .ok (.ifCond .ne 9, 3) := by decide +kernel
theorem dX10_block_26 : decode cX10_block 26 = .ok (.aload_n 0, 1) := by decide +kernel
theorem dX10_block_27 : decode cX10_block 27 = .ok (.iconst 2, 1) := by decide +kernel
theorem dX10_block_28 : decode cX10_block 28 = .ok (.invokevirtual 113, 3) := by decide +kernel
theorem dX10_block_31 : decode cX10_block 31 = .ok (.ireturn, 1) := by decide +kernel
theorem dX10_block_32 : decode cX10_block 32 = .ok (.aload_n 0, 1) := by decide +kernel
theorem dX10_block_33 : decode cX10_block 33 = .ok (.getfield 145, 3) := by decide +kernel
theorem dX10_block_36 : decode cX10_block 36 = .ok (.ifCond .ne 10, 3) := by decide +kernel
theorem dX10_block_39 : decode cX10_block 39 = .ok (.aload_n 0, 1) := by decide +kernel
theorem dX10_block_40 : decode cX10_block 40 = .ok (.bipush 10, 2) := by decide +kernel
theorem dX10_block_42 : decode cX10_block 42 = .ok (.invokevirtual 113, 3) := by decide +kernel
theorem dX10_block_45 : decode cX10_block 45 = .ok (.ireturn, 1) := by decide +kernel
theorem dX10_block_46 : decode cX10_block 46 = .ok (.aload_n 0, 1) := by decide +kernel
theorem dX10_block_47 : decode cX10_block 47 = .ok (.iload_n 1, 1) := by decide +kernel
theorem dX10_block_48 : decode cX10_block 48 = .ok (.iload_n 2, 1) := by decide +kernel
theorem dX10_block_49 : decode cX10_block 49 = .ok (.invokevirtual 149, 3) := by decide +kernel
theorem dX10_block_52 : decode cX10_block 52 = .ok (.ifCond .eq 7, 3) := by decide +kernel
theorem dX10_block_55 : decode cX10_block 55 = .ok (.iconst 1, 1) := by decide +kernel
theorem dX10_block_56 : decode cX10_block 56 = .ok (.goto 4, 3) := by decide +kernel
theorem dX10_block_59 : decode cX10_block 59 = .ok (.iconst 0, 1) := by decide +kernel
theorem dX10_block_60 : decode cX10_block 60 = .ok (.ireturn, 1) := by decide +kernel
theorem dX10_isFree_0 : decode cX10_isFree 0 = .ok (.aload_n 0, 1) := by decide +kernel
theorem dX10_isFree_1 : decode cX10_isFree 1 = .ok (.iload_n 1, 1) := by decide +kernel
theorem dX10_isFree_2 : decode cX10_isFree 2 = .ok (.invokevirtual 139, 3) := by decide +kernel
theorem dX10_isFree_5 : decode cX10_isFree 5 = .ok (.iload_n 1, 1) := by decide +kernel
theorem dX10_isFree_6 : decode cX10_isFree 6 = .ok (.iload_n 2, 1) := by decide +kernel
theorem dX10_isFree_7 : decode cX10_isFree 7 = .ok (.if_icmp .ne 7, 3) := by decide +kernel
theorem dX10_isFree_10 : decode cX10_isFree 10 = .ok (.iconst 1, 1) := by decide +kernel
theorem dX10_isFree_11 : decode cX10_isFree 11 = .ok (.goto 4, 3) := by decide +kernel
theorem dX10_isFree_14 : decode cX10_isFree 14 = .ok (.iconst 0, 1) := by decide +kernel
theorem dX10_isFree_15 : decode cX10_isFree 15 = .ok (.isub, 1) := by decide +kernel
theorem dX10_isFree_16 : decode cX10_isFree 16 = .ok (.aload_n 0, 1) := by decide +kernel
theorem dX10_isFree_17 : decode cX10_isFree 17 = .ok (.getfield 24, 3) := by decide +kernel
theorem dX10_isFree_20 : decode cX10_isFree 20 = .ok (.iload_n 1, 1) := by decide +kernel
theorem dX10_isFree_21 : decode cX10_isFree 21 = .ok (.iaload, 1) := by decide +kernel
theorem dX10_isFree_22 : decode cX10_isFree 22 = .ok (.if_icmp .ge 7, 3) := by decide +kernel
theorem dX10_isFree_25 : decode cX10_isFree 25 = .ok (.iconst 1, 1) := by decide +kernel
theorem dX10_isFree_26 : decode cX10_isFree 26 = .ok (.goto 4, 3) := by decide +kernel
theorem dX10_isFree_29 : decode cX10_isFree 29 = .ok (.iconst 0, 1) := by decide +kernel
theorem dX10_isFree_30 : decode cX10_isFree 30 = .ok (.ireturn, 1) := by decide +kernel
theorem dX10_countSteps_0 : decode cX10_countSteps 0 = .ok (.iconst 0, 1) := by decide +kernel
theorem dX10_countSteps_1 : decode cX10_countSteps 1 = .ok (.istore_n 2, 1) := by decide +kernel
theorem dX10_countSteps_2 : decode cX10_countSteps 2 = .ok (.iload_n 2, 1) := by decide +kernel
theorem dX10_countSteps_3 : decode cX10_countSteps 3 = .ok (.aload_n 0, 1) := by decide +kernel
theorem dX10_countSteps_4 : decode cX10_countSteps 4 = .ok (.getfield 110, 3) := by decide +kernel
theorem dX10_countSteps_7 : decode cX10_countSteps 7 = .ok (.if_icmp .ge 81, 3) := by decide +kernel
theorem dX10_countSteps_10 : decode cX10_countSteps 10 = .ok (.aload_n 0, 1) := by decide +kernel
theorem dX10_countSteps_11 : decode cX10_countSteps 11 = .ok (.getfield 43, 3) := by decide +kernel
theorem dX10_countSteps_14 : decode cX10_countSteps 14 = .ok (.iload_n 2, 1) := by decide +kernel
theorem dX10_countSteps_15 : decode cX10_countSteps 15 = .ok (.sipush 1000, 3) := by decide +kernel
theorem dX10_countSteps_18 : decode cX10_countSteps 18 = .ok (.iastore, 1) := by decide +kernel
theorem dX10_countSteps_19 : decode cX10_countSteps 19 = .ok (.aload_n 0, 1) := by decide +kernel
theorem dX10_countSteps_20 : decode cX10_countSteps 20 = .ok (.getfield 37, 3) := by decide +kernel
theorem dX10_countSteps_23 : decode cX10_countSteps 23 = .ok (.iload_n 2, 1) := by decide +kernel
theorem dX10_countSteps_24 : decode cX10_countSteps 24 = .ok (.iaload, 1) := by decide +kernel
theorem dX10_countSteps_25 : decode cX10_countSteps 25 = .ok (.ifCond .ge 6, 3) := by decide +kernel
theorem dX10_countSteps_28 : decode cX10_countSteps 28 = .ok (.goto 54, 3) := by decide +kernel
theorem dX10_countSteps_31 : decode cX10_countSteps 31 = .ok (.iconst 0, 1) := by decide +kernel
theorem dX10_countSteps_32 : decode cX10_countSteps 32 = .ok (.istore_n 3, 1) := by decide +kernel
theorem dX10_countSteps_33 : decode cX10_countSteps 33 = .ok (.iload_n 3, 1) := by decide +kernel
theorem dX10_countSteps_34 : decode cX10_countSteps 34 = .ok (.aload_n 0, 1) := by decide +kernel
theorem dX10_countSteps_35 : decode cX10_countSteps 35 = .ok (.getfield 107, 3) := by decide +kernel
theorem dX10_countSteps_38 : decode cX10_countSteps 38 = .ok (.if_icmp .ge 44, 3) := by decide +kernel
theorem dX10_countSteps_41 : decode cX10_countSteps 41 = .ok (.iload_n 3, 1) := by decide +kernel
theorem dX10_countSteps_42 : decode cX10_countSteps 42 = .ok (.aload_n 0, 1) := by decide +kernel
theorem dX10_countSteps_43 : decode cX10_countSteps 43 = .ok (.getfield 37, 3) := by decide +kernel
theorem dX10_countSteps_46 : decode cX10_countSteps 46 = .ok (.iload_n 2, 1) := by decide +kernel
theorem dX10_countSteps_47 : decode cX10_countSteps 47 = .ok (.iaload, 1) := by decide +kernel
theorem dX10_countSteps_48 : decode cX10_countSteps 48 = .ok (.if_icmp .eq 28, 3) := by decide +kernel
theorem dX10_countSteps_51 : decode cX10_countSteps 51 = .ok (.aload_n 0, 1) := by decide +kernel
theorem dX10_countSteps_52 : decode cX10_countSteps 52 = .ok (.iload_n 3, 1) := by decide +kernel
theorem dX10_countSteps_53 : decode cX10_countSteps 53 = .ok (.iload_n 2, 1) := by decide +kernel
theorem dX10_countSteps_54 : decode cX10_countSteps 54 = .ok (.invokevirtual 126, 3) := by decide +kernel
theorem dX10_countSteps_57 : decode cX10_countSteps 57 = .ok (.ifCond .eq 19, 3) := by decide +kernel
theorem dX10_countSteps_60 : decode cX10_countSteps 60 = .ok (.aload_n 0, 1) := by decide +kernel
theorem dX10_countSteps_61 : decode cX10_countSteps 61 = .ok (.iload_n 3, 1) := by decide +kernel
theorem dX10_countSteps_62 : decode cX10_countSteps 62 = .ok (.iload_n 1, 1) := by decide +kernel
theorem dX10_countSteps_63 : decode cX10_countSteps 63 = .ok (.invokevirtual 152, 3) := by decide +kernel
theorem dX10_countSteps_66 : decode cX10_countSteps 66 = .ok (.ifCond .eq 10, 3) := by decide +kernel
theorem dX10_countSteps_69 : decode cX10_countSteps 69 = .ok (.aload_n 0, 1) := by decide +kernel
theorem dX10_countSteps_70 : decode cX10_countSteps 70 = .ok (.getfield 43, 3) := by decide +kernel
theorem dX10_countSteps_73 : decode cX10_countSteps 73 = .ok (.iload_n 2, 1) := by decide +kernel
theorem dX10_countSteps_74 : decode cX10_countSteps 74 = .ok (.iconst 1, 1) := by decide +kernel
theorem dX10_countSteps_75 : decode cX10_countSteps 75 = .ok (.iastore, 1) := by decide +kernel
theorem dX10_countSteps_76 : decode cX10_countSteps 76 = .ok (.iinc 3 1, 3) := by decide +kernel
theorem dX10_countSteps_79 : decode cX10_countSteps 79 = .ok (.goto (-46), 3) := by decide +kernel
theorem dX10_countSteps_82 : decode cX10_countSteps 82 = .ok (.iinc 2 1, 3) := by decide +kernel
theorem dX10_countSteps_85 : decode cX10_countSteps 85 = .ok (.goto (-83), 3) := by decide +kernel
theorem dX10_countSteps_88 : decode cX10_countSteps 88 = .ok (.iconst 2, 1) := by decide +kernel
theorem dX10_countSteps_89 : decode cX10_countSteps 89 = .ok (.istore_n 2, 1) := by decide +kernel
theorem dX10_countSteps_90 : decode cX10_countSteps 90 = .ok (.iload_n 2, 1) := by decide +kernel
theorem dX10_countSteps_91 : decode cX10_countSteps 91 = .ok (.aload_n 0, 1) := by decide +kernel
theorem dX10_countSteps_92 : decode cX10_countSteps 92 = .ok (.getfield 110, 3) := by decide +kernel
theorem dX10_countSteps_95 : decode cX10_countSteps 95 = .ok (.if_icmp .gt 128, 3) := by decide +kernel
theorem dX10_countSteps_98 : decode cX10_countSteps 98 = .ok (.iconst 0, 1) := by decide +kernel
theorem dX10_countSteps_99 : decode cX10_countSteps 99 = .ok (.istore_n 3, 1) := by decide +kernel
theorem dX10_countSteps_100 : decode cX10_countSteps 100 = .ok (.iload_n 3, 1) := by decide +kernel
theorem dX10_countSteps_101 : decode cX10_countSteps 101 = .ok (.aload_n 0, 1) := by decide +kernel
theorem dX10_countSteps_102 : decode cX10_countSteps 102 = .ok (.getfield 110, 3) := by decide +kernel
theorem dX10_countSteps_105 : decode cX10_countSteps 105 = .ok (.if_icmp .ge 112, 3) := by decide +kernel
theorem dX10_countSteps_108 : decode cX10_countSteps 108 = .ok (.aload_n 0, 1) := by decide +kernel
theorem dX10_countSteps_109 : decode cX10_countSteps 109 = .ok (.getfield 37, 3) := by decide +kernel
theorem dX10_countSteps_112 : decode cX10_countSteps 112 = .ok (.iload_n 3, 1) := by decide +kernel
theorem dX10_countSteps_113 : decode cX10_countSteps 113 = .ok (.iaload, 1) := by decide +kernel
theorem dX10_countSteps_114 : decode cX10_countSteps 114 = .ok (.ifCond .lt 97, 3) := by decide +kernel
theorem dX10_countSteps_117 : decode cX10_countSteps 117 = .ok (.aload_n 0, 1) := by decide +kernel
theorem dX10_countSteps_118 : decode cX10_countSteps 118 = .ok (.getfield 43, 3) := by decide +kernel
theorem dX10_countSteps_121 : decode cX10_countSteps 121 = .ok (.iload_n 3, 1) := by decide +kernel
theorem dX10_countSteps_122 : decode cX10_countSteps 122 = .ok (.iaload, 1) := by decide +kernel
theorem dX10_countSteps_123 : decode cX10_countSteps 123 = .ok (.sipush 1000, 3) := by decide +kernel
theorem dX10_countSteps_126 : decode cX10_countSteps 126 = .ok (.if_icmp .ge 6, 3) := by decide +kernel
theorem dX10_countSteps_129 : decode cX10_countSteps 129 = .ok (.goto 82, 3) := by decide +kernel
theorem dX10_countSteps_132 : decode cX10_countSteps 132 = .ok (.iconst 0, 1) := by decide +kernel
theorem dX10_countSteps_133 : decode cX10_countSteps 133 = .ok (.istore 4, 2) := by decide +kernel
theorem dX10_countSteps_135 : decode cX10_countSteps 135 = .ok (.iload 4, 2) := by decide +kernel
theorem dX10_countSteps_137 : decode cX10_countSteps 137 = .ok (.aload_n 0, 1) := by decide +kernel
theorem dX10_countSteps_138 : decode cX10_countSteps 138 = .ok (.getfield 110, 3) := by decide +kernel
theorem dX10_countSteps_141 : decode cX10_countSteps 141 = .ok (.if_icmp .ge 70, 3) := by decide +kernel
theorem dX10_countSteps_144 : decode cX10_countSteps 144 = .ok (.aload_n 0, 1) := by decide +kernel
theorem dX10_countSteps_145 : decode cX10_countSteps 145 = .ok (.getfield 37, 3) := by decide +kernel
theorem dX10_countSteps_148 : decode cX10_countSteps 148 = .ok (.iload 4, 2) := by decide +kernel
theorem dX10_countSteps_150 : decode cX10_countSteps 150 = .ok (.iaload, 1) := by decide +kernel
theorem dX10_countSteps_151 : decode cX10_countSteps 151 = .ok (.ifCond .lt 54, 3) := by decide +kernel
theorem dX10_countSteps_154 : decode cX10_countSteps 154 = .ok (.aload_n 0, 1) := by decide +kernel
theorem dX10_countSteps_155 : decode cX10_countSteps 155 = .ok (.getfield 43, 3) := by decide +kernel
theorem dX10_countSteps_158 : decode cX10_countSteps 158 = .ok (.iload 4, 2) := by decide +kernel
theorem dX10_countSteps_160 : decode cX10_countSteps 160 = .ok (.iaload, 1) := by decide +kernel
theorem dX10_countSteps_161 : decode cX10_countSteps 161 = .ok (.iload_n 2, 1) := by decide +kernel
theorem dX10_countSteps_162 : decode cX10_countSteps 162 = .ok (.iconst 1, 1) := by decide +kernel
theorem dX10_countSteps_163 : decode cX10_countSteps 163 = .ok (.isub, 1) := by decide +kernel
theorem dX10_countSteps_164 : decode cX10_countSteps 164 = .ok (.if_icmp .ne 41, 3) := by decide +kernel
theorem dX10_countSteps_167 : decode cX10_countSteps 167 = .ok (.aload_n 0, 1) := by decide +kernel
theorem dX10_countSteps_168 : decode cX10_countSteps 168 = .ok (.getfield 37, 3) := by decide +kernel
theorem dX10_countSteps_171 : decode cX10_countSteps 171 = .ok (.iload 4, 2) := by decide +kernel
theorem dX10_countSteps_173 : decode cX10_countSteps 173 = .ok (.iaload, 1) := by decide +kernel
theorem dX10_countSteps_174 : decode cX10_countSteps 174 = .ok (.aload_n 0, 1) := by decide +kernel
theorem dX10_countSteps_175 : decode cX10_countSteps 175 = .ok (.getfield 37, 3) := by decide +kernel
theorem dX10_countSteps_178 : decode cX10_countSteps 178 = .ok (.iload_n 3, 1) := by decide +kernel
theorem dX10_countSteps_179 : decode cX10_countSteps 179 = .ok (.iaload, 1) := by decide +kernel
theorem dX10_countSteps_180 : decode cX10_countSteps 180 = .ok (.if_icmp .eq 25, 3) := by decide +kernel
theorem dX10_countSteps_183 : decode cX10_countSteps 183 = .ok (.aload_n 0, 1) := by decide +kernel
theorem dX10_countSteps_184 : decode cX10_countSteps 184 = .ok (.aload_n 0, 1) := by decide +kernel
theorem dX10_countSteps_185 : decode cX10_countSteps 185 = .ok (.getfield 37, 3) := by decide +kernel
theorem dX10_countSteps_188 : decode cX10_countSteps 188 = .ok (.iload 4, 2) := by decide +kernel
theorem dX10_countSteps_190 : decode cX10_countSteps 190 = .ok (.iaload, 1) := by decide +kernel
theorem dX10_countSteps_191 : decode cX10_countSteps 191 = .ok (.iload_n 3, 1) := by decide +kernel
theorem dX10_countSteps_192 : decode cX10_countSteps 192 = .ok (.invokevirtual 126, 3) := by decide +kernel
theorem dX10_countSteps_195 : decode cX10_countSteps 195 = .ok (.ifCond .eq 10, 3) := by decide +kernel
theorem dX10_countSteps_198 : decode cX10_countSteps 198 = .ok (.aload_n 0, 1) := by decide +kernel
theorem dX10_countSteps_199 : decode cX10_countSteps 199 = .ok (.getfield 43, 3) := by decide +kernel
theorem dX10_countSteps_202 : decode cX10_countSteps 202 = .ok (.iload_n 3, 1) := by decide +kernel
theorem dX10_countSteps_203 : decode cX10_countSteps 203 = .ok (.iload_n 2, 1) := by decide +kernel
theorem dX10_countSteps_204 : decode cX10_countSteps 204 = .ok (.iastore, 1) := by decide +kernel
theorem dX10_countSteps_205 : decode cX10_countSteps 205 = .ok (.iinc 4 1, 3) := by decide +kernel
theorem dX10_countSteps_208 : decode cX10_countSteps 208 = .ok (.goto (-73), 3) := by decide +kernel
theorem dX10_countSteps_211 : decode cX10_countSteps 211 = .ok (.iinc 3 1, 3) := by decide +kernel
theorem dX10_countSteps_214 : decode cX10_countSteps 214 = .ok (.goto (-114), 3) := by decide +kernel
theorem dX10_countSteps_217 : decode cX10_countSteps 217 = .ok (.iinc 2 1, 3) := by decide +kernel
theorem dX10_countSteps_220 : decode cX10_countSteps 220 = .ok (.goto (-130), 3) := by decide +kernel
theorem dX10_countSteps_223 : decode cX10_countSteps 223 = .ok (.return_, 1) := by decide +kernel
theorem dX10_change_0 : decode cX10_change 0 = .ok (.aload_n 0, 1) := by decide +kernel
theorem dX10_change_1 : decode cX10_change 1 = .ok (.iconst 0, 1) := by decide +kernel
theorem dX10_change_2 : decode cX10_change 2 = .ok (.putfield 82, 3) := by decide +kernel
theorem dX10_change_5 : decode cX10_change 5 = .ok (.aload_n 0, 1) := by decide +kernel
theorem dX10_change_6 : decode cX10_change 6 = .ok (.iconst 0, 1) := by decide +kernel
theorem dX10_change_7 : decode cX10_change 7 = .ok (.putfield 86, 3) := by decide +kernel
theorem dX10_change_10 : decode cX10_change 10 = .ok (.aload_n 0, 1) := by decide +kernel
theorem dX10_change_11 : decode cX10_change 11 = .ok (.iload_n 1, 1) := by decide +kernel
theorem dX10_change_12 : decode cX10_change 12 = .ok (.invokevirtual 119, 3) := by decide +kernel
theorem dX10_change_15 : decode cX10_change 15 = .ok (.ifCond .ne 9, 3) := by decide +kernel
theorem dX10_change_18 : decode cX10_change 18 = .ok (.aload_n 0, 1) := by decide +kernel
theorem dX10_change_19 : decode cX10_change 19 = .ok (.iconst 2, 1) := by decide +kernel
theorem dX10_change_20 : decode cX10_change 20 = .ok (.invokevirtual 113, 3) := by decide +kernel
theorem dX10_change_23 : decode cX10_change 23 = .ok (.ireturn, 1) := by decide +kernel
theorem dX10_change_24 : decode cX10_change 24 = .ok (.aload_n 0, 1) := by decide +kernel
theorem dX10_change_25 : decode cX10_change 25 = .ok (.getfield 145, 3) := by decide +kernel
theorem dX10_change_28 : decode cX10_change 28 = .ok (.ifCond .ne 10, 3) := by decide +kernel
theorem dX10_change_31 : decode cX10_change 31 = .ok (.aload_n 0, 1) := by decide +kernel
theorem dX10_change_32 : decode cX10_change 32 = .ok (.bipush 10, 2) := by decide +kernel
theorem dX10_change_34 : decode cX10_change 34 = .ok (.invokevirtual 113, 3) := by decide +kernel
theorem dX10_change_37 : decode cX10_change 37 = .ok (.ireturn, 1) := by decide +kernel
theorem dX10_change_38 : decode cX10_change 38 = .ok (.aload_n 0, 1) := by decide +kernel
theorem dX10_change_39 : decode cX10_change 39 = .ok (.getfield 37, 3) := by decide +kernel
theorem dX10_change_42 : decode cX10_change 42 = .ok (.iload_n 1, 1) := by decide +kernel
theorem dX10_change_43 : decode cX10_change 43 = .ok (.iaload, 1) := by decide +kernel
theorem dX10_change_44 : decode cX10_change 44 = .ok (.ifCond .ge 10, 3) := by decide +kernel
theorem dX10_change_47 : decode cX10_change 47 = .ok (.aload_n 0, 1) := by decide +kernel
theorem dX10_change_48 : decode cX10_change 48 = .ok (.bipush 9, 2) := by decide +kernel
theorem dX10_change_50 : decode cX10_change 50 = .ok (.invokevirtual 113, 3) := by decide +kernel
theorem dX10_change_53 : decode cX10_change 53 = .ok (.ireturn, 1) := by decide +kernel
theorem dX10_change_54 : decode cX10_change 54 = .ok (.aload_n 0, 1) := by decide +kernel
theorem dX10_change_55 : decode cX10_change 55 = .ok (.getfield 37, 3) := by decide +kernel
theorem dX10_change_58 : decode cX10_change 58 = .ok (.iload_n 1, 1) := by decide +kernel
theorem dX10_change_59 : decode cX10_change 59 = .ok (.iaload, 1) := by decide +kernel
theorem dX10_change_60 : decode cX10_change 60 = .ok (.istore_n 2, 1) := by decide +kernel
theorem dX10_change_61 : decode cX10_change 61 = .ok (.bipush 16, 2) := by decide +kernel
theorem dX10_change_63 : decode cX10_change 63 = .ok (.iload_n 2, 1) := by decide +kernel
theorem dX10_change_64 : decode cX10_change 64 = .ok (.imul, 1) := by decide +kernel
theorem dX10_change_65 : decode cX10_change 65 = .ok (.iload_n 1, 1) := by decide +kernel
theorem dX10_change_66 : decode cX10_change 66 = .ok (.iadd, 1) := by decide +kernel
theorem dX10_change_67 : decode cX10_change 67 = .ok (.istore_n 3, 1) := by decide +kernel
theorem dX10_change_68 : decode cX10_change 68 = .ok (.aload_n 0, 1) := by decide +kernel
theorem dX10_change_69 : decode cX10_change 69 = .ok (.getfield 33, 3) := by decide +kernel
theorem dX10_change_72 : decode cX10_change 72 = .ok (.iload_n 3, 1) := by decide +kernel
theorem dX10_change_73 : decode cX10_change 73 = .ok (.baload, 1) := by decide +kernel
theorem dX10_change_74 : decode cX10_change 74 = .ok (.istore 4, 2) := by decide +kernel
theorem dX10_change_76 : decode cX10_change 76 = .ok (.aload_n 0, 1) := by decide +kernel
theorem dX10_change_77 : decode cX10_change 77 = .ok (.getfield 33, 3) := by decide +kernel
theorem dX10_change_80 : decode cX10_change 80 = .ok (.iload_n 3, 1) := by decide +kernel
theorem dX10_change_81 : decode cX10_change 81 = .ok (.iconst 1, 1) := by decide +kernel
theorem dX10_change_82 : decode cX10_change 82 = .ok (.bastore, 1) := by decide +kernel
theorem dX10_change_83 : decode cX10_change 83 = .ok (.aload_n 0, 1) := by decide +kernel
theorem dX10_change_84 : decode cX10_change 84 = .ok (.iload_n 2, 1) := by decide +kernel
theorem dX10_change_85 : decode cX10_change 85 = .ok (.invokevirtual 155, 3) := by decide +kernel
theorem dX10_change_88 : decode cX10_change 88 = .ok (.aload_n 0, 1) := by decide +kernel
theorem dX10_change_89 : decode cX10_change 89 = .ok (.getfield 43, 3) := by decide +kernel
theorem dX10_change_92 : decode cX10_change 92 = .ok (.iload_n 1, 1) := by decide +kernel
theorem dX10_change_93 : decode cX10_change 93 = .ok (.iaload, 1) := by decide +kernel
theorem dX10_change_94 : decode cX10_change 94 = .ok (.sipush 1000, 3) := by decide +kernel
theorem dX10_change_97 : decode cX10_change 97 = .ok (.if_icmp .ne 18, 3) := by decide +kernel
theorem dX10_change_100 : decode cX10_change 100 = .ok (.aload_n 0, 1) := by decide +kernel
theorem dX10_change_101 : decode cX10_change 101 = .ok (.getfield 33, 3) := by decide +kernel
theorem dX10_change_104 : decode cX10_change 104 = .ok (.iload_n 3, 1) := by decide +kernel
theorem dX10_change_105 : decode cX10_change 105 = .ok (.iload 4, 2) := by decide +kernel
theorem dX10_change_107 : decode cX10_change 107 = .ok (.bastore, 1) := by decide +kernel
theorem dX10_change_108 : decode cX10_change 108 = .ok (.aload_n 0, 1) := by decide +kernel
theorem dX10_change_109 : decode cX10_change 109 = .ok (.bipush 12, 2) := by decide +kernel
theorem dX10_change_111 : decode cX10_change 111 = .ok (.invokevirtual 113, 3) := by decide +kernel
theorem dX10_change_114 : decode cX10_change 114 = .ok (.ireturn, 1) := by decide +kernel
theorem dX10_change_115 : decode cX10_change 115 = .ok (.aload_n 0, 1) := by decide +kernel
theorem dX10_change_116 : decode cX10_change 116 = .ok (.getfield 43, 3) := by decide +kernel
theorem dX10_change_119 : decode cX10_change 119 = .ok (.iload_n 1, 1) := by decide +kernel
theorem dX10_change_120 : decode cX10_change 120 = .ok (.iaload, 1) := by decide +kernel
theorem dX10_change_121 : decode cX10_change 121 = .ok (.istore 5, 2) := by decide +kernel
theorem dX10_change_123 : decode cX10_change 123 = .ok (.iconst 0, 1) := by decide +kernel
theorem dX10_change_124 : decode cX10_change 124 = .ok (.istore 6, 2) := by decide +kernel
theorem dX10_change_126 : decode cX10_change 126 = .ok (.iload 6, 2) := by decide +kernel
theorem dX10_change_128 : decode cX10_change 128 = .ok (.aload_n 0, 1) := by decide +kernel
theorem dX10_change_129 : decode cX10_change 129 = .ok (.getfield 107, 3) := by decide +kernel
theorem dX10_change_132 : decode cX10_change 132 = .ok (.if_icmp .ge 23, 3) := by decide +kernel
theorem dX10_change_135 : decode cX10_change 135 = .ok (.aload_n 0, 1) := by decide +kernel
theorem dX10_change_136 : decode cX10_change 136 = .ok (.getfield 79, 3) := by decide +kernel
theorem dX10_change_139 : decode cX10_change 139 = .ok (.iload 6, 2) := by decide +kernel
theorem dX10_change_141 : decode cX10_change 141 = .ok (.aload_n 0, 1) := by decide +kernel
theorem dX10_change_142 : decode cX10_change 142 = .ok (.iload 6, 2) := by decide +kernel
theorem dX10_change_144 : decode cX10_change 144 = .ok (.iload_n 2, 1) := by decide +kernel
theorem dX10_change_145 : decode cX10_change 145 = .ok (.invokevirtual 152, 3) := by decide +kernel
theorem dX10_change_148 : decode cX10_change 148 = .ok (.bastore, 1) := by decide +kernel
theorem dX10_change_149 : decode cX10_change 149 = .ok (.iinc 6 1, 3) := by decide +kernel
theorem dX10_change_152 : decode cX10_change 152 = .ok (.goto (-26), 3) := by decide +kernel
theorem dX10_change_155 : decode cX10_change 155 = .ok (.iload_n 1, 1) := by decide +kernel
theorem dX10_change_156 : decode cX10_change 156 = .ok (.istore 6, 2) := by decide +kernel
theorem dX10_change_158 : decode cX10_change 158 = .ok (.iload 5, 2) := by decide +kernel
theorem dX10_change_160 : decode cX10_change 160 = .ok (.istore 7, 2) := by decide +kernel
theorem dX10_change_162 : decode cX10_change 162 = .ok (.iload 7, 2) := by decide +kernel
theorem dX10_change_164 : decode cX10_change 164 = .ok (.iconst 1, 1) := by decide +kernel
theorem dX10_change_165 : decode cX10_change 165 = .ok (.if_icmp .lt 102, 3) := by decide +kernel
theorem dX10_change_168 : decode cX10_change 168 = .ok (.iconst 0, 1) := by decide +kernel
theorem dX10_change_169 : decode cX10_change 169 = .ok (.istore 8, 2) := by decide +kernel
theorem dX10_change_171 : decode cX10_change 171 = .ok (.aload_n 0, 1) := by decide +kernel
theorem dX10_change_172 : decode cX10_change 172 = .ok (.iload 6, 2) := by decide +kernel
theorem dX10_change_174 : decode cX10_change 174 = .ok (.iload 8, 2) := by decide +kernel
theorem dX10_change_176 : decode cX10_change 176 = .ok (.iload 7, 2) := by decide +kernel
theorem dX10_change_178 : decode cX10_change 178 = .ok (.invokevirtual 159, 3) := by decide +kernel
theorem dX10_change_181 : decode cX10_change 181 = .ok (.ifCond .ne 9, 3) := by decide +kernel
theorem dX10_change_184 : decode cX10_change 184 = .ok (.iinc 8 1, 3) := by decide +kernel
theorem dX10_change_187 : decode cX10_change 187 = .ok (.goto (-16), 3) := by decide +kernel
theorem dX10_change_190 : decode cX10_change 190 = .ok (.iconst (-1), 1) := by decide +kernel
theorem dX10_change_191 : decode cX10_change 191 = .ok (.istore 9, 2) := by decide +kernel
theorem dX10_change_193 : decode cX10_change 193 = .ok (.aload_n 0, 1) := by decide +kernel
theorem dX10_change_194 : decode cX10_change 194 = .ok (.getfield 110, 3) := by decide +kernel
theorem dX10_change_197 : decode cX10_change 197 = .ok (.iconst 1, 1) := by decide +kernel
theorem dX10_change_198 : decode cX10_change 198 = .ok (.isub, 1) := by decide +kernel
theorem dX10_change_199 : decode cX10_change 199 = .ok (.istore 10, 2) := by decide +kernel
theorem dX10_change_201 : decode cX10_change 201 = .ok (.iload 10, 2) := by decide +kernel
theorem dX10_change_203 : decode cX10_change 203 = .ok (.ifCond .lt 45, 3) := by decide +kernel
theorem dX10_change_206 : decode cX10_change 206 = .ok (.iload 7, 2) := by decide +kernel
theorem dX10_change_208 : decode cX10_change 208 = .ok (.iconst 1, 1) := by decide +kernel
theorem dX10_change_209 : decode cX10_change 209 = .ok (.if_icmp .le 39, 3) := by decide +kernel
theorem dX10_change_212 : decode cX10_change 212 = .ok (.aload_n 0, 1) := by decide +kernel
theorem dX10_change_213 : decode cX10_change 213 = .ok (.getfield 37, 3) := by decide +kernel
theorem dX10_change_216 : decode cX10_change 216 = .ok (.iload 10, 2) := by decide +kernel
theorem dX10_change_218 : decode cX10_change 218 = .ok (.iaload, 1) := by decide +kernel
theorem dX10_change_219 : decode cX10_change 219 = .ok (.iload 8, 2) := by decide +kernel
theorem dX10_change_221 : decode cX10_change 221 = .ok (.if_icmp .ne 21, 3) := by decide +kernel
theorem dX10_change_224 : decode cX10_change 224 = .ok (.aload_n 0, 1) := by decide +kernel
theorem dX10_change_225 : decode cX10_change 225 = .ok (.getfield 43, 3) := by decide +kernel
theorem dX10_change_228 : decode cX10_change 228 = .ok (.iload 10, 2) := by decide +kernel
theorem dX10_change_230 : decode cX10_change 230 = .ok (.iaload, 1) := by decide +kernel
theorem dX10_change_231 : decode cX10_change 231 = .ok (.iload 7, 2) := by decide +kernel
theorem dX10_change_233 : decode cX10_change 233 = .ok (.iconst 1, 1) := by decide +kernel
theorem dX10_change_234 : decode cX10_change 234 = .ok (.isub, 1) := by decide +kernel
theorem dX10_change_235 : decode cX10_change 235 = .ok (.if_icmp .ne 7, 3) := by decide +kernel
theorem dX10_change_238 : decode cX10_change 238 = .ok (.iload 10, 2) := by decide +kernel
theorem dX10_change_240 : decode cX10_change 240 = .ok (.istore 9, 2) := by decide +kernel
theorem dX10_change_242 : decode cX10_change 242 = .ok (.iinc 10 (-1), 3) := by decide +kernel
theorem dX10_change_245 : decode cX10_change 245 = .ok (.goto (-44), 3) := by decide +kernel
theorem dX10_change_248 : decode cX10_change 248 = .ok (.aload_n 0, 1) := by decide +kernel
theorem dX10_change_249 : decode cX10_change 249 = .ok (.getfield 37, 3) := by decide +kernel
theorem dX10_change_252 : decode cX10_change 252 = .ok (.iload 6, 2) := by decide +kernel
theorem dX10_change_254 : decode cX10_change 254 = .ok (.iload 8, 2) := by decide +kernel
theorem dX10_change_256 : decode cX10_change 256 = .ok (.iastore, 1) := by decide +kernel
theorem dX10_change_257 : decode cX10_change 257 = .ok (.iload 9, 2) := by decide +kernel
theorem dX10_change_259 : decode cX10_change 259 = .ok (.istore 6, 2) := by decide +kernel
theorem dX10_change_261 : decode cX10_change 261 = .ok (.iinc 7 (-1), 3) := by decide +kernel
theorem dX10_change_264 : decode cX10_change 264 = .ok (.goto (-102), 3) := by decide +kernel
theorem dX10_change_267 : decode cX10_change 267 = .ok (.iload 5, 2) := by decide +kernel
theorem dX10_change_269 : decode cX10_change 269 = .ok (.ireturn, 1) := by decide +kernel
theorem dX10_takes_0 : decode cX10_takes 0 = .ok (.iload_n 2, 1) := by decide +kernel
theorem dX10_takes_1 : decode cX10_takes 1 = .ok (.aload_n 0, 1) := by decide +kernel
theorem dX10_takes_2 : decode cX10_takes 2 = .ok (.getfield 37, 3) := by decide +kernel
theorem dX10_takes_5 : decode cX10_takes 5 = .ok (.iload_n 1, 1) := by decide +kernel
theorem dX10_takes_6 : decode cX10_takes 6 = .ok (.iaload, 1) := by decide +kernel
theorem dX10_takes_7 : decode cX10_takes 7 = .ok (.if_icmp .eq 12, 3) := by decide +kernel
theorem dX10_takes_10 : decode cX10_takes 10 = .ok (.aload_n 0, 1) := by decide +kernel
theorem dX10_takes_11 : decode cX10_takes 11 = .ok (.iload_n 2, 1) := by decide +kernel
theorem dX10_takes_12 : decode cX10_takes 12 = .ok (.iload_n 1, 1) := by decide +kernel
theorem dX10_takes_13 : decode cX10_takes 13 = .ok (.invokevirtual 126, 3) := by decide +kernel
theorem dX10_takes_16 : decode cX10_takes 16 = .ok (.ifCond .ne 5, 3) := by decide +kernel
theorem dX10_takes_19 : decode cX10_takes 19 = .ok (.iconst 0, 1) := by decide +kernel
theorem dX10_takes_20 : decode cX10_takes 20 = .ok (.ireturn, 1) := by decide +kernel
theorem dX10_takes_21 : decode cX10_takes 21 = .ok (.iload_n 3, 1) := by decide +kernel
theorem dX10_takes_22 : decode cX10_takes 22 = .ok (.iconst 1, 1) := by decide +kernel
theorem dX10_takes_23 : decode cX10_takes 23 = .ok (.if_icmp .ne 10, 3) := by decide +kernel
theorem dX10_takes_26 : decode cX10_takes 26 = .ok (.aload_n 0, 1) := by decide +kernel
theorem dX10_takes_27 : decode cX10_takes 27 = .ok (.getfield 79, 3) := by decide +kernel
theorem dX10_takes_30 : decode cX10_takes 30 = .ok (.iload_n 2, 1) := by decide +kernel
theorem dX10_takes_31 : decode cX10_takes 31 = .ok (.baload, 1) := by decide +kernel
theorem dX10_takes_32 : decode cX10_takes 32 = .ok (.ireturn, 1) := by decide +kernel
theorem dX10_takes_33 : decode cX10_takes 33 = .ok (.iconst 0, 1) := by decide +kernel
theorem dX10_takes_34 : decode cX10_takes 34 = .ok (.istore 4, 2) := by decide +kernel
theorem dX10_takes_36 : decode cX10_takes 36 = .ok (.iload 4, 2) := by decide +kernel
theorem dX10_takes_38 : decode cX10_takes 38 = .ok (.aload_n 0, 1) := by decide +kernel
theorem dX10_takes_39 : decode cX10_takes 39 = .ok (.getfield 110, 3) := by decide +kernel
theorem dX10_takes_42 : decode cX10_takes 42 = .ok (.if_icmp .ge 35, 3) := by decide +kernel
theorem dX10_takes_45 : decode cX10_takes 45 = .ok (.aload_n 0, 1) := by decide +kernel
theorem dX10_takes_46 : decode cX10_takes 46 = .ok (.getfield 37, 3) := by decide +kernel
theorem dX10_takes_49 : decode cX10_takes 49 = .ok (.iload 4, 2) := by decide +kernel
theorem dX10_takes_51 : decode cX10_takes 51 = .ok (.iaload, 1) := by decide +kernel
theorem dX10_takes_52 : decode cX10_takes 52 = .ok (.iload_n 2, 1) := by decide +kernel
theorem dX10_takes_53 : decode cX10_takes 53 = .ok (.if_icmp .ne 18, 3) := by decide +kernel
theorem dX10_takes_56 : decode cX10_takes 56 = .ok (.aload_n 0, 1) := by decide +kernel
theorem dX10_takes_57 : decode cX10_takes 57 = .ok (.getfield 43, 3) := by decide +kernel
theorem dX10_takes_60 : decode cX10_takes 60 = .ok (.iload 4, 2) := by decide +kernel
theorem dX10_takes_62 : decode cX10_takes 62 = .ok (.iaload, 1) := by decide +kernel
theorem dX10_takes_63 : decode cX10_takes 63 = .ok (.iload_n 3, 1) := by decide +kernel
theorem dX10_takes_64 : decode cX10_takes 64 = .ok (.iconst 1, 1) := by decide +kernel
theorem dX10_takes_65 : decode cX10_takes 65 = .ok (.isub, 1) := by decide +kernel
theorem dX10_takes_66 : decode cX10_takes 66 = .ok (.if_icmp .ne 5, 3) := by decide +kernel
theorem dX10_takes_69 : decode cX10_takes 69 = .ok (.iconst 1, 1) := by decide +kernel
theorem dX10_takes_70 : decode cX10_takes 70 = .ok (.ireturn, 1) := by decide +kernel
theorem dX10_takes_71 : decode cX10_takes 71 = .ok (.iinc 4 1, 3) := by decide +kernel
theorem dX10_takes_74 : decode cX10_takes 74 = .ok (.goto (-38), 3) := by decide +kernel
theorem dX10_takes_77 : decode cX10_takes 77 = .ok (.iconst 0, 1) := by decide +kernel
theorem dX10_takes_78 : decode cX10_takes 78 = .ok (.ireturn, 1) := by decide +kernel
theorem dX10_isDay_0 : decode cX10_isDay 0 = .ok (.iload_n 0, 1) := by decide +kernel
theorem dX10_isDay_1 : decode cX10_isDay 1 = .ok (.ifCond .lt 14, 3) := by decide +kernel
theorem dX10_isDay_4 : decode cX10_isDay 4 = .ok (.iload_n 0, 1) := by decide +kernel
theorem dX10_isDay_5 : decode cX10_isDay 5 = .ok (.sipush 9999, 3) := by decide +kernel
theorem dX10_isDay_8 : decode cX10_isDay 8 = .ok (.if_icmp .gt 7, 3) := by decide +kernel
theorem dX10_isDay_11 : decode cX10_isDay 11 = .ok (.iconst 1, 1) := by decide +kernel
theorem dX10_isDay_12 : decode cX10_isDay 12 = .ok (.goto 4, 3) := by decide +kernel
theorem dX10_isDay_15 : decode cX10_isDay 15 = .ok (.iconst 0, 1) := by decide +kernel
theorem dX10_isDay_16 : decode cX10_isDay 16 = .ok (.ireturn, 1) := by decide +kernel
theorem dX10_meeting_0 : decode cX10_meeting 0 = .ok (.aload_n 0, 1) := by decide +kernel
theorem dX10_meeting_1 : decode cX10_meeting 1 = .ok (.iconst 0, 1) := by decide +kernel
theorem dX10_meeting_2 : decode cX10_meeting 2 = .ok (.putfield 82, 3) := by decide +kernel
theorem dX10_meeting_5 : decode cX10_meeting 5 = .ok (.aload_n 0, 1) := by decide +kernel
theorem dX10_meeting_6 : decode cX10_meeting 6 = .ok (.iconst 0, 1) := by decide +kernel
theorem dX10_meeting_7 : decode cX10_meeting 7 = .ok (.putfield 86, 3) := by decide +kernel
theorem dX10_meeting_10 : decode cX10_meeting 10 = .ok (.aload_n 0, 1) := by decide +kernel
theorem dX10_meeting_11 : decode cX10_meeting 11 = .ok (.iload_n 1, 1) := by decide +kernel
theorem dX10_meeting_12 : decode cX10_meeting 12 = .ok (.invokevirtual 119, 3) := by decide +kernel
theorem dX10_meeting_15 : decode cX10_meeting 15 = .ok (.ifCond .ne 9, 3) := by decide +kernel
theorem dX10_meeting_18 : decode cX10_meeting 18 = .ok (.aload_n 0, 1) := by decide +kernel
theorem dX10_meeting_19 : decode cX10_meeting 19 = .ok (.iconst 2, 1) := by decide +kernel
theorem dX10_meeting_20 : decode cX10_meeting 20 = .ok (.invokevirtual 113, 3) := by decide +kernel
theorem dX10_meeting_23 : decode cX10_meeting 23 = .ok (.ireturn, 1) := by decide +kernel
theorem dX10_meeting_24 : decode cX10_meeting 24 = .ok (.iload_n 2, 1) := by decide +kernel
theorem dX10_meeting_25 : decode cX10_meeting 25 = .ok (.invokestatic 162, 3) := by decide +kernel
theorem dX10_meeting_28 : decode cX10_meeting 28 = .ok (.ifCond .ne 9, 3) := by decide +kernel
theorem dX10_meeting_31 : decode cX10_meeting 31 = .ok (.aload_n 0, 1) := by decide +kernel
theorem dX10_meeting_32 : decode cX10_meeting 32 = .ok (.iconst 5, 1) := by decide +kernel
theorem dX10_meeting_33 : decode cX10_meeting 33 = .ok (.invokevirtual 113, 3) := by decide +kernel
theorem dX10_meeting_36 : decode cX10_meeting 36 = .ok (.ireturn, 1) := by decide +kernel
theorem dX10_meeting_37 : decode cX10_meeting 37 = .ok (.aload_n 0, 1) := by decide +kernel
theorem dX10_meeting_38 : decode cX10_meeting 38 = .ok (.getfield 165, 3) := by decide +kernel
theorem dX10_meeting_41 : decode cX10_meeting 41 = .ok (.bipush 100, 2) := by decide +kernel
theorem dX10_meeting_43 : decode cX10_meeting 43 = .ok (.if_icmp .ne 10, 3) := by decide +kernel
theorem dX10_meeting_46 : decode cX10_meeting 46 = .ok (.aload_n 0, 1) := by decide +kernel
theorem dX10_meeting_47 : decode cX10_meeting 47 = .ok (.bipush 7, 2) := by decide +kernel
theorem dX10_meeting_49 : decode cX10_meeting 49 = .ok (.invokevirtual 113, 3) := by decide +kernel
theorem dX10_meeting_52 : decode cX10_meeting 52 = .ok (.ireturn, 1) := by decide +kernel
theorem dX10_meeting_53 : decode cX10_meeting 53 = .ok (.aload_n 0, 1) := by decide +kernel
theorem dX10_meeting_54 : decode cX10_meeting 54 = .ok (.getfield 46, 3) := by decide +kernel
theorem dX10_meeting_57 : decode cX10_meeting 57 = .ok (.aload_n 0, 1) := by decide +kernel
theorem dX10_meeting_58 : decode cX10_meeting 58 = .ok (.getfield 165, 3) := by decide +kernel
theorem dX10_meeting_61 : decode cX10_meeting 61 = .ok (.iload_n 1, 1) := by decide +kernel
theorem dX10_meeting_62 : decode cX10_meeting 62 = .ok (.iastore, 1) := by decide +kernel
theorem dX10_meeting_63 : decode cX10_meeting 63 = .ok (.aload_n 0, 1) := by decide +kernel
theorem dX10_meeting_64 : decode cX10_meeting 64 = .ok (.getfield 49, 3) := by decide +kernel
theorem dX10_meeting_67 : decode cX10_meeting 67 = .ok (.aload_n 0, 1) := by decide +kernel
theorem dX10_meeting_68 : decode cX10_meeting 68 = .ok (.getfield 165, 3) := by decide +kernel
theorem dX10_meeting_71 : decode cX10_meeting 71 = .ok (.iload_n 2, 1) := by decide +kernel
theorem dX10_meeting_72 : decode cX10_meeting 72 = .ok (.iastore, 1) := by decide +kernel
theorem dX10_meeting_73 : decode cX10_meeting 73 = .ok (.aload_n 0, 1) := by decide +kernel
theorem dX10_meeting_74 : decode cX10_meeting 74 = .ok (.dup, 1) := by decide +kernel
theorem dX10_meeting_75 : decode cX10_meeting 75 = .ok (.getfield 165, 3) := by decide +kernel
theorem dX10_meeting_78 : decode cX10_meeting 78 = .ok (.iconst 1, 1) := by decide +kernel
theorem dX10_meeting_79 : decode cX10_meeting 79 = .ok (.iadd, 1) := by decide +kernel
theorem dX10_meeting_80 : decode cX10_meeting 80 = .ok (.putfield 165, 3) := by decide +kernel
theorem dX10_meeting_83 : decode cX10_meeting 83 = .ok (.aload_n 0, 1) := by decide +kernel
theorem dX10_meeting_84 : decode cX10_meeting 84 = .ok (.getfield 165, 3) := by decide +kernel
theorem dX10_meeting_87 : decode cX10_meeting 87 = .ok (.iconst 1, 1) := by decide +kernel
theorem dX10_meeting_88 : decode cX10_meeting 88 = .ok (.isub, 1) := by decide +kernel
theorem dX10_meeting_89 : decode cX10_meeting 89 = .ok (.ireturn, 1) := by decide +kernel
theorem dX10_tell_0 : decode cX10_tell 0 = .ok (.aload_n 0, 1) := by decide +kernel
theorem dX10_tell_1 : decode cX10_tell 1 = .ok (.iconst 0, 1) := by decide +kernel
theorem dX10_tell_2 : decode cX10_tell 2 = .ok (.putfield 82, 3) := by decide +kernel
theorem dX10_tell_5 : decode cX10_tell 5 = .ok (.aload_n 0, 1) := by decide +kernel
theorem dX10_tell_6 : decode cX10_tell 6 = .ok (.iconst 0, 1) := by decide +kernel
theorem dX10_tell_7 : decode cX10_tell 7 = .ok (.putfield 86, 3) := by decide +kernel
theorem dX10_tell_10 : decode cX10_tell 10 = .ok (.iload_n 1, 1) := by decide +kernel
theorem dX10_tell_11 : decode cX10_tell 11 = .ok (.ifCond .lt 11, 3) := by decide +kernel
theorem dX10_tell_14 : decode cX10_tell 14 = .ok (.iload_n 1, 1) := by decide +kernel
theorem dX10_tell_15 : decode cX10_tell 15 = .ok (.aload_n 0, 1) := by decide +kernel
theorem dX10_tell_16 : decode cX10_tell 16 = .ok (.getfield 165, 3) := by decide +kernel
theorem dX10_tell_19 : decode cX10_tell 19 = .ok (.if_icmp .lt 9, 3) := by decide +kernel
theorem dX10_tell_22 : decode cX10_tell 22 = .ok (.aload_n 0, 1) := by decide +kernel
theorem dX10_tell_23 : decode cX10_tell 23 = .ok (.iconst 2, 1) := by decide +kernel
theorem dX10_tell_24 : decode cX10_tell 24 = .ok (.invokevirtual 89, 3) := by decide +kernel
theorem dX10_tell_27 : decode cX10_tell 27 = .ok (.ireturn, 1) := by decide +kernel
theorem dX10_tell_28 : decode cX10_tell 28 = .ok (.iload_n 3, 1) := by decide +kernel
theorem dX10_tell_29 : decode cX10_tell 29 = .ok (.invokestatic 162, 3) := by decide +kernel
theorem dX10_tell_32 : decode cX10_tell 32 = .ok (.ifCond .eq 13, 3) := by decide +kernel
theorem dX10_tell_35 : decode cX10_tell 35 = .ok (.iload_n 3, 1) := by decide +kernel
theorem dX10_tell_36 : decode cX10_tell 36 = .ok (.aload_n 0, 1) := by decide +kernel
theorem dX10_tell_37 : decode cX10_tell 37 = .ok (.getfield 49, 3) := by decide +kernel
theorem dX10_tell_40 : decode cX10_tell 40 = .ok (.iload_n 1, 1) := by decide +kernel
theorem dX10_tell_41 : decode cX10_tell 41 = .ok (.iaload, 1) := by decide +kernel
theorem dX10_tell_42 : decode cX10_tell 42 = .ok (.if_icmp .ge 9, 3) := by decide +kernel
theorem dX10_tell_45 : decode cX10_tell 45 = .ok (.aload_n 0, 1) := by decide +kernel
theorem dX10_tell_46 : decode cX10_tell 46 = .ok (.iconst 5, 1) := by decide +kernel
theorem dX10_tell_47 : decode cX10_tell 47 = .ok (.invokevirtual 89, 3) := by decide +kernel
theorem dX10_tell_50 : decode cX10_tell 50 = .ok (.ireturn, 1) := by decide +kernel
theorem dX10_tell_51 : decode cX10_tell 51 = .ok (.aload_n 0, 1) := by decide +kernel
theorem dX10_tell_52 : decode cX10_tell 52 = .ok (.getfield 168, 3) := by decide +kernel
theorem dX10_tell_55 : decode cX10_tell 55 = .ok (.sipush 200, 3) := by decide +kernel
theorem dX10_tell_58 : decode cX10_tell 58 = .ok (.if_icmp .ne 10, 3) := by decide +kernel
theorem dX10_tell_61 : decode cX10_tell 61 = .ok (.aload_n 0, 1) := by decide +kernel
theorem dX10_tell_62 : decode cX10_tell 62 = .ok (.bipush 7, 2) := by decide +kernel
theorem dX10_tell_64 : decode cX10_tell 64 = .ok (.invokevirtual 89, 3) := by decide +kernel
theorem dX10_tell_67 : decode cX10_tell 67 = .ok (.ireturn, 1) := by decide +kernel
theorem dX10_tell_68 : decode cX10_tell 68 = .ok (.aload_n 0, 1) := by decide +kernel
theorem dX10_tell_69 : decode cX10_tell 69 = .ok (.getfield 52, 3) := by decide +kernel
theorem dX10_tell_72 : decode cX10_tell 72 = .ok (.aload_n 0, 1) := by decide +kernel
theorem dX10_tell_73 : decode cX10_tell 73 = .ok (.getfield 168, 3) := by decide +kernel
theorem dX10_tell_76 : decode cX10_tell 76 = .ok (.iload_n 1, 1) := by decide +kernel
theorem dX10_tell_77 : decode cX10_tell 77 = .ok (.iastore, 1) := by decide +kernel
theorem dX10_tell_78 : decode cX10_tell 78 = .ok (.aload_n 0, 1) := by decide +kernel
theorem dX10_tell_79 : decode cX10_tell 79 = .ok (.getfield 55, 3) := by decide +kernel
theorem dX10_tell_82 : decode cX10_tell 82 = .ok (.aload_n 0, 1) := by decide +kernel
theorem dX10_tell_83 : decode cX10_tell 83 = .ok (.getfield 168, 3) := by decide +kernel
theorem dX10_tell_86 : decode cX10_tell 86 = .ok (.iload_n 3, 1) := by decide +kernel
theorem dX10_tell_87 : decode cX10_tell 87 = .ok (.iastore, 1) := by decide +kernel
theorem dX10_tell_88 : decode cX10_tell 88 = .ok (.aload_n 0, 1) := by decide +kernel
theorem dX10_tell_89 : decode cX10_tell 89 = .ok (.getfield 58, 3) := by decide +kernel
theorem dX10_tell_92 : decode cX10_tell 92 = .ok (.aload_n 0, 1) := by decide +kernel
theorem dX10_tell_93 : decode cX10_tell 93 = .ok (.getfield 168, 3) := by decide +kernel
theorem dX10_tell_96 : decode cX10_tell 96 = .ok (.iload_n 2, 1) := by decide +kernel
theorem dX10_tell_97 : decode cX10_tell 97 = .ok (.bastore, 1) := by decide +kernel
theorem dX10_tell_98 : decode cX10_tell 98 = .ok (.aload_n 0, 1) := by decide +kernel
theorem dX10_tell_99 : decode cX10_tell 99 = .ok (.dup, 1) := by decide +kernel
theorem dX10_tell_100 : decode cX10_tell 100 = .ok (.getfield 168, 3) := by decide +kernel
theorem dX10_tell_103 : decode cX10_tell 103 = .ok (.iconst 1, 1) := by decide +kernel
theorem dX10_tell_104 : decode cX10_tell 104 = .ok (.iadd, 1) := by decide +kernel
theorem dX10_tell_105 : decode cX10_tell 105 = .ok (.putfield 168, 3) := by decide +kernel
theorem dX10_tell_108 : decode cX10_tell 108 = .ok (.iconst 1, 1) := by decide +kernel
theorem dX10_tell_109 : decode cX10_tell 109 = .ok (.ireturn, 1) := by decide +kernel
theorem dX10_met_0 : decode cX10_met 0 = .ok (.aload_n 0, 1) := by decide +kernel
theorem dX10_met_1 : decode cX10_met 1 = .ok (.iconst 0, 1) := by decide +kernel
theorem dX10_met_2 : decode cX10_met 2 = .ok (.putfield 82, 3) := by decide +kernel
theorem dX10_met_5 : decode cX10_met 5 = .ok (.aload_n 0, 1) := by decide +kernel
theorem dX10_met_6 : decode cX10_met 6 = .ok (.iconst 0, 1) := by decide +kernel
theorem dX10_met_7 : decode cX10_met 7 = .ok (.putfield 86, 3) := by decide +kernel
theorem dX10_met_10 : decode cX10_met 10 = .ok (.aload_n 0, 1) := by decide +kernel
theorem dX10_met_11 : decode cX10_met 11 = .ok (.iload_n 1, 1) := by decide +kernel
theorem dX10_met_12 : decode cX10_met 12 = .ok (.invokevirtual 119, 3) := by decide +kernel
theorem dX10_met_15 : decode cX10_met 15 = .ok (.ifCond .ne 9, 3) := by decide +kernel
theorem dX10_met_18 : decode cX10_met 18 = .ok (.aload_n 0, 1) := by decide +kernel
theorem dX10_met_19 : decode cX10_met 19 = .ok (.iconst 2, 1) := by decide +kernel
theorem dX10_met_20 : decode cX10_met 20 = .ok (.invokevirtual 113, 3) := by decide +kernel
theorem dX10_met_23 : decode cX10_met 23 = .ok (.ireturn, 1) := by decide +kernel
theorem dX10_met_24 : decode cX10_met 24 = .ok (.iload_n 2, 1) := by decide +kernel
theorem dX10_met_25 : decode cX10_met 25 = .ok (.invokestatic 162, 3) := by decide +kernel
theorem dX10_met_28 : decode cX10_met 28 = .ok (.ifCond .eq 12, 3) := by decide +kernel
theorem dX10_met_31 : decode cX10_met 31 = .ok (.iload_n 3, 1) := by decide +kernel
theorem dX10_met_32 : decode cX10_met 32 = .ok (.ifCond .lt 8, 3) := by decide +kernel
theorem dX10_met_35 : decode cX10_met 35 = .ok (.iload_n 3, 1) := by decide +kernel
theorem dX10_met_36 : decode cX10_met 36 = .ok (.iconst 2, 1) := by decide +kernel
theorem dX10_met_37 : decode cX10_met 37 = .ok (.if_icmp .le 9, 3) := by decide +kernel
theorem dX10_met_40 : decode cX10_met 40 = .ok (.aload_n 0, 1) := by decide +kernel
theorem dX10_met_41 : decode cX10_met 41 = .ok (.iconst 5, 1) := by decide +kernel
theorem dX10_met_42 : decode cX10_met 42 = .ok (.invokevirtual 113, 3) := by decide +kernel
theorem dX10_met_45 : decode cX10_met 45 = .ok (.ireturn, 1) := by decide +kernel
theorem dX10_met_46 : decode cX10_met 46 = .ok (.iconst 0, 1) := by decide +kernel
theorem dX10_met_47 : decode cX10_met 47 = .ok (.istore 4, 2) := by decide +kernel
theorem dX10_met_49 : decode cX10_met 49 = .ok (.iconst 0, 1) := by decide +kernel
theorem dX10_met_50 : decode cX10_met 50 = .ok (.istore 5, 2) := by decide +kernel
theorem dX10_met_52 : decode cX10_met 52 = .ok (.iload 5, 2) := by decide +kernel
theorem dX10_met_54 : decode cX10_met 54 = .ok (.aload_n 0, 1) := by decide +kernel
theorem dX10_met_55 : decode cX10_met 55 = .ok (.getfield 165, 3) := by decide +kernel
theorem dX10_met_58 : decode cX10_met 58 = .ok (.if_icmp .ge 142, 3) := by decide +kernel
theorem dX10_met_61 : decode cX10_met 61 = .ok (.aload_n 0, 1) := by decide +kernel
theorem dX10_met_62 : decode cX10_met 62 = .ok (.getfield 46, 3) := by decide +kernel
theorem dX10_met_65 : decode cX10_met 65 = .ok (.iload 5, 2) := by decide +kernel
theorem dX10_met_67 : decode cX10_met 67 = .ok (.iaload, 1) := by decide +kernel
theorem dX10_met_68 : decode cX10_met 68 = .ok (.iload_n 1, 1) := by decide +kernel
theorem dX10_met_69 : decode cX10_met 69 = .ok (.if_icmp .ne 125, 3) := by decide +kernel
theorem dX10_met_72 : decode cX10_met 72 = .ok (.aload_n 0, 1) := by decide +kernel
theorem dX10_met_73 : decode cX10_met 73 = .ok (.getfield 49, 3) := by decide +kernel
theorem dX10_met_76 : decode cX10_met 76 = .ok (.iload 5, 2) := by decide +kernel
theorem dX10_met_78 : decode cX10_met 78 = .ok (.iaload, 1) := by decide +kernel
theorem dX10_met_79 : decode cX10_met 79 = .ok (.iload_n 2, 1) := by decide +kernel
theorem dX10_met_80 : decode cX10_met 80 = .ok (.if_icmp .le 6, 3) := by decide +kernel
theorem dX10_met_83 : decode cX10_met 83 = .ok (.goto 111, 3) := by decide +kernel
theorem dX10_met_86 : decode cX10_met 86 = .ok (.iconst (-1), 1) := by decide +kernel
theorem dX10_met_87 : decode cX10_met 87 = .ok (.istore 6, 2) := by decide +kernel
theorem dX10_met_89 : decode cX10_met 89 = .ok (.iconst 0, 1) := by decide +kernel
theorem dX10_met_90 : decode cX10_met 90 = .ok (.istore 7, 2) := by decide +kernel
theorem dX10_met_92 : decode cX10_met 92 = .ok (.iload 7, 2) := by decide +kernel
theorem dX10_met_94 : decode cX10_met 94 = .ok (.aload_n 0, 1) := by decide +kernel
theorem dX10_met_95 : decode cX10_met 95 = .ok (.getfield 168, 3) := by decide +kernel
theorem dX10_met_98 : decode cX10_met 98 = .ok (.if_icmp .ge 58, 3) := by decide +kernel
theorem dX10_met_101 : decode cX10_met 101 = .ok (.aload_n 0, 1) := by decide +kernel
theorem dX10_met_102 : decode cX10_met 102 = .ok (.getfield 52, 3) := by decide +kernel
theorem dX10_met_105 : decode cX10_met 105 = .ok (.iload 7, 2) := by decide +kernel
theorem dX10_met_107 : decode cX10_met 107 = .ok (.iaload, 1) := by decide +kernel
theorem dX10_met_108 : decode cX10_met 108 = .ok (.iload 5, 2) := by decide +kernel
theorem dX10_met_110 : decode cX10_met 110 = .ok (.if_icmp .ne 40, 3) := by decide +kernel
theorem dX10_met_113 : decode cX10_met 113 = .ok (.aload_n 0, 1) := by decide +kernel
theorem dX10_met_114 : decode cX10_met 114 = .ok (.getfield 55, 3) := by decide +kernel
theorem dX10_met_117 : decode cX10_met 117 = .ok (.iload 7, 2) := by decide +kernel
theorem dX10_met_119 : decode cX10_met 119 = .ok (.iaload, 1) := by decide +kernel
theorem dX10_met_120 : decode cX10_met 120 = .ok (.iload_n 2, 1) := by decide +kernel
theorem dX10_met_121 : decode cX10_met 121 = .ok (.if_icmp .gt 29, 3) := by decide +kernel
theorem dX10_met_124 : decode cX10_met 124 = .ok (.iload 6, 2) := by decide +kernel
theorem dX10_met_126 : decode cX10_met 126 = .ok (.ifCond .lt 20, 3) := by decide +kernel
theorem dX10_met_129 : decode cX10_met 129 = .ok (.aload_n 0, 1) := by decide +kernel
theorem dX10_met_130 : decode cX10_met 130 = .ok (.getfield 55, 3) := by decide +kernel
theorem dX10_met_133 : decode cX10_met 133 = .ok (.iload 7, 2) := by decide +kernel
theorem dX10_met_135 : decode cX10_met 135 = .ok (.iaload, 1) := by decide +kernel
theorem dX10_met_136 : decode cX10_met 136 = .ok (.aload_n 0, 1) := by decide +kernel
theorem dX10_met_137 : decode cX10_met 137 = .ok (.getfield 55, 3) := by decide +kernel
theorem dX10_met_140 : decode cX10_met 140 = .ok (.iload 6, 2) := by decide +kernel
theorem dX10_met_142 : decode cX10_met 142 = .ok (.iaload, 1) := by decide +kernel
theorem dX10_met_143 : decode cX10_met 143 = .ok (.if_icmp .lt 7, 3) := by decide +kernel
theorem dX10_met_146 : decode cX10_met 146 = .ok (.iload 7, 2) := by decide +kernel
theorem dX10_met_148 : decode cX10_met 148 = .ok (.istore 6, 2) := by decide +kernel
theorem dX10_met_150 : decode cX10_met 150 = .ok (.iinc 7 1, 3) := by decide +kernel
theorem dX10_met_153 : decode cX10_met 153 = .ok (.goto (-61), 3) := by decide +kernel
theorem dX10_met_156 : decode cX10_met 156 = .ok (.iload 4, 2) := by decide +kernel
theorem dX10_met_158 : decode cX10_met 158 = .ok (.iload_n 3, 1) := by decide +kernel
theorem dX10_met_159 : decode cX10_met 159 = .ok (.iload 6, 2) := by decide +kernel
theorem dX10_met_161 : decode cX10_met 161 = .ok (.ifCond .ge 7, 3) := by decide +kernel
theorem dX10_met_164 : decode cX10_met 164 = .ok (.iconst 2, 1) := by decide +kernel
theorem dX10_met_165 : decode cX10_met 165 = .ok (.goto 18, 3) := by decide +kernel
theorem dX10_met_168 : decode cX10_met 168 = .ok (.aload_n 0, 1) := by decide +kernel
theorem dX10_met_169 : decode cX10_met 169 = .ok (.getfield 58, 3) := by decide +kernel
theorem dX10_met_172 : decode cX10_met 172 = .ok (.iload 6, 2) := by decide +kernel
theorem dX10_met_174 : decode cX10_met 174 = .ok (.baload, 1) := by decide +kernel
theorem dX10_met_175 : decode cX10_met 175 = .ok (.ifCond .eq 7, 3) := by decide +kernel
theorem dX10_met_178 : decode cX10_met 178 = .ok (.iconst 0, 1) := by decide +kernel
theorem dX10_met_179 : decode cX10_met 179 = .ok (.goto 4, 3) := by decide +kernel
theorem dX10_met_182 : decode cX10_met 182 = .ok (.iconst 1, 1) := by decide +kernel
theorem dX10_met_183 : decode cX10_met 183 = .ok (.if_icmp .ne 7, 3) := by decide +kernel
theorem dX10_met_186 : decode cX10_met 186 = .ok (.iconst 1, 1) := by decide +kernel
theorem dX10_met_187 : decode cX10_met 187 = .ok (.goto 4, 3) := by decide +kernel
theorem dX10_met_190 : decode cX10_met 190 = .ok (.iconst 0, 1) := by decide +kernel
theorem dX10_met_191 : decode cX10_met 191 = .ok (.iadd, 1) := by decide +kernel
theorem dX10_met_192 : decode cX10_met 192 = .ok (.istore 4, 2) := by decide +kernel
theorem dX10_met_194 : decode cX10_met 194 = .ok (.iinc 5 1, 3) := by decide +kernel
theorem dX10_met_197 : decode cX10_met 197 = .ok (.goto (-145), 3) := by decide +kernel
theorem dX10_met_200 : decode cX10_met 200 = .ok (.iload 4, 2) := by decide +kernel
theorem dX10_met_202 : decode cX10_met 202 = .ok (.ireturn, 1) := by decide +kernel
theorem dX10_goal_0 : decode cX10_goal 0 = .ok (.aload_n 0, 1) := by decide +kernel
theorem dX10_goal_1 : decode cX10_goal 1 = .ok (.iconst 0, 1) := by decide +kernel
theorem dX10_goal_2 : decode cX10_goal 2 = .ok (.putfield 82, 3) := by decide +kernel
theorem dX10_goal_5 : decode cX10_goal 5 = .ok (.aload_n 0, 1) := by decide +kernel
theorem dX10_goal_6 : decode cX10_goal 6 = .ok (.iconst 0, 1) := by decide +kernel
theorem dX10_goal_7 : decode cX10_goal 7 = .ok (.putfield 86, 3) := by decide +kernel
theorem dX10_goal_10 : decode cX10_goal 10 = .ok (.aload_n 0, 1) := by decide +kernel
theorem dX10_goal_11 : decode cX10_goal 11 = .ok (.iload_n 1, 1) := by decide +kernel
theorem dX10_goal_12 : decode cX10_goal 12 = .ok (.invokevirtual 119, 3) := by decide +kernel
theorem dX10_goal_15 : decode cX10_goal 15 = .ok (.ifCond .eq 30, 3) := by decide +kernel
theorem dX10_goal_18 : decode cX10_goal 18 = .ok (.iload_n 3, 1) := by decide +kernel
theorem dX10_goal_19 : decode cX10_goal 19 = .ok (.iconst (-1), 1) := by decide +kernel
theorem dX10_goal_20 : decode cX10_goal 20 = .ok (.if_icmp .eq 31, 3) := by decide +kernel
theorem dX10_goal_23 : decode cX10_goal 23 = .ok (.iload_n 3, 1) := by decide +kernel
theorem dX10_goal_24 : decode cX10_goal 24 = .ok (.ifCond .lt 21, 3) := by decide +kernel
theorem dX10_goal_27 : decode cX10_goal 27 = .ok (.iload_n 3, 1) := by decide +kernel
theorem dX10_goal_28 : decode cX10_goal 28 = .ok (.aload_n 0, 1) := by decide +kernel
theorem dX10_goal_29 : decode cX10_goal 29 = .ok (.getfield 171, 3) := by decide +kernel
theorem dX10_goal_32 : decode cX10_goal 32 = .ok (.if_icmp .ge 13, 3) := by decide +kernel
theorem dX10_goal_35 : decode cX10_goal 35 = .ok (.aload_n 0, 1) := by decide +kernel
theorem dX10_goal_36 : decode cX10_goal 36 = .ok (.getfield 61, 3) := by decide +kernel
theorem dX10_goal_39 : decode cX10_goal 39 = .ok (.iload_n 3, 1) := by decide +kernel
theorem dX10_goal_40 : decode cX10_goal 40 = .ok (.iaload, 1) := by decide +kernel
theorem dX10_goal_41 : decode cX10_goal 41 = .ok (.iload_n 1, 1) := by decide +kernel
theorem dX10_goal_42 : decode cX10_goal 42 = .ok (.if_icmp .eq 9, 3) := by decide +kernel
theorem dX10_goal_45 : decode cX10_goal 45 = .ok (.aload_n 0, 1) := by decide +kernel
theorem dX10_goal_46 : decode cX10_goal 46 = .ok (.iconst 2, 1) := by decide +kernel
theorem dX10_goal_47 : decode cX10_goal 47 = .ok (.invokevirtual 113, 3) := by decide +kernel
theorem dX10_goal_50 : decode cX10_goal 50 = .ok (.ireturn, 1) := by decide +kernel
theorem dX10_goal_51 : decode cX10_goal 51 = .ok (.iload_n 2, 1) := by decide +kernel
theorem dX10_goal_52 : decode cX10_goal 52 = .ok (.invokestatic 162, 3) := by decide +kernel
theorem dX10_goal_55 : decode cX10_goal 55 = .ok (.ifCond .ne 9, 3) := by decide +kernel
theorem dX10_goal_58 : decode cX10_goal 58 = .ok (.aload_n 0, 1) := by decide +kernel
theorem dX10_goal_59 : decode cX10_goal 59 = .ok (.iconst 5, 1) := by decide +kernel
theorem dX10_goal_60 : decode cX10_goal 60 = .ok (.invokevirtual 113, 3) := by decide +kernel
theorem dX10_goal_63 : decode cX10_goal 63 = .ok (.ireturn, 1) := by decide +kernel
theorem dX10_goal_64 : decode cX10_goal 64 = .ok (.aload_n 0, 1) := by decide +kernel
theorem dX10_goal_65 : decode cX10_goal 65 = .ok (.getfield 171, 3) := by decide +kernel
theorem dX10_goal_68 : decode cX10_goal 68 = .ok (.bipush 40, 2) := by decide +kernel
theorem dX10_goal_70 : decode cX10_goal 70 = .ok (.if_icmp .ne 10, 3) := by decide +kernel
theorem dX10_goal_73 : decode cX10_goal 73 = .ok (.aload_n 0, 1) := by decide +kernel
theorem dX10_goal_74 : decode cX10_goal 74 = .ok (.bipush 7, 2) := by decide +kernel
theorem dX10_goal_76 : decode cX10_goal 76 = .ok (.invokevirtual 113, 3) := by decide +kernel
theorem dX10_goal_79 : decode cX10_goal 79 = .ok (.ireturn, 1) := by decide +kernel
theorem dX10_goal_80 : decode cX10_goal 80 = .ok (.aload_n 0, 1) := by decide +kernel
theorem dX10_goal_81 : decode cX10_goal 81 = .ok (.getfield 61, 3) := by decide +kernel
theorem dX10_goal_84 : decode cX10_goal 84 = .ok (.aload_n 0, 1) := by decide +kernel
theorem dX10_goal_85 : decode cX10_goal 85 = .ok (.getfield 171, 3) := by decide +kernel
theorem dX10_goal_88 : decode cX10_goal 88 = .ok (.iload_n 1, 1) := by decide +kernel
theorem dX10_goal_89 : decode cX10_goal 89 = .ok (.iastore, 1) := by decide +kernel
theorem dX10_goal_90 : decode cX10_goal 90 = .ok (.aload_n 0, 1) := by decide +kernel
theorem dX10_goal_91 : decode cX10_goal 91 = .ok (.getfield 64, 3) := by decide +kernel
theorem dX10_goal_94 : decode cX10_goal 94 = .ok (.aload_n 0, 1) := by decide +kernel
theorem dX10_goal_95 : decode cX10_goal 95 = .ok (.getfield 171, 3) := by decide +kernel
theorem dX10_goal_98 : decode cX10_goal 98 = .ok (.iload_n 2, 1) := by decide +kernel
theorem dX10_goal_99 : decode cX10_goal 99 = .ok (.iastore, 1) := by decide +kernel
theorem dX10_goal_100 : decode cX10_goal 100 = .ok (.aload_n 0, 1) := by decide +kernel
theorem dX10_goal_101 : decode cX10_goal 101 = .ok (.getfield 67, 3) := by decide +kernel
theorem dX10_goal_104 : decode cX10_goal 104 = .ok (.aload_n 0, 1) := by decide +kernel
theorem dX10_goal_105 : decode cX10_goal 105 = .ok (.getfield 171, 3) := by decide +kernel
theorem dX10_goal_108 : decode cX10_goal 108 = .ok (.iload_n 3, 1) := by decide +kernel
theorem dX10_goal_109 : decode cX10_goal 109 = .ok (.iastore, 1) := by decide +kernel
theorem dX10_goal_110 : decode cX10_goal 110 = .ok (.aload_n 0, 1) := by decide +kernel
theorem dX10_goal_111 : decode cX10_goal 111 = .ok (.getfield 70, 3) := by decide +kernel
theorem dX10_goal_114 : decode cX10_goal 114 = .ok (.aload_n 0, 1) := by decide +kernel
theorem dX10_goal_115 : decode cX10_goal 115 = .ok (.getfield 171, 3) := by decide +kernel
theorem dX10_goal_118 : decode cX10_goal 118 = .ok (.iconst (-1), 1) := by decide +kernel
theorem dX10_goal_119 : decode cX10_goal 119 = .ok (.iastore, 1) := by decide +kernel
theorem dX10_goal_120 : decode cX10_goal 120 = .ok (.aload_n 0, 1) := by decide +kernel
theorem dX10_goal_121 : decode cX10_goal 121 = .ok (.dup, 1) := by decide +kernel
theorem dX10_goal_122 : decode cX10_goal 122 = .ok (.getfield 171, 3) := by decide +kernel
theorem dX10_goal_125 : decode cX10_goal 125 = .ok (.iconst 1, 1) := by decide +kernel
theorem dX10_goal_126 : decode cX10_goal 126 = .ok (.iadd, 1) := by decide +kernel
theorem dX10_goal_127 : decode cX10_goal 127 = .ok (.putfield 171, 3) := by decide +kernel
theorem dX10_goal_130 : decode cX10_goal 130 = .ok (.aload_n 0, 1) := by decide +kernel
theorem dX10_goal_131 : decode cX10_goal 131 = .ok (.getfield 171, 3) := by decide +kernel
theorem dX10_goal_134 : decode cX10_goal 134 = .ok (.iconst 1, 1) := by decide +kernel
theorem dX10_goal_135 : decode cX10_goal 135 = .ok (.isub, 1) := by decide +kernel
theorem dX10_goal_136 : decode cX10_goal 136 = .ok (.ireturn, 1) := by decide +kernel
theorem dX10_confirm_0 : decode cX10_confirm 0 = .ok (.aload_n 0, 1) := by decide +kernel
theorem dX10_confirm_1 : decode cX10_confirm 1 = .ok (.iconst 0, 1) := by decide +kernel
theorem dX10_confirm_2 : decode cX10_confirm 2 = .ok (.putfield 82, 3) := by decide +kernel
theorem dX10_confirm_5 : decode cX10_confirm 5 = .ok (.aload_n 0, 1) := by decide +kernel
theorem dX10_confirm_6 : decode cX10_confirm 6 = .ok (.iconst 0, 1) := by decide +kernel
theorem dX10_confirm_7 : decode cX10_confirm 7 = .ok (.putfield 86, 3) := by decide +kernel
theorem dX10_confirm_10 : decode cX10_confirm 10 = .ok (.iload_n 1, 1) := by decide +kernel
theorem dX10_confirm_11 : decode cX10_confirm 11 = .ok (.ifCond .lt 11, 3) := by decide +kernel
theorem dX10_confirm_14 : decode cX10_confirm 14 = .ok (.iload_n 1, 1) := by decide +kernel
theorem dX10_confirm_15 : decode cX10_confirm 15 = .ok (.aload_n 0, 1) := by decide +kernel
theorem dX10_confirm_16 : decode cX10_confirm 16 = .ok (.getfield 171, 3) := by decide +kernel
theorem dX10_confirm_19 : decode cX10_confirm 19 = .ok (.if_icmp .lt 9, 3) := by decide +kernel
theorem dX10_confirm_22 : decode cX10_confirm 22 = .ok (.aload_n 0, 1) := by decide +kernel
theorem dX10_confirm_23 : decode cX10_confirm 23 = .ok (.iconst 2, 1) := by decide +kernel
theorem dX10_confirm_24 : decode cX10_confirm 24 = .ok (.invokevirtual 89, 3) := by decide +kernel
theorem dX10_confirm_27 : decode cX10_confirm 27 = .ok (.ireturn, 1) := by decide +kernel
theorem dX10_confirm_28 : decode cX10_confirm 28 = .ok (.iload_n 2, 1) := by decide +kernel
theorem dX10_confirm_29 : decode cX10_confirm 29 = .ok (.invokestatic 162, 3) := by decide +kernel
theorem dX10_confirm_32 : decode cX10_confirm 32 = .ok (.ifCond .ne 9, 3) := by decide +kernel
theorem dX10_confirm_35 : decode cX10_confirm 35 = .ok (.aload_n 0, 1) := by decide +kernel
theorem dX10_confirm_36 : decode cX10_confirm 36 = .ok (.iconst 5, 1) := by decide +kernel
theorem dX10_confirm_37 : decode cX10_confirm 37 = .ok (.invokevirtual 89, 3) := by decide +kernel
theorem dX10_confirm_40 : decode cX10_confirm 40 = .ok (.ireturn, 1) := by decide +kernel
theorem dX10_confirm_41 : decode cX10_confirm 41 = .ok (.aload_n 0, 1) := by decide +kernel
theorem dX10_confirm_42 : decode cX10_confirm 42 = .ok (.getfield 70, 3) := by decide +kernel
theorem dX10_confirm_45 : decode cX10_confirm 45 = .ok (.iload_n 1, 1) := by decide +kernel
theorem dX10_confirm_46 : decode cX10_confirm 46 = .ok (.iaload, 1) := by decide +kernel
theorem dX10_confirm_47 : decode cX10_confirm 47 = .ok (.ifCond .lt 10, 3) := by decide +kernel
theorem dX10_confirm_50 : decode cX10_confirm 50 = .ok (.aload_n 0, 1) := by decide +kernel
theorem dX10_confirm_51 : decode cX10_confirm 51 = .ok (.bipush 8, 2) := by decide +kernel
theorem dX10_confirm_53 : decode cX10_confirm 53 = .ok (.invokevirtual 89, 3) := by decide +kernel
theorem dX10_confirm_56 : decode cX10_confirm 56 = .ok (.ireturn, 1) := by decide +kernel
theorem dX10_confirm_57 : decode cX10_confirm 57 = .ok (.aload_n 0, 1) := by decide +kernel
theorem dX10_confirm_58 : decode cX10_confirm 58 = .ok (.getfield 70, 3) := by decide +kernel
theorem dX10_confirm_61 : decode cX10_confirm 61 = .ok (.iload_n 1, 1) := by decide +kernel
theorem dX10_confirm_62 : decode cX10_confirm 62 = .ok (.iload_n 2, 1) := by decide +kernel
theorem dX10_confirm_63 : decode cX10_confirm 63 = .ok (.iastore, 1) := by decide +kernel
theorem dX10_confirm_64 : decode cX10_confirm 64 = .ok (.iconst 1, 1) := by decide +kernel
theorem dX10_confirm_65 : decode cX10_confirm 65 = .ok (.ireturn, 1) := by decide +kernel
theorem dX10_isReached_0 : decode cX10_isReached 0 = .ok (.iload_n 2, 1) := by decide +kernel
theorem dX10_isReached_1 : decode cX10_isReached 1 = .ok (.istore_n 3, 1) := by decide +kernel
theorem dX10_isReached_2 : decode cX10_isReached 2 = .ok (.iload_n 1, 1) := by decide +kernel
theorem dX10_isReached_3 : decode cX10_isReached 3 = .ok (.istore 4, 2) := by decide +kernel
theorem dX10_isReached_5 : decode cX10_isReached 5 = .ok (.iload 4, 2) := by decide +kernel
theorem dX10_isReached_7 : decode cX10_isReached 7 = .ok (.ifCond .lt 63, 3) := by decide +kernel
theorem dX10_isReached_10 : decode cX10_isReached 10 = .ok (.aload_n 0, 1) := by decide +kernel
theorem dX10_isReached_11 : decode cX10_isReached 11 = .ok (.getfield 70, 3) := by decide +kernel
theorem dX10_isReached_14 : decode cX10_isReached 14 = .ok (.iload 4, 2) := by decide +kernel
theorem dX10_isReached_16 : decode cX10_isReached 16 = .ok (.iaload, 1) := by decide +kernel
theorem dX10_isReached_17 : decode cX10_isReached 17 = .ok (.ifCond .lt 31, 3) := by decide +kernel
theorem dX10_isReached_20 : decode cX10_isReached 20 = .ok (.aload_n 0, 1) := by decide +kernel
theorem dX10_isReached_21 : decode cX10_isReached 21 = .ok (.getfield 70, 3) := by decide +kernel
theorem dX10_isReached_24 : decode cX10_isReached 24 = .ok (.iload 4, 2) := by decide +kernel
theorem dX10_isReached_26 : decode cX10_isReached 26 = .ok (.iaload, 1) := by decide +kernel
theorem dX10_isReached_27 : decode cX10_isReached 27 = .ok (.iload_n 3, 1) := by decide +kernel
theorem dX10_isReached_28 : decode cX10_isReached 28 = .ok (.if_icmp .gt 20, 3) := by decide +kernel
theorem dX10_isReached_31 : decode cX10_isReached 31 = .ok (.aload_n 0, 1) := by decide +kernel
theorem dX10_isReached_32 : decode cX10_isReached 32 = .ok (.getfield 70, 3) := by decide +kernel
theorem dX10_isReached_35 : decode cX10_isReached 35 = .ok (.iload 4, 2) := by decide +kernel
theorem dX10_isReached_37 : decode cX10_isReached 37 = .ok (.iaload, 1) := by decide +kernel
theorem dX10_isReached_38 : decode cX10_isReached 38 = .ok (.aload_n 0, 1) := by decide +kernel
theorem dX10_isReached_39 : decode cX10_isReached 39 = .ok (.getfield 64, 3) := by decide +kernel
theorem dX10_isReached_42 : decode cX10_isReached 42 = .ok (.iload 4, 2) := by decide +kernel
theorem dX10_isReached_44 : decode cX10_isReached 44 = .ok (.iaload, 1) := by decide +kernel
theorem dX10_isReached_45 : decode cX10_isReached 45 = .ok (.if_icmp .le 5, 3) := by decide +kernel
theorem dX10_isReached_48 : decode cX10_isReached 48 = .ok (.iconst 0, 1) := by decide +kernel
theorem dX10_isReached_49 : decode cX10_isReached 49 = .ok (.ireturn, 1) := by decide +kernel
theorem dX10_isReached_50 : decode cX10_isReached 50 = .ok (.aload_n 0, 1) := by decide +kernel
theorem dX10_isReached_51 : decode cX10_isReached 51 = .ok (.getfield 70, 3) := by decide +kernel
theorem dX10_isReached_54 : decode cX10_isReached 54 = .ok (.iload 4, 2) := by decide +kernel
theorem dX10_isReached_56 : decode cX10_isReached 56 = .ok (.iaload, 1) := by decide +kernel
theorem dX10_isReached_57 : decode cX10_isReached 57 = .ok (.istore_n 3, 1) := by decide +kernel
theorem dX10_isReached_58 : decode cX10_isReached 58 = .ok (.aload_n 0, 1) := by decide +kernel
theorem dX10_isReached_59 : decode cX10_isReached 59 = .ok (.getfield 67, 3) := by decide +kernel
theorem dX10_isReached_62 : decode cX10_isReached 62 = .ok (.iload 4, 2) := by decide +kernel
theorem dX10_isReached_64 : decode cX10_isReached 64 = .ok (.iaload, 1) := by decide +kernel
theorem dX10_isReached_65 : decode cX10_isReached 65 = .ok (.istore 4, 2) := by decide +kernel
theorem dX10_isReached_67 : decode cX10_isReached 67 = .ok (.goto (-62), 3) := by decide +kernel
theorem dX10_isReached_70 : decode cX10_isReached 70 = .ok (.iconst 1, 1) := by decide +kernel
theorem dX10_isReached_71 : decode cX10_isReached 71 = .ok (.ireturn, 1) := by decide +kernel
theorem dX10_goalAt_0 : decode cX10_goalAt 0 = .ok (.aload_n 0, 1) := by decide +kernel
theorem dX10_goalAt_1 : decode cX10_goalAt 1 = .ok (.iconst 0, 1) := by decide +kernel
theorem dX10_goalAt_2 : decode cX10_goalAt 2 = .ok (.putfield 82, 3) := by decide +kernel
theorem dX10_goalAt_5 : decode cX10_goalAt 5 = .ok (.aload_n 0, 1) := by decide +kernel
theorem dX10_goalAt_6 : decode cX10_goalAt 6 = .ok (.iconst 0, 1) := by decide +kernel
theorem dX10_goalAt_7 : decode cX10_goalAt 7 = .ok (.putfield 86, 3) := by decide +kernel
theorem dX10_goalAt_10 : decode cX10_goalAt 10 = .ok (.iload_n 1, 1) := by decide +kernel
theorem dX10_goalAt_11 : decode cX10_goalAt 11 = .ok (.ifCond .lt 11, 3) := by decide +kernel
theorem dX10_goalAt_14 : decode cX10_goalAt 14 = .ok (.iload_n 1, 1) := by decide +kernel
theorem dX10_goalAt_15 : decode cX10_goalAt 15 = .ok (.aload_n 0, 1) := by decide +kernel
theorem dX10_goalAt_16 : decode cX10_goalAt 16 = .ok (.getfield 171, 3) := by decide +kernel
theorem dX10_goalAt_19 : decode cX10_goalAt 19 = .ok (.if_icmp .lt 9, 3) := by decide +kernel
theorem dX10_goalAt_22 : decode cX10_goalAt 22 = .ok (.aload_n 0, 1) := by decide +kernel
theorem dX10_goalAt_23 : decode cX10_goalAt 23 = .ok (.iconst 2, 1) := by decide +kernel
theorem dX10_goalAt_24 : decode cX10_goalAt 24 = .ok (.invokevirtual 113, 3) := by decide +kernel
theorem dX10_goalAt_27 : decode cX10_goalAt 27 = .ok (.ireturn, 1) := by decide +kernel
theorem dX10_goalAt_28 : decode cX10_goalAt 28 = .ok (.iload_n 2, 1) := by decide +kernel
theorem dX10_goalAt_29 : decode cX10_goalAt 29 = .ok (.invokestatic 162, 3) := by decide +kernel
theorem dX10_goalAt_32 : decode cX10_goalAt 32 = .ok (.ifCond .ne 9, 3) := by decide +kernel
theorem dX10_goalAt_35 : decode cX10_goalAt 35 = .ok (.aload_n 0, 1) := by decide +kernel
theorem dX10_goalAt_36 : decode cX10_goalAt 36 = .ok (.iconst 5, 1) := by decide +kernel
theorem dX10_goalAt_37 : decode cX10_goalAt 37 = .ok (.invokevirtual 113, 3) := by decide +kernel
theorem dX10_goalAt_40 : decode cX10_goalAt 40 = .ok (.ireturn, 1) := by decide +kernel
theorem dX10_goalAt_41 : decode cX10_goalAt 41 = .ok (.aload_n 0, 1) := by decide +kernel
theorem dX10_goalAt_42 : decode cX10_goalAt 42 = .ok (.iload_n 1, 1) := by decide +kernel
theorem dX10_goalAt_43 : decode cX10_goalAt 43 = .ok (.iload_n 2, 1) := by decide +kernel
theorem dX10_goalAt_44 : decode cX10_goalAt 44 = .ok (.invokevirtual 174, 3) := by decide +kernel
theorem dX10_goalAt_47 : decode cX10_goalAt 47 = .ok (.ifCond .eq 7, 3) := by decide +kernel
theorem dX10_goalAt_50 : decode cX10_goalAt 50 = .ok (.iconst 1, 1) := by decide +kernel
theorem dX10_goalAt_51 : decode cX10_goalAt 51 = .ok (.goto 18, 3) := by decide +kernel
theorem dX10_goalAt_54 : decode cX10_goalAt 54 = .ok (.iload_n 2, 1) := by decide +kernel
theorem dX10_goalAt_55 : decode cX10_goalAt 55 = .ok (.aload_n 0, 1) := by decide +kernel
theorem dX10_goalAt_56 : decode cX10_goalAt 56 = .ok (.getfield 64, 3) := by decide +kernel
theorem dX10_goalAt_59 : decode cX10_goalAt 59 = .ok (.iload_n 1, 1) := by decide +kernel
theorem dX10_goalAt_60 : decode cX10_goalAt 60 = .ok (.iaload, 1) := by decide +kernel
theorem dX10_goalAt_61 : decode cX10_goalAt 61 = .ok (.if_icmp .le 7, 3) := by decide +kernel
theorem dX10_goalAt_64 : decode cX10_goalAt 64 = .ok (.iconst 2, 1) := by decide +kernel
theorem dX10_goalAt_65 : decode cX10_goalAt 65 = .ok (.goto 4, 3) := by decide +kernel
theorem dX10_goalAt_68 : decode cX10_goalAt 68 = .ok (.iconst 0, 1) := by decide +kernel
theorem dX10_goalAt_69 : decode cX10_goalAt 69 = .ok (.ireturn, 1) := by decide +kernel
theorem dX10_common_0 : decode cX10_common 0 = .ok (.lload_n 0, 1) := by decide +kernel
theorem dX10_common_1 : decode cX10_common 1 = .ok (.invokestatic 177, 3) := by decide +kernel
theorem dX10_common_4 : decode cX10_common 4 = .ok (.lstore 4, 2) := by decide +kernel
theorem dX10_common_6 : decode cX10_common 6 = .ok (.lload_n 2, 1) := by decide +kernel
theorem dX10_common_7 : decode cX10_common 7 = .ok (.invokestatic 177, 3) := by decide +kernel
theorem dX10_common_10 : decode cX10_common 10 = .ok (.lstore 6, 2) := by decide +kernel
theorem dX10_common_12 : decode cX10_common 12 = .ok (.lload 6, 2) := by decide +kernel
theorem dX10_common_14 : decode cX10_common 14 = .ok (.lconst 0, 1) := by decide +kernel
theorem dX10_common_15 : decode cX10_common 15 = .ok (.lcmp, 1) := by decide +kernel
theorem dX10_common_16 : decode cX10_common 16 = .ok (.ifCond .eq 21, 3) := by decide +kernel
theorem dX10_common_19 : decode cX10_common 19 = .ok (.lload 4, 2) := by decide +kernel
theorem dX10_common_21 : decode cX10_common 21 = .ok (.lload 6, 2) := by decide +kernel
theorem dX10_common_23 : decode cX10_common 23 = .ok (.lrem, 1) := by decide +kernel
theorem dX10_common_24 : decode cX10_common 24 = .ok (.lstore 8, 2) := by decide +kernel
theorem dX10_common_26 : decode cX10_common 26 = .ok (.lload 6, 2) := by decide +kernel
theorem dX10_common_28 : decode cX10_common 28 = .ok (.lstore 4, 2) := by decide +kernel
theorem dX10_common_30 : decode cX10_common 30 = .ok (.lload 8, 2) := by decide +kernel
theorem dX10_common_32 : decode cX10_common 32 = .ok (.lstore 6, 2) := by decide +kernel
theorem dX10_common_34 : decode cX10_common 34 = .ok (.goto (-22), 3) := by decide +kernel
theorem dX10_common_37 : decode cX10_common 37 = .ok (.lload 4, 2) := by decide +kernel
theorem dX10_common_39 : decode cX10_common 39 = .ok (.lreturn, 1) := by decide +kernel
theorem dX10_tells_0 : decode cX10_tells 0 = .ok (.lload_n 1, 1) := by decide +kernel
theorem dX10_tells_1 : decode cX10_tells 1 = .ok (.lload_n 3, 1) := by decide +kernel
theorem dX10_tells_2 : decode cX10_tells 2 = .ok (.invokestatic 183, 3) := by decide +kernel
theorem dX10_tells_5 : decode cX10_tells 5 = .ok (.lstore 5, 2) := by decide +kernel
theorem dX10_tells_7 : decode cX10_tells 7 = .ok (.aload_n 0, 1) := by decide +kernel
theorem dX10_tells_8 : decode cX10_tells 8 = .ok (.lload_n 1, 1) := by decide +kernel
theorem dX10_tells_9 : decode cX10_tells 9 = .ok (.lload 5, 2) := by decide +kernel
theorem dX10_tells_11 : decode cX10_tells 11 = .ok (.ldiv, 1) := by decide +kernel
theorem dX10_tells_12 : decode cX10_tells 12 = .ok (.putfield 187, 3) := by decide +kernel
theorem dX10_tells_15 : decode cX10_tells 15 = .ok (.aload_n 0, 1) := by decide +kernel
theorem dX10_tells_16 : decode cX10_tells 16 = .ok (.lload_n 3, 1) := by decide +kernel
theorem dX10_tells_17 : decode cX10_tells 17 = .ok (.lload 5, 2) := by decide +kernel
theorem dX10_tells_19 : decode cX10_tells 19 = .ok (.ldiv, 1) := by decide +kernel
theorem dX10_tells_20 : decode cX10_tells 20 = .ok (.putfield 7, 3) := by decide +kernel
theorem dX10_tells_23 : decode cX10_tells 23 = .ok (.iconst 1, 1) := by decide +kernel
theorem dX10_tells_24 : decode cX10_tells 24 = .ok (.ireturn, 1) := by decide +kernel
theorem dX10_run_0 : decode cX10_run 0 = .ok (.aload_n 0, 1) := by decide +kernel
theorem dX10_run_1 : decode cX10_run 1 = .ok (.iconst 0, 1) := by decide +kernel
theorem dX10_run_2 : decode cX10_run 2 = .ok (.putfield 82, 3) := by decide +kernel
theorem dX10_run_5 : decode cX10_run 5 = .ok (.aload_n 0, 1) := by decide +kernel
theorem dX10_run_6 : decode cX10_run 6 = .ok (.iconst 0, 1) := by decide +kernel
theorem dX10_run_7 : decode cX10_run 7 = .ok (.putfield 86, 3) := by decide +kernel
theorem dX10_run_10 : decode cX10_run 10 = .ok (.iload_n 1, 1) := by decide +kernel
theorem dX10_run_11 : decode cX10_run 11 = .ok (.iconst 1, 1) := by decide +kernel
theorem dX10_run_12 : decode cX10_run 12 = .ok (.if_icmp .lt 9, 3) := by decide +kernel
theorem dX10_run_15 : decode cX10_run 15 = .ok (.iload_n 1, 1) := by decide +kernel
theorem dX10_run_16 : decode cX10_run 16 = .ok (.bipush 60, 2) := by decide +kernel
theorem dX10_run_18 : decode cX10_run 18 = .ok (.if_icmp .le 9, 3) := by decide +kernel
theorem dX10_run_21 : decode cX10_run 21 = .ok (.aload_n 0, 1) := by decide +kernel
theorem dX10_run_22 : decode cX10_run 22 = .ok (.iconst 5, 1) := by decide +kernel
theorem dX10_run_23 : decode cX10_run 23 = .ok (.invokevirtual 89, 3) := by decide +kernel
theorem dX10_run_26 : decode cX10_run 26 = .ok (.ireturn, 1) := by decide +kernel
theorem dX10_run_27 : decode cX10_run 27 = .ok (.aload_n 0, 1) := by decide +kernel
theorem dX10_run_28 : decode cX10_run 28 = .ok (.getfield 190, 3) := by decide +kernel
theorem dX10_run_31 : decode cX10_run 31 = .ok (.bipush 16, 2) := by decide +kernel
theorem dX10_run_33 : decode cX10_run 33 = .ok (.if_icmp .ne 10, 3) := by decide +kernel
theorem dX10_run_36 : decode cX10_run 36 = .ok (.aload_n 0, 1) := by decide +kernel
theorem dX10_run_37 : decode cX10_run 37 = .ok (.bipush 7, 2) := by decide +kernel
theorem dX10_run_39 : decode cX10_run 39 = .ok (.invokevirtual 89, 3) := by decide +kernel
theorem dX10_run_42 : decode cX10_run 42 = .ok (.ireturn, 1) := by decide +kernel
theorem dX10_run_43 : decode cX10_run 43 = .ok (.aload_n 0, 1) := by decide +kernel
theorem dX10_run_44 : decode cX10_run 44 = .ok (.getfield 73, 3) := by decide +kernel
theorem dX10_run_47 : decode cX10_run 47 = .ok (.aload_n 0, 1) := by decide +kernel
theorem dX10_run_48 : decode cX10_run 48 = .ok (.getfield 190, 3) := by decide +kernel
theorem dX10_run_51 : decode cX10_run 51 = .ok (.iload_n 1, 1) := by decide +kernel
theorem dX10_run_52 : decode cX10_run 52 = .ok (.iastore, 1) := by decide +kernel
theorem dX10_run_53 : decode cX10_run 53 = .ok (.aload_n 0, 1) := by decide +kernel
theorem dX10_run_54 : decode cX10_run 54 = .ok (.getfield 76, 3) := by decide +kernel
theorem dX10_run_57 : decode cX10_run 57 = .ok (.aload_n 0, 1) := by decide +kernel
theorem dX10_run_58 : decode cX10_run 58 = .ok (.getfield 190, 3) := by decide +kernel
theorem dX10_run_61 : decode cX10_run 61 = .ok (.iload_n 2, 1) := by decide +kernel
theorem dX10_run_62 : decode cX10_run 62 = .ok (.bastore, 1) := by decide +kernel
theorem dX10_run_63 : decode cX10_run 63 = .ok (.aload_n 0, 1) := by decide +kernel
theorem dX10_run_64 : decode cX10_run 64 = .ok (.dup, 1) := by decide +kernel
theorem dX10_run_65 : decode cX10_run 65 = .ok (.getfield 190, 3) := by decide +kernel
theorem dX10_run_68 : decode cX10_run 68 = .ok (.iconst 1, 1) := by decide +kernel
theorem dX10_run_69 : decode cX10_run 69 = .ok (.iadd, 1) := by decide +kernel
theorem dX10_run_70 : decode cX10_run 70 = .ok (.putfield 190, 3) := by decide +kernel
theorem dX10_run_73 : decode cX10_run 73 = .ok (.iconst 1, 1) := by decide +kernel
theorem dX10_run_74 : decode cX10_run 74 = .ok (.ireturn, 1) := by decide +kernel
theorem dX10_clear_0 : decode cX10_clear 0 = .ok (.aload_n 0, 1) := by decide +kernel
theorem dX10_clear_1 : decode cX10_clear 1 = .ok (.iconst 0, 1) := by decide +kernel
theorem dX10_clear_2 : decode cX10_clear 2 = .ok (.putfield 82, 3) := by decide +kernel
theorem dX10_clear_5 : decode cX10_clear 5 = .ok (.aload_n 0, 1) := by decide +kernel
theorem dX10_clear_6 : decode cX10_clear 6 = .ok (.iconst 0, 1) := by decide +kernel
theorem dX10_clear_7 : decode cX10_clear 7 = .ok (.putfield 86, 3) := by decide +kernel
theorem dX10_clear_10 : decode cX10_clear 10 = .ok (.aload_n 0, 1) := by decide +kernel
theorem dX10_clear_11 : decode cX10_clear 11 = .ok (.iconst 0, 1) := by decide +kernel
theorem dX10_clear_12 : decode cX10_clear 12 = .ok (.putfield 190, 3) := by decide +kernel
theorem dX10_clear_15 : decode cX10_clear 15 = .ok (.iconst 1, 1) := by decide +kernel
theorem dX10_clear_16 : decode cX10_clear 16 = .ok (.ireturn, 1) := by decide +kernel
theorem dX10_lasts_0 : decode cX10_lasts 0 = .ok (.aload_n 0, 1) := by decide +kernel
theorem dX10_lasts_1 : decode cX10_lasts 1 = .ok (.iconst 0, 1) := by decide +kernel
theorem dX10_lasts_2 : decode cX10_lasts 2 = .ok (.putfield 82, 3) := by decide +kernel
theorem dX10_lasts_5 : decode cX10_lasts 5 = .ok (.aload_n 0, 1) := by decide +kernel
theorem dX10_lasts_6 : decode cX10_lasts 6 = .ok (.iconst 0, 1) := by decide +kernel
theorem dX10_lasts_7 : decode cX10_lasts 7 = .ok (.putfield 86, 3) := by decide +kernel
theorem dX10_lasts_10 : decode cX10_lasts 10 = .ok (.iload_n 1, 1) := by decide +kernel
theorem dX10_lasts_11 : decode cX10_lasts 11 = .ok (.ifCond .lt 9, 3) := by decide +kernel
theorem dX10_lasts_14 : decode cX10_lasts 14 = .ok (.iload_n 1, 1) := by decide +kernel
theorem dX10_lasts_15 : decode cX10_lasts 15 = .ok (.bipush 60, 2) := by decide +kernel
theorem dX10_lasts_17 : decode cX10_lasts 17 = .ok (.if_icmp .le 9, 3) := by decide +kernel
theorem dX10_lasts_20 : decode cX10_lasts 20 = .ok (.aload_n 0, 1) := by decide +kernel
theorem dX10_lasts_21 : decode cX10_lasts 21 = .ok (.iconst 5, 1) := by decide +kernel
theorem dX10_lasts_22 : decode cX10_lasts 22 = .ok (.invokevirtual 89, 3) := by decide +kernel
theorem dX10_lasts_25 : decode cX10_lasts 25 = .ok (.ireturn, 1) := by decide +kernel
theorem dX10_lasts_26 : decode cX10_lasts 26 = .ok (.aload_n 0, 1) := by decide +kernel
theorem dX10_lasts_27 : decode cX10_lasts 27 = .ok (.getfield 190, 3) := by decide +kernel
theorem dX10_lasts_30 : decode cX10_lasts 30 = .ok (.ifCond .ne 10, 3) := by decide +kernel
theorem dX10_lasts_33 : decode cX10_lasts 33 = .ok (.aload_n 0, 1) := by decide +kernel
theorem dX10_lasts_34 : decode cX10_lasts 34 = .ok (.bipush 9, 2) := by decide +kernel
theorem dX10_lasts_36 : decode cX10_lasts 36 = .ok (.invokevirtual 89, 3) := by decide +kernel
theorem dX10_lasts_39 : decode cX10_lasts 39 = .ok (.ireturn, 1) := by decide +kernel
theorem dX10_lasts_40 : decode cX10_lasts 40 = .ok (.lconst 1, 1) := by decide +kernel
theorem dX10_lasts_41 : decode cX10_lasts 41 = .ok (.lstore_n 2, 1) := by decide +kernel
theorem dX10_lasts_42 : decode cX10_lasts 42 = .ok (.lconst 1, 1) := by decide +kernel
theorem dX10_lasts_43 : decode cX10_lasts 43 = .ok (.lstore 4, 2) := by decide +kernel
theorem dX10_lasts_45 : decode cX10_lasts 45 = .ok (.iconst 1, 1) := by decide +kernel
theorem dX10_lasts_46 : decode cX10_lasts 46 = .ok (.istore 6, 2) := by decide +kernel
theorem dX10_lasts_48 : decode cX10_lasts 48 = .ok (.iload 6, 2) := by decide +kernel
theorem dX10_lasts_50 : decode cX10_lasts 50 = .ok (.iload_n 1, 1) := by decide +kernel
theorem dX10_lasts_51 : decode cX10_lasts 51 = .ok (.if_icmp .gt 112, 3) := by decide +kernel
theorem dX10_lasts_54 : decode cX10_lasts 54 = .ok (.iconst 0, 1) := by decide +kernel
theorem dX10_lasts_55 : decode cX10_lasts 55 = .ok (.istore 7, 2) := by decide +kernel
theorem dX10_lasts_57 : decode cX10_lasts 57 = .ok (.iconst 0, 1) := by decide +kernel
theorem dX10_lasts_58 : decode cX10_lasts 58 = .ok (.istore 8, 2) := by decide +kernel
theorem dX10_lasts_60 : decode cX10_lasts 60 = .ok (.iconst 0, 1) := by decide +kernel
theorem dX10_lasts_61 : decode cX10_lasts 61 = .ok (.istore 9, 2) := by decide +kernel
theorem dX10_lasts_63 : decode cX10_lasts 63 = .ok (.iload 9, 2) := by decide +kernel
theorem dX10_lasts_65 : decode cX10_lasts 65 = .ok (.aload_n 0, 1) := by decide +kernel
theorem dX10_lasts_66 : decode cX10_lasts 66 = .ok (.getfield 190, 3) := by decide +kernel
theorem dX10_lasts_69 : decode cX10_lasts 69 = .ok (.if_icmp .ge 63, 3) := by decide +kernel
theorem dX10_lasts_72 : decode cX10_lasts 72 = .ok (.iload 7, 2) := by decide +kernel
theorem dX10_lasts_74 : decode cX10_lasts 74 = .ok (.aload_n 0, 1) := by decide +kernel
theorem dX10_lasts_75 : decode cX10_lasts 75 = .ok (.getfield 73, 3) := by decide +kernel
theorem dX10_lasts_78 : decode cX10_lasts 78 = .ok (.iload 9, 2) := by decide +kernel
theorem dX10_lasts_80 : decode cX10_lasts 80 = .ok (.iaload, 1) := by decide +kernel
theorem dX10_lasts_81 : decode cX10_lasts 81 = .ok (.iload 6, 2) := by decide +kernel
theorem dX10_lasts_83 : decode cX10_lasts 83 = .ok (.if_icmp .ne 17, 3) := by decide +kernel
theorem dX10_lasts_86 : decode cX10_lasts 86 = .ok (.aload_n 0, 1) := by decide +kernel
theorem dX10_lasts_87 : decode cX10_lasts 87 = .ok (.getfield 76, 3) := by decide +kernel
theorem dX10_lasts_90 : decode cX10_lasts 90 = .ok (.iload 9, 2) := by decide +kernel
theorem dX10_lasts_92 : decode cX10_lasts 92 = .ok (.baload, 1) := by decide +kernel
theorem dX10_lasts_93 : decode cX10_lasts 93 = .ok (.ifCond .eq 7, 3) := by decide +kernel
theorem dX10_lasts_96 : decode cX10_lasts 96 = .ok (.iconst 1, 1) := by decide +kernel
theorem dX10_lasts_97 : decode cX10_lasts 97 = .ok (.goto 4, 3) := by decide +kernel
theorem dX10_lasts_100 : decode cX10_lasts 100 = .ok (.iconst 0, 1) := by decide +kernel
theorem dX10_lasts_101 : decode cX10_lasts 101 = .ok (.iadd, 1) := by decide +kernel
theorem dX10_lasts_102 : decode cX10_lasts 102 = .ok (.istore 7, 2) := by decide +kernel
theorem dX10_lasts_104 : decode cX10_lasts 104 = .ok (.iload 8, 2) := by decide +kernel
theorem dX10_lasts_106 : decode cX10_lasts 106 = .ok (.aload_n 0, 1) := by decide +kernel
theorem dX10_lasts_107 : decode cX10_lasts 107 = .ok (.getfield 73, 3) := by decide +kernel
theorem dX10_lasts_110 : decode cX10_lasts 110 = .ok (.iload 9, 2) := by decide +kernel
theorem dX10_lasts_112 : decode cX10_lasts 112 = .ok (.iaload, 1) := by decide +kernel
theorem dX10_lasts_113 : decode cX10_lasts 113 = .ok (.iload 6, 2) := by decide +kernel
theorem dX10_lasts_115 : decode cX10_lasts 115 = .ok (.if_icmp .lt 7, 3) := by decide +kernel
theorem dX10_lasts_118 : decode cX10_lasts 118 = .ok (.iconst 1, 1) := by decide +kernel
theorem dX10_lasts_119 : decode cX10_lasts 119 = .ok (.goto 4, 3) := by decide +kernel
theorem dX10_lasts_122 : decode cX10_lasts 122 = .ok (.iconst 0, 1) := by decide +kernel
theorem dX10_lasts_123 : decode cX10_lasts 123 = .ok (.iadd, 1) := by decide +kernel
theorem dX10_lasts_124 : decode cX10_lasts 124 = .ok (.istore 8, 2) := by decide +kernel
theorem dX10_lasts_126 : decode cX10_lasts 126 = .ok (.iinc 9 1, 3) := by decide +kernel
theorem dX10_lasts_129 : decode cX10_lasts 129 = .ok (.goto (-66), 3) := by decide +kernel
theorem dX10_lasts_132 : decode cX10_lasts 132 = .ok (.iload 7, 2) := by decide +kernel
theorem dX10_lasts_134 : decode cX10_lasts 134 = .ok (.ifCond .ne 6, 3) := by decide +kernel
theorem dX10_lasts_137 : decode cX10_lasts 137 = .ok (.goto 20, 3) := by decide +kernel
theorem dX10_lasts_140 : decode cX10_lasts 140 = .ok (.lload_n 2, 1) := by decide +kernel
theorem dX10_lasts_141 : decode cX10_lasts 141 = .ok (.iload 8, 2) := by decide +kernel
theorem dX10_lasts_143 : decode cX10_lasts 143 = .ok (.iload 7, 2) := by decide +kernel
theorem dX10_lasts_145 : decode cX10_lasts 145 = .ok (.isub, 1) := by decide +kernel
theorem dX10_lasts_146 : decode cX10_lasts 146 = .ok (.i2l, 1) := by decide +kernel
theorem dX10_lasts_147 : decode cX10_lasts 147 = .ok (.lmul, 1) := by decide +kernel
theorem dX10_lasts_148 : decode cX10_lasts 148 = .ok (.lstore_n 2, 1) := by decide +kernel
theorem dX10_lasts_149 : decode cX10_lasts 149 = .ok (.lload 4, 2) := by decide +kernel
theorem dX10_lasts_151 : decode cX10_lasts 151 = .ok (.iload 8, 2) := by decide +kernel
theorem dX10_lasts_153 : decode cX10_lasts 153 = .ok (.i2l, 1) := by decide +kernel
theorem dX10_lasts_154 : decode cX10_lasts 154 = .ok (.lmul, 1) := by decide +kernel
theorem dX10_lasts_155 : decode cX10_lasts 155 = .ok (.lstore 4, 2) := by decide +kernel
theorem dX10_lasts_157 : decode cX10_lasts 157 = .ok (.iinc 6 1, 3) := by decide +kernel
theorem dX10_lasts_160 : decode cX10_lasts 160 = .ok (.goto (-112), 3) := by decide +kernel
theorem dX10_lasts_163 : decode cX10_lasts 163 = .ok (.aload_n 0, 1) := by decide +kernel
theorem dX10_lasts_164 : decode cX10_lasts 164 = .ok (.lload_n 2, 1) := by decide +kernel
theorem dX10_lasts_165 : decode cX10_lasts 165 = .ok (.lload 4, 2) := by decide +kernel
theorem dX10_lasts_167 : decode cX10_lasts 167 = .ok (.invokevirtual 193, 3) := by decide +kernel
theorem dX10_lasts_170 : decode cX10_lasts 170 = .ok (.ireturn, 1) := by decide +kernel
theorem dX10_upper_0 : decode cX10_upper 0 = .ok (.aload_n 0, 1) := by decide +kernel
theorem dX10_upper_1 : decode cX10_upper 1 = .ok (.iconst 0, 1) := by decide +kernel
theorem dX10_upper_2 : decode cX10_upper 2 = .ok (.putfield 82, 3) := by decide +kernel
theorem dX10_upper_5 : decode cX10_upper 5 = .ok (.aload_n 0, 1) := by decide +kernel
theorem dX10_upper_6 : decode cX10_upper 6 = .ok (.getfield 187, 3) := by decide +kernel
theorem dX10_upper_9 : decode cX10_upper 9 = .ok (.lreturn, 1) := by decide +kernel
theorem dX10_lower_0 : decode cX10_lower 0 = .ok (.aload_n 0, 1) := by decide +kernel
theorem dX10_lower_1 : decode cX10_lower 1 = .ok (.iconst 0, 1) := by decide +kernel
theorem dX10_lower_2 : decode cX10_lower 2 = .ok (.putfield 82, 3) := by decide +kernel
theorem dX10_lower_5 : decode cX10_lower 5 = .ok (.aload_n 0, 1) := by decide +kernel
theorem dX10_lower_6 : decode cX10_lower 6 = .ok (.getfield 7, 3) := by decide +kernel
theorem dX10_lower_9 : decode cX10_lower 9 = .ok (.lreturn, 1) := by decide +kernel
theorem dX10_trial_0 : decode cX10_trial 0 = .ok (.aload_n 0, 1) := by decide +kernel
theorem dX10_trial_1 : decode cX10_trial 1 = .ok (.iload_n 1, 1) := by decide +kernel
theorem dX10_trial_2 : decode cX10_trial 2 = .ok (.invokevirtual 93, 3) := by decide +kernel
theorem dX10_trial_5 : decode cX10_trial 5 = .ok (.istore 4, 2) := by decide +kernel
theorem dX10_trial_7 : decode cX10_trial 7 = .ok (.iload 4, 2) := by decide +kernel
theorem dX10_trial_9 : decode cX10_trial 9 = .ok (.ifCond .le 6, 3) := by decide +kernel
theorem dX10_trial_12 : decode cX10_trial 12 = .ok (.iload 4, 2) := by decide +kernel
theorem dX10_trial_14 : decode cX10_trial 14 = .ok (.ireturn, 1) := by decide +kernel
theorem dX10_trial_15 : decode cX10_trial 15 = .ok (.iload_n 2, 1) := by decide +kernel
theorem dX10_trial_16 : decode cX10_trial 16 = .ok (.iconst 2, 1) := by decide +kernel
theorem dX10_trial_17 : decode cX10_trial 17 = .ok (.if_icmp .lt 9, 3) := by decide +kernel
theorem dX10_trial_20 : decode cX10_trial 20 = .ok (.iload_n 2, 1) := by decide +kernel
theorem dX10_trial_21 : decode cX10_trial 21 = .ok (.bipush 16, 2) := by decide +kernel
theorem dX10_trial_23 : decode cX10_trial 23 = .ok (.if_icmp .le 5, 3) := by decide +kernel
theorem dX10_trial_26 : decode cX10_trial 26 = .ok (.iconst 5, 1) := by decide +kernel
theorem dX10_trial_27 : decode cX10_trial 27 = .ok (.ireturn, 1) := by decide +kernel
theorem dX10_trial_28 : decode cX10_trial 28 = .ok (.iload_n 2, 1) := by decide +kernel
theorem dX10_trial_29 : decode cX10_trial 29 = .ok (.aload_n 0, 1) := by decide +kernel
theorem dX10_trial_30 : decode cX10_trial 30 = .ok (.getfield 17, 3) := by decide +kernel
theorem dX10_trial_33 : decode cX10_trial 33 = .ok (.iload_n 1, 1) := by decide +kernel
theorem dX10_trial_34 : decode cX10_trial 34 = .ok (.iaload, 1) := by decide +kernel
theorem dX10_trial_35 : decode cX10_trial 35 = .ok (.if_icmp .le 5, 3) := by decide +kernel
theorem dX10_trial_38 : decode cX10_trial 38 = .ok (.iconst 4, 1) := by decide +kernel
theorem dX10_trial_39 : decode cX10_trial 39 = .ok (.ireturn, 1) := by decide +kernel
theorem dX10_trial_40 : decode cX10_trial 40 = .ok (.iload_n 3, 1) := by decide +kernel
theorem dX10_trial_41 : decode cX10_trial 41 = .ok (.iconst 1, 1) := by decide +kernel
theorem dX10_trial_42 : decode cX10_trial 42 = .ok (.if_icmp .lt 12, 3) := by decide +kernel
theorem dX10_trial_45 : decode cX10_trial 45 = .ok (.iload_n 3, 1) := by decide +kernel
theorem dX10_trial_46 : decode cX10_trial 46 = .ok (.iconst 1, 1) := by decide +kernel
theorem dX10_trial_47 : decode cX10_trial 47 = .ok (.iload_n 2, 1) := by decide +kernel
theorem dX10_trial_48 : decode cX10_trial 48 = .ok (.ishl, 1) := by decide +kernel
theorem dX10_trial_49 : decode cX10_trial 49 = .ok (.iconst 1, 1) := by decide +kernel
theorem dX10_trial_50 : decode cX10_trial 50 = .ok (.isub, 1) := by decide +kernel
theorem dX10_trial_51 : decode cX10_trial 51 = .ok (.if_icmp .lt 5, 3) := by decide +kernel
theorem dX10_trial_54 : decode cX10_trial 54 = .ok (.iconst 5, 1) := by decide +kernel
theorem dX10_trial_55 : decode cX10_trial 55 = .ok (.ireturn, 1) := by decide +kernel
theorem dX10_trial_56 : decode cX10_trial 56 = .ok (.iconst 0, 1) := by decide +kernel
theorem dX10_trial_57 : decode cX10_trial 57 = .ok (.istore 5, 2) := by decide +kernel
theorem dX10_trial_59 : decode cX10_trial 59 = .ok (.iload 5, 2) := by decide +kernel
theorem dX10_trial_61 : decode cX10_trial 61 = .ok (.iload_n 2, 1) := by decide +kernel
theorem dX10_trial_62 : decode cX10_trial 62 = .ok (.if_icmp .ge 47, 3) := by decide +kernel
theorem dX10_trial_65 : decode cX10_trial 65 = .ok (.aload_n 0, 1) := by decide +kernel
theorem dX10_trial_66 : decode cX10_trial 66 = .ok (.getfield 20, 3) := by decide +kernel
theorem dX10_trial_69 : decode cX10_trial 69 = .ok (.bipush 40, 2) := by decide +kernel
theorem dX10_trial_71 : decode cX10_trial 71 = .ok (.iload_n 1, 1) := by decide +kernel
theorem dX10_trial_72 : decode cX10_trial 72 = .ok (.imul, 1) := by decide +kernel
theorem dX10_trial_73 : decode cX10_trial 73 = .ok (.iload 5, 2) := by decide +kernel
theorem dX10_trial_75 : decode cX10_trial 75 = .ok (.iadd, 1) := by decide +kernel
theorem dX10_trial_76 : decode cX10_trial 76 = .ok (.laload, 1) := by decide +kernel
theorem dX10_trial_77 : decode cX10_trial 77 = .ok (.lconst 0, 1) := by decide +kernel
theorem dX10_trial_78 : decode cX10_trial 78 = .ok (.lcmp, 1) := by decide +kernel
theorem dX10_trial_79 : decode cX10_trial 79 = .ok (.ifCond .lt 22, 3) := by decide +kernel
theorem dX10_trial_82 : decode cX10_trial 82 = .ok (.aload_n 0, 1) := by decide +kernel
theorem dX10_trial_83 : decode cX10_trial 83 = .ok (.getfield 20, 3) := by decide +kernel
theorem dX10_trial_86 : decode cX10_trial 86 = .ok (.bipush 40, 2) := by decide +kernel
theorem dX10_trial_88 : decode cX10_trial 88 = .ok (.iload_n 1, 1) := by decide +kernel
theorem dX10_trial_89 : decode cX10_trial 89 = .ok (.imul, 1) := by decide +kernel
theorem dX10_trial_90 : decode cX10_trial 90 = .ok (.iload 5, 2) := by decide +kernel
theorem dX10_trial_92 : decode cX10_trial 92 = .ok (.iadd, 1) := by decide +kernel
theorem dX10_trial_93 : decode cX10_trial 93 = .ok (.laload, 1) := by decide +kernel
theorem dX10_trial_94 : decode cX10_trial 94 = .ok (.ldc2_w 197, 3) := by decide +kernel
theorem dX10_trial_97 : decode cX10_trial 97 = .ok (.lcmp, 1) := by decide +kernel
theorem dX10_trial_98 : decode cX10_trial 98 = .ok (.ifCond .le 5, 3) := by decide +kernel
theorem dX10_trial_101 : decode cX10_trial 101 = .ok (.iconst 5, 1) := by decide +kernel
theorem dX10_trial_102 : decode cX10_trial 102 = .ok (.ireturn, 1) := by decide +kernel
theorem dX10_trial_103 : decode cX10_trial 103 = .ok (.iinc 5 1, 3) := by decide +kernel
theorem dX10_trial_106 : decode cX10_trial 106 = .ok (.goto (-47), 3) := by decide +kernel
theorem dX10_trial_109 : decode cX10_trial 109 = .ok (.iconst 0, 1) := by decide +kernel
theorem dX10_trial_110 : decode cX10_trial 110 = .ok (.ireturn, 1) := by decide +kernel
theorem dX10_sumOf_0 : decode cX10_sumOf 0 = .ok (.iconst 0, 1) := by decide +kernel
theorem dX10_sumOf_1 : decode cX10_sumOf 1 = .ok (.istore 4, 2) := by decide +kernel
theorem dX10_sumOf_3 : decode cX10_sumOf 3 = .ok (.iconst 0, 1) := by decide +kernel
theorem dX10_sumOf_4 : decode cX10_sumOf 4 = .ok (.istore 5, 2) := by decide +kernel
theorem dX10_sumOf_6 : decode cX10_sumOf 6 = .ok (.iload 5, 2) := by decide +kernel
theorem dX10_sumOf_8 : decode cX10_sumOf 8 = .ok (.iload_n 2, 1) := by decide +kernel
theorem dX10_sumOf_9 : decode cX10_sumOf 9 = .ok (.if_icmp .ge 41, 3) := by decide +kernel
theorem dX10_sumOf_12 : decode cX10_sumOf 12 = .ok (.iload 4, 2) := by decide +kernel
theorem dX10_sumOf_14 : decode cX10_sumOf 14 = .ok (.iload_n 3, 1) := by decide +kernel
theorem dX10_sumOf_15 : decode cX10_sumOf 15 = .ok (.iload 5, 2) := by decide +kernel
theorem dX10_sumOf_17 : decode cX10_sumOf 17 = .ok (.ishr, 1) := by decide +kernel
theorem dX10_sumOf_18 : decode cX10_sumOf 18 = .ok (.iconst 1, 1) := by decide +kernel
theorem dX10_sumOf_19 : decode cX10_sumOf 19 = .ok (.iand, 1) := by decide +kernel
theorem dX10_sumOf_20 : decode cX10_sumOf 20 = .ok (.iconst 1, 1) := by decide +kernel
theorem dX10_sumOf_21 : decode cX10_sumOf 21 = .ok (.if_icmp .ne 19, 3) := by decide +kernel
theorem dX10_sumOf_24 : decode cX10_sumOf 24 = .ok (.aload_n 0, 1) := by decide +kernel
theorem dX10_sumOf_25 : decode cX10_sumOf 25 = .ok (.getfield 20, 3) := by decide +kernel
theorem dX10_sumOf_28 : decode cX10_sumOf 28 = .ok (.bipush 40, 2) := by decide +kernel
theorem dX10_sumOf_30 : decode cX10_sumOf 30 = .ok (.iload_n 1, 1) := by decide +kernel
theorem dX10_sumOf_31 : decode cX10_sumOf 31 = .ok (.imul, 1) := by decide +kernel
theorem dX10_sumOf_32 : decode cX10_sumOf 32 = .ok (.iload 5, 2) := by decide +kernel
theorem dX10_sumOf_34 : decode cX10_sumOf 34 = .ok (.iadd, 1) := by decide +kernel
theorem dX10_sumOf_35 : decode cX10_sumOf 35 = .ok (.laload, 1) := by decide +kernel
theorem dX10_sumOf_36 : decode cX10_sumOf 36 = .ok (.l2i, 1) := by decide +kernel
theorem dX10_sumOf_37 : decode cX10_sumOf 37 = .ok (.goto 4, 3) := by decide +kernel
theorem dX10_sumOf_40 : decode cX10_sumOf 40 = .ok (.iconst 0, 1) := by decide +kernel
theorem dX10_sumOf_41 : decode cX10_sumOf 41 = .ok (.iadd, 1) := by decide +kernel
theorem dX10_sumOf_42 : decode cX10_sumOf 42 = .ok (.istore 4, 2) := by decide +kernel
theorem dX10_sumOf_44 : decode cX10_sumOf 44 = .ok (.iinc 5 1, 3) := by decide +kernel
theorem dX10_sumOf_47 : decode cX10_sumOf 47 = .ok (.goto (-41), 3) := by decide +kernel
theorem dX10_sumOf_50 : decode cX10_sumOf 50 = .ok (.iload 4, 2) := by decide +kernel
theorem dX10_sumOf_52 : decode cX10_sumOf 52 = .ok (.ireturn, 1) := by decide +kernel
theorem dX10_gain_0 : decode cX10_gain 0 = .ok (.aload_n 0, 1) := by decide +kernel
theorem dX10_gain_1 : decode cX10_gain 1 = .ok (.iconst 0, 1) := by decide +kernel
theorem dX10_gain_2 : decode cX10_gain 2 = .ok (.putfield 82, 3) := by decide +kernel
theorem dX10_gain_5 : decode cX10_gain 5 = .ok (.aload_n 0, 1) := by decide +kernel
theorem dX10_gain_6 : decode cX10_gain 6 = .ok (.aload_n 0, 1) := by decide +kernel
theorem dX10_gain_7 : decode cX10_gain 7 = .ok (.iload_n 1, 1) := by decide +kernel
theorem dX10_gain_8 : decode cX10_gain 8 = .ok (.iload_n 2, 1) := by decide +kernel
theorem dX10_gain_9 : decode cX10_gain 9 = .ok (.iload_n 3, 1) := by decide +kernel
theorem dX10_gain_10 : decode cX10_gain 10 = .ok (.invokevirtual 199, 3) := by decide +kernel
theorem dX10_gain_13 : decode cX10_gain 13 = .ok (.putfield 86, 3) := by decide +kernel
theorem dX10_gain_16 : decode cX10_gain 16 = .ok (.aload_n 0, 1) := by decide +kernel
theorem dX10_gain_17 : decode cX10_gain 17 = .ok (.getfield 86, 3) := by decide +kernel
theorem dX10_gain_20 : decode cX10_gain 20 = .ok (.ifCond .le 5, 3) := by decide +kernel
theorem dX10_gain_23 : decode cX10_gain 23 = .ok (.iconst 0, 1) := by decide +kernel
theorem dX10_gain_24 : decode cX10_gain 24 = .ok (.ireturn, 1) := by decide +kernel
theorem dX10_gain_25 : decode cX10_gain 25 = .ok (.iload_n 3, 1) := by decide +kernel
theorem dX10_gain_26 : decode cX10_gain 26 = .ok (.invokestatic 203, 3) := by decide +kernel
theorem dX10_gain_29 : decode cX10_gain 29 = .ok (.istore 4, 2) := by decide +kernel
theorem dX10_gain_31 : decode cX10_gain 31 = .ok (.aload_n 0, 1) := by decide +kernel
theorem dX10_gain_32 : decode cX10_gain 32 = .ok (.iload_n 1, 1) := by decide +kernel
theorem dX10_gain_33 : decode cX10_gain 33 = .ok (.iload_n 2, 1) := by decide +kernel
theorem dX10_gain_34 : decode cX10_gain 34 = .ok (.iload_n 3, 1) := by decide +kernel
theorem dX10_gain_35 : decode cX10_gain 35 = .ok (.invokevirtual 208, 3) := by decide +kernel
theorem dX10_gain_38 : decode cX10_gain 38 = .ok (.i2l, 1) := by decide +kernel
theorem dX10_gain_39 : decode cX10_gain 39 = .ok (.lstore 5, 2) := by decide +kernel
theorem dX10_gain_41 : decode cX10_gain 41 = .ok (.aload_n 0, 1) := by decide +kernel
theorem dX10_gain_42 : decode cX10_gain 42 = .ok (.iload_n 1, 1) := by decide +kernel
theorem dX10_gain_43 : decode cX10_gain 43 = .ok (.iload_n 2, 1) := by decide +kernel
theorem dX10_gain_44 : decode cX10_gain 44 = .ok (.iconst 1, 1) := by decide +kernel
theorem dX10_gain_45 : decode cX10_gain 45 = .ok (.iload_n 2, 1) := by decide +kernel
theorem dX10_gain_46 : decode cX10_gain 46 = .ok (.ishl, 1) := by decide +kernel
theorem dX10_gain_47 : decode cX10_gain 47 = .ok (.iconst 1, 1) := by decide +kernel
theorem dX10_gain_48 : decode cX10_gain 48 = .ok (.isub, 1) := by decide +kernel
theorem dX10_gain_49 : decode cX10_gain 49 = .ok (.iload_n 3, 1) := by decide +kernel
theorem dX10_gain_50 : decode cX10_gain 50 = .ok (.ixor, 1) := by decide +kernel
theorem dX10_gain_51 : decode cX10_gain 51 = .ok (.invokevirtual 208, 3) := by decide +kernel
theorem dX10_gain_54 : decode cX10_gain 54 = .ok (.i2l, 1) := by decide +kernel
theorem dX10_gain_55 : decode cX10_gain 55 = .ok (.lstore 7, 2) := by decide +kernel
theorem dX10_gain_57 : decode cX10_gain 57 = .ok (.aload_n 0, 1) := by decide +kernel
theorem dX10_gain_58 : decode cX10_gain 58 = .ok (.lload 5, 2) := by decide +kernel
theorem dX10_gain_60 : decode cX10_gain 60 = .ok (.iload_n 2, 1) := by decide +kernel
theorem dX10_gain_61 : decode cX10_gain 61 = .ok (.iload 4, 2) := by decide +kernel
theorem dX10_gain_63 : decode cX10_gain 63 = .ok (.isub, 1) := by decide +kernel
theorem dX10_gain_64 : decode cX10_gain 64 = .ok (.i2l, 1) := by decide +kernel
theorem dX10_gain_65 : decode cX10_gain 65 = .ok (.lmul, 1) := by decide +kernel
theorem dX10_gain_66 : decode cX10_gain 66 = .ok (.lload 7, 2) := by decide +kernel
theorem dX10_gain_68 : decode cX10_gain 68 = .ok (.iload 4, 2) := by decide +kernel
theorem dX10_gain_70 : decode cX10_gain 70 = .ok (.i2l, 1) := by decide +kernel
theorem dX10_gain_71 : decode cX10_gain 71 = .ok (.lmul, 1) := by decide +kernel
theorem dX10_gain_72 : decode cX10_gain 72 = .ok (.lsub, 1) := by decide +kernel
theorem dX10_gain_73 : decode cX10_gain 73 = .ok (.iload 4, 2) := by decide +kernel
theorem dX10_gain_75 : decode cX10_gain 75 = .ok (.i2l, 1) := by decide +kernel
theorem dX10_gain_76 : decode cX10_gain 76 = .ok (.iload_n 2, 1) := by decide +kernel
theorem dX10_gain_77 : decode cX10_gain 77 = .ok (.iload 4, 2) := by decide +kernel
theorem dX10_gain_79 : decode cX10_gain 79 = .ok (.isub, 1) := by decide +kernel
theorem dX10_gain_80 : decode cX10_gain 80 = .ok (.i2l, 1) := by decide +kernel
theorem dX10_gain_81 : decode cX10_gain 81 = .ok (.lmul, 1) := by decide +kernel
theorem dX10_gain_82 : decode cX10_gain 82 = .ok (.invokevirtual 193, 3) := by decide +kernel
theorem dX10_gain_85 : decode cX10_gain 85 = .ok (.ireturn, 1) := by decide +kernel
theorem dX10_chance_0 : decode cX10_chance 0 = .ok (.aload_n 0, 1) := by decide +kernel
theorem dX10_chance_1 : decode cX10_chance 1 = .ok (.iconst 0, 1) := by decide +kernel
theorem dX10_chance_2 : decode cX10_chance 2 = .ok (.putfield 82, 3) := by decide +kernel
theorem dX10_chance_5 : decode cX10_chance 5 = .ok (.aload_n 0, 1) := by decide +kernel
theorem dX10_chance_6 : decode cX10_chance 6 = .ok (.aload_n 0, 1) := by decide +kernel
theorem dX10_chance_7 : decode cX10_chance 7 = .ok (.iload_n 1, 1) := by decide +kernel
theorem dX10_chance_8 : decode cX10_chance 8 = .ok (.iload_n 2, 1) := by decide +kernel
theorem dX10_chance_9 : decode cX10_chance 9 = .ok (.iload_n 3, 1) := by decide +kernel
theorem dX10_chance_10 : decode cX10_chance 10 = .ok (.invokevirtual 199, 3) := by decide +kernel
theorem dX10_chance_13 : decode cX10_chance 13 = .ok (.putfield 86, 3) := by decide +kernel
theorem dX10_chance_16 : decode cX10_chance 16 = .ok (.aload_n 0, 1) := by decide +kernel
theorem dX10_chance_17 : decode cX10_chance 17 = .ok (.getfield 86, 3) := by decide +kernel
theorem dX10_chance_20 : decode cX10_chance 20 = .ok (.ifCond .le 5, 3) := by decide +kernel
theorem dX10_chance_23 : decode cX10_chance 23 = .ok (.iconst 0, 1) := by decide +kernel
theorem dX10_chance_24 : decode cX10_chance 24 = .ok (.ireturn, 1) := by decide +kernel
theorem dX10_chance_25 : decode cX10_chance 25 = .ok (.iload_n 3, 1) := by decide +kernel
theorem dX10_chance_26 : decode cX10_chance 26 = .ok (.invokestatic 203, 3) := by decide +kernel
theorem dX10_chance_29 : decode cX10_chance 29 = .ok (.istore 4, 2) := by decide +kernel
theorem dX10_chance_31 : decode cX10_chance 31 = .ok (.aload_n 0, 1) := by decide +kernel
theorem dX10_chance_32 : decode cX10_chance 32 = .ok (.iload_n 1, 1) := by decide +kernel
theorem dX10_chance_33 : decode cX10_chance 33 = .ok (.iload_n 2, 1) := by decide +kernel
theorem dX10_chance_34 : decode cX10_chance 34 = .ok (.iload_n 3, 1) := by decide +kernel
theorem dX10_chance_35 : decode cX10_chance 35 = .ok (.invokevirtual 208, 3) := by decide +kernel
theorem dX10_chance_38 : decode cX10_chance 38 = .ok (.istore 5, 2) := by decide +kernel
theorem dX10_chance_40 : decode cX10_chance 40 = .ok (.iconst 0, 1) := by decide +kernel
theorem dX10_chance_41 : decode cX10_chance 41 = .ok (.istore 6, 2) := by decide +kernel
theorem dX10_chance_43 : decode cX10_chance 43 = .ok (.iconst 0, 1) := by decide +kernel
theorem dX10_chance_44 : decode cX10_chance 44 = .ok (.istore 7, 2) := by decide +kernel
theorem dX10_chance_46 : decode cX10_chance 46 = .ok (.iconst 1, 1) := by decide +kernel
theorem dX10_chance_47 : decode cX10_chance 47 = .ok (.istore 8, 2) := by decide +kernel
theorem dX10_chance_49 : decode cX10_chance 49 = .ok (.iload 8, 2) := by decide +kernel
theorem dX10_chance_51 : decode cX10_chance 51 = .ok (.iconst 1, 1) := by decide +kernel
theorem dX10_chance_52 : decode cX10_chance 52 = .ok (.iload_n 2, 1) := by decide +kernel
theorem dX10_chance_53 : decode cX10_chance 53 = .ok (.ishl, 1) := by decide +kernel
theorem dX10_chance_54 : decode cX10_chance 54 = .ok (.if_icmp .ge 48, 3) := by decide +kernel
theorem dX10_chance_57 : decode cX10_chance 57 = .ok (.iload 8, 2) := by decide +kernel
theorem dX10_chance_59 : decode cX10_chance 59 = .ok (.invokestatic 203, 3) := by decide +kernel
theorem dX10_chance_62 : decode cX10_chance 62 = .ok (.iload 4, 2) := by decide +kernel
theorem dX10_chance_64 : decode cX10_chance 64 = .ok (.if_icmp .eq 6, 3) := by decide +kernel
theorem dX10_chance_67 : decode cX10_chance 67 = .ok (.goto 29, 3) := by decide +kernel
theorem dX10_chance_70 : decode cX10_chance 70 = .ok (.iinc 6 1, 3) := by decide +kernel
theorem dX10_chance_73 : decode cX10_chance 73 = .ok (.iload 7, 2) := by decide +kernel
theorem dX10_chance_75 : decode cX10_chance 75 = .ok (.aload_n 0, 1) := by decide +kernel
theorem dX10_chance_76 : decode cX10_chance 76 = .ok (.iload_n 1, 1) := by decide +kernel
theorem dX10_chance_77 : decode cX10_chance 77 = .ok (.iload_n 2, 1) := by decide +kernel
theorem dX10_chance_78 : decode cX10_chance 78 = .ok (.iload 8, 2) := by decide +kernel
theorem dX10_chance_80 : decode cX10_chance 80 = .ok (.invokevirtual 208, 3) := by decide +kernel
theorem dX10_chance_83 : decode cX10_chance 83 = .ok (.iload 5, 2) := by decide +kernel
theorem dX10_chance_85 : decode cX10_chance 85 = .ok (.if_icmp .lt 7, 3) := by decide +kernel
theorem dX10_chance_88 : decode cX10_chance 88 = .ok (.iconst 1, 1) := by decide +kernel
theorem dX10_chance_89 : decode cX10_chance 89 = .ok (.goto 4, 3) := by decide +kernel
theorem dX10_chance_92 : decode cX10_chance 92 = .ok (.iconst 0, 1) := by decide +kernel
theorem dX10_chance_93 : decode cX10_chance 93 = .ok (.iadd, 1) := by decide +kernel
theorem dX10_chance_94 : decode cX10_chance 94 = .ok (.istore 7, 2) := by decide +kernel
theorem dX10_chance_96 : decode cX10_chance 96 = .ok (.iinc 8 1, 3) := by decide +kernel
theorem dX10_chance_99 : decode cX10_chance 99 = .ok (.goto (-50), 3) := by decide +kernel
theorem dX10_chance_102 : decode cX10_chance 102 = .ok (.aload_n 0, 1) := by decide +kernel
theorem dX10_chance_103 : decode cX10_chance 103 = .ok (.iload 7, 2) := by decide +kernel
theorem dX10_chance_105 : decode cX10_chance 105 = .ok (.i2l, 1) := by decide +kernel
theorem dX10_chance_106 : decode cX10_chance 106 = .ok (.iload 6, 2) := by decide +kernel
theorem dX10_chance_108 : decode cX10_chance 108 = .ok (.i2l, 1) := by decide +kernel
theorem dX10_chance_109 : decode cX10_chance 109 = .ok (.invokevirtual 193, 3) := by decide +kernel
theorem dX10_chance_112 : decode cX10_chance 112 = .ok (.ireturn, 1) := by decide +kernel
theorem dX10_draw_0 : decode cX10_draw 0 = .ok (.aload_n 0, 1) := by decide +kernel
theorem dX10_draw_1 : decode cX10_draw 1 = .ok (.iconst 0, 1) := by decide +kernel
theorem dX10_draw_2 : decode cX10_draw 2 = .ok (.putfield 82, 3) := by decide +kernel
theorem dX10_draw_5 : decode cX10_draw 5 = .ok (.aload_n 0, 1) := by decide +kernel
theorem dX10_draw_6 : decode cX10_draw 6 = .ok (.iconst 0, 1) := by decide +kernel
theorem dX10_draw_7 : decode cX10_draw 7 = .ok (.putfield 86, 3) := by decide +kernel
theorem dX10_draw_10 : decode cX10_draw 10 = .ok (.iload_n 1, 1) := by decide +kernel
theorem dX10_draw_11 : decode cX10_draw 11 = .ok (.iconst 1, 1) := by decide +kernel
theorem dX10_draw_12 : decode cX10_draw 12 = .ok (.if_icmp .lt 22, 3) := by decide +kernel
theorem dX10_draw_15 : decode cX10_draw 15 = .ok (.iload_n 1, 1) := by decide +kernel
theorem dX10_draw_16 : decode cX10_draw 16 = .ok (.bipush 16, 2) := by decide +kernel
theorem dX10_draw_18 : decode cX10_draw 18 = .ok (.if_icmp .gt 16, 3) := by decide +kernel
theorem dX10_draw_21 : decode cX10_draw 21 = .ok (.iload_n 2, 1) := by decide +kernel
theorem dX10_draw_22 : decode cX10_draw 22 = .ok (.ifCond .lt 12, 3) := by decide +kernel
theorem dX10_draw_25 : decode cX10_draw 25 = .ok (.iload_n 2, 1) := by decide +kernel
theorem dX10_draw_26 : decode cX10_draw 26 = .ok (.iload_n 1, 1) := by decide +kernel
theorem dX10_draw_27 : decode cX10_draw 27 = .ok (.if_icmp .gt 7, 3) := by decide +kernel
theorem dX10_draw_30 : decode cX10_draw 30 = .ok (.iload_n 3, 1) := by decide +kernel
theorem dX10_draw_31 : decode cX10_draw 31 = .ok (.ifCond .ge 9, 3) := by decide +kernel
theorem dX10_draw_34 : decode cX10_draw 34 = .ok (.aload_n 0, 1) := by decide +kernel
theorem dX10_draw_35 : decode cX10_draw 35 = .ok (.iconst 5, 1) := by decide +kernel
theorem dX10_draw_36 : decode cX10_draw 36 = .ok (.invokevirtual 113, 3) := by decide +kernel
theorem dX10_draw_39 : decode cX10_draw 39 = .ok (.ireturn, 1) := by decide +kernel
theorem dX10_draw_40 : decode cX10_draw 40 = .ok (.iload_n 3, 1) := by decide +kernel
theorem dX10_draw_41 : decode cX10_draw 41 = .ok (.i2l, 1) := by decide +kernel
theorem dX10_draw_42 : decode cX10_draw 42 = .ok (.lstore 4, 2) := by decide +kernel
theorem dX10_draw_44 : decode cX10_draw 44 = .ok (.iload_n 2, 1) := by decide +kernel
theorem dX10_draw_45 : decode cX10_draw 45 = .ok (.istore 6, 2) := by decide +kernel
theorem dX10_draw_47 : decode cX10_draw 47 = .ok (.iconst 0, 1) := by decide +kernel
theorem dX10_draw_48 : decode cX10_draw 48 = .ok (.istore 7, 2) := by decide +kernel
theorem dX10_draw_50 : decode cX10_draw 50 = .ok (.iconst 0, 1) := by decide +kernel
theorem dX10_draw_51 : decode cX10_draw 51 = .ok (.istore 8, 2) := by decide +kernel
theorem dX10_draw_53 : decode cX10_draw 53 = .ok (.iload 8, 2) := by decide +kernel
theorem dX10_draw_55 : decode cX10_draw 55 = .ok (.iload_n 1, 1) := by decide +kernel
theorem dX10_draw_56 : decode cX10_draw 56 = .ok (.if_icmp .ge 58, 3) := by decide +kernel
theorem dX10_draw_59 : decode cX10_draw 59 = .ok (.lload 4, 2) := by decide +kernel
theorem dX10_draw_61 : decode cX10_draw 61 = .ok (.ldc2_w 211, 3) := by decide +kernel
theorem dX10_draw_64 : decode cX10_draw 64 = .ok (.lmul, 1) := by decide +kernel
theorem dX10_draw_65 : decode cX10_draw 65 = .ok (.ldc2_w 213, 3) := by decide +kernel
theorem dX10_draw_68 : decode cX10_draw 68 = .ok (.ladd, 1) := by decide +kernel
theorem dX10_draw_69 : decode cX10_draw 69 = .ok (.ldc2_w 215, 3) := by decide +kernel
theorem dX10_draw_72 : decode cX10_draw 72 = .ok (.land, 1) := by decide +kernel
theorem dX10_draw_73 : decode cX10_draw 73 = .ok (.lstore 4, 2) := by decide +kernel
theorem dX10_draw_75 : decode cX10_draw 75 = .ok (.lload 4, 2) := by decide +kernel
theorem dX10_draw_77 : decode cX10_draw 77 = .ok (.bipush 16, 2) := by decide +kernel
theorem dX10_draw_79 : decode cX10_draw 79 = .ok (.lshr, 1) := by decide +kernel
theorem dX10_draw_80 : decode cX10_draw 80 = .ok (.iload_n 1, 1) := by decide +kernel
theorem dX10_draw_81 : decode cX10_draw 81 = .ok (.iload 8, 2) := by decide +kernel
theorem dX10_draw_83 : decode cX10_draw 83 = .ok (.isub, 1) := by decide +kernel
theorem dX10_draw_84 : decode cX10_draw 84 = .ok (.i2l, 1) := by decide +kernel
theorem dX10_draw_85 : decode cX10_draw 85 = .ok (.lrem, 1) := by decide +kernel
theorem dX10_draw_86 : decode cX10_draw 86 = .ok (.iload 6, 2) := by decide +kernel
theorem dX10_draw_88 : decode cX10_draw 88 = .ok (.i2l, 1) := by decide +kernel
theorem dX10_draw_89 : decode cX10_draw 89 = .ok (.lcmp, 1) := by decide +kernel
theorem dX10_draw_90 : decode cX10_draw 90 = .ok (.ifCond .lt 6, 3) := by decide +kernel
theorem dX10_draw_93 : decode cX10_draw 93 = .ok (.goto 15, 3) := by decide +kernel
theorem dX10_draw_96 : decode cX10_draw 96 = .ok (.iload 7, 2) := by decide +kernel
theorem dX10_draw_98 : decode cX10_draw 98 = .ok (.iconst 1, 1) := by decide +kernel
theorem dX10_draw_99 : decode cX10_draw 99 = .ok (.iload 8, 2) := by decide +kernel
theorem dX10_draw_101 : decode cX10_draw 101 = .ok (.ishl, 1) := by decide +kernel
theorem dX10_draw_102 : decode cX10_draw 102 = .ok (.ior, 1) := by decide +kernel
theorem dX10_draw_103 : decode cX10_draw 103 = .ok (.istore 7, 2) := by decide +kernel
theorem dX10_draw_105 : decode cX10_draw 105 = .ok (.iinc 6 (-1), 3) := by decide +kernel
theorem dX10_draw_108 : decode cX10_draw 108 = .ok (.iinc 8 1, 3) := by decide +kernel
theorem dX10_draw_111 : decode cX10_draw 111 = .ok (.goto (-58), 3) := by decide +kernel
theorem dX10_draw_114 : decode cX10_draw 114 = .ok (.iload 7, 2) := by decide +kernel
theorem dX10_draw_116 : decode cX10_draw 116 = .ok (.ireturn, 1) := by decide +kernel
