theorem dX12_init_0 : decode cX12_init 0 = .ok (.aload_n 0, 1) := by decide +kernel
theorem dX12_init_1 : decode cX12_init 1 = .ok (.invokespecial 1, 3) := by decide +kernel
theorem dX12_init_4 : decode cX12_init 4 = .ok (.aload_n 0, 1) := by decide +kernel
theorem dX12_init_5 : decode cX12_init 5 = .ok (.bipush 32, 2) := by decide +kernel
theorem dX12_init_7 : decode cX12_init 7 = .ok (.newarray .int, 2) := by decide +kernel
theorem dX12_init_9 : decode cX12_init 9 = .ok (.putfield 7, 3) := by decide +kernel
theorem dX12_init_12 : decode cX12_init 12 = .ok (.aload_n 0, 1) := by decide +kernel
theorem dX12_init_13 : decode cX12_init 13 = .ok (.bipush 32, 2) := by decide +kernel
theorem dX12_init_15 : decode cX12_init 15 = .ok (.newarray .boolean, 2) := by decide +kernel
theorem dX12_init_17 : decode cX12_init 17 = .ok (.putfield 13, 3) := by decide +kernel
theorem dX12_init_20 : decode cX12_init 20 = .ok (.aload_n 0, 1) := by decide +kernel
theorem dX12_init_21 : decode cX12_init 21 = .ok (.bipush 32, 2) := by decide +kernel
theorem dX12_init_23 : decode cX12_init 23 = .ok (.newarray .boolean, 2) := by decide +kernel
theorem dX12_init_25 : decode cX12_init 25 = .ok (.putfield 17, 3) := by decide +kernel
theorem dX12_init_28 : decode cX12_init 28 = .ok (.aload_n 0, 1) := by decide +kernel
theorem dX12_init_29 : decode cX12_init 29 = .ok (.bipush 32, 2) := by decide +kernel
theorem dX12_init_31 : decode cX12_init 31 = .ok (.newarray .int, 2) := by decide +kernel
theorem dX12_init_33 : decode cX12_init 33 = .ok (.putfield 20, 3) := by decide +kernel
theorem dX12_init_36 : decode cX12_init 36 = .ok (.aload_n 0, 1) := by decide +kernel
theorem dX12_init_37 : decode cX12_init 37 = .ok (.sipush 128, 3) := by decide +kernel
theorem dX12_init_40 : decode cX12_init 40 = .ok (.newarray .int, 2) := by decide +kernel
theorem dX12_init_42 : decode cX12_init 42 = .ok (.putfield 23, 3) := by decide +kernel
theorem dX12_init_45 : decode cX12_init 45 = .ok (.aload_n 0, 1) := by decide +kernel
theorem dX12_init_46 : decode cX12_init 46 = .ok (.bipush 32, 2) := by decide +kernel
theorem dX12_init_48 : decode cX12_init 48 = .ok (.newarray .boolean, 2) := by decide +kernel
theorem dX12_init_50 : decode cX12_init 50 = .ok (.putfield 26, 3) := by decide +kernel
theorem dX12_init_53 : decode cX12_init 53 = .ok (.aload_n 0, 1) := by decide +kernel
theorem dX12_init_54 : decode cX12_init 54 = .ok (.bipush 12, 2) := by decide +kernel
theorem dX12_init_56 : decode cX12_init 56 = .ok (.newarray .int, 2) := by decide +kernel
theorem dX12_init_58 : decode cX12_init 58 = .ok (.putfield 29, 3) := by decide +kernel
theorem dX12_init_61 : decode cX12_init 61 = .ok (.aload_n 0, 1) := by decide +kernel
theorem dX12_init_62 : decode cX12_init 62 = .ok (.bipush 12, 2) := by decide +kernel
theorem dX12_init_64 : decode cX12_init 64 = .ok (.newarray .int, 2) := by decide +kernel
theorem dX12_init_66 : decode cX12_init 66 = .ok (.putfield 32, 3) := by decide +kernel
theorem dX12_init_69 : decode cX12_init 69 = .ok (.aload_n 0, 1) := by decide +kernel
theorem dX12_init_70 : decode cX12_init 70 = .ok (.bipush 12, 2) := by decide +kernel
theorem dX12_init_72 : decode cX12_init 72 = .ok (.newarray .int, 2) := by decide +kernel
theorem dX12_init_74 : decode cX12_init 74 = .ok (.putfield 35, 3) := by decide +kernel
theorem dX12_init_77 : decode cX12_init 77 = .ok (.aload_n 0, 1) := by decide +kernel
theorem dX12_init_78 : decode cX12_init 78 = .ok (.bipush 12, 2) := by decide +kernel
theorem dX12_init_80 : decode cX12_init 80 = .ok (.newarray .int, 2) := by decide +kernel
theorem dX12_init_82 : decode cX12_init 82 = .ok (.putfield 38, 3) := by decide +kernel
theorem dX12_init_85 : decode cX12_init 85 = .ok (.aload_n 0, 1) := by decide +kernel
theorem dX12_init_86 : decode cX12_init 86 = .ok (.bipush 42, 2) := by decide +kernel
theorem dX12_init_88 : decode cX12_init 88 = .ok (.newarray .int, 2) := by decide +kernel
theorem dX12_init_90 : decode cX12_init 90 = .ok (.putfield 41, 3) := by decide +kernel
theorem dX12_init_93 : decode cX12_init 93 = .ok (.aload_n 0, 1) := by decide +kernel
theorem dX12_init_94 : decode cX12_init 94 = .ok (.bipush 7, 2) := by decide +kernel
theorem dX12_init_96 : decode cX12_init 96 = .ok (.newarray .int, 2) := by decide +kernel
theorem dX12_init_98 : decode cX12_init 98 = .ok (.putfield 44, 3) := by decide +kernel
theorem dX12_init_101 : decode cX12_init 101 = .ok (.aload_n 0, 1) := by decide +kernel
theorem dX12_init_102 : decode cX12_init 102 = .ok (.bipush 24, 2) := by decide +kernel
theorem dX12_init_104 : decode cX12_init 104 = .ok (.newarray .int, 2) := by decide +kernel
theorem dX12_init_106 : decode cX12_init 106 = .ok (.putfield 47, 3) := by decide +kernel
theorem dX12_init_109 : decode cX12_init 109 = .ok (.aload_n 0, 1) := by decide +kernel
theorem dX12_init_110 : decode cX12_init 110 = .ok (.bipush 24, 2) := by decide +kernel
theorem dX12_init_112 : decode cX12_init 112 = .ok (.newarray .int, 2) := by decide +kernel
theorem dX12_init_114 : decode cX12_init 114 = .ok (.putfield 50, 3) := by decide +kernel
theorem dX12_init_117 : decode cX12_init 117 = .ok (.aload_n 0, 1) := by decide +kernel
theorem dX12_init_118 : decode cX12_init 118 = .ok (.bipush 24, 2) := by decide +kernel
theorem dX12_init_120 : decode cX12_init 120 = .ok (.newarray .int, 2) := by decide +kernel
theorem dX12_init_122 : decode cX12_init 122 = .ok (.putfield 53, 3) := by decide +kernel
theorem dX12_init_125 : decode cX12_init 125 = .ok (.aload_n 0, 1) := by decide +kernel
theorem dX12_init_126 : decode cX12_init 126 = .ok (.bipush 64, 2) := by decide +kernel
theorem dX12_init_128 : decode cX12_init 128 = .ok (.newarray .int, 2) := by decide +kernel
theorem dX12_init_130 : decode cX12_init 130 = .ok (.putfield 56, 3) := by decide +kernel
theorem dX12_init_133 : decode cX12_init 133 = .ok (.aload_n 0, 1) := by decide +kernel
theorem dX12_init_134 : decode cX12_init 134 = .ok (.bipush 64, 2) := by decide +kernel
theorem dX12_init_136 : decode cX12_init 136 = .ok (.newarray .int, 2) := by decide +kernel
theorem dX12_init_138 : decode cX12_init 138 = .ok (.putfield 59, 3) := by decide +kernel
theorem dX12_init_141 : decode cX12_init 141 = .ok (.aload_n 0, 1) := by decide +kernel
theorem dX12_init_142 : decode cX12_init 142 = .ok (.iconst 3, 1) := by decide +kernel
theorem dX12_init_143 : decode cX12_init 143 = .ok (.newarray .int, 2) := by decide +kernel
theorem dX12_init_145 : decode cX12_init 145 = .ok (.putfield 62, 3) := by decide +kernel
theorem dX12_init_148 : decode cX12_init 148 = .ok (.aload_n 0, 1) := by decide +kernel
theorem dX12_init_149 : decode cX12_init 149 = .ok (.iconst 4, 1) := by decide +kernel
theorem dX12_init_150 : decode cX12_init 150 = .ok (.newarray .int, 2) := by decide +kernel
theorem dX12_init_152 : decode cX12_init 152 = .ok (.putfield 65, 3) := by decide +kernel
theorem dX12_init_155 : decode cX12_init 155 = .ok (.aload_n 0, 1) := by decide +kernel
theorem dX12_init_156 : decode cX12_init 156 = .ok (.iconst 4, 1) := by decide +kernel
theorem dX12_init_157 : decode cX12_init 157 = .ok (.newarray .int, 2) := by decide +kernel
theorem dX12_init_159 : decode cX12_init 159 = .ok (.putfield 68, 3) := by decide +kernel
theorem dX12_init_162 : decode cX12_init 162 = .ok (.aload_n 0, 1) := by decide +kernel
theorem dX12_init_163 : decode cX12_init 163 = .ok (.sipush 240, 3) := by decide +kernel
theorem dX12_init_166 : decode cX12_init 166 = .ok (.newarray .int, 2) := by decide +kernel
theorem dX12_init_168 : decode cX12_init 168 = .ok (.putfield 71, 3) := by decide +kernel
theorem dX12_init_171 : decode cX12_init 171 = .ok (.aload_n 0, 1) := by decide +kernel
theorem dX12_init_172 : decode cX12_init 172 = .ok (.bipush 60, 2) := by decide +kernel
theorem dX12_init_174 : decode cX12_init 174 = .ok (.newarray .int, 2) := by decide +kernel
theorem dX12_init_176 : decode cX12_init 176 = .ok (.putfield 74, 3) := by decide +kernel
theorem dX12_init_179 : decode cX12_init 179 = .ok (.iconst 0, 1) := by decide +kernel
theorem dX12_init_180 : decode cX12_init 180 = .ok (.istore_n 1, 1) := by decide +kernel
theorem dX12_init_181 : decode cX12_init 181 = .ok (.iload_n 1, 1) := by decide +kernel
theorem dX12_init_182 : decode cX12_init 182 = .ok (.iconst 4, 1) := by decide +kernel
theorem dX12_init_183 : decode cX12_init 183 = .ok (.if_icmp .ge 16, 3) := by decide +kernel
theorem dX12_init_186 : decode cX12_init 186 = .ok (.aload_n 0, 1) := by decide +kernel
theorem dX12_init_187 : decode cX12_init 187 = .ok (.getfield 65, 3) := by decide +kernel
theorem dX12_init_190 : decode cX12_init 190 = .ok (.iload_n 1, 1) := by decide +kernel
theorem dX12_init_191 : decode cX12_init 191 = .ok (.iconst (-1), 1) := by decide +kernel
theorem dX12_init_192 : decode cX12_init 192 = .ok (.iastore, 1) := by decide +kernel
theorem dX12_init_193 : decode cX12_init 193 = .ok (.iinc 1 1, 3) := by decide +kernel
theorem dX12_init_196 : decode cX12_init 196 = .ok (.goto (-15), 3) := by decide +kernel
theorem dX12_init_199 : decode cX12_init 199 = .ok (.return_, 1) := by decide +kernel
theorem dX12_in_0 : decode cX12_in 0 = .ok (.lload_n 0, 1) := by decide +kernel
theorem dX12_in_1 : decode cX12_in 1 = .ok (.lload_n 2, 1) := by decide +kernel
theorem dX12_in_2 : decode cX12_in 2 = .ok (.lcmp, 1) := by decide +kernel
theorem dX12_in_3 : decode cX12_in 3 = .ok (.ifCond .lt 14, 3) := by decide +kernel
theorem dX12_in_6 : decode cX12_in 6 = .ok (.lload_n 0, 1) := by decide +kernel
theorem dX12_in_7 : decode cX12_in 7 = .ok (.lload 4, 2) := by decide +kernel
theorem dX12_in_9 : decode cX12_in 9 = .ok (.lcmp, 1) := by decide +kernel
theorem dX12_in_10 : decode cX12_in 10 = .ok (.ifCond .gt 7, 3) := by decide +kernel
theorem dX12_in_13 : decode cX12_in 13 = .ok (.iconst 1, 1) := by decide +kernel
theorem dX12_in_14 : decode cX12_in 14 = .ok (.goto 4, 3) := by decide +kernel
theorem dX12_in_17 : decode cX12_in 17 = .ok (.iconst 0, 1) := by decide +kernel
theorem dX12_in_18 : decode cX12_in 18 = .ok (.ireturn, 1) := by decide +kernel
theorem dX12_lost_0 : decode cX12_lost 0 = .ok (.ldc2_w 77, 3) := by decide +kernel
theorem dX12_lost_3 : decode cX12_lost 3 = .ok (.lreturn, 1) := by decide +kernel
theorem dX12_told_0 : decode cX12_told 0 = .ok (.lload_n 0, 1) := by decide +kernel
theorem dX12_told_1 : decode cX12_told 1 = .ok (.lstore 5, 2) := by decide +kernel
theorem dX12_told_3 : decode cX12_told 3 = .ok (.lload_n 2, 1) := by decide +kernel
theorem dX12_told_4 : decode cX12_told 4 = .ok (.lstore 7, 2) := by decide +kernel
theorem dX12_told_6 : decode cX12_told 6 = .ok (.lload 7, 2) := by decide +kernel
theorem dX12_told_8 : decode cX12_told 8 = .ok (.lconst 0, 1) := by decide +kernel
theorem dX12_told_9 : decode cX12_told 9 = .ok (.lcmp, 1) := by decide +kernel
theorem dX12_told_10 : decode cX12_told 10 = .ok (.ifCond .eq 21, 3) := by decide +kernel
theorem dX12_told_13 : decode cX12_told 13 = .ok (.lload 5, 2) := by decide +kernel
theorem dX12_told_15 : decode cX12_told 15 = .ok (.lload 7, 2) := by decide +kernel
theorem dX12_told_17 : decode cX12_told 17 = .ok (.lrem, 1) := by decide +kernel
theorem dX12_told_18 : decode cX12_told 18 = .ok (.lstore 9, 2) := by decide +kernel
theorem dX12_told_20 : decode cX12_told 20 = .ok (.lload 7, 2) := by decide +kernel
theorem dX12_told_22 : decode cX12_told 22 = .ok (.lstore 5, 2) := by decide +kernel
theorem dX12_told_24 : decode cX12_told 24 = .ok (.lload 9, 2) := by decide +kernel
theorem dX12_told_26 : decode cX12_told 26 = .ok (.lstore 7, 2) := by decide +kernel
theorem dX12_told_28 : decode cX12_told 28 = .ok (.goto (-22), 3) := by decide +kernel
theorem dX12_told_31 : decode cX12_told 31 = .ok (.iload 4, 2) := by decide +kernel
theorem dX12_told_33 : decode cX12_told 33 = .ok (.ifCond .ne 7, 3) := by decide +kernel
theorem dX12_told_36 : decode cX12_told 36 = .ok (.lload_n 0, 1) := by decide +kernel
theorem dX12_told_37 : decode cX12_told 37 = .ok (.goto 4, 3) := by decide +kernel
theorem dX12_told_40 : decode cX12_told 40 = .ok (.lload_n 2, 1) := by decide +kernel
theorem dX12_told_41 : decode cX12_told 41 = .ok (.lload 5, 2) := by decide +kernel
theorem dX12_told_43 : decode cX12_told 43 = .ok (.ldiv, 1) := by decide +kernel
theorem dX12_told_44 : decode cX12_told 44 = .ok (.lreturn, 1) := by decide +kernel
theorem dX12_refused_0 : decode cX12_refused 0 = .ok (.aload_n 0, 1) := by decide +kernel
theorem dX12_refused_1 : decode cX12_refused 1 = .ok (.iconst 0, 1) := by decide +kernel
theorem dX12_refused_2 : decode cX12_refused 2 = .ok (.putfield 79, 3) := by decide +kernel
theorem dX12_refused_5 : decode cX12_refused 5 = .ok (.iload_n 1, 1) := by decide +kernel
theorem dX12_refused_6 : decode cX12_refused 6 = .ok (.ireturn, 1) := by decide +kernel
theorem dX12_failed_0 : decode cX12_failed 0 = .ok (.aload_n 0, 1) := by decide +kernel
theorem dX12_failed_1 : decode cX12_failed 1 = .ok (.iload_n 1, 1) := by decide +kernel
theorem dX12_failed_2 : decode cX12_failed 2 = .ok (.putfield 79, 3) := by decide +kernel
theorem dX12_failed_5 : decode cX12_failed 5 = .ok (.bipush (-10), 2) := by decide +kernel
theorem dX12_failed_7 : decode cX12_failed 7 = .ok (.iload_n 1, 1) := by decide +kernel
theorem dX12_failed_8 : decode cX12_failed 8 = .ok (.isub, 1) := by decide +kernel
theorem dX12_failed_9 : decode cX12_failed 9 = .ok (.ireturn, 1) := by decide +kernel
theorem dX12_failedLong_0 : decode cX12_failedLong 0 = .ok (.aload_n 0, 1) := by decide +kernel
theorem dX12_failedLong_1 : decode cX12_failedLong 1 = .ok (.iload_n 1, 1) := by decide +kernel
theorem dX12_failedLong_2 : decode cX12_failedLong 2 = .ok (.putfield 79, 3) := by decide +kernel
theorem dX12_failedLong_5 : decode cX12_failedLong 5 = .ok (.invokestatic 83, 3) := by decide +kernel
theorem dX12_failedLong_8 : decode cX12_failedLong 8 = .ok (.lreturn, 1) := by decide +kernel
theorem dX12_kept_0 : decode cX12_kept 0 = .ok (.iload_n 1, 1) := by decide +kernel
theorem dX12_kept_1 : decode cX12_kept 1 = .ok (.invokestatic 87, 3) := by decide +kernel
theorem dX12_kept_4 : decode cX12_kept 4 = .ok (.ifCond .eq 9, 3) := by decide +kernel
theorem dX12_kept_7 : decode cX12_kept 7 = .ok (.aload_n 0, 1) := by decide +kernel
theorem dX12_kept_8 : decode cX12_kept 8 = .ok (.iconst (-1), 1) := by decide +kernel
theorem dX12_kept_9 : decode cX12_kept 9 = .ok (.invokevirtual 91, 3) := by decide +kernel
theorem dX12_kept_12 : decode cX12_kept 12 = .ok (.ireturn, 1) := by decide +kernel
theorem dX12_kept_13 : decode cX12_kept 13 = .ok (.iload_n 2, 1) := by decide +kernel
theorem dX12_kept_14 : decode cX12_kept 14 = .ok (.i2l, 1) := by decide +kernel
theorem dX12_kept_15 : decode cX12_kept 15 = .ok (.lconst 0, 1) := by decide +kernel
theorem dX12_kept_16 : decode cX12_kept 16 = .ok (.ldc2_w 95, 3) := by decide +kernel
theorem dX12_kept_19 : decode cX12_kept 19 = .ok (.invokestatic 97, 3) := by decide +kernel
theorem dX12_kept_22 : decode cX12_kept 22 = .ok (.ifCond .ne 10, 3) := by decide +kernel
theorem dX12_kept_25 : decode cX12_kept 25 = .ok (.aload_n 0, 1) := by decide +kernel
theorem dX12_kept_26 : decode cX12_kept 26 = .ok (.bipush (-2), 2) := by decide +kernel
theorem dX12_kept_28 : decode cX12_kept 28 = .ok (.invokevirtual 91, 3) := by decide +kernel
theorem dX12_kept_31 : decode cX12_kept 31 = .ok (.ireturn, 1) := by decide +kernel
theorem dX12_kept_32 : decode cX12_kept 32 = .ok (.aload_n 0, 1) := by decide +kernel
theorem dX12_kept_33 : decode cX12_kept 33 = .ok (.getfield 65, 3) := by decide +kernel
theorem dX12_kept_36 : decode cX12_kept 36 = .ok (.iload_n 1, 1) := by decide +kernel
theorem dX12_kept_37 : decode cX12_kept 37 = .ok (.iaload, 1) := by decide +kernel
theorem dX12_kept_38 : decode cX12_kept 38 = .ok (.ifCond .lt 19, 3) := by decide +kernel
theorem dX12_kept_41 : decode cX12_kept 41 = .ok (.aload_n 0, 1) := by decide +kernel
theorem dX12_kept_42 : decode cX12_kept 42 = .ok (.getfield 68, 3) := by decide +kernel
theorem dX12_kept_45 : decode cX12_kept 45 = .ok (.iload_n 1, 1) := by decide +kernel
theorem dX12_kept_46 : decode cX12_kept 46 = .ok (.iaload, 1) := by decide +kernel
theorem dX12_kept_47 : decode cX12_kept 47 = .ok (.iload_n 2, 1) := by decide +kernel
theorem dX12_kept_48 : decode cX12_kept 48 = .ok (.if_icmp .eq 9, 3) := by decide +kernel
theorem dX12_kept_51 : decode cX12_kept 51 = .ok (.aload_n 0, 1) := by decide +kernel
theorem dX12_kept_52 : decode cX12_kept 52 = .ok (.iconst 2, 1) := by decide +kernel
theorem dX12_kept_53 : decode cX12_kept 53 = .ok (.invokevirtual 101, 3) := by decide +kernel
theorem dX12_kept_56 : decode cX12_kept 56 = .ok (.ireturn, 1) := by decide +kernel
theorem dX12_kept_57 : decode cX12_kept 57 = .ok (.aload_n 0, 1) := by decide +kernel
theorem dX12_kept_58 : decode cX12_kept 58 = .ok (.getfield 65, 3) := by decide +kernel
theorem dX12_kept_61 : decode cX12_kept 61 = .ok (.iload_n 1, 1) := by decide +kernel
theorem dX12_kept_62 : decode cX12_kept 62 = .ok (.iaload, 1) := by decide +kernel
theorem dX12_kept_63 : decode cX12_kept 63 = .ok (.ifCond .ge 9, 3) := by decide +kernel
theorem dX12_kept_66 : decode cX12_kept 66 = .ok (.aload_n 0, 1) := by decide +kernel
theorem dX12_kept_67 : decode cX12_kept 67 = .ok (.iconst 1, 1) := by decide +kernel
theorem dX12_kept_68 : decode cX12_kept 68 = .ok (.invokevirtual 101, 3) := by decide +kernel
theorem dX12_kept_71 : decode cX12_kept 71 = .ok (.ireturn, 1) := by decide +kernel
theorem dX12_kept_72 : decode cX12_kept 72 = .ok (.lload 4, 2) := by decide +kernel
theorem dX12_kept_74 : decode cX12_kept 74 = .ok (.lconst 0, 1) := by decide +kernel
theorem dX12_kept_75 : decode cX12_kept 75 = .ok (.lcmp, 1) := by decide +kernel
theorem dX12_kept_76 : decode cX12_kept 76 = .ok (.ifCond .ge 9, 3) := by decide +kernel
theorem dX12_kept_79 : decode cX12_kept 79 = .ok (.aload_n 0, 1) := by decide +kernel
theorem dX12_kept_80 : decode cX12_kept 80 = .ok (.iconst 4, 1) := by decide +kernel
theorem dX12_kept_81 : decode cX12_kept 81 = .ok (.invokevirtual 101, 3) := by decide +kernel
theorem dX12_kept_84 : decode cX12_kept 84 = .ok (.ireturn, 1) := by decide +kernel
theorem dX12_kept_85 : decode cX12_kept 85 = .ok (.iload_n 3, 1) := by decide +kernel
theorem dX12_kept_86 : decode cX12_kept 86 = .ok (.lload 4, 2) := by decide +kernel
theorem dX12_kept_88 : decode cX12_kept 88 = .ok (.aload_n 0, 1) := by decide +kernel
theorem dX12_kept_89 : decode cX12_kept 89 = .ok (.getfield 65, 3) := by decide +kernel
theorem dX12_kept_92 : decode cX12_kept 92 = .ok (.iload_n 1, 1) := by decide +kernel
theorem dX12_kept_93 : decode cX12_kept 93 = .ok (.iaload, 1) := by decide +kernel
theorem dX12_kept_94 : decode cX12_kept 94 = .ok (.invokestatic 104, 3) := by decide +kernel
theorem dX12_kept_97 : decode cX12_kept 97 = .ok (.ifCond .eq 11, 3) := by decide +kernel
theorem dX12_kept_100 : decode cX12_kept 100 = .ok (.aload_n 0, 1) := by decide +kernel
theorem dX12_kept_101 : decode cX12_kept 101 = .ok (.iconst 3, 1) := by decide +kernel
theorem dX12_kept_102 : decode cX12_kept 102 = .ok (.invokevirtual 101, 3) := by decide +kernel
theorem dX12_kept_105 : decode cX12_kept 105 = .ok (.goto 4, 3) := by decide +kernel
theorem dX12_kept_108 : decode cX12_kept 108 = .ok (.iconst 0, 1) := by decide +kernel
theorem dX12_kept_109 : decode cX12_kept 109 = .ok (.ireturn, 1) := by decide +kernel
theorem dX12_seats_0 : decode cX12_seats 0 = .ok (.aload_n 0, 1) := by decide +kernel
theorem dX12_seats_1 : decode cX12_seats 1 = .ok (.getfield 108, 3) := by decide +kernel
theorem dX12_seats_4 : decode cX12_seats 4 = .ok (.aload_n 0, 1) := by decide +kernel
theorem dX12_seats_5 : decode cX12_seats 5 = .ok (.getfield 111, 3) := by decide +kernel
theorem dX12_seats_8 : decode cX12_seats 8 = .ok (.imul, 1) := by decide +kernel
theorem dX12_seats_9 : decode cX12_seats 9 = .ok (.ireturn, 1) := by decide +kernel
theorem dX12_noSeat_0 : decode cX12_noSeat 0 = .ok (.iload_n 1, 1) := by decide +kernel
theorem dX12_noSeat_1 : decode cX12_noSeat 1 = .ok (.i2l, 1) := by decide +kernel
theorem dX12_noSeat_2 : decode cX12_noSeat 2 = .ok (.lconst 0, 1) := by decide +kernel
theorem dX12_noSeat_3 : decode cX12_noSeat 3 = .ok (.aload_n 0, 1) := by decide +kernel
theorem dX12_noSeat_4 : decode cX12_noSeat 4 = .ok (.invokevirtual 114, 3) := by decide +kernel
theorem dX12_noSeat_7 : decode cX12_noSeat 7 = .ok (.i2l, 1) := by decide +kernel
theorem dX12_noSeat_8 : decode cX12_noSeat 8 = .ok (.lconst 1, 1) := by decide +kernel
theorem dX12_noSeat_9 : decode cX12_noSeat 9 = .ok (.lsub, 1) := by decide +kernel
theorem dX12_noSeat_10 : decode cX12_noSeat 10 = .ok (.invokestatic 97, 3) := by decide +kernel
theorem dX12_noSeat_13 : decode cX12_noSeat 13 = .ok (.ifCond .ne 7, 3) := by decide +kernel
theorem dX12_noSeat_16 : decode cX12_noSeat 16 = .ok (.iconst 1, 1) := by decide +kernel
theorem dX12_noSeat_17 : decode cX12_noSeat 17 = .ok (.goto 4, 3) := by decide +kernel
theorem dX12_noSeat_20 : decode cX12_noSeat 20 = .ok (.iconst 0, 1) := by decide +kernel
theorem dX12_noSeat_21 : decode cX12_noSeat 21 = .ok (.ireturn, 1) := by decide +kernel
theorem dX12_takes_0 : decode cX12_takes 0 = .ok (.aload_n 0, 1) := by decide +kernel
theorem dX12_takes_1 : decode cX12_takes 1 = .ok (.getfield 118, 3) := by decide +kernel
theorem dX12_takes_4 : decode cX12_takes 4 = .ok (.iload_n 3, 1) := by decide +kernel
theorem dX12_takes_5 : decode cX12_takes 5 = .ok (.if_icmp .ge 22, 3) := by decide +kernel
theorem dX12_takes_8 : decode cX12_takes 8 = .ok (.aload_n 0, 1) := by decide +kernel
theorem dX12_takes_9 : decode cX12_takes 9 = .ok (.getfield 71, 3) := by decide +kernel
theorem dX12_takes_12 : decode cX12_takes 12 = .ok (.iload_n 2, 1) := by decide +kernel
theorem dX12_takes_13 : decode cX12_takes 13 = .ok (.aload_n 0, 1) := by decide +kernel
theorem dX12_takes_14 : decode cX12_takes 14 = .ok (.getfield 118, 3) := by decide +kernel
theorem dX12_takes_17 : decode cX12_takes 17 = .ok (.iadd, 1) := by decide +kernel
theorem dX12_takes_18 : decode cX12_takes 18 = .ok (.iaload, 1) := by decide +kernel
theorem dX12_takes_19 : decode cX12_takes 19 = .ok (.iload_n 1, 1) := by decide +kernel
theorem dX12_takes_20 : decode cX12_takes 20 = .ok (.if_icmp .ne 7, 3) := by decide +kernel
theorem dX12_takes_23 : decode cX12_takes 23 = .ok (.iconst 1, 1) := by decide +kernel
theorem dX12_takes_24 : decode cX12_takes 24 = .ok (.goto 4, 3) := by decide +kernel
theorem dX12_takes_27 : decode cX12_takes 27 = .ok (.iconst 0, 1) := by decide +kernel
theorem dX12_takes_28 : decode cX12_takes 28 = .ok (.istore 4, 2) := by decide +kernel
theorem dX12_takes_30 : decode cX12_takes 30 = .ok (.aload_n 0, 1) := by decide +kernel
theorem dX12_takes_31 : decode cX12_takes 31 = .ok (.dup, 1) := by decide +kernel
theorem dX12_takes_32 : decode cX12_takes 32 = .ok (.getfield 118, 3) := by decide +kernel
theorem dX12_takes_35 : decode cX12_takes 35 = .ok (.iload 4, 2) := by decide +kernel
theorem dX12_takes_37 : decode cX12_takes 37 = .ok (.ifCond .eq 7, 3) := by decide +kernel
theorem dX12_takes_40 : decode cX12_takes 40 = .ok (.iconst 1, 1) := by decide +kernel
theorem dX12_takes_41 : decode cX12_takes 41 = .ok (.goto 4, 3) := by decide +kernel
theorem dX12_takes_44 : decode cX12_takes 44 = .ok (.iconst 0, 1) := by decide +kernel
theorem dX12_takes_45 : decode cX12_takes 45 = .ok (.iadd, 1) := by decide +kernel
theorem dX12_takes_46 : decode cX12_takes 46 = .ok (.putfield 118, 3) := by decide +kernel
theorem dX12_takes_49 : decode cX12_takes 49 = .ok (.iload 4, 2) := by decide +kernel
theorem dX12_takes_51 : decode cX12_takes 51 = .ok (.ireturn, 1) := by decide +kernel
theorem dX12_readsFigure_0 : decode cX12_readsFigure 0 = .ok (.aload_n 0, 1) := by decide +kernel
theorem dX12_readsFigure_1 : decode cX12_readsFigure 1 = .ok (.aload_n 0, 1) := by decide +kernel
theorem dX12_readsFigure_2 : decode cX12_readsFigure 2 = .ok (.getfield 118, 3) := by decide +kernel
theorem dX12_readsFigure_5 : decode cX12_readsFigure 5 = .ok (.iload_n 2, 1) := by decide +kernel
theorem dX12_readsFigure_6 : decode cX12_readsFigure 6 = .ok (.if_icmp .ge 20, 3) := by decide +kernel
theorem dX12_readsFigure_9 : decode cX12_readsFigure 9 = .ok (.aload_n 0, 1) := by decide +kernel
theorem dX12_readsFigure_10 : decode cX12_readsFigure 10 = .ok (.getfield 71, 3) := by decide +kernel
theorem dX12_readsFigure_13 : decode cX12_readsFigure 13 = .ok (.iload_n 1, 1) := by decide +kernel
theorem dX12_readsFigure_14 : decode cX12_readsFigure 14 = .ok (.aload_n 0, 1) := by decide +kernel
theorem dX12_readsFigure_15 : decode cX12_readsFigure 15 = .ok (.getfield 118, 3) := by decide +kernel
theorem dX12_readsFigure_18 : decode cX12_readsFigure 18 = .ok (.iadd, 1) := by decide +kernel
theorem dX12_readsFigure_19 : decode cX12_readsFigure 19 = .ok (.iaload, 1) := by decide +kernel
theorem dX12_readsFigure_20 : decode cX12_readsFigure 20 = .ok (.bipush 48, 2) := by decide +kernel
theorem dX12_readsFigure_22 : decode cX12_readsFigure 22 = .ok (.isub, 1) := by decide +kernel
theorem dX12_readsFigure_23 : decode cX12_readsFigure 23 = .ok (.goto 5, 3) := by decide +kernel
theorem dX12_readsFigure_26 : decode cX12_readsFigure 26 = .ok (.bipush (-9), 2) := by decide +kernel
theorem dX12_readsFigure_28 : decode cX12_readsFigure 28 = .ok (.putfield 121, 3) := by decide +kernel
theorem dX12_readsFigure_31 : decode cX12_readsFigure 31 = .ok (.aload_n 0, 1) := by decide +kernel
theorem dX12_readsFigure_32 : decode cX12_readsFigure 32 = .ok (.getfield 121, 3) := by decide +kernel
theorem dX12_readsFigure_35 : decode cX12_readsFigure 35 = .ok (.i2l, 1) := by decide +kernel
theorem dX12_readsFigure_36 : decode cX12_readsFigure 36 = .ok (.iload_n 3, 1) := by decide +kernel
theorem dX12_readsFigure_37 : decode cX12_readsFigure 37 = .ok (.i2l, 1) := by decide +kernel
theorem dX12_readsFigure_38 : decode cX12_readsFigure 38 = .ok (.iload 4, 2) := by decide +kernel
theorem dX12_readsFigure_40 : decode cX12_readsFigure 40 = .ok (.i2l, 1) := by decide +kernel
theorem dX12_readsFigure_41 : decode cX12_readsFigure 41 = .ok (.invokestatic 97, 3) := by decide +kernel
theorem dX12_readsFigure_44 : decode cX12_readsFigure 44 = .ok (.istore 5, 2) := by decide +kernel
theorem dX12_readsFigure_46 : decode cX12_readsFigure 46 = .ok (.aload_n 0, 1) := by decide +kernel
theorem dX12_readsFigure_47 : decode cX12_readsFigure 47 = .ok (.dup, 1) := by decide +kernel
theorem dX12_readsFigure_48 : decode cX12_readsFigure 48 = .ok (.getfield 118, 3) := by decide +kernel
theorem dX12_readsFigure_51 : decode cX12_readsFigure 51 = .ok (.iload 5, 2) := by decide +kernel
theorem dX12_readsFigure_53 : decode cX12_readsFigure 53 = .ok (.ifCond .eq 7, 3) := by decide +kernel
theorem dX12_readsFigure_56 : decode cX12_readsFigure 56 = .ok (.iconst 1, 1) := by decide +kernel
theorem dX12_readsFigure_57 : decode cX12_readsFigure 57 = .ok (.goto 4, 3) := by decide +kernel
theorem dX12_readsFigure_60 : decode cX12_readsFigure 60 = .ok (.iconst 0, 1) := by decide +kernel
theorem dX12_readsFigure_61 : decode cX12_readsFigure 61 = .ok (.iadd, 1) := by decide +kernel
theorem dX12_readsFigure_62 : decode cX12_readsFigure 62 = .ok (.putfield 118, 3) := by decide +kernel
theorem dX12_readsFigure_65 : decode cX12_readsFigure 65 = .ok (.iload 5, 2) := by decide +kernel
theorem dX12_readsFigure_67 : decode cX12_readsFigure 67 = .ok (.ireturn, 1) := by decide +kernel
theorem dX12_faceBy_0 : decode cX12_faceBy 0 = .ok (.iload_n 0, 1) := by decide +kernel
theorem dX12_faceBy_1 : decode cX12_faceBy 1 = .ok (.bipush 102, 2) := by decide +kernel
theorem dX12_faceBy_3 : decode cX12_faceBy 3 = .ok (.if_icmp .ne 7, 3) := by decide +kernel
theorem dX12_faceBy_6 : decode cX12_faceBy 6 = .ok (.iconst 0, 1) := by decide +kernel
theorem dX12_faceBy_7 : decode cX12_faceBy 7 = .ok (.goto 35, 3) := by decide +kernel
theorem dX12_faceBy_10 : decode cX12_faceBy 10 = .ok (.iload_n 0, 1) := by decide +kernel
theorem dX12_faceBy_11 : decode cX12_faceBy 11 = .ok (.bipush 98, 2) := by decide +kernel
theorem dX12_faceBy_13 : decode cX12_faceBy 13 = .ok (.if_icmp .ne 7, 3) := by decide +kernel
theorem dX12_faceBy_16 : decode cX12_faceBy 16 = .ok (.iconst 1, 1) := by decide +kernel
theorem dX12_faceBy_17 : decode cX12_faceBy 17 = .ok (.goto 25, 3) := by decide +kernel
theorem dX12_faceBy_20 : decode cX12_faceBy 20 = .ok (.iload_n 0, 1) := by decide +kernel
theorem dX12_faceBy_21 : decode cX12_faceBy 21 = .ok (.bipush 108, 2) := by decide +kernel
theorem dX12_faceBy_23 : decode cX12_faceBy 23 = .ok (.if_icmp .ne 7, 3) := by decide +kernel
theorem dX12_faceBy_26 : decode cX12_faceBy 26 = .ok (.iconst 2, 1) := by decide +kernel
theorem dX12_faceBy_27 : decode cX12_faceBy 27 = .ok (.goto 15, 3) := by decide +kernel
theorem dX12_faceBy_30 : decode cX12_faceBy 30 = .ok (.iload_n 0, 1) := by decide +kernel
theorem dX12_faceBy_31 : decode cX12_faceBy 31 = .ok (.bipush 114, 2) := by decide +kernel
theorem dX12_faceBy_33 : decode cX12_faceBy 33 = .ok (.if_icmp .ne 7, 3) := by decide +kernel
theorem dX12_faceBy_36 : decode cX12_faceBy 36 = .ok (.iconst 3, 1) := by decide +kernel
theorem dX12_faceBy_37 : decode cX12_faceBy 37 = .ok (.goto 5, 3) := by decide +kernel
theorem dX12_faceBy_40 : decode cX12_faceBy 40 = .ok (.bipush (-9), 2) := by decide +kernel
theorem dX12_faceBy_42 : decode cX12_faceBy 42 = .ok (.ireturn, 1) := by decide +kernel
theorem dX12_readsCarriage_0 : decode cX12_readsCarriage 0 = .ok (.aload_n 0, 1) := by decide +kernel
theorem dX12_readsCarriage_1 : decode cX12_readsCarriage 1 = .ok (.iconst 0, 1) := by decide +kernel
theorem dX12_readsCarriage_2 : decode cX12_readsCarriage 2 = .ok (.putfield 118, 3) := by decide +kernel
theorem dX12_readsCarriage_5 : decode cX12_readsCarriage 5 = .ok (.aload_n 0, 1) := by decide +kernel
theorem dX12_readsCarriage_6 : decode cX12_readsCarriage 6 = .ok (.bipush 99, 2) := by decide +kernel
theorem dX12_readsCarriage_8 : decode cX12_readsCarriage 8 = .ok (.iload_n 1, 1) := by decide +kernel
theorem dX12_readsCarriage_9 : decode cX12_readsCarriage 9 = .ok (.iload_n 2, 1) := by decide +kernel
theorem dX12_readsCarriage_10 : decode cX12_readsCarriage 10 = .ok (.invokevirtual 124, 3) := by decide +kernel
theorem dX12_readsCarriage_13 : decode cX12_readsCarriage 13 = .ok (.ifCond .eq 15, 3) := by decide +kernel
theorem dX12_readsCarriage_16 : decode cX12_readsCarriage 16 = .ok (.aload_n 0, 1) := by decide +kernel
theorem dX12_readsCarriage_17 : decode cX12_readsCarriage 17 = .ok (.iload_n 1, 1) := by decide +kernel
theorem dX12_readsCarriage_18 : decode cX12_readsCarriage 18 = .ok (.iload_n 2, 1) := by decide +kernel
theorem dX12_readsCarriage_19 : decode cX12_readsCarriage 19 = .ok (.iconst 1, 1) := by decide +kernel
theorem dX12_readsCarriage_20 : decode cX12_readsCarriage 20 = .ok (.bipush 8, 2) := by decide +kernel
theorem dX12_readsCarriage_22 : decode cX12_readsCarriage 22 = .ok (.invokevirtual 128, 3) := by decide +kernel
theorem dX12_readsCarriage_25 : decode cX12_readsCarriage 25 = .ok (.ifCond .ne 5, 3) := by decide +kernel
theorem dX12_readsCarriage_28 : decode cX12_readsCarriage 28 = .ok (.iconst 0, 1) := by decide +kernel
theorem dX12_readsCarriage_29 : decode cX12_readsCarriage 29 = .ok (.ireturn, 1) := by decide +kernel
theorem dX12_readsCarriage_30 : decode cX12_readsCarriage 30 = .ok (.aload_n 0, 1) := by decide +kernel
theorem dX12_readsCarriage_31 : decode cX12_readsCarriage 31 = .ok (.aload_n 0, 1) := by decide +kernel
theorem dX12_readsCarriage_32 : decode cX12_readsCarriage 32 = .ok (.getfield 121, 3) := by decide +kernel
theorem dX12_readsCarriage_35 : decode cX12_readsCarriage 35 = .ok (.putfield 132, 3) := by decide +kernel
theorem dX12_readsCarriage_38 : decode cX12_readsCarriage 38 = .ok (.aload_n 0, 1) := by decide +kernel
theorem dX12_readsCarriage_39 : decode cX12_readsCarriage 39 = .ok (.iload_n 1, 1) := by decide +kernel
theorem dX12_readsCarriage_40 : decode cX12_readsCarriage 40 = .ok (.iload_n 2, 1) := by decide +kernel
theorem dX12_readsCarriage_41 : decode cX12_readsCarriage 41 = .ok (.iconst 1, 1) := by decide +kernel
theorem dX12_readsCarriage_42 : decode cX12_readsCarriage 42 = .ok (.iconst 4, 1) := by decide +kernel
theorem dX12_readsCarriage_43 : decode cX12_readsCarriage 43 = .ok (.invokevirtual 128, 3) := by decide +kernel
theorem dX12_readsCarriage_46 : decode cX12_readsCarriage 46 = .ok (.ifCond .ne 5, 3) := by decide +kernel
theorem dX12_readsCarriage_49 : decode cX12_readsCarriage 49 = .ok (.iconst 0, 1) := by decide +kernel
theorem dX12_readsCarriage_50 : decode cX12_readsCarriage 50 = .ok (.ireturn, 1) := by decide +kernel
theorem dX12_readsCarriage_51 : decode cX12_readsCarriage 51 = .ok (.aload_n 0, 1) := by decide +kernel
theorem dX12_readsCarriage_52 : decode cX12_readsCarriage 52 = .ok (.aload_n 0, 1) := by decide +kernel
theorem dX12_readsCarriage_53 : decode cX12_readsCarriage 53 = .ok (.getfield 121, 3) := by decide +kernel
theorem dX12_readsCarriage_56 : decode cX12_readsCarriage 56 = .ok (.putfield 135, 3) := by decide +kernel
theorem dX12_readsCarriage_59 : decode cX12_readsCarriage 59 = .ok (.aload_n 0, 1) := by decide +kernel
theorem dX12_readsCarriage_60 : decode cX12_readsCarriage 60 = .ok (.aload_n 0, 1) := by decide +kernel
theorem dX12_readsCarriage_61 : decode cX12_readsCarriage 61 = .ok (.bipush 109, 2) := by decide +kernel
theorem dX12_readsCarriage_63 : decode cX12_readsCarriage 63 = .ok (.iload_n 1, 1) := by decide +kernel
theorem dX12_readsCarriage_64 : decode cX12_readsCarriage 64 = .ok (.iload_n 2, 1) := by decide +kernel
theorem dX12_readsCarriage_65 : decode cX12_readsCarriage 65 = .ok (.invokevirtual 124, 3) := by decide +kernel
theorem dX12_readsCarriage_68 : decode cX12_readsCarriage 68 = .ok (.putfield 138, 3) := by decide +kernel
theorem dX12_readsCarriage_71 : decode cX12_readsCarriage 71 = .ok (.aload_n 0, 1) := by decide +kernel
theorem dX12_readsCarriage_72 : decode cX12_readsCarriage 72 = .ok (.bipush 59, 2) := by decide +kernel
theorem dX12_readsCarriage_74 : decode cX12_readsCarriage 74 = .ok (.iload_n 1, 1) := by decide +kernel
theorem dX12_readsCarriage_75 : decode cX12_readsCarriage 75 = .ok (.iload_n 2, 1) := by decide +kernel
theorem dX12_readsCarriage_76 : decode cX12_readsCarriage 76 = .ok (.invokevirtual 124, 3) := by decide +kernel
theorem dX12_readsCarriage_79 : decode cX12_readsCarriage 79 = .ok (.ifCond .ne 5, 3) := by decide +kernel
theorem dX12_readsCarriage_82 : decode cX12_readsCarriage 82 = .ok (.iconst 0, 1) := by decide +kernel
theorem dX12_readsCarriage_83 : decode cX12_readsCarriage 83 = .ok (.ireturn, 1) := by decide +kernel
theorem dX12_readsCarriage_84 : decode cX12_readsCarriage 84 = .ok (.iconst 0, 1) := by decide +kernel
theorem dX12_readsCarriage_85 : decode cX12_readsCarriage 85 = .ok (.istore_n 3, 1) := by decide +kernel
theorem dX12_readsCarriage_86 : decode cX12_readsCarriage 86 = .ok (.iload_n 3, 1) := by decide +kernel
theorem dX12_readsCarriage_87 : decode cX12_readsCarriage 87 = .ok (.aload_n 0, 1) := by decide +kernel
theorem dX12_readsCarriage_88 : decode cX12_readsCarriage 88 = .ok (.getfield 132, 3) := by decide +kernel
theorem dX12_readsCarriage_91 : decode cX12_readsCarriage 91 = .ok (.aload_n 0, 1) := by decide +kernel
theorem dX12_readsCarriage_92 : decode cX12_readsCarriage 92 = .ok (.getfield 135, 3) := by decide +kernel
theorem dX12_readsCarriage_95 : decode cX12_readsCarriage 95 = .ok (.imul, 1) := by decide +kernel
theorem dX12_readsCarriage_96 : decode cX12_readsCarriage 96 = .ok (.if_icmp .ge 63, 3) := by decide +kernel
theorem dX12_readsCarriage_99 : decode cX12_readsCarriage 99 = .ok (.aload_n 0, 1) := by decide +kernel
theorem dX12_readsCarriage_100 : decode cX12_readsCarriage 100 = .ok (.getfield 20, 3) := by decide +kernel
theorem dX12_readsCarriage_103 : decode cX12_readsCarriage 103 = .ok (.iload_n 3, 1) := by decide +kernel
theorem dX12_readsCarriage_104 : decode cX12_readsCarriage 104 = .ok (.aload_n 0, 1) := by decide +kernel
theorem dX12_readsCarriage_105 : decode cX12_readsCarriage 105 = .ok (.getfield 118, 3) := by decide +kernel
theorem dX12_readsCarriage_108 : decode cX12_readsCarriage 108 = .ok (.iload_n 2, 1) := by decide +kernel
theorem dX12_readsCarriage_109 : decode cX12_readsCarriage 109 = .ok (.if_icmp .ge 20, 3) := by decide +kernel
theorem dX12_readsCarriage_112 : decode cX12_readsCarriage 112 = .ok (.aload_n 0, 1) := by decide +kernel
theorem dX12_readsCarriage_113 : decode cX12_readsCarriage 113 = .ok (.getfield 71, 3) := by decide +kernel
theorem dX12_readsCarriage_116 : decode cX12_readsCarriage 116 = .ok (.iload_n 1, 1) := by decide +kernel
theorem dX12_readsCarriage_117 : decode cX12_readsCarriage 117 = .ok (.aload_n 0, 1) := by decide +kernel
theorem dX12_readsCarriage_118 : decode cX12_readsCarriage 118 = .ok (.getfield 118, 3) := by decide +kernel
theorem dX12_readsCarriage_121 : decode cX12_readsCarriage 121 = .ok (.iadd, 1) := by decide +kernel
theorem dX12_readsCarriage_122 : decode cX12_readsCarriage 122 = .ok (.iaload, 1) := by decide +kernel
theorem dX12_readsCarriage_123 : decode cX12_readsCarriage 123 = .ok (.invokestatic 142, 3) := by decide +kernel
theorem dX12_readsCarriage_126 : decode cX12_readsCarriage 126 = .ok (.goto 5, 3) := by decide +kernel
theorem dX12_readsCarriage_129 : decode cX12_readsCarriage 129 = .ok (.bipush (-9), 2) := by decide +kernel
theorem dX12_readsCarriage_131 : decode cX12_readsCarriage 131 = .ok (.iastore, 1) := by decide +kernel
theorem dX12_readsCarriage_132 : decode cX12_readsCarriage 132 = .ok (.aload_n 0, 1) := by decide +kernel
theorem dX12_readsCarriage_133 : decode cX12_readsCarriage 133 = .ok (.getfield 20, 3) := by decide +kernel
theorem dX12_readsCarriage_136 : decode cX12_readsCarriage 136 = .ok (.iload_n 3, 1) := by decide +kernel
theorem dX12_readsCarriage_137 : decode cX12_readsCarriage 137 = .ok (.iaload, 1) := by decide +kernel
theorem dX12_readsCarriage_138 : decode cX12_readsCarriage 138 = .ok (.ifCond .ge 5, 3) := by decide +kernel
theorem dX12_readsCarriage_141 : decode cX12_readsCarriage 141 = .ok (.iconst 0, 1) := by decide +kernel
theorem dX12_readsCarriage_142 : decode cX12_readsCarriage 142 = .ok (.ireturn, 1) := by decide +kernel
theorem dX12_readsCarriage_143 : decode cX12_readsCarriage 143 = .ok (.aload_n 0, 1) := by decide +kernel
theorem dX12_readsCarriage_144 : decode cX12_readsCarriage 144 = .ok (.dup, 1) := by decide +kernel
theorem dX12_readsCarriage_145 : decode cX12_readsCarriage 145 = .ok (.getfield 118, 3) := by decide +kernel
theorem dX12_readsCarriage_148 : decode cX12_readsCarriage 148 = .ok (.iconst 1, 1) := by decide +kernel
theorem dX12_readsCarriage_149 : decode cX12_readsCarriage 149 = .ok (.iadd, 1) := by decide +kernel
theorem dX12_readsCarriage_150 : decode cX12_readsCarriage 150 = .ok (.putfield 118, 3) := by decide +kernel
theorem dX12_readsCarriage_153 : decode cX12_readsCarriage 153 = .ok (.iinc 3 1, 3) := by decide +kernel
theorem dX12_readsCarriage_156 : decode cX12_readsCarriage 156 = .ok (.goto (-70), 3) := by decide +kernel
theorem dX12_readsCarriage_159 : decode cX12_readsCarriage 159 = .ok (.aload_n 0, 1) := by decide +kernel
theorem dX12_readsCarriage_160 : decode cX12_readsCarriage 160 = .ok (.getfield 118, 3) := by decide +kernel
theorem dX12_readsCarriage_163 : decode cX12_readsCarriage 163 = .ok (.iload_n 2, 1) := by decide +kernel
theorem dX12_readsCarriage_164 : decode cX12_readsCarriage 164 = .ok (.if_icmp .ne 7, 3) := by decide +kernel
theorem dX12_readsCarriage_167 : decode cX12_readsCarriage 167 = .ok (.iconst 1, 1) := by decide +kernel
theorem dX12_readsCarriage_168 : decode cX12_readsCarriage 168 = .ok (.goto 4, 3) := by decide +kernel
theorem dX12_readsCarriage_171 : decode cX12_readsCarriage 171 = .ok (.iconst 0, 1) := by decide +kernel
theorem dX12_readsCarriage_172 : decode cX12_readsCarriage 172 = .ok (.ireturn, 1) := by decide +kernel
theorem dX12_carriage_0 : decode cX12_carriage 0 = .ok (.aload_n 0, 1) := by decide +kernel
theorem dX12_carriage_1 : decode cX12_carriage 1 = .ok (.iload_n 1, 1) := by decide +kernel
theorem dX12_carriage_2 : decode cX12_carriage 2 = .ok (.iload_n 2, 1) := by decide +kernel
theorem dX12_carriage_3 : decode cX12_carriage 3 = .ok (.iload_n 3, 1) := by decide +kernel
theorem dX12_carriage_4 : decode cX12_carriage 4 = .ok (.iload 4, 2) := by decide +kernel
theorem dX12_carriage_6 : decode cX12_carriage 6 = .ok (.i2l, 1) := by decide +kernel
theorem dX12_carriage_7 : decode cX12_carriage 7 = .ok (.invokevirtual 145, 3) := by decide +kernel
theorem dX12_carriage_10 : decode cX12_carriage 10 = .ok (.istore 5, 2) := by decide +kernel
theorem dX12_carriage_12 : decode cX12_carriage 12 = .ok (.iload 5, 2) := by decide +kernel
theorem dX12_carriage_14 : decode cX12_carriage 14 = .ok (.ifCond .ge 6, 3) := by decide +kernel
theorem dX12_carriage_17 : decode cX12_carriage 17 = .ok (.iload 5, 2) := by decide +kernel
theorem dX12_carriage_19 : decode cX12_carriage 19 = .ok (.ireturn, 1) := by decide +kernel
theorem dX12_carriage_20 : decode cX12_carriage 20 = .ok (.aload_n 0, 1) := by decide +kernel
theorem dX12_carriage_21 : decode cX12_carriage 21 = .ok (.bipush 60, 2) := by decide +kernel
theorem dX12_carriage_23 : decode cX12_carriage 23 = .ok (.iload_n 1, 1) := by decide +kernel
theorem dX12_carriage_24 : decode cX12_carriage 24 = .ok (.imul, 1) := by decide +kernel
theorem dX12_carriage_25 : decode cX12_carriage 25 = .ok (.iload_n 3, 1) := by decide +kernel
theorem dX12_carriage_26 : decode cX12_carriage 26 = .ok (.iadd, 1) := by decide +kernel
theorem dX12_carriage_27 : decode cX12_carriage 27 = .ok (.iload 4, 2) := by decide +kernel
theorem dX12_carriage_29 : decode cX12_carriage 29 = .ok (.invokevirtual 149, 3) := by decide +kernel
theorem dX12_carriage_32 : decode cX12_carriage 32 = .ok (.ifCond .ne 15, 3) := by decide +kernel
theorem dX12_carriage_35 : decode cX12_carriage 35 = .ok (.aload_n 0, 1) := by decide +kernel
theorem dX12_carriage_36 : decode cX12_carriage 36 = .ok (.bipush (-100), 2) := by decide +kernel
theorem dX12_carriage_38 : decode cX12_carriage 38 = .ok (.aload_n 0, 1) := by decide +kernel
theorem dX12_carriage_39 : decode cX12_carriage 39 = .ok (.getfield 118, 3) := by decide +kernel
theorem dX12_carriage_42 : decode cX12_carriage 42 = .ok (.isub, 1) := by decide +kernel
theorem dX12_carriage_43 : decode cX12_carriage 43 = .ok (.invokevirtual 91, 3) := by decide +kernel
theorem dX12_carriage_46 : decode cX12_carriage 46 = .ok (.ireturn, 1) := by decide +kernel
theorem dX12_carriage_47 : decode cX12_carriage 47 = .ok (.aload_n 0, 1) := by decide +kernel
theorem dX12_carriage_48 : decode cX12_carriage 48 = .ok (.aload_n 0, 1) := by decide +kernel
theorem dX12_carriage_49 : decode cX12_carriage 49 = .ok (.getfield 132, 3) := by decide +kernel
theorem dX12_carriage_52 : decode cX12_carriage 52 = .ok (.putfield 108, 3) := by decide +kernel
theorem dX12_carriage_55 : decode cX12_carriage 55 = .ok (.aload_n 0, 1) := by decide +kernel
theorem dX12_carriage_56 : decode cX12_carriage 56 = .ok (.aload_n 0, 1) := by decide +kernel
theorem dX12_carriage_57 : decode cX12_carriage 57 = .ok (.getfield 135, 3) := by decide +kernel
theorem dX12_carriage_60 : decode cX12_carriage 60 = .ok (.putfield 111, 3) := by decide +kernel
theorem dX12_carriage_63 : decode cX12_carriage 63 = .ok (.aload_n 0, 1) := by decide +kernel
theorem dX12_carriage_64 : decode cX12_carriage 64 = .ok (.aload_n 0, 1) := by decide +kernel
theorem dX12_carriage_65 : decode cX12_carriage 65 = .ok (.getfield 138, 3) := by decide +kernel
theorem dX12_carriage_68 : decode cX12_carriage 68 = .ok (.putfield 153, 3) := by decide +kernel
theorem dX12_carriage_71 : decode cX12_carriage 71 = .ok (.iconst 0, 1) := by decide +kernel
theorem dX12_carriage_72 : decode cX12_carriage 72 = .ok (.istore 6, 2) := by decide +kernel
theorem dX12_carriage_74 : decode cX12_carriage 74 = .ok (.iload 6, 2) := by decide +kernel
theorem dX12_carriage_76 : decode cX12_carriage 76 = .ok (.bipush 32, 2) := by decide +kernel
theorem dX12_carriage_78 : decode cX12_carriage 78 = .ok (.if_icmp .ge 60, 3) := by decide +kernel
theorem dX12_carriage_81 : decode cX12_carriage 81 = .ok (.aload_n 0, 1) := by decide +kernel
theorem dX12_carriage_82 : decode cX12_carriage 82 = .ok (.getfield 7, 3) := by decide +kernel
theorem dX12_carriage_85 : decode cX12_carriage 85 = .ok (.iload 6, 2) := by decide +kernel
theorem dX12_carriage_87 : decode cX12_carriage 87 = .ok (.iload 6, 2) := by decide +kernel
theorem dX12_carriage_89 : decode cX12_carriage 89 = .ok (.aload_n 0, 1) := by decide +kernel
theorem dX12_carriage_90 : decode cX12_carriage 90 = .ok (.invokevirtual 114, 3) := by decide +kernel
theorem dX12_carriage_93 : decode cX12_carriage 93 = .ok (.if_icmp .ge 13, 3) := by decide +kernel
theorem dX12_carriage_96 : decode cX12_carriage 96 = .ok (.aload_n 0, 1) := by decide +kernel
theorem dX12_carriage_97 : decode cX12_carriage 97 = .ok (.getfield 20, 3) := by decide +kernel
theorem dX12_carriage_100 : decode cX12_carriage 100 = .ok (.iload 6, 2) := by decide +kernel
theorem dX12_carriage_102 : decode cX12_carriage 102 = .ok (.iaload, 1) := by decide +kernel
theorem dX12_carriage_103 : decode cX12_carriage 103 = .ok (.goto 4, 3) := by decide +kernel
theorem dX12_carriage_106 : decode cX12_carriage 106 = .ok (.iconst 0, 1) := by decide +kernel
theorem dX12_carriage_107 : decode cX12_carriage 107 = .ok (.iastore, 1) := by decide +kernel
theorem dX12_carriage_108 : decode cX12_carriage 108 = .ok (.aload_n 0, 1) := by decide +kernel
theorem dX12_carriage_109 : decode cX12_carriage 109 = .ok (.getfield 13, 3) := by decide +kernel
theorem dX12_carriage_112 : decode cX12_carriage 112 = .ok (.iload 6, 2) := by decide +kernel
theorem dX12_carriage_114 : decode cX12_carriage 114 = .ok (.iconst 0, 1) := by decide +kernel
theorem dX12_carriage_115 : decode cX12_carriage 115 = .ok (.bastore, 1) := by decide +kernel
theorem dX12_carriage_116 : decode cX12_carriage 116 = .ok (.aload_n 0, 1) := by decide +kernel
theorem dX12_carriage_117 : decode cX12_carriage 117 = .ok (.getfield 17, 3) := by decide +kernel
theorem dX12_carriage_120 : decode cX12_carriage 120 = .ok (.iload 6, 2) := by decide +kernel
theorem dX12_carriage_122 : decode cX12_carriage 122 = .ok (.iconst 0, 1) := by decide +kernel
theorem dX12_carriage_123 : decode cX12_carriage 123 = .ok (.bastore, 1) := by decide +kernel
theorem dX12_carriage_124 : decode cX12_carriage 124 = .ok (.aload_n 0, 1) := by decide +kernel
theorem dX12_carriage_125 : decode cX12_carriage 125 = .ok (.getfield 26, 3) := by decide +kernel
theorem dX12_carriage_128 : decode cX12_carriage 128 = .ok (.iload 6, 2) := by decide +kernel
theorem dX12_carriage_130 : decode cX12_carriage 130 = .ok (.iconst 0, 1) := by decide +kernel
theorem dX12_carriage_131 : decode cX12_carriage 131 = .ok (.bastore, 1) := by decide +kernel
theorem dX12_carriage_132 : decode cX12_carriage 132 = .ok (.iinc 6 1, 3) := by decide +kernel
theorem dX12_carriage_135 : decode cX12_carriage 135 = .ok (.goto (-61), 3) := by decide +kernel
theorem dX12_carriage_138 : decode cX12_carriage 138 = .ok (.iconst 0, 1) := by decide +kernel
theorem dX12_carriage_139 : decode cX12_carriage 139 = .ok (.istore 6, 2) := by decide +kernel
theorem dX12_carriage_141 : decode cX12_carriage 141 = .ok (.iload 6, 2) := by decide +kernel
theorem dX12_carriage_143 : decode cX12_carriage 143 = .ok (.iconst 4, 1) := by decide +kernel
theorem dX12_carriage_144 : decode cX12_carriage 144 = .ok (.aload_n 0, 1) := by decide +kernel
theorem dX12_carriage_145 : decode cX12_carriage 145 = .ok (.invokevirtual 114, 3) := by decide +kernel
theorem dX12_carriage_148 : decode cX12_carriage 148 = .ok (.imul, 1) := by decide +kernel
theorem dX12_carriage_149 : decode cX12_carriage 149 = .ok (.if_icmp .ge 28, 3) := by decide +kernel
theorem dX12_carriage_152 : decode cX12_carriage 152 = .ok (.aload_n 0, 1) := by decide +kernel
theorem dX12_carriage_153 : decode cX12_carriage 153 = .ok (.getfield 23, 3) := by decide +kernel
theorem dX12_carriage_156 : decode cX12_carriage 156 = .ok (.iload 6, 2) := by decide +kernel
theorem dX12_carriage_158 : decode cX12_carriage 158 = .ok (.aload_n 0, 1) := by decide +kernel
theorem dX12_carriage_159 : decode cX12_carriage 159 = .ok (.iload 6, 2) := by decide +kernel
theorem dX12_carriage_161 : decode cX12_carriage 161 = .ok (.iconst 4, 1) := by decide +kernel
theorem dX12_carriage_162 : decode cX12_carriage 162 = .ok (.idiv, 1) := by decide +kernel
theorem dX12_carriage_163 : decode cX12_carriage 163 = .ok (.iload 6, 2) := by decide +kernel
theorem dX12_carriage_165 : decode cX12_carriage 165 = .ok (.iconst 4, 1) := by decide +kernel
theorem dX12_carriage_166 : decode cX12_carriage 166 = .ok (.irem, 1) := by decide +kernel
theorem dX12_carriage_167 : decode cX12_carriage 167 = .ok (.invokevirtual 156, 3) := by decide +kernel
theorem dX12_carriage_170 : decode cX12_carriage 170 = .ok (.iastore, 1) := by decide +kernel
theorem dX12_carriage_171 : decode cX12_carriage 171 = .ok (.iinc 6 1, 3) := by decide +kernel
theorem dX12_carriage_174 : decode cX12_carriage 174 = .ok (.goto (-33), 3) := by decide +kernel
theorem dX12_carriage_177 : decode cX12_carriage 177 = .ok (.aload_n 0, 1) := by decide +kernel
theorem dX12_carriage_178 : decode cX12_carriage 178 = .ok (.iconst 0, 1) := by decide +kernel
theorem dX12_carriage_179 : decode cX12_carriage 179 = .ok (.putfield 160, 3) := by decide +kernel
theorem dX12_carriage_182 : decode cX12_carriage 182 = .ok (.aload_n 0, 1) := by decide +kernel
theorem dX12_carriage_183 : decode cX12_carriage 183 = .ok (.iconst 0, 1) := by decide +kernel
theorem dX12_carriage_184 : decode cX12_carriage 184 = .ok (.putfield 163, 3) := by decide +kernel
theorem dX12_carriage_187 : decode cX12_carriage 187 = .ok (.aload_n 0, 1) := by decide +kernel
theorem dX12_carriage_188 : decode cX12_carriage 188 = .ok (.aload_n 0, 1) := by decide +kernel
theorem dX12_carriage_189 : decode cX12_carriage 189 = .ok (.invokevirtual 114, 3) := by decide +kernel
theorem dX12_carriage_192 : decode cX12_carriage 192 = .ok (.invokevirtual 91, 3) := by decide +kernel
theorem dX12_carriage_195 : decode cX12_carriage 195 = .ok (.ireturn, 1) := by decide +kernel
theorem dX12_nextTo_0 : decode cX12_nextTo 0 = .ok (.aload_n 0, 1) := by decide +kernel
theorem dX12_nextTo_1 : decode cX12_nextTo 1 = .ok (.getfield 23, 3) := by decide +kernel
theorem dX12_nextTo_4 : decode cX12_nextTo 4 = .ok (.iconst 4, 1) := by decide +kernel
theorem dX12_nextTo_5 : decode cX12_nextTo 5 = .ok (.iload_n 1, 1) := by decide +kernel
theorem dX12_nextTo_6 : decode cX12_nextTo 6 = .ok (.imul, 1) := by decide +kernel
theorem dX12_nextTo_7 : decode cX12_nextTo 7 = .ok (.iload_n 2, 1) := by decide +kernel
theorem dX12_nextTo_8 : decode cX12_nextTo 8 = .ok (.iadd, 1) := by decide +kernel
theorem dX12_nextTo_9 : decode cX12_nextTo 9 = .ok (.iaload, 1) := by decide +kernel
theorem dX12_nextTo_10 : decode cX12_nextTo 10 = .ok (.ireturn, 1) := by decide +kernel
theorem dX12_besides_0 : decode cX12_besides 0 = .ok (.iload_n 1, 1) := by decide +kernel
theorem dX12_besides_1 : decode cX12_besides 1 = .ok (.aload_n 0, 1) := by decide +kernel
theorem dX12_besides_2 : decode cX12_besides 2 = .ok (.getfield 111, 3) := by decide +kernel
theorem dX12_besides_5 : decode cX12_besides 5 = .ok (.idiv, 1) := by decide +kernel
theorem dX12_besides_6 : decode cX12_besides 6 = .ok (.istore_n 3, 1) := by decide +kernel
theorem dX12_besides_7 : decode cX12_besides 7 = .ok (.iload_n 1, 1) := by decide +kernel
theorem dX12_besides_8 : decode cX12_besides 8 = .ok (.aload_n 0, 1) := by decide +kernel
theorem dX12_besides_9 : decode cX12_besides 9 = .ok (.getfield 111, 3) := by decide +kernel
theorem dX12_besides_12 : decode cX12_besides 12 = .ok (.irem, 1) := by decide +kernel
theorem dX12_besides_13 : decode cX12_besides 13 = .ok (.istore 4, 2) := by decide +kernel
theorem dX12_besides_15 : decode cX12_besides 15 = .ok (.iload_n 2, 1) := by decide +kernel
theorem dX12_besides_16 : decode cX12_besides 16 = .ok (.tableswitch 80 0 2 #[28, 44, 66], 28) := by decide +kernel
theorem dX12_besides_44 : decode cX12_besides 44 = .ok (.iload_n 3, 1) := by decide +kernel
theorem dX12_besides_45 : decode cX12_besides 45 = .ok (.ifCond .le 12, 3) := by decide +kernel
theorem dX12_besides_48 : decode cX12_besides 48 = .ok (.iload_n 1, 1) := by decide +kernel
theorem dX12_besides_49 : decode cX12_besides 49 = .ok (.aload_n 0, 1) := by decide +kernel
theorem dX12_besides_50 : decode cX12_besides 50 = .ok (.getfield 111, 3) := by decide +kernel
theorem dX12_besides_53 : decode cX12_besides 53 = .ok (.isub, 1) := by decide +kernel
theorem dX12_besides_54 : decode cX12_besides 54 = .ok (.goto 5, 3) := by decide +kernel
theorem dX12_besides_57 : decode cX12_besides 57 = .ok (.bipush (-9), 2) := by decide +kernel
theorem dX12_besides_59 : decode cX12_besides 59 = .ok (.ireturn, 1) := by decide +kernel
theorem dX12_besides_60 : decode cX12_besides 60 = .ok (.iload_n 3, 1) := by decide +kernel
theorem dX12_besides_61 : decode cX12_besides 61 = .ok (.iconst 1, 1) := by decide +kernel
theorem dX12_besides_62 : decode cX12_besides 62 = .ok (.iadd, 1) := by decide +kernel
theorem dX12_besides_63 : decode cX12_besides 63 = .ok (.aload_n 0, 1) := by decide +kernel
theorem dX12_besides_64 : decode cX12_besides 64 = .ok (.getfield 108, 3) := by decide +kernel
theorem dX12_besides_67 : decode cX12_besides 67 = .ok (.if_icmp .ge 12, 3) := by decide +kernel
theorem dX12_besides_70 : decode cX12_besides 70 = .ok (.iload_n 1, 1) := by decide +kernel
theorem dX12_besides_71 : decode cX12_besides 71 = .ok (.aload_n 0, 1) := by decide +kernel
theorem dX12_besides_72 : decode cX12_besides 72 = .ok (.getfield 111, 3) := by decide +kernel
theorem dX12_besides_75 : decode cX12_besides 75 = .ok (.iadd, 1) := by decide +kernel
theorem dX12_besides_76 : decode cX12_besides 76 = .ok (.goto 5, 3) := by decide +kernel
theorem dX12_besides_79 : decode cX12_besides 79 = .ok (.bipush (-9), 2) := by decide +kernel
theorem dX12_besides_81 : decode cX12_besides 81 = .ok (.ireturn, 1) := by decide +kernel
theorem dX12_besides_82 : decode cX12_besides 82 = .ok (.iload 4, 2) := by decide +kernel
theorem dX12_besides_84 : decode cX12_besides 84 = .ok (.ifCond .le 9, 3) := by decide +kernel
theorem dX12_besides_87 : decode cX12_besides 87 = .ok (.iload_n 1, 1) := by decide +kernel
theorem dX12_besides_88 : decode cX12_besides 88 = .ok (.iconst 1, 1) := by decide +kernel
theorem dX12_besides_89 : decode cX12_besides 89 = .ok (.isub, 1) := by decide +kernel
theorem dX12_besides_90 : decode cX12_besides 90 = .ok (.goto 5, 3) := by decide +kernel
theorem dX12_besides_93 : decode cX12_besides 93 = .ok (.bipush (-9), 2) := by decide +kernel
theorem dX12_besides_95 : decode cX12_besides 95 = .ok (.ireturn, 1) := by decide +kernel
theorem dX12_besides_96 : decode cX12_besides 96 = .ok (.iload 4, 2) := by decide +kernel
theorem dX12_besides_98 : decode cX12_besides 98 = .ok (.iconst 1, 1) := by decide +kernel
theorem dX12_besides_99 : decode cX12_besides 99 = .ok (.iadd, 1) := by decide +kernel
theorem dX12_besides_100 : decode cX12_besides 100 = .ok (.aload_n 0, 1) := by decide +kernel
theorem dX12_besides_101 : decode cX12_besides 101 = .ok (.getfield 111, 3) := by decide +kernel
theorem dX12_besides_104 : decode cX12_besides 104 = .ok (.if_icmp .ge 9, 3) := by decide +kernel
theorem dX12_besides_107 : decode cX12_besides 107 = .ok (.iload_n 1, 1) := by decide +kernel
theorem dX12_besides_108 : decode cX12_besides 108 = .ok (.iconst 1, 1) := by decide +kernel
theorem dX12_besides_109 : decode cX12_besides 109 = .ok (.iadd, 1) := by decide +kernel
theorem dX12_besides_110 : decode cX12_besides 110 = .ok (.goto 5, 3) := by decide +kernel
theorem dX12_besides_113 : decode cX12_besides 113 = .ok (.bipush (-9), 2) := by decide +kernel
theorem dX12_besides_115 : decode cX12_besides 115 = .ok (.ireturn, 1) := by decide +kernel
theorem dX12_isGap_0 : decode cX12_isGap 0 = .ok (.iconst 0, 1) := by decide +kernel
theorem dX12_isGap_1 : decode cX12_isGap 1 = .ok (.istore_n 3, 1) := by decide +kernel
theorem dX12_isGap_2 : decode cX12_isGap 2 = .ok (.iconst 0, 1) := by decide +kernel
theorem dX12_isGap_3 : decode cX12_isGap 3 = .ok (.istore 4, 2) := by decide +kernel
theorem dX12_isGap_5 : decode cX12_isGap 5 = .ok (.iload 4, 2) := by decide +kernel
theorem dX12_isGap_7 : decode cX12_isGap 7 = .ok (.iconst 4, 1) := by decide +kernel
theorem dX12_isGap_8 : decode cX12_isGap 8 = .ok (.if_icmp .ge 30, 3) := by decide +kernel
theorem dX12_isGap_11 : decode cX12_isGap 11 = .ok (.iload_n 3, 1) := by decide +kernel
theorem dX12_isGap_12 : decode cX12_isGap 12 = .ok (.ifCond .ne 14, 3) := by decide +kernel
theorem dX12_isGap_15 : decode cX12_isGap 15 = .ok (.aload_n 0, 1) := by decide +kernel
theorem dX12_isGap_16 : decode cX12_isGap 16 = .ok (.iload_n 1, 1) := by decide +kernel
theorem dX12_isGap_17 : decode cX12_isGap 17 = .ok (.iload 4, 2) := by decide +kernel
theorem dX12_isGap_19 : decode cX12_isGap 19 = .ok (.invokevirtual 166, 3) := by decide +kernel
theorem dX12_isGap_22 : decode cX12_isGap 22 = .ok (.iload_n 2, 1) := by decide +kernel
theorem dX12_isGap_23 : decode cX12_isGap 23 = .ok (.if_icmp .ne 7, 3) := by decide +kernel
theorem dX12_isGap_26 : decode cX12_isGap 26 = .ok (.iconst 1, 1) := by decide +kernel
theorem dX12_isGap_27 : decode cX12_isGap 27 = .ok (.goto 4, 3) := by decide +kernel
theorem dX12_isGap_30 : decode cX12_isGap 30 = .ok (.iconst 0, 1) := by decide +kernel
theorem dX12_isGap_31 : decode cX12_isGap 31 = .ok (.istore_n 3, 1) := by decide +kernel
theorem dX12_isGap_32 : decode cX12_isGap 32 = .ok (.iinc 4 1, 3) := by decide +kernel
theorem dX12_isGap_35 : decode cX12_isGap 35 = .ok (.goto (-30), 3) := by decide +kernel
theorem dX12_isGap_38 : decode cX12_isGap 38 = .ok (.iload_n 3, 1) := by decide +kernel
theorem dX12_isGap_39 : decode cX12_isGap 39 = .ok (.ireturn, 1) := by decide +kernel
theorem dX12_isBlind_0 : decode cX12_isBlind 0 = .ok (.iload_n 1, 1) := by decide +kernel
theorem dX12_isBlind_1 : decode cX12_isBlind 1 = .ok (.iload_n 2, 1) := by decide +kernel
theorem dX12_isBlind_2 : decode cX12_isBlind 2 = .ok (.if_icmp .ge 7, 3) := by decide +kernel
theorem dX12_isBlind_5 : decode cX12_isBlind 5 = .ok (.iload_n 1, 1) := by decide +kernel
theorem dX12_isBlind_6 : decode cX12_isBlind 6 = .ok (.goto 4, 3) := by decide +kernel
theorem dX12_isBlind_9 : decode cX12_isBlind 9 = .ok (.iload_n 2, 1) := by decide +kernel
theorem dX12_isBlind_10 : decode cX12_isBlind 10 = .ok (.istore_n 3, 1) := by decide +kernel
theorem dX12_isBlind_11 : decode cX12_isBlind 11 = .ok (.iload_n 1, 1) := by decide +kernel
theorem dX12_isBlind_12 : decode cX12_isBlind 12 = .ok (.iload_n 2, 1) := by decide +kernel
theorem dX12_isBlind_13 : decode cX12_isBlind 13 = .ok (.if_icmp .ge 7, 3) := by decide +kernel
theorem dX12_isBlind_16 : decode cX12_isBlind 16 = .ok (.iload_n 2, 1) := by decide +kernel
theorem dX12_isBlind_17 : decode cX12_isBlind 17 = .ok (.goto 4, 3) := by decide +kernel
theorem dX12_isBlind_20 : decode cX12_isBlind 20 = .ok (.iload_n 1, 1) := by decide +kernel
theorem dX12_isBlind_21 : decode cX12_isBlind 21 = .ok (.istore 4, 2) := by decide +kernel
theorem dX12_isBlind_23 : decode cX12_isBlind 23 = .ok (.iload 4, 2) := by decide +kernel
theorem dX12_isBlind_25 : decode cX12_isBlind 25 = .ok (.iload_n 3, 1) := by decide +kernel
theorem dX12_isBlind_26 : decode cX12_isBlind 26 = .ok (.isub, 1) := by decide +kernel
theorem dX12_isBlind_27 : decode cX12_isBlind 27 = .ok (.aload_n 0, 1) := by decide +kernel
theorem dX12_isBlind_28 : decode cX12_isBlind 28 = .ok (.getfield 111, 3) := by decide +kernel
theorem dX12_isBlind_31 : decode cX12_isBlind 31 = .ok (.if_icmp .ne 12, 3) := by decide +kernel
theorem dX12_isBlind_34 : decode cX12_isBlind 34 = .ok (.aload_n 0, 1) := by decide +kernel
theorem dX12_isBlind_35 : decode cX12_isBlind 35 = .ok (.getfield 17, 3) := by decide +kernel
theorem dX12_isBlind_38 : decode cX12_isBlind 38 = .ok (.iload_n 3, 1) := by decide +kernel
theorem dX12_isBlind_39 : decode cX12_isBlind 39 = .ok (.baload, 1) := by decide +kernel
theorem dX12_isBlind_40 : decode cX12_isBlind 40 = .ok (.goto 9, 3) := by decide +kernel
theorem dX12_isBlind_43 : decode cX12_isBlind 43 = .ok (.aload_n 0, 1) := by decide +kernel
theorem dX12_isBlind_44 : decode cX12_isBlind 44 = .ok (.getfield 13, 3) := by decide +kernel
theorem dX12_isBlind_47 : decode cX12_isBlind 47 = .ok (.iload_n 3, 1) := by decide +kernel
theorem dX12_isBlind_48 : decode cX12_isBlind 48 = .ok (.baload, 1) := by decide +kernel
theorem dX12_isBlind_49 : decode cX12_isBlind 49 = .ok (.ireturn, 1) := by decide +kernel
theorem dX12_hang_0 : decode cX12_hang 0 = .ok (.iload_n 1, 1) := by decide +kernel
theorem dX12_hang_1 : decode cX12_hang 1 = .ok (.iload_n 2, 1) := by decide +kernel
theorem dX12_hang_2 : decode cX12_hang 2 = .ok (.if_icmp .ge 7, 3) := by decide +kernel
theorem dX12_hang_5 : decode cX12_hang 5 = .ok (.iload_n 1, 1) := by decide +kernel
theorem dX12_hang_6 : decode cX12_hang 6 = .ok (.goto 4, 3) := by decide +kernel
theorem dX12_hang_9 : decode cX12_hang 9 = .ok (.iload_n 2, 1) := by decide +kernel
theorem dX12_hang_10 : decode cX12_hang 10 = .ok (.istore 4, 2) := by decide +kernel
theorem dX12_hang_12 : decode cX12_hang 12 = .ok (.iload_n 1, 1) := by decide +kernel
theorem dX12_hang_13 : decode cX12_hang 13 = .ok (.iload_n 2, 1) := by decide +kernel
theorem dX12_hang_14 : decode cX12_hang 14 = .ok (.if_icmp .ge 7, 3) := by decide +kernel
theorem dX12_hang_17 : decode cX12_hang 17 = .ok (.iload_n 2, 1) := by decide +kernel
theorem dX12_hang_18 : decode cX12_hang 18 = .ok (.goto 4, 3) := by decide +kernel
theorem dX12_hang_21 : decode cX12_hang 21 = .ok (.iload_n 1, 1) := by decide +kernel
theorem dX12_hang_22 : decode cX12_hang 22 = .ok (.istore 5, 2) := by decide +kernel
theorem dX12_hang_24 : decode cX12_hang 24 = .ok (.iload 5, 2) := by decide +kernel
theorem dX12_hang_26 : decode cX12_hang 26 = .ok (.iload 4, 2) := by decide +kernel
theorem dX12_hang_28 : decode cX12_hang 28 = .ok (.isub, 1) := by decide +kernel
theorem dX12_hang_29 : decode cX12_hang 29 = .ok (.aload_n 0, 1) := by decide +kernel
theorem dX12_hang_30 : decode cX12_hang 30 = .ok (.getfield 111, 3) := by decide +kernel
theorem dX12_hang_33 : decode cX12_hang 33 = .ok (.if_icmp .ne 14, 3) := by decide +kernel
theorem dX12_hang_36 : decode cX12_hang 36 = .ok (.aload_n 0, 1) := by decide +kernel
theorem dX12_hang_37 : decode cX12_hang 37 = .ok (.getfield 17, 3) := by decide +kernel
theorem dX12_hang_40 : decode cX12_hang 40 = .ok (.iload 4, 2) := by decide +kernel
theorem dX12_hang_42 : decode cX12_hang 42 = .ok (.iload_n 3, 1) := by decide +kernel
theorem dX12_hang_43 : decode cX12_hang 43 = .ok (.bastore, 1) := by decide +kernel
theorem dX12_hang_44 : decode cX12_hang 44 = .ok (.goto 11, 3) := by decide +kernel
theorem dX12_hang_47 : decode cX12_hang 47 = .ok (.aload_n 0, 1) := by decide +kernel
theorem dX12_hang_48 : decode cX12_hang 48 = .ok (.getfield 13, 3) := by decide +kernel
theorem dX12_hang_51 : decode cX12_hang 51 = .ok (.iload 4, 2) := by decide +kernel
theorem dX12_hang_53 : decode cX12_hang 53 = .ok (.iload_n 3, 1) := by decide +kernel
theorem dX12_hang_54 : decode cX12_hang 54 = .ok (.bastore, 1) := by decide +kernel
theorem dX12_hang_55 : decode cX12_hang 55 = .ok (.return_, 1) := by decide +kernel
theorem dX12_goAlong_0 : decode cX12_goAlong 0 = .ok (.iload_n 1, 1) := by decide +kernel
theorem dX12_goAlong_1 : decode cX12_goAlong 1 = .ok (.istore_n 3, 1) := by decide +kernel
theorem dX12_goAlong_2 : decode cX12_goAlong 2 = .ok (.aload_n 0, 1) := by decide +kernel
theorem dX12_goAlong_3 : decode cX12_goAlong 3 = .ok (.iload_n 3, 1) := by decide +kernel
theorem dX12_goAlong_4 : decode cX12_goAlong 4 = .ok (.iload_n 2, 1) := by decide +kernel
theorem dX12_goAlong_5 : decode cX12_goAlong 5 = .ok (.invokevirtual 166, 3) := by decide +kernel
theorem dX12_goAlong_8 : decode cX12_goAlong 8 = .ok (.istore 4, 2) := by decide +kernel
theorem dX12_goAlong_10 : decode cX12_goAlong 10 = .ok (.iload 4, 2) := by decide +kernel
theorem dX12_goAlong_12 : decode cX12_goAlong 12 = .ok (.ifCond .lt 35, 3) := by decide +kernel
theorem dX12_goAlong_15 : decode cX12_goAlong 15 = .ok (.aload_n 0, 1) := by decide +kernel
theorem dX12_goAlong_16 : decode cX12_goAlong 16 = .ok (.iload_n 3, 1) := by decide +kernel
theorem dX12_goAlong_17 : decode cX12_goAlong 17 = .ok (.iload 4, 2) := by decide +kernel
theorem dX12_goAlong_19 : decode cX12_goAlong 19 = .ok (.invokevirtual 169, 3) := by decide +kernel
theorem dX12_goAlong_22 : decode cX12_goAlong 22 = .ok (.ifCond .ne 25, 3) := by decide +kernel
theorem dX12_goAlong_25 : decode cX12_goAlong 25 = .ok (.aload_n 0, 1) := by decide +kernel
theorem dX12_goAlong_26 : decode cX12_goAlong 26 = .ok (.getfield 26, 3) := by decide +kernel
theorem dX12_goAlong_29 : decode cX12_goAlong 29 = .ok (.iload 4, 2) := by decide +kernel
theorem dX12_goAlong_31 : decode cX12_goAlong 31 = .ok (.iconst 1, 1) := by decide +kernel
theorem dX12_goAlong_32 : decode cX12_goAlong 32 = .ok (.bastore, 1) := by decide +kernel
theorem dX12_goAlong_33 : decode cX12_goAlong 33 = .ok (.iload 4, 2) := by decide +kernel
theorem dX12_goAlong_35 : decode cX12_goAlong 35 = .ok (.istore_n 3, 1) := by decide +kernel
theorem dX12_goAlong_36 : decode cX12_goAlong 36 = .ok (.aload_n 0, 1) := by decide +kernel
theorem dX12_goAlong_37 : decode cX12_goAlong 37 = .ok (.iload_n 3, 1) := by decide +kernel
theorem dX12_goAlong_38 : decode cX12_goAlong 38 = .ok (.iload_n 2, 1) := by decide +kernel
theorem dX12_goAlong_39 : decode cX12_goAlong 39 = .ok (.invokevirtual 166, 3) := by decide +kernel
theorem dX12_goAlong_42 : decode cX12_goAlong 42 = .ok (.istore 4, 2) := by decide +kernel
theorem dX12_goAlong_44 : decode cX12_goAlong 44 = .ok (.goto (-34), 3) := by decide +kernel
theorem dX12_goAlong_47 : decode cX12_goAlong 47 = .ok (.iload_n 3, 1) := by decide +kernel
theorem dX12_goAlong_48 : decode cX12_goAlong 48 = .ok (.ireturn, 1) := by decide +kernel
theorem dX12_layLine_0 : decode cX12_layLine 0 = .ok (.iconst 0, 1) := by decide +kernel
theorem dX12_layLine_1 : decode cX12_layLine 1 = .ok (.istore_n 2, 1) := by decide +kernel
theorem dX12_layLine_2 : decode cX12_layLine 2 = .ok (.iload_n 2, 1) := by decide +kernel
theorem dX12_layLine_3 : decode cX12_layLine 3 = .ok (.aload_n 0, 1) := by decide +kernel
theorem dX12_layLine_4 : decode cX12_layLine 4 = .ok (.invokevirtual 114, 3) := by decide +kernel
theorem dX12_layLine_7 : decode cX12_layLine 7 = .ok (.if_icmp .ge 16, 3) := by decide +kernel
theorem dX12_layLine_10 : decode cX12_layLine 10 = .ok (.aload_n 0, 1) := by decide +kernel
theorem dX12_layLine_11 : decode cX12_layLine 11 = .ok (.getfield 26, 3) := by decide +kernel
theorem dX12_layLine_14 : decode cX12_layLine 14 = .ok (.iload_n 2, 1) := by decide +kernel
theorem dX12_layLine_15 : decode cX12_layLine 15 = .ok (.iconst 0, 1) := by decide +kernel
theorem dX12_layLine_16 : decode cX12_layLine 16 = .ok (.bastore, 1) := by decide +kernel
theorem dX12_layLine_17 : decode cX12_layLine 17 = .ok (.iinc 2 1, 3) := by decide +kernel
theorem dX12_layLine_20 : decode cX12_layLine 20 = .ok (.goto (-18), 3) := by decide +kernel
theorem dX12_layLine_23 : decode cX12_layLine 23 = .ok (.aload_n 0, 1) := by decide +kernel
theorem dX12_layLine_24 : decode cX12_layLine 24 = .ok (.getfield 7, 3) := by decide +kernel
theorem dX12_layLine_27 : decode cX12_layLine 27 = .ok (.iload_n 1, 1) := by decide +kernel
theorem dX12_layLine_28 : decode cX12_layLine 28 = .ok (.iaload, 1) := by decide +kernel
theorem dX12_layLine_29 : decode cX12_layLine 29 = .ok (.istore_n 2, 1) := by decide +kernel
theorem dX12_layLine_30 : decode cX12_layLine 30 = .ok (.aload_n 0, 1) := by decide +kernel
theorem dX12_layLine_31 : decode cX12_layLine 31 = .ok (.iload_n 1, 1) := by decide +kernel
theorem dX12_layLine_32 : decode cX12_layLine 32 = .ok (.iload_n 2, 1) := by decide +kernel
theorem dX12_layLine_33 : decode cX12_layLine 33 = .ok (.invokevirtual 172, 3) := by decide +kernel
theorem dX12_layLine_36 : decode cX12_layLine 36 = .ok (.istore_n 3, 1) := by decide +kernel
theorem dX12_layLine_37 : decode cX12_layLine 37 = .ok (.aload_n 0, 1) := by decide +kernel
theorem dX12_layLine_38 : decode cX12_layLine 38 = .ok (.getfield 153, 3) := by decide +kernel
theorem dX12_layLine_41 : decode cX12_layLine 41 = .ok (.ifCond .eq 21, 3) := by decide +kernel
theorem dX12_layLine_44 : decode cX12_layLine 44 = .ok (.iload_n 2, 1) := by decide +kernel
theorem dX12_layLine_45 : decode cX12_layLine 45 = .ok (.iconst 2, 1) := by decide +kernel
theorem dX12_layLine_46 : decode cX12_layLine 46 = .ok (.if_icmp .ge 16, 3) := by decide +kernel
theorem dX12_layLine_49 : decode cX12_layLine 49 = .ok (.aload_n 0, 1) := by decide +kernel
theorem dX12_layLine_50 : decode cX12_layLine 50 = .ok (.iload_n 3, 1) := by decide +kernel
theorem dX12_layLine_51 : decode cX12_layLine 51 = .ok (.iload_n 2, 1) := by decide +kernel
theorem dX12_layLine_52 : decode cX12_layLine 52 = .ok (.invokevirtual 166, 3) := by decide +kernel
theorem dX12_layLine_55 : decode cX12_layLine 55 = .ok (.ifCond .ge 7, 3) := by decide +kernel
theorem dX12_layLine_58 : decode cX12_layLine 58 = .ok (.iconst 1, 1) := by decide +kernel
theorem dX12_layLine_59 : decode cX12_layLine 59 = .ok (.goto 4, 3) := by decide +kernel
theorem dX12_layLine_62 : decode cX12_layLine 62 = .ok (.iconst 0, 1) := by decide +kernel
theorem dX12_layLine_63 : decode cX12_layLine 63 = .ok (.istore 4, 2) := by decide +kernel
theorem dX12_layLine_65 : decode cX12_layLine 65 = .ok (.iload 4, 2) := by decide +kernel
theorem dX12_layLine_67 : decode cX12_layLine 67 = .ok (.ifCond .eq 19, 3) := by decide +kernel
theorem dX12_layLine_70 : decode cX12_layLine 70 = .ok (.aload_n 0, 1) := by decide +kernel
theorem dX12_layLine_71 : decode cX12_layLine 71 = .ok (.getfield 26, 3) := by decide +kernel
theorem dX12_layLine_74 : decode cX12_layLine 74 = .ok (.iload_n 1, 1) := by decide +kernel
theorem dX12_layLine_75 : decode cX12_layLine 75 = .ok (.iconst 1, 1) := by decide +kernel
theorem dX12_layLine_76 : decode cX12_layLine 76 = .ok (.bastore, 1) := by decide +kernel
theorem dX12_layLine_77 : decode cX12_layLine 77 = .ok (.aload_n 0, 1) := by decide +kernel
theorem dX12_layLine_78 : decode cX12_layLine 78 = .ok (.iload_n 3, 1) := by decide +kernel
theorem dX12_layLine_79 : decode cX12_layLine 79 = .ok (.iconst 1, 1) := by decide +kernel
theorem dX12_layLine_80 : decode cX12_layLine 80 = .ok (.iload_n 2, 1) := by decide +kernel
theorem dX12_layLine_81 : decode cX12_layLine 81 = .ok (.isub, 1) := by decide +kernel
theorem dX12_layLine_82 : decode cX12_layLine 82 = .ok (.invokevirtual 172, 3) := by decide +kernel
theorem dX12_layLine_85 : decode cX12_layLine 85 = .ok (.pop, 1) := by decide +kernel
theorem dX12_layLine_86 : decode cX12_layLine 86 = .ok (.return_, 1) := by decide +kernel
theorem dX12_ofSeat_0 : decode cX12_ofSeat 0 = .ok (.aload_n 0, 1) := by decide +kernel
theorem dX12_ofSeat_1 : decode cX12_ofSeat 1 = .ok (.iload_n 1, 1) := by decide +kernel
theorem dX12_ofSeat_2 : decode cX12_ofSeat 2 = .ok (.invokevirtual 175, 3) := by decide +kernel
theorem dX12_ofSeat_5 : decode cX12_ofSeat 5 = .ok (.ifCond .eq 5, 3) := by decide +kernel
theorem dX12_ofSeat_8 : decode cX12_ofSeat 8 = .ok (.iconst (-1), 1) := by decide +kernel
theorem dX12_ofSeat_9 : decode cX12_ofSeat 9 = .ok (.ireturn, 1) := by decide +kernel
theorem dX12_ofSeat_10 : decode cX12_ofSeat 10 = .ok (.iload_n 2, 1) := by decide +kernel
theorem dX12_ofSeat_11 : decode cX12_ofSeat 11 = .ok (.iconst 2, 1) := by decide +kernel
theorem dX12_ofSeat_12 : decode cX12_ofSeat 12 = .ok (.if_icmp .ne 49, 3) := by decide +kernel
theorem dX12_ofSeat_15 : decode cX12_ofSeat 15 = .ok (.aload_n 0, 1) := by decide +kernel
theorem dX12_ofSeat_16 : decode cX12_ofSeat 16 = .ok (.iload_n 1, 1) := by decide +kernel
theorem dX12_ofSeat_17 : decode cX12_ofSeat 17 = .ok (.invokevirtual 178, 3) := by decide +kernel
theorem dX12_ofSeat_20 : decode cX12_ofSeat 20 = .ok (.iconst 0, 1) := by decide +kernel
theorem dX12_ofSeat_21 : decode cX12_ofSeat 21 = .ok (.istore_n 3, 1) := by decide +kernel
theorem dX12_ofSeat_22 : decode cX12_ofSeat 22 = .ok (.iconst 0, 1) := by decide +kernel
theorem dX12_ofSeat_23 : decode cX12_ofSeat 23 = .ok (.istore 4, 2) := by decide +kernel
theorem dX12_ofSeat_25 : decode cX12_ofSeat 25 = .ok (.iload 4, 2) := by decide +kernel
theorem dX12_ofSeat_27 : decode cX12_ofSeat 27 = .ok (.bipush 31, 2) := by decide +kernel
theorem dX12_ofSeat_29 : decode cX12_ofSeat 29 = .ok (.if_icmp .ge 30, 3) := by decide +kernel
theorem dX12_ofSeat_32 : decode cX12_ofSeat 32 = .ok (.iload_n 3, 1) := by decide +kernel
theorem dX12_ofSeat_33 : decode cX12_ofSeat 33 = .ok (.aload_n 0, 1) := by decide +kernel
theorem dX12_ofSeat_34 : decode cX12_ofSeat 34 = .ok (.getfield 26, 3) := by decide +kernel
theorem dX12_ofSeat_37 : decode cX12_ofSeat 37 = .ok (.iload 4, 2) := by decide +kernel
theorem dX12_ofSeat_39 : decode cX12_ofSeat 39 = .ok (.baload, 1) := by decide +kernel
theorem dX12_ofSeat_40 : decode cX12_ofSeat 40 = .ok (.ifCond .eq 10, 3) := by decide +kernel
theorem dX12_ofSeat_43 : decode cX12_ofSeat 43 = .ok (.iconst 1, 1) := by decide +kernel
theorem dX12_ofSeat_44 : decode cX12_ofSeat 44 = .ok (.iload 4, 2) := by decide +kernel
theorem dX12_ofSeat_46 : decode cX12_ofSeat 46 = .ok (.ishl, 1) := by decide +kernel
theorem dX12_ofSeat_47 : decode cX12_ofSeat 47 = .ok (.goto 4, 3) := by decide +kernel
theorem dX12_ofSeat_50 : decode cX12_ofSeat 50 = .ok (.iconst 0, 1) := by decide +kernel
theorem dX12_ofSeat_51 : decode cX12_ofSeat 51 = .ok (.ior, 1) := by decide +kernel
theorem dX12_ofSeat_52 : decode cX12_ofSeat 52 = .ok (.istore_n 3, 1) := by decide +kernel
theorem dX12_ofSeat_53 : decode cX12_ofSeat 53 = .ok (.iinc 4 1, 3) := by decide +kernel
theorem dX12_ofSeat_56 : decode cX12_ofSeat 56 = .ok (.goto (-31), 3) := by decide +kernel
theorem dX12_ofSeat_59 : decode cX12_ofSeat 59 = .ok (.iload_n 3, 1) := by decide +kernel
theorem dX12_ofSeat_60 : decode cX12_ofSeat 60 = .ok (.ireturn, 1) := by decide +kernel
theorem dX12_ofSeat_61 : decode cX12_ofSeat 61 = .ok (.iload_n 2, 1) := by decide +kernel
theorem dX12_ofSeat_62 : decode cX12_ofSeat 62 = .ok (.ifCond .ne 12, 3) := by decide +kernel
theorem dX12_ofSeat_65 : decode cX12_ofSeat 65 = .ok (.aload_n 0, 1) := by decide +kernel
theorem dX12_ofSeat_66 : decode cX12_ofSeat 66 = .ok (.getfield 7, 3) := by decide +kernel
theorem dX12_ofSeat_69 : decode cX12_ofSeat 69 = .ok (.iload_n 1, 1) := by decide +kernel
theorem dX12_ofSeat_70 : decode cX12_ofSeat 70 = .ok (.iaload, 1) := by decide +kernel
theorem dX12_ofSeat_71 : decode cX12_ofSeat 71 = .ok (.goto 18, 3) := by decide +kernel
theorem dX12_ofSeat_74 : decode cX12_ofSeat 74 = .ok (.iload_n 2, 1) := by decide +kernel
theorem dX12_ofSeat_75 : decode cX12_ofSeat 75 = .ok (.iconst 1, 1) := by decide +kernel
theorem dX12_ofSeat_76 : decode cX12_ofSeat 76 = .ok (.if_icmp .ne 11, 3) := by decide +kernel
theorem dX12_ofSeat_79 : decode cX12_ofSeat 79 = .ok (.aload_n 0, 1) := by decide +kernel
theorem dX12_ofSeat_80 : decode cX12_ofSeat 80 = .ok (.iload_n 1, 1) := by decide +kernel
theorem dX12_ofSeat_81 : decode cX12_ofSeat 81 = .ok (.invokevirtual 182, 3) := by decide +kernel
theorem dX12_ofSeat_84 : decode cX12_ofSeat 84 = .ok (.goto 5, 3) := by decide +kernel
theorem dX12_ofSeat_87 : decode cX12_ofSeat 87 = .ok (.bipush (-2), 2) := by decide +kernel
theorem dX12_ofSeat_89 : decode cX12_ofSeat 89 = .ok (.ireturn, 1) := by decide +kernel
theorem dX12_line_0 : decode cX12_line 0 = .ok (.aload_n 0, 1) := by decide +kernel
theorem dX12_line_1 : decode cX12_line 1 = .ok (.iload_n 1, 1) := by decide +kernel
theorem dX12_line_2 : decode cX12_line 2 = .ok (.invokevirtual 175, 3) := by decide +kernel
theorem dX12_line_5 : decode cX12_line 5 = .ok (.ifCond .ne 11, 3) := by decide +kernel
theorem dX12_line_8 : decode cX12_line 8 = .ok (.aload_n 0, 1) := by decide +kernel
theorem dX12_line_9 : decode cX12_line 9 = .ok (.iload_n 2, 1) := by decide +kernel
theorem dX12_line_10 : decode cX12_line 10 = .ok (.invokevirtual 175, 3) := by decide +kernel
theorem dX12_line_13 : decode cX12_line 13 = .ok (.ifCond .eq 5, 3) := by decide +kernel
theorem dX12_line_16 : decode cX12_line 16 = .ok (.iconst (-1), 1) := by decide +kernel
theorem dX12_line_17 : decode cX12_line 17 = .ok (.ireturn, 1) := by decide +kernel
theorem dX12_line_18 : decode cX12_line 18 = .ok (.aload_n 0, 1) := by decide +kernel
theorem dX12_line_19 : decode cX12_line 19 = .ok (.iload_n 1, 1) := by decide +kernel
theorem dX12_line_20 : decode cX12_line 20 = .ok (.invokevirtual 178, 3) := by decide +kernel
theorem dX12_line_23 : decode cX12_line 23 = .ok (.aload_n 0, 1) := by decide +kernel
theorem dX12_line_24 : decode cX12_line 24 = .ok (.getfield 26, 3) := by decide +kernel
theorem dX12_line_27 : decode cX12_line 27 = .ok (.iload_n 2, 1) := by decide +kernel
theorem dX12_line_28 : decode cX12_line 28 = .ok (.baload, 1) := by decide +kernel
theorem dX12_line_29 : decode cX12_line 29 = .ok (.ifCond .eq 7, 3) := by decide +kernel
theorem dX12_line_32 : decode cX12_line 32 = .ok (.iconst 1, 1) := by decide +kernel
theorem dX12_line_33 : decode cX12_line 33 = .ok (.goto 4, 3) := by decide +kernel
theorem dX12_line_36 : decode cX12_line 36 = .ok (.iconst 0, 1) := by decide +kernel
theorem dX12_line_37 : decode cX12_line 37 = .ok (.ireturn, 1) := by decide +kernel
theorem dX12_blind_0 : decode cX12_blind 0 = .ok (.aload_n 0, 1) := by decide +kernel
theorem dX12_blind_1 : decode cX12_blind 1 = .ok (.iload_n 1, 1) := by decide +kernel
theorem dX12_blind_2 : decode cX12_blind 2 = .ok (.invokevirtual 175, 3) := by decide +kernel
theorem dX12_blind_5 : decode cX12_blind 5 = .ok (.ifCond .ne 11, 3) := by decide +kernel
theorem dX12_blind_8 : decode cX12_blind 8 = .ok (.aload_n 0, 1) := by decide +kernel
theorem dX12_blind_9 : decode cX12_blind 9 = .ok (.iload_n 2, 1) := by decide +kernel
theorem dX12_blind_10 : decode cX12_blind 10 = .ok (.invokevirtual 175, 3) := by decide +kernel
theorem dX12_blind_13 : decode cX12_blind 13 = .ok (.ifCond .eq 5, 3) := by decide +kernel
theorem dX12_blind_16 : decode cX12_blind 16 = .ok (.iconst (-1), 1) := by decide +kernel
theorem dX12_blind_17 : decode cX12_blind 17 = .ok (.ireturn, 1) := by decide +kernel
theorem dX12_blind_18 : decode cX12_blind 18 = .ok (.aload_n 0, 1) := by decide +kernel
theorem dX12_blind_19 : decode cX12_blind 19 = .ok (.iload_n 1, 1) := by decide +kernel
theorem dX12_blind_20 : decode cX12_blind 20 = .ok (.iload_n 2, 1) := by decide +kernel
theorem dX12_blind_21 : decode cX12_blind 21 = .ok (.invokevirtual 185, 3) := by decide +kernel
theorem dX12_blind_24 : decode cX12_blind 24 = .ok (.ifCond .ne 6, 3) := by decide +kernel
theorem dX12_blind_27 : decode cX12_blind 27 = .ok (.bipush (-2), 2) := by decide +kernel
theorem dX12_blind_29 : decode cX12_blind 29 = .ok (.ireturn, 1) := by decide +kernel
theorem dX12_blind_30 : decode cX12_blind 30 = .ok (.aload_n 0, 1) := by decide +kernel
theorem dX12_blind_31 : decode cX12_blind 31 = .ok (.iload_n 1, 1) := by decide +kernel
theorem dX12_blind_32 : decode cX12_blind 32 = .ok (.iload_n 2, 1) := by decide +kernel
theorem dX12_blind_33 : decode cX12_blind 33 = .ok (.invokevirtual 169, 3) := by decide +kernel
theorem dX12_blind_36 : decode cX12_blind 36 = .ok (.istore 4, 2) := by decide +kernel
theorem dX12_blind_38 : decode cX12_blind 38 = .ok (.aload_n 0, 1) := by decide +kernel
theorem dX12_blind_39 : decode cX12_blind 39 = .ok (.iload_n 1, 1) := by decide +kernel
theorem dX12_blind_40 : decode cX12_blind 40 = .ok (.iload_n 2, 1) := by decide +kernel
theorem dX12_blind_41 : decode cX12_blind 41 = .ok (.iload_n 3, 1) := by decide +kernel
theorem dX12_blind_42 : decode cX12_blind 42 = .ok (.invokevirtual 188, 3) := by decide +kernel
theorem dX12_blind_45 : decode cX12_blind 45 = .ok (.iload 4, 2) := by decide +kernel
theorem dX12_blind_47 : decode cX12_blind 47 = .ok (.iload_n 3, 1) := by decide +kernel
theorem dX12_blind_48 : decode cX12_blind 48 = .ok (.if_icmp .ne 7, 3) := by decide +kernel
theorem dX12_blind_51 : decode cX12_blind 51 = .ok (.iconst 0, 1) := by decide +kernel
theorem dX12_blind_52 : decode cX12_blind 52 = .ok (.goto 4, 3) := by decide +kernel
theorem dX12_blind_55 : decode cX12_blind 55 = .ok (.iconst 1, 1) := by decide +kernel
theorem dX12_blind_56 : decode cX12_blind 56 = .ok (.ireturn, 1) := by decide +kernel
theorem dX12_noOne_0 : decode cX12_noOne 0 = .ok (.iload_n 1, 1) := by decide +kernel
theorem dX12_noOne_1 : decode cX12_noOne 1 = .ok (.i2l, 1) := by decide +kernel
theorem dX12_noOne_2 : decode cX12_noOne 2 = .ok (.lconst 0, 1) := by decide +kernel
theorem dX12_noOne_3 : decode cX12_noOne 3 = .ok (.aload_n 0, 1) := by decide +kernel
theorem dX12_noOne_4 : decode cX12_noOne 4 = .ok (.getfield 160, 3) := by decide +kernel
theorem dX12_noOne_7 : decode cX12_noOne 7 = .ok (.i2l, 1) := by decide +kernel
theorem dX12_noOne_8 : decode cX12_noOne 8 = .ok (.lconst 1, 1) := by decide +kernel
theorem dX12_noOne_9 : decode cX12_noOne 9 = .ok (.lsub, 1) := by decide +kernel
theorem dX12_noOne_10 : decode cX12_noOne 10 = .ok (.invokestatic 97, 3) := by decide +kernel
theorem dX12_noOne_13 : decode cX12_noOne 13 = .ok (.ifCond .ne 7, 3) := by decide +kernel
theorem dX12_noOne_16 : decode cX12_noOne 16 = .ok (.iconst 1, 1) := by decide +kernel
theorem dX12_noOne_17 : decode cX12_noOne 17 = .ok (.goto 4, 3) := by decide +kernel
theorem dX12_noOne_20 : decode cX12_noOne 20 = .ok (.iconst 0, 1) := by decide +kernel
theorem dX12_noOne_21 : decode cX12_noOne 21 = .ok (.ireturn, 1) := by decide +kernel
theorem dX12_whoOn_0 : decode cX12_whoOn 0 = .ok (.iconst 0, 1) := by decide +kernel
theorem dX12_whoOn_1 : decode cX12_whoOn 1 = .ok (.istore_n 2, 1) := by decide +kernel
theorem dX12_whoOn_2 : decode cX12_whoOn 2 = .ok (.iload_n 2, 1) := by decide +kernel
theorem dX12_whoOn_3 : decode cX12_whoOn 3 = .ok (.aload_n 0, 1) := by decide +kernel
theorem dX12_whoOn_4 : decode cX12_whoOn 4 = .ok (.getfield 160, 3) := by decide +kernel
theorem dX12_whoOn_7 : decode cX12_whoOn 7 = .ok (.if_icmp .ge 21, 3) := by decide +kernel
theorem dX12_whoOn_10 : decode cX12_whoOn 10 = .ok (.aload_n 0, 1) := by decide +kernel
theorem dX12_whoOn_11 : decode cX12_whoOn 11 = .ok (.getfield 32, 3) := by decide +kernel
theorem dX12_whoOn_14 : decode cX12_whoOn 14 = .ok (.iload_n 2, 1) := by decide +kernel
theorem dX12_whoOn_15 : decode cX12_whoOn 15 = .ok (.iaload, 1) := by decide +kernel
theorem dX12_whoOn_16 : decode cX12_whoOn 16 = .ok (.iload_n 1, 1) := by decide +kernel
theorem dX12_whoOn_17 : decode cX12_whoOn 17 = .ok (.if_icmp .ne 5, 3) := by decide +kernel
theorem dX12_whoOn_20 : decode cX12_whoOn 20 = .ok (.iload_n 2, 1) := by decide +kernel
theorem dX12_whoOn_21 : decode cX12_whoOn 21 = .ok (.ireturn, 1) := by decide +kernel
theorem dX12_whoOn_22 : decode cX12_whoOn 22 = .ok (.iinc 2 1, 3) := by decide +kernel
theorem dX12_whoOn_25 : decode cX12_whoOn 25 = .ok (.goto (-23), 3) := by decide +kernel
theorem dX12_whoOn_28 : decode cX12_whoOn 28 = .ok (.bipush (-9), 2) := by decide +kernel
theorem dX12_whoOn_30 : decode cX12_whoOn 30 = .ok (.ireturn, 1) := by decide +kernel
theorem dX12_one_0 : decode cX12_one 0 = .ok (.aload_n 0, 1) := by decide +kernel
theorem dX12_one_1 : decode cX12_one 1 = .ok (.iload_n 2, 1) := by decide +kernel
theorem dX12_one_2 : decode cX12_one 2 = .ok (.invokevirtual 175, 3) := by decide +kernel
theorem dX12_one_5 : decode cX12_one 5 = .ok (.ifCond .eq 5, 3) := by decide +kernel
theorem dX12_one_8 : decode cX12_one 8 = .ok (.iconst (-1), 1) := by decide +kernel
theorem dX12_one_9 : decode cX12_one 9 = .ok (.ireturn, 1) := by decide +kernel
theorem dX12_one_10 : decode cX12_one 10 = .ok (.iload_n 1, 1) := by decide +kernel
theorem dX12_one_11 : decode cX12_one 11 = .ok (.i2l, 1) := by decide +kernel
theorem dX12_one_12 : decode cX12_one 12 = .ok (.lconst 0, 1) := by decide +kernel
theorem dX12_one_13 : decode cX12_one 13 = .ok (.ldc2_w 95, 3) := by decide +kernel
theorem dX12_one_16 : decode cX12_one 16 = .ok (.invokestatic 97, 3) := by decide +kernel
theorem dX12_one_19 : decode cX12_one 19 = .ok (.ifCond .eq 28, 3) := by decide +kernel
theorem dX12_one_22 : decode cX12_one 22 = .ok (.iload_n 3, 1) := by decide +kernel
theorem dX12_one_23 : decode cX12_one 23 = .ok (.i2l, 1) := by decide +kernel
theorem dX12_one_24 : decode cX12_one 24 = .ok (.lconst 0, 1) := by decide +kernel
theorem dX12_one_25 : decode cX12_one 25 = .ok (.ldc2_w 192, 3) := by decide +kernel
theorem dX12_one_28 : decode cX12_one 28 = .ok (.invokestatic 97, 3) := by decide +kernel
theorem dX12_one_31 : decode cX12_one 31 = .ok (.ifCond .eq 16, 3) := by decide +kernel
theorem dX12_one_34 : decode cX12_one 34 = .ok (.iload 4, 2) := by decide +kernel
theorem dX12_one_36 : decode cX12_one 36 = .ok (.i2l, 1) := by decide +kernel
theorem dX12_one_37 : decode cX12_one 37 = .ok (.lconst 0, 1) := by decide +kernel
theorem dX12_one_38 : decode cX12_one 38 = .ok (.ldc2_w 192, 3) := by decide +kernel
theorem dX12_one_41 : decode cX12_one 41 = .ok (.invokestatic 97, 3) := by decide +kernel
theorem dX12_one_44 : decode cX12_one 44 = .ok (.ifCond .ne 6, 3) := by decide +kernel
theorem dX12_one_47 : decode cX12_one 47 = .ok (.bipush (-2), 2) := by decide +kernel
theorem dX12_one_49 : decode cX12_one 49 = .ok (.ireturn, 1) := by decide +kernel
theorem dX12_one_50 : decode cX12_one 50 = .ok (.aload_n 0, 1) := by decide +kernel
theorem dX12_one_51 : decode cX12_one 51 = .ok (.iload_n 2, 1) := by decide +kernel
theorem dX12_one_52 : decode cX12_one 52 = .ok (.invokevirtual 182, 3) := by decide +kernel
theorem dX12_one_55 : decode cX12_one 55 = .ok (.ifCond .lt 6, 3) := by decide +kernel
theorem dX12_one_58 : decode cX12_one 58 = .ok (.bipush (-3), 2) := by decide +kernel
theorem dX12_one_60 : decode cX12_one 60 = .ok (.ireturn, 1) := by decide +kernel
theorem dX12_one_61 : decode cX12_one 61 = .ok (.aload_n 0, 1) := by decide +kernel
theorem dX12_one_62 : decode cX12_one 62 = .ok (.getfield 160, 3) := by decide +kernel
theorem dX12_one_65 : decode cX12_one 65 = .ok (.bipush 12, 2) := by decide +kernel
theorem dX12_one_67 : decode cX12_one 67 = .ok (.if_icmp .ne 6, 3) := by decide +kernel
theorem dX12_one_70 : decode cX12_one 70 = .ok (.bipush (-4), 2) := by decide +kernel
theorem dX12_one_72 : decode cX12_one 72 = .ok (.ireturn, 1) := by decide +kernel
theorem dX12_one_73 : decode cX12_one 73 = .ok (.aload_n 0, 1) := by decide +kernel
theorem dX12_one_74 : decode cX12_one 74 = .ok (.getfield 29, 3) := by decide +kernel
theorem dX12_one_77 : decode cX12_one 77 = .ok (.aload_n 0, 1) := by decide +kernel
theorem dX12_one_78 : decode cX12_one 78 = .ok (.getfield 160, 3) := by decide +kernel
theorem dX12_one_81 : decode cX12_one 81 = .ok (.iload_n 1, 1) := by decide +kernel
theorem dX12_one_82 : decode cX12_one 82 = .ok (.iastore, 1) := by decide +kernel
theorem dX12_one_83 : decode cX12_one 83 = .ok (.aload_n 0, 1) := by decide +kernel
theorem dX12_one_84 : decode cX12_one 84 = .ok (.getfield 32, 3) := by decide +kernel
theorem dX12_one_87 : decode cX12_one 87 = .ok (.aload_n 0, 1) := by decide +kernel
theorem dX12_one_88 : decode cX12_one 88 = .ok (.getfield 160, 3) := by decide +kernel
theorem dX12_one_91 : decode cX12_one 91 = .ok (.iload_n 2, 1) := by decide +kernel
theorem dX12_one_92 : decode cX12_one 92 = .ok (.iastore, 1) := by decide +kernel
theorem dX12_one_93 : decode cX12_one 93 = .ok (.aload_n 0, 1) := by decide +kernel
theorem dX12_one_94 : decode cX12_one 94 = .ok (.getfield 35, 3) := by decide +kernel
theorem dX12_one_97 : decode cX12_one 97 = .ok (.aload_n 0, 1) := by decide +kernel
theorem dX12_one_98 : decode cX12_one 98 = .ok (.getfield 160, 3) := by decide +kernel
theorem dX12_one_101 : decode cX12_one 101 = .ok (.iload_n 3, 1) := by decide +kernel
theorem dX12_one_102 : decode cX12_one 102 = .ok (.iastore, 1) := by decide +kernel
theorem dX12_one_103 : decode cX12_one 103 = .ok (.aload_n 0, 1) := by decide +kernel
theorem dX12_one_104 : decode cX12_one 104 = .ok (.getfield 38, 3) := by decide +kernel
theorem dX12_one_107 : decode cX12_one 107 = .ok (.aload_n 0, 1) := by decide +kernel
theorem dX12_one_108 : decode cX12_one 108 = .ok (.getfield 160, 3) := by decide +kernel
theorem dX12_one_111 : decode cX12_one 111 = .ok (.iload 4, 2) := by decide +kernel
theorem dX12_one_113 : decode cX12_one 113 = .ok (.iastore, 1) := by decide +kernel
theorem dX12_one_114 : decode cX12_one 114 = .ok (.aload_n 0, 1) := by decide +kernel
theorem dX12_one_115 : decode cX12_one 115 = .ok (.dup, 1) := by decide +kernel
theorem dX12_one_116 : decode cX12_one 116 = .ok (.getfield 160, 3) := by decide +kernel
theorem dX12_one_119 : decode cX12_one 119 = .ok (.iconst 1, 1) := by decide +kernel
theorem dX12_one_120 : decode cX12_one 120 = .ok (.iadd, 1) := by decide +kernel
theorem dX12_one_121 : decode cX12_one 121 = .ok (.putfield 160, 3) := by decide +kernel
theorem dX12_one_124 : decode cX12_one 124 = .ok (.aload_n 0, 1) := by decide +kernel
theorem dX12_one_125 : decode cX12_one 125 = .ok (.getfield 160, 3) := by decide +kernel
theorem dX12_one_128 : decode cX12_one 128 = .ok (.iconst 1, 1) := by decide +kernel
theorem dX12_one_129 : decode cX12_one 129 = .ok (.isub, 1) := by decide +kernel
theorem dX12_one_130 : decode cX12_one 130 = .ok (.ireturn, 1) := by decide +kernel
theorem dX12_doesSee_0 : decode cX12_doesSee 0 = .ok (.aload_n 0, 1) := by decide +kernel
theorem dX12_doesSee_1 : decode cX12_doesSee 1 = .ok (.aload_n 0, 1) := by decide +kernel
theorem dX12_doesSee_2 : decode cX12_doesSee 2 = .ok (.getfield 32, 3) := by decide +kernel
theorem dX12_doesSee_5 : decode cX12_doesSee 5 = .ok (.iload_n 1, 1) := by decide +kernel
theorem dX12_doesSee_6 : decode cX12_doesSee 6 = .ok (.iaload, 1) := by decide +kernel
theorem dX12_doesSee_7 : decode cX12_doesSee 7 = .ok (.invokevirtual 178, 3) := by decide +kernel
theorem dX12_doesSee_10 : decode cX12_doesSee 10 = .ok (.iload_n 1, 1) := by decide +kernel
theorem dX12_doesSee_11 : decode cX12_doesSee 11 = .ok (.iload_n 2, 1) := by decide +kernel
theorem dX12_doesSee_12 : decode cX12_doesSee 12 = .ok (.if_icmp .eq 21, 3) := by decide +kernel
theorem dX12_doesSee_15 : decode cX12_doesSee 15 = .ok (.aload_n 0, 1) := by decide +kernel
theorem dX12_doesSee_16 : decode cX12_doesSee 16 = .ok (.getfield 26, 3) := by decide +kernel
theorem dX12_doesSee_19 : decode cX12_doesSee 19 = .ok (.aload_n 0, 1) := by decide +kernel
theorem dX12_doesSee_20 : decode cX12_doesSee 20 = .ok (.getfield 32, 3) := by decide +kernel
theorem dX12_doesSee_23 : decode cX12_doesSee 23 = .ok (.iload_n 2, 1) := by decide +kernel
theorem dX12_doesSee_24 : decode cX12_doesSee 24 = .ok (.iaload, 1) := by decide +kernel
theorem dX12_doesSee_25 : decode cX12_doesSee 25 = .ok (.baload, 1) := by decide +kernel
theorem dX12_doesSee_26 : decode cX12_doesSee 26 = .ok (.ifCond .eq 7, 3) := by decide +kernel
theorem dX12_doesSee_29 : decode cX12_doesSee 29 = .ok (.iconst 1, 1) := by decide +kernel
theorem dX12_doesSee_30 : decode cX12_doesSee 30 = .ok (.goto 4, 3) := by decide +kernel
theorem dX12_doesSee_33 : decode cX12_doesSee 33 = .ok (.iconst 0, 1) := by decide +kernel
theorem dX12_doesSee_34 : decode cX12_doesSee 34 = .ok (.ireturn, 1) := by decide +kernel
theorem dX12_doesHear_0 : decode cX12_doesHear 0 = .ok (.aload_n 0, 1) := by decide +kernel
theorem dX12_doesHear_1 : decode cX12_doesHear 1 = .ok (.aload_n 0, 1) := by decide +kernel
theorem dX12_doesHear_2 : decode cX12_doesHear 2 = .ok (.getfield 32, 3) := by decide +kernel
theorem dX12_doesHear_5 : decode cX12_doesHear 5 = .ok (.iload_n 1, 1) := by decide +kernel
theorem dX12_doesHear_6 : decode cX12_doesHear 6 = .ok (.iaload, 1) := by decide +kernel
theorem dX12_doesHear_7 : decode cX12_doesHear 7 = .ok (.aload_n 0, 1) := by decide +kernel
theorem dX12_doesHear_8 : decode cX12_doesHear 8 = .ok (.getfield 32, 3) := by decide +kernel
theorem dX12_doesHear_11 : decode cX12_doesHear 11 = .ok (.iload_n 2, 1) := by decide +kernel
theorem dX12_doesHear_12 : decode cX12_doesHear 12 = .ok (.iaload, 1) := by decide +kernel
theorem dX12_doesHear_13 : decode cX12_doesHear 13 = .ok (.invokevirtual 185, 3) := by decide +kernel
theorem dX12_doesHear_16 : decode cX12_doesHear 16 = .ok (.ireturn, 1) := by decide +kernel
theorem dX12_ofOne_0 : decode cX12_ofOne 0 = .ok (.aload_n 0, 1) := by decide +kernel
theorem dX12_ofOne_1 : decode cX12_ofOne 1 = .ok (.iload_n 1, 1) := by decide +kernel
theorem dX12_ofOne_2 : decode cX12_ofOne 2 = .ok (.invokevirtual 194, 3) := by decide +kernel
theorem dX12_ofOne_5 : decode cX12_ofOne 5 = .ok (.ifCond .eq 5, 3) := by decide +kernel
theorem dX12_ofOne_8 : decode cX12_ofOne 8 = .ok (.iconst (-1), 1) := by decide +kernel
theorem dX12_ofOne_9 : decode cX12_ofOne 9 = .ok (.ireturn, 1) := by decide +kernel
theorem dX12_ofOne_10 : decode cX12_ofOne 10 = .ok (.iconst 0, 1) := by decide +kernel
theorem dX12_ofOne_11 : decode cX12_ofOne 11 = .ok (.istore_n 3, 1) := by decide +kernel
theorem dX12_ofOne_12 : decode cX12_ofOne 12 = .ok (.iconst 0, 1) := by decide +kernel
theorem dX12_ofOne_13 : decode cX12_ofOne 13 = .ok (.istore 4, 2) := by decide +kernel
theorem dX12_ofOne_15 : decode cX12_ofOne 15 = .ok (.iconst 0, 1) := by decide +kernel
theorem dX12_ofOne_16 : decode cX12_ofOne 16 = .ok (.istore 5, 2) := by decide +kernel
theorem dX12_ofOne_18 : decode cX12_ofOne 18 = .ok (.iload 5, 2) := by decide +kernel
theorem dX12_ofOne_20 : decode cX12_ofOne 20 = .ok (.aload_n 0, 1) := by decide +kernel
theorem dX12_ofOne_21 : decode cX12_ofOne 21 = .ok (.getfield 160, 3) := by decide +kernel
theorem dX12_ofOne_24 : decode cX12_ofOne 24 = .ok (.if_icmp .ge 53, 3) := by decide +kernel
theorem dX12_ofOne_27 : decode cX12_ofOne 27 = .ok (.iload_n 3, 1) := by decide +kernel
theorem dX12_ofOne_28 : decode cX12_ofOne 28 = .ok (.aload_n 0, 1) := by decide +kernel
theorem dX12_ofOne_29 : decode cX12_ofOne 29 = .ok (.iload_n 1, 1) := by decide +kernel
theorem dX12_ofOne_30 : decode cX12_ofOne 30 = .ok (.iload 5, 2) := by decide +kernel
theorem dX12_ofOne_32 : decode cX12_ofOne 32 = .ok (.invokevirtual 197, 3) := by decide +kernel
theorem dX12_ofOne_35 : decode cX12_ofOne 35 = .ok (.ifCond .eq 10, 3) := by decide +kernel
theorem dX12_ofOne_38 : decode cX12_ofOne 38 = .ok (.iconst 1, 1) := by decide +kernel
theorem dX12_ofOne_39 : decode cX12_ofOne 39 = .ok (.iload 5, 2) := by decide +kernel
theorem dX12_ofOne_41 : decode cX12_ofOne 41 = .ok (.ishl, 1) := by decide +kernel
theorem dX12_ofOne_42 : decode cX12_ofOne 42 = .ok (.goto 4, 3) := by decide +kernel
theorem dX12_ofOne_45 : decode cX12_ofOne 45 = .ok (.iconst 0, 1) := by decide +kernel
theorem dX12_ofOne_46 : decode cX12_ofOne 46 = .ok (.ior, 1) := by decide +kernel
theorem dX12_ofOne_47 : decode cX12_ofOne 47 = .ok (.istore_n 3, 1) := by decide +kernel
theorem dX12_ofOne_48 : decode cX12_ofOne 48 = .ok (.iload 4, 2) := by decide +kernel
theorem dX12_ofOne_50 : decode cX12_ofOne 50 = .ok (.aload_n 0, 1) := by decide +kernel
theorem dX12_ofOne_51 : decode cX12_ofOne 51 = .ok (.iload_n 1, 1) := by decide +kernel
theorem dX12_ofOne_52 : decode cX12_ofOne 52 = .ok (.iload 5, 2) := by decide +kernel
theorem dX12_ofOne_54 : decode cX12_ofOne 54 = .ok (.invokevirtual 200, 3) := by decide +kernel
theorem dX12_ofOne_57 : decode cX12_ofOne 57 = .ok (.ifCond .eq 10, 3) := by decide +kernel
theorem dX12_ofOne_60 : decode cX12_ofOne 60 = .ok (.iconst 1, 1) := by decide +kernel
theorem dX12_ofOne_61 : decode cX12_ofOne 61 = .ok (.iload 5, 2) := by decide +kernel
theorem dX12_ofOne_63 : decode cX12_ofOne 63 = .ok (.ishl, 1) := by decide +kernel
theorem dX12_ofOne_64 : decode cX12_ofOne 64 = .ok (.goto 4, 3) := by decide +kernel
theorem dX12_ofOne_67 : decode cX12_ofOne 67 = .ok (.iconst 0, 1) := by decide +kernel
theorem dX12_ofOne_68 : decode cX12_ofOne 68 = .ok (.ior, 1) := by decide +kernel
theorem dX12_ofOne_69 : decode cX12_ofOne 69 = .ok (.istore 4, 2) := by decide +kernel
theorem dX12_ofOne_71 : decode cX12_ofOne 71 = .ok (.iinc 5 1, 3) := by decide +kernel
theorem dX12_ofOne_74 : decode cX12_ofOne 74 = .ok (.goto (-56), 3) := by decide +kernel
theorem dX12_ofOne_77 : decode cX12_ofOne 77 = .ok (.iload_n 2, 1) := by decide +kernel
theorem dX12_ofOne_78 : decode cX12_ofOne 78 = .ok (.tableswitch 71 0 5 #[38, 45, 52, 59, 66, 68], 38) := by decide +kernel
theorem dX12_ofOne_116 : decode cX12_ofOne 116 = .ok (.aload_n 0, 1) := by decide +kernel
theorem dX12_ofOne_117 : decode cX12_ofOne 117 = .ok (.getfield 29, 3) := by decide +kernel
theorem dX12_ofOne_120 : decode cX12_ofOne 120 = .ok (.iload_n 1, 1) := by decide +kernel
theorem dX12_ofOne_121 : decode cX12_ofOne 121 = .ok (.iaload, 1) := by decide +kernel
theorem dX12_ofOne_122 : decode cX12_ofOne 122 = .ok (.ireturn, 1) := by decide +kernel
theorem dX12_ofOne_123 : decode cX12_ofOne 123 = .ok (.aload_n 0, 1) := by decide +kernel
theorem dX12_ofOne_124 : decode cX12_ofOne 124 = .ok (.getfield 32, 3) := by decide +kernel
theorem dX12_ofOne_127 : decode cX12_ofOne 127 = .ok (.iload_n 1, 1) := by decide +kernel
theorem dX12_ofOne_128 : decode cX12_ofOne 128 = .ok (.iaload, 1) := by decide +kernel
theorem dX12_ofOne_129 : decode cX12_ofOne 129 = .ok (.ireturn, 1) := by decide +kernel
theorem dX12_ofOne_130 : decode cX12_ofOne 130 = .ok (.aload_n 0, 1) := by decide +kernel
theorem dX12_ofOne_131 : decode cX12_ofOne 131 = .ok (.getfield 35, 3) := by decide +kernel
theorem dX12_ofOne_134 : decode cX12_ofOne 134 = .ok (.iload_n 1, 1) := by decide +kernel
theorem dX12_ofOne_135 : decode cX12_ofOne 135 = .ok (.iaload, 1) := by decide +kernel
theorem dX12_ofOne_136 : decode cX12_ofOne 136 = .ok (.ireturn, 1) := by decide +kernel
theorem dX12_ofOne_137 : decode cX12_ofOne 137 = .ok (.aload_n 0, 1) := by decide +kernel
theorem dX12_ofOne_138 : decode cX12_ofOne 138 = .ok (.getfield 38, 3) := by decide +kernel
theorem dX12_ofOne_141 : decode cX12_ofOne 141 = .ok (.iload_n 1, 1) := by decide +kernel
theorem dX12_ofOne_142 : decode cX12_ofOne 142 = .ok (.iaload, 1) := by decide +kernel
theorem dX12_ofOne_143 : decode cX12_ofOne 143 = .ok (.ireturn, 1) := by decide +kernel
theorem dX12_ofOne_144 : decode cX12_ofOne 144 = .ok (.iload_n 3, 1) := by decide +kernel
theorem dX12_ofOne_145 : decode cX12_ofOne 145 = .ok (.ireturn, 1) := by decide +kernel
theorem dX12_ofOne_146 : decode cX12_ofOne 146 = .ok (.iload 4, 2) := by decide +kernel
theorem dX12_ofOne_148 : decode cX12_ofOne 148 = .ok (.ireturn, 1) := by decide +kernel
theorem dX12_ofOne_149 : decode cX12_ofOne 149 = .ok (.bipush (-2), 2) := by decide +kernel
theorem dX12_ofOne_151 : decode cX12_ofOne 151 = .ok (.ireturn, 1) := by decide +kernel
theorem dX12_move_0 : decode cX12_move 0 = .ok (.aload_n 0, 1) := by decide +kernel
theorem dX12_move_1 : decode cX12_move 1 = .ok (.iload_n 1, 1) := by decide +kernel
theorem dX12_move_2 : decode cX12_move 2 = .ok (.invokevirtual 194, 3) := by decide +kernel
theorem dX12_move_5 : decode cX12_move 5 = .ok (.ifCond .ne 11, 3) := by decide +kernel
theorem dX12_move_8 : decode cX12_move 8 = .ok (.aload_n 0, 1) := by decide +kernel
theorem dX12_move_9 : decode cX12_move 9 = .ok (.iload_n 2, 1) := by decide +kernel
theorem dX12_move_10 : decode cX12_move 10 = .ok (.invokevirtual 175, 3) := by decide +kernel
theorem dX12_move_13 : decode cX12_move 13 = .ok (.ifCond .eq 5, 3) := by decide +kernel
theorem dX12_move_16 : decode cX12_move 16 = .ok (.iconst (-1), 1) := by decide +kernel
theorem dX12_move_17 : decode cX12_move 17 = .ok (.ireturn, 1) := by decide +kernel
theorem dX12_move_18 : decode cX12_move 18 = .ok (.aload_n 0, 1) := by decide +kernel
theorem dX12_move_19 : decode cX12_move 19 = .ok (.iload_n 2, 1) := by decide +kernel
theorem dX12_move_20 : decode cX12_move 20 = .ok (.invokevirtual 182, 3) := by decide +kernel
theorem dX12_move_23 : decode cX12_move 23 = .ok (.ifCond .lt 6, 3) := by decide +kernel
theorem dX12_move_26 : decode cX12_move 26 = .ok (.bipush (-3), 2) := by decide +kernel
theorem dX12_move_28 : decode cX12_move 28 = .ok (.ireturn, 1) := by decide +kernel
theorem dX12_move_29 : decode cX12_move 29 = .ok (.aload_n 0, 1) := by decide +kernel
theorem dX12_move_30 : decode cX12_move 30 = .ok (.getfield 32, 3) := by decide +kernel
theorem dX12_move_33 : decode cX12_move 33 = .ok (.iload_n 1, 1) := by decide +kernel
theorem dX12_move_34 : decode cX12_move 34 = .ok (.iaload, 1) := by decide +kernel
theorem dX12_move_35 : decode cX12_move 35 = .ok (.istore_n 3, 1) := by decide +kernel
theorem dX12_move_36 : decode cX12_move 36 = .ok (.aload_n 0, 1) := by decide +kernel
theorem dX12_move_37 : decode cX12_move 37 = .ok (.getfield 32, 3) := by decide +kernel
theorem dX12_move_40 : decode cX12_move 40 = .ok (.iload_n 1, 1) := by decide +kernel
theorem dX12_move_41 : decode cX12_move 41 = .ok (.iload_n 2, 1) := by decide +kernel
theorem dX12_move_42 : decode cX12_move 42 = .ok (.iastore, 1) := by decide +kernel
theorem dX12_move_43 : decode cX12_move 43 = .ok (.iload_n 3, 1) := by decide +kernel
theorem dX12_move_44 : decode cX12_move 44 = .ok (.ireturn, 1) := by decide +kernel
theorem dX12_noLaw_0 : decode cX12_noLaw 0 = .ok (.iload_n 1, 1) := by decide +kernel
theorem dX12_noLaw_1 : decode cX12_noLaw 1 = .ok (.i2l, 1) := by decide +kernel
theorem dX12_noLaw_2 : decode cX12_noLaw 2 = .ok (.lconst 0, 1) := by decide +kernel
theorem dX12_noLaw_3 : decode cX12_noLaw 3 = .ok (.aload_n 0, 1) := by decide +kernel
theorem dX12_noLaw_4 : decode cX12_noLaw 4 = .ok (.getfield 203, 3) := by decide +kernel
theorem dX12_noLaw_7 : decode cX12_noLaw 7 = .ok (.i2l, 1) := by decide +kernel
theorem dX12_noLaw_8 : decode cX12_noLaw 8 = .ok (.lconst 1, 1) := by decide +kernel
theorem dX12_noLaw_9 : decode cX12_noLaw 9 = .ok (.lsub, 1) := by decide +kernel
theorem dX12_noLaw_10 : decode cX12_noLaw 10 = .ok (.invokestatic 97, 3) := by decide +kernel
theorem dX12_noLaw_13 : decode cX12_noLaw 13 = .ok (.ifCond .ne 7, 3) := by decide +kernel
theorem dX12_noLaw_16 : decode cX12_noLaw 16 = .ok (.iconst 1, 1) := by decide +kernel
theorem dX12_noLaw_17 : decode cX12_noLaw 17 = .ok (.goto 4, 3) := by decide +kernel
theorem dX12_noLaw_20 : decode cX12_noLaw 20 = .ok (.iconst 0, 1) := by decide +kernel
theorem dX12_noLaw_21 : decode cX12_noLaw 21 = .ok (.ireturn, 1) := by decide +kernel
theorem dX12_of_0 : decode cX12_of 0 = .ok (.aload_n 0, 1) := by decide +kernel
theorem dX12_of_1 : decode cX12_of 1 = .ok (.getfield 41, 3) := by decide +kernel
theorem dX12_of_4 : decode cX12_of 4 = .ok (.bipush 7, 2) := by decide +kernel
theorem dX12_of_6 : decode cX12_of 6 = .ok (.iload_n 1, 1) := by decide +kernel
theorem dX12_of_7 : decode cX12_of 7 = .ok (.imul, 1) := by decide +kernel
theorem dX12_of_8 : decode cX12_of 8 = .ok (.iload_n 2, 1) := by decide +kernel
theorem dX12_of_9 : decode cX12_of 9 = .ok (.iadd, 1) := by decide +kernel
theorem dX12_of_10 : decode cX12_of 10 = .ok (.iaload, 1) := by decide +kernel
theorem dX12_of_11 : decode cX12_of 11 = .ok (.ireturn, 1) := by decide +kernel
theorem dX12_whatBy_0 : decode cX12_whatBy 0 = .ok (.iload_n 0, 1) := by decide +kernel
theorem dX12_whatBy_1 : decode cX12_whatBy 1 = .ok (.tableswitch 114 101 121 #[103, 109, 114, 114, 114, 114, 105, 114, 114, 114, 99, 114, 114, 114, 101, 111, 114, 114, 114, 114, 107], 99) := by decide +kernel
theorem dX12_whatBy_100 : decode cX12_whatBy 100 = .ok (.iconst 0, 1) := by decide +kernel
theorem dX12_whatBy_101 : decode cX12_whatBy 101 = .ok (.ireturn, 1) := by decide +kernel
theorem dX12_whatBy_102 : decode cX12_whatBy 102 = .ok (.iconst 1, 1) := by decide +kernel
theorem dX12_whatBy_103 : decode cX12_whatBy 103 = .ok (.ireturn, 1) := by decide +kernel
theorem dX12_whatBy_104 : decode cX12_whatBy 104 = .ok (.iconst 2, 1) := by decide +kernel
theorem dX12_whatBy_105 : decode cX12_whatBy 105 = .ok (.ireturn, 1) := by decide +kernel
theorem dX12_whatBy_106 : decode cX12_whatBy 106 = .ok (.iconst 3, 1) := by decide +kernel
theorem dX12_whatBy_107 : decode cX12_whatBy 107 = .ok (.ireturn, 1) := by decide +kernel
theorem dX12_whatBy_108 : decode cX12_whatBy 108 = .ok (.iconst 4, 1) := by decide +kernel
theorem dX12_whatBy_109 : decode cX12_whatBy 109 = .ok (.ireturn, 1) := by decide +kernel
theorem dX12_whatBy_110 : decode cX12_whatBy 110 = .ok (.iconst 5, 1) := by decide +kernel
theorem dX12_whatBy_111 : decode cX12_whatBy 111 = .ok (.ireturn, 1) := by decide +kernel
theorem dX12_whatBy_112 : decode cX12_whatBy 112 = .ok (.bipush 6, 2) := by decide +kernel
theorem dX12_whatBy_114 : decode cX12_whatBy 114 = .ok (.ireturn, 1) := by decide +kernel
theorem dX12_whatBy_115 : decode cX12_whatBy 115 = .ok (.bipush (-9), 2) := by decide +kernel
theorem dX12_whatBy_117 : decode cX12_whatBy 117 = .ok (.ireturn, 1) := by decide +kernel
theorem dX12_untold_0 : decode cX12_untold 0 = .ok (.iload_n 0, 1) := by decide +kernel
theorem dX12_untold_1 : decode cX12_untold 1 = .ok (.iconst 1, 1) := by decide +kernel
theorem dX12_untold_2 : decode cX12_untold 2 = .ok (.if_icmp .ne 8, 3) := by decide +kernel
theorem dX12_untold_5 : decode cX12_untold 5 = .ok (.bipush 6, 2) := by decide +kernel
theorem dX12_untold_7 : decode cX12_untold 7 = .ok (.goto 37, 3) := by decide +kernel
theorem dX12_untold_10 : decode cX12_untold 10 = .ok (.iload_n 0, 1) := by decide +kernel
theorem dX12_untold_11 : decode cX12_untold 11 = .ok (.iconst 2, 1) := by decide +kernel
theorem dX12_untold_12 : decode cX12_untold 12 = .ok (.if_icmp .ne 7, 3) := by decide +kernel
theorem dX12_untold_15 : decode cX12_untold 15 = .ok (.iconst 2, 1) := by decide +kernel
theorem dX12_untold_16 : decode cX12_untold 16 = .ok (.goto 28, 3) := by decide +kernel
theorem dX12_untold_19 : decode cX12_untold 19 = .ok (.iload_n 0, 1) := by decide +kernel
theorem dX12_untold_20 : decode cX12_untold 20 = .ok (.iconst 3, 1) := by decide +kernel
theorem dX12_untold_21 : decode cX12_untold 21 = .ok (.if_icmp .eq 8, 3) := by decide +kernel
theorem dX12_untold_24 : decode cX12_untold 24 = .ok (.iload_n 0, 1) := by decide +kernel
theorem dX12_untold_25 : decode cX12_untold 25 = .ok (.iconst 4, 1) := by decide +kernel
theorem dX12_untold_26 : decode cX12_untold 26 = .ok (.if_icmp .ne 7, 3) := by decide +kernel
theorem dX12_untold_29 : decode cX12_untold 29 = .ok (.iconst 3, 1) := by decide +kernel
theorem dX12_untold_30 : decode cX12_untold 30 = .ok (.goto 14, 3) := by decide +kernel
theorem dX12_untold_33 : decode cX12_untold 33 = .ok (.iload_n 0, 1) := by decide +kernel
theorem dX12_untold_34 : decode cX12_untold 34 = .ok (.bipush 6, 2) := by decide +kernel
theorem dX12_untold_36 : decode cX12_untold 36 = .ok (.if_icmp .ne 7, 3) := by decide +kernel
theorem dX12_untold_39 : decode cX12_untold 39 = .ok (.iconst 5, 1) := by decide +kernel
theorem dX12_untold_40 : decode cX12_untold 40 = .ok (.goto 4, 3) := by decide +kernel
theorem dX12_untold_43 : decode cX12_untold 43 = .ok (.iconst 1, 1) := by decide +kernel
theorem dX12_untold_44 : decode cX12_untold 44 = .ok (.ireturn, 1) := by decide +kernel
theorem dX12_readLaw_0 : decode cX12_readLaw 0 = .ok (.iconst 0, 1) := by decide +kernel
theorem dX12_readLaw_1 : decode cX12_readLaw 1 = .ok (.istore_n 3, 1) := by decide +kernel
theorem dX12_readLaw_2 : decode cX12_readLaw 2 = .ok (.iload_n 3, 1) := by decide +kernel
theorem dX12_readLaw_3 : decode cX12_readLaw 3 = .ok (.bipush 7, 2) := by decide +kernel
theorem dX12_readLaw_5 : decode cX12_readLaw 5 = .ok (.if_icmp .ge 17, 3) := by decide +kernel
theorem dX12_readLaw_8 : decode cX12_readLaw 8 = .ok (.aload_n 0, 1) := by decide +kernel
theorem dX12_readLaw_9 : decode cX12_readLaw 9 = .ok (.getfield 44, 3) := by decide +kernel
theorem dX12_readLaw_12 : decode cX12_readLaw 12 = .ok (.iload_n 3, 1) := by decide +kernel
theorem dX12_readLaw_13 : decode cX12_readLaw 13 = .ok (.bipush (-9), 2) := by decide +kernel
theorem dX12_readLaw_15 : decode cX12_readLaw 15 = .ok (.iastore, 1) := by decide +kernel
theorem dX12_readLaw_16 : decode cX12_readLaw 16 = .ok (.iinc 3 1, 3) := by decide +kernel
theorem dX12_readLaw_19 : decode cX12_readLaw 19 = .ok (.goto (-17), 3) := by decide +kernel
theorem dX12_readLaw_22 : decode cX12_readLaw 22 = .ok (.aload_n 0, 1) := by decide +kernel
theorem dX12_readLaw_23 : decode cX12_readLaw 23 = .ok (.iconst 0, 1) := by decide +kernel
theorem dX12_readLaw_24 : decode cX12_readLaw 24 = .ok (.putfield 118, 3) := by decide +kernel
theorem dX12_readLaw_27 : decode cX12_readLaw 27 = .ok (.iconst 0, 1) := by decide +kernel
theorem dX12_readLaw_28 : decode cX12_readLaw 28 = .ok (.istore_n 3, 1) := by decide +kernel
theorem dX12_readLaw_29 : decode cX12_readLaw 29 = .ok (.iconst 1, 1) := by decide +kernel
theorem dX12_readLaw_30 : decode cX12_readLaw 30 = .ok (.istore 4, 2) := by decide +kernel
theorem dX12_readLaw_32 : decode cX12_readLaw 32 = .ok (.iload 4, 2) := by decide +kernel
theorem dX12_readLaw_34 : decode cX12_readLaw 34 = .ok (.ifCond .eq 185, 3) := by decide +kernel
theorem dX12_readLaw_37 : decode cX12_readLaw 37 = .ok (.aload_n 0, 1) := by decide +kernel
theorem dX12_readLaw_38 : decode cX12_readLaw 38 = .ok (.getfield 118, 3) := by decide +kernel
theorem dX12_readLaw_41 : decode cX12_readLaw 41 = .ok (.iload_n 2, 1) := by decide +kernel
theorem dX12_readLaw_42 : decode cX12_readLaw 42 = .ok (.if_icmp .ge 20, 3) := by decide +kernel
theorem dX12_readLaw_45 : decode cX12_readLaw 45 = .ok (.aload_n 0, 1) := by decide +kernel
theorem dX12_readLaw_46 : decode cX12_readLaw 46 = .ok (.getfield 71, 3) := by decide +kernel
theorem dX12_readLaw_49 : decode cX12_readLaw 49 = .ok (.iload_n 1, 1) := by decide +kernel
theorem dX12_readLaw_50 : decode cX12_readLaw 50 = .ok (.aload_n 0, 1) := by decide +kernel
theorem dX12_readLaw_51 : decode cX12_readLaw 51 = .ok (.getfield 118, 3) := by decide +kernel
theorem dX12_readLaw_54 : decode cX12_readLaw 54 = .ok (.iadd, 1) := by decide +kernel
theorem dX12_readLaw_55 : decode cX12_readLaw 55 = .ok (.iaload, 1) := by decide +kernel
theorem dX12_readLaw_56 : decode cX12_readLaw 56 = .ok (.invokestatic 206, 3) := by decide +kernel
theorem dX12_readLaw_59 : decode cX12_readLaw 59 = .ok (.goto 5, 3) := by decide +kernel
theorem dX12_readLaw_62 : decode cX12_readLaw 62 = .ok (.bipush (-9), 2) := by decide +kernel
theorem dX12_readLaw_64 : decode cX12_readLaw 64 = .ok (.istore 5, 2) := by decide +kernel
theorem dX12_readLaw_66 : decode cX12_readLaw 66 = .ok (.iload 5, 2) := by decide +kernel
theorem dX12_readLaw_68 : decode cX12_readLaw 68 = .ok (.ifCond .lt 13, 3) := by decide +kernel
theorem dX12_readLaw_71 : decode cX12_readLaw 71 = .ok (.aload_n 0, 1) := by decide +kernel
theorem dX12_readLaw_72 : decode cX12_readLaw 72 = .ok (.getfield 44, 3) := by decide +kernel
theorem dX12_readLaw_75 : decode cX12_readLaw 75 = .ok (.iload 5, 2) := by decide +kernel
theorem dX12_readLaw_77 : decode cX12_readLaw 77 = .ok (.iaload, 1) := by decide +kernel
theorem dX12_readLaw_78 : decode cX12_readLaw 78 = .ok (.ifCond .lt 8, 3) := by decide +kernel
theorem dX12_readLaw_81 : decode cX12_readLaw 81 = .ok (.aload_n 0, 1) := by decide +kernel
theorem dX12_readLaw_82 : decode cX12_readLaw 82 = .ok (.getfield 118, 3) := by decide +kernel
theorem dX12_readLaw_85 : decode cX12_readLaw 85 = .ok (.ireturn, 1) := by decide +kernel
theorem dX12_readLaw_86 : decode cX12_readLaw 86 = .ok (.aload_n 0, 1) := by decide +kernel
theorem dX12_readLaw_87 : decode cX12_readLaw 87 = .ok (.dup, 1) := by decide +kernel
theorem dX12_readLaw_88 : decode cX12_readLaw 88 = .ok (.getfield 118, 3) := by decide +kernel
theorem dX12_readLaw_91 : decode cX12_readLaw 91 = .ok (.iconst 1, 1) := by decide +kernel
theorem dX12_readLaw_92 : decode cX12_readLaw 92 = .ok (.iadd, 1) := by decide +kernel
theorem dX12_readLaw_93 : decode cX12_readLaw 93 = .ok (.putfield 118, 3) := by decide +kernel
theorem dX12_readLaw_96 : decode cX12_readLaw 96 = .ok (.aload_n 0, 1) := by decide +kernel
theorem dX12_readLaw_97 : decode cX12_readLaw 97 = .ok (.iload_n 1, 1) := by decide +kernel
theorem dX12_readLaw_98 : decode cX12_readLaw 98 = .ok (.iload_n 2, 1) := by decide +kernel
theorem dX12_readLaw_99 : decode cX12_readLaw 99 = .ok (.iload 5, 2) := by decide +kernel
theorem dX12_readLaw_101 : decode cX12_readLaw 101 = .ok (.iconst 3, 1) := by decide +kernel
theorem dX12_readLaw_102 : decode cX12_readLaw 102 = .ok (.if_icmp .eq 16, 3) := by decide +kernel
theorem dX12_readLaw_105 : decode cX12_readLaw 105 = .ok (.iload 5, 2) := by decide +kernel
theorem dX12_readLaw_107 : decode cX12_readLaw 107 = .ok (.iconst 5, 1) := by decide +kernel
theorem dX12_readLaw_108 : decode cX12_readLaw 108 = .ok (.if_icmp .eq 10, 3) := by decide +kernel
theorem dX12_readLaw_111 : decode cX12_readLaw 111 = .ok (.iload 5, 2) := by decide +kernel
theorem dX12_readLaw_113 : decode cX12_readLaw 113 = .ok (.bipush 6, 2) := by decide +kernel
theorem dX12_readLaw_115 : decode cX12_readLaw 115 = .ok (.if_icmp .ne 7, 3) := by decide +kernel
theorem dX12_readLaw_118 : decode cX12_readLaw 118 = .ok (.iconst 1, 1) := by decide +kernel
theorem dX12_readLaw_119 : decode cX12_readLaw 119 = .ok (.goto 4, 3) := by decide +kernel
theorem dX12_readLaw_122 : decode cX12_readLaw 122 = .ok (.iconst 0, 1) := by decide +kernel
theorem dX12_readLaw_123 : decode cX12_readLaw 123 = .ok (.bipush 9, 2) := by decide +kernel
theorem dX12_readLaw_125 : decode cX12_readLaw 125 = .ok (.invokevirtual 128, 3) := by decide +kernel
theorem dX12_readLaw_128 : decode cX12_readLaw 128 = .ok (.ifCond .ne 8, 3) := by decide +kernel
theorem dX12_readLaw_131 : decode cX12_readLaw 131 = .ok (.aload_n 0, 1) := by decide +kernel
theorem dX12_readLaw_132 : decode cX12_readLaw 132 = .ok (.getfield 118, 3) := by decide +kernel
theorem dX12_readLaw_135 : decode cX12_readLaw 135 = .ok (.ireturn, 1) := by decide +kernel
theorem dX12_readLaw_136 : decode cX12_readLaw 136 = .ok (.aload_n 0, 1) := by decide +kernel
theorem dX12_readLaw_137 : decode cX12_readLaw 137 = .ok (.getfield 44, 3) := by decide +kernel
theorem dX12_readLaw_140 : decode cX12_readLaw 140 = .ok (.iload 5, 2) := by decide +kernel
theorem dX12_readLaw_142 : decode cX12_readLaw 142 = .ok (.aload_n 0, 1) := by decide +kernel
theorem dX12_readLaw_143 : decode cX12_readLaw 143 = .ok (.getfield 121, 3) := by decide +kernel
theorem dX12_readLaw_146 : decode cX12_readLaw 146 = .ok (.iastore, 1) := by decide +kernel
theorem dX12_readLaw_147 : decode cX12_readLaw 147 = .ok (.iinc 3 1, 3) := by decide +kernel
theorem dX12_readLaw_150 : decode cX12_readLaw 150 = .ok (.aload_n 0, 1) := by decide +kernel
theorem dX12_readLaw_151 : decode cX12_readLaw 151 = .ok (.getfield 118, 3) := by decide +kernel
theorem dX12_readLaw_154 : decode cX12_readLaw 154 = .ok (.iload_n 2, 1) := by decide +kernel
theorem dX12_readLaw_155 : decode cX12_readLaw 155 = .ok (.if_icmp .ge 7, 3) := by decide +kernel
theorem dX12_readLaw_158 : decode cX12_readLaw 158 = .ok (.iconst 1, 1) := by decide +kernel
theorem dX12_readLaw_159 : decode cX12_readLaw 159 = .ok (.goto 4, 3) := by decide +kernel
theorem dX12_readLaw_162 : decode cX12_readLaw 162 = .ok (.iconst 0, 1) := by decide +kernel
theorem dX12_readLaw_163 : decode cX12_readLaw 163 = .ok (.istore 4, 2) := by decide +kernel
theorem dX12_readLaw_165 : decode cX12_readLaw 165 = .ok (.iload 4, 2) := by decide +kernel
theorem dX12_readLaw_167 : decode cX12_readLaw 167 = .ok (.ifCond .eq 30, 3) := by decide +kernel
theorem dX12_readLaw_170 : decode cX12_readLaw 170 = .ok (.aload_n 0, 1) := by decide +kernel
theorem dX12_readLaw_171 : decode cX12_readLaw 171 = .ok (.getfield 71, 3) := by decide +kernel
theorem dX12_readLaw_174 : decode cX12_readLaw 174 = .ok (.iload_n 1, 1) := by decide +kernel
theorem dX12_readLaw_175 : decode cX12_readLaw 175 = .ok (.aload_n 0, 1) := by decide +kernel
theorem dX12_readLaw_176 : decode cX12_readLaw 176 = .ok (.getfield 118, 3) := by decide +kernel
theorem dX12_readLaw_179 : decode cX12_readLaw 179 = .ok (.iadd, 1) := by decide +kernel
theorem dX12_readLaw_180 : decode cX12_readLaw 180 = .ok (.iaload, 1) := by decide +kernel
theorem dX12_readLaw_181 : decode cX12_readLaw 181 = .ok (.bipush 59, 2) := by decide +kernel
theorem dX12_readLaw_183 : decode cX12_readLaw 183 = .ok (.if_icmp .ne 9, 3) := by decide +kernel
theorem dX12_readLaw_186 : decode cX12_readLaw 186 = .ok (.iload_n 3, 1) := by decide +kernel
theorem dX12_readLaw_187 : decode cX12_readLaw 187 = .ok (.bipush 7, 2) := by decide +kernel
theorem dX12_readLaw_189 : decode cX12_readLaw 189 = .ok (.if_icmp .ne 8, 3) := by decide +kernel
theorem dX12_readLaw_192 : decode cX12_readLaw 192 = .ok (.aload_n 0, 1) := by decide +kernel
theorem dX12_readLaw_193 : decode cX12_readLaw 193 = .ok (.getfield 118, 3) := by decide +kernel
theorem dX12_readLaw_196 : decode cX12_readLaw 196 = .ok (.ireturn, 1) := by decide +kernel
theorem dX12_readLaw_197 : decode cX12_readLaw 197 = .ok (.aload_n 0, 1) := by decide +kernel
theorem dX12_readLaw_198 : decode cX12_readLaw 198 = .ok (.dup, 1) := by decide +kernel
theorem dX12_readLaw_199 : decode cX12_readLaw 199 = .ok (.getfield 118, 3) := by decide +kernel
theorem dX12_readLaw_202 : decode cX12_readLaw 202 = .ok (.iload 4, 2) := by decide +kernel
theorem dX12_readLaw_204 : decode cX12_readLaw 204 = .ok (.ifCond .eq 7, 3) := by decide +kernel
theorem dX12_readLaw_207 : decode cX12_readLaw 207 = .ok (.iconst 1, 1) := by decide +kernel
theorem dX12_readLaw_208 : decode cX12_readLaw 208 = .ok (.goto 4, 3) := by decide +kernel
theorem dX12_readLaw_211 : decode cX12_readLaw 211 = .ok (.iconst 0, 1) := by decide +kernel
theorem dX12_readLaw_212 : decode cX12_readLaw 212 = .ok (.iadd, 1) := by decide +kernel
theorem dX12_readLaw_213 : decode cX12_readLaw 213 = .ok (.putfield 118, 3) := by decide +kernel
theorem dX12_readLaw_216 : decode cX12_readLaw 216 = .ok (.goto (-184), 3) := by decide +kernel
theorem dX12_readLaw_219 : decode cX12_readLaw 219 = .ok (.bipush (-9), 2) := by decide +kernel
theorem dX12_readLaw_221 : decode cX12_readLaw 221 = .ok (.ireturn, 1) := by decide +kernel
theorem dX12_law_0 : decode cX12_law 0 = .ok (.aload_n 0, 1) := by decide +kernel
theorem dX12_law_1 : decode cX12_law 1 = .ok (.iload_n 1, 1) := by decide +kernel
theorem dX12_law_2 : decode cX12_law 2 = .ok (.iload_n 2, 1) := by decide +kernel
theorem dX12_law_3 : decode cX12_law 3 = .ok (.iload_n 3, 1) := by decide +kernel
theorem dX12_law_4 : decode cX12_law 4 = .ok (.iload 4, 2) := by decide +kernel
theorem dX12_law_6 : decode cX12_law 6 = .ok (.i2l, 1) := by decide +kernel
theorem dX12_law_7 : decode cX12_law 7 = .ok (.invokevirtual 145, 3) := by decide +kernel
theorem dX12_law_10 : decode cX12_law 10 = .ok (.istore 5, 2) := by decide +kernel
theorem dX12_law_12 : decode cX12_law 12 = .ok (.iload 5, 2) := by decide +kernel
theorem dX12_law_14 : decode cX12_law 14 = .ok (.ifCond .ge 6, 3) := by decide +kernel
theorem dX12_law_17 : decode cX12_law 17 = .ok (.iload 5, 2) := by decide +kernel
theorem dX12_law_19 : decode cX12_law 19 = .ok (.ireturn, 1) := by decide +kernel
theorem dX12_law_20 : decode cX12_law 20 = .ok (.aload_n 0, 1) := by decide +kernel
theorem dX12_law_21 : decode cX12_law 21 = .ok (.bipush 60, 2) := by decide +kernel
theorem dX12_law_23 : decode cX12_law 23 = .ok (.iload_n 1, 1) := by decide +kernel
theorem dX12_law_24 : decode cX12_law 24 = .ok (.imul, 1) := by decide +kernel
theorem dX12_law_25 : decode cX12_law 25 = .ok (.iload_n 3, 1) := by decide +kernel
theorem dX12_law_26 : decode cX12_law 26 = .ok (.iadd, 1) := by decide +kernel
theorem dX12_law_27 : decode cX12_law 27 = .ok (.iload 4, 2) := by decide +kernel
theorem dX12_law_29 : decode cX12_law 29 = .ok (.invokevirtual 209, 3) := by decide +kernel
theorem dX12_law_32 : decode cX12_law 32 = .ok (.istore 6, 2) := by decide +kernel
theorem dX12_law_34 : decode cX12_law 34 = .ok (.iload 6, 2) := by decide +kernel
theorem dX12_law_36 : decode cX12_law 36 = .ok (.ifCond .lt 13, 3) := by decide +kernel
theorem dX12_law_39 : decode cX12_law 39 = .ok (.aload_n 0, 1) := by decide +kernel
theorem dX12_law_40 : decode cX12_law 40 = .ok (.bipush (-100), 2) := by decide +kernel
theorem dX12_law_42 : decode cX12_law 42 = .ok (.iload 6, 2) := by decide +kernel
theorem dX12_law_44 : decode cX12_law 44 = .ok (.isub, 1) := by decide +kernel
theorem dX12_law_45 : decode cX12_law 45 = .ok (.invokevirtual 91, 3) := by decide +kernel
theorem dX12_law_48 : decode cX12_law 48 = .ok (.ireturn, 1) := by decide +kernel
theorem dX12_law_49 : decode cX12_law 49 = .ok (.aload_n 0, 1) := by decide +kernel
theorem dX12_law_50 : decode cX12_law 50 = .ok (.getfield 203, 3) := by decide +kernel
theorem dX12_law_53 : decode cX12_law 53 = .ok (.bipush 6, 2) := by decide +kernel
theorem dX12_law_55 : decode cX12_law 55 = .ok (.if_icmp .ne 10, 3) := by decide +kernel
theorem dX12_law_58 : decode cX12_law 58 = .ok (.aload_n 0, 1) := by decide +kernel
theorem dX12_law_59 : decode cX12_law 59 = .ok (.bipush (-4), 2) := by decide +kernel
theorem dX12_law_61 : decode cX12_law 61 = .ok (.invokevirtual 91, 3) := by decide +kernel
theorem dX12_law_64 : decode cX12_law 64 = .ok (.ireturn, 1) := by decide +kernel
theorem dX12_law_65 : decode cX12_law 65 = .ok (.iconst 0, 1) := by decide +kernel
theorem dX12_law_66 : decode cX12_law 66 = .ok (.istore 7, 2) := by decide +kernel
theorem dX12_law_68 : decode cX12_law 68 = .ok (.iload 7, 2) := by decide +kernel
theorem dX12_law_70 : decode cX12_law 70 = .ok (.bipush 7, 2) := by decide +kernel
theorem dX12_law_72 : decode cX12_law 72 = .ok (.if_icmp .ge 49, 3) := by decide +kernel
theorem dX12_law_75 : decode cX12_law 75 = .ok (.aload_n 0, 1) := by decide +kernel
theorem dX12_law_76 : decode cX12_law 76 = .ok (.getfield 41, 3) := by decide +kernel
theorem dX12_law_79 : decode cX12_law 79 = .ok (.bipush 7, 2) := by decide +kernel
theorem dX12_law_81 : decode cX12_law 81 = .ok (.aload_n 0, 1) := by decide +kernel
theorem dX12_law_82 : decode cX12_law 82 = .ok (.getfield 203, 3) := by decide +kernel
theorem dX12_law_85 : decode cX12_law 85 = .ok (.imul, 1) := by decide +kernel
theorem dX12_law_86 : decode cX12_law 86 = .ok (.iload 7, 2) := by decide +kernel
theorem dX12_law_88 : decode cX12_law 88 = .ok (.iadd, 1) := by decide +kernel
theorem dX12_law_89 : decode cX12_law 89 = .ok (.aload_n 0, 1) := by decide +kernel
theorem dX12_law_90 : decode cX12_law 90 = .ok (.getfield 44, 3) := by decide +kernel
theorem dX12_law_93 : decode cX12_law 93 = .ok (.iload 7, 2) := by decide +kernel
theorem dX12_law_95 : decode cX12_law 95 = .ok (.iaload, 1) := by decide +kernel
theorem dX12_law_96 : decode cX12_law 96 = .ok (.ifCond .ge 11, 3) := by decide +kernel
theorem dX12_law_99 : decode cX12_law 99 = .ok (.iload 7, 2) := by decide +kernel
theorem dX12_law_101 : decode cX12_law 101 = .ok (.invokestatic 212, 3) := by decide +kernel
theorem dX12_law_104 : decode cX12_law 104 = .ok (.goto 10, 3) := by decide +kernel
theorem dX12_law_107 : decode cX12_law 107 = .ok (.aload_n 0, 1) := by decide +kernel
theorem dX12_law_108 : decode cX12_law 108 = .ok (.getfield 44, 3) := by decide +kernel
theorem dX12_law_111 : decode cX12_law 111 = .ok (.iload 7, 2) := by decide +kernel
theorem dX12_law_113 : decode cX12_law 113 = .ok (.iaload, 1) := by decide +kernel
theorem dX12_law_114 : decode cX12_law 114 = .ok (.iastore, 1) := by decide +kernel
theorem dX12_law_115 : decode cX12_law 115 = .ok (.iinc 7 1, 3) := by decide +kernel
theorem dX12_law_118 : decode cX12_law 118 = .ok (.goto (-50), 3) := by decide +kernel
theorem dX12_law_121 : decode cX12_law 121 = .ok (.aload_n 0, 1) := by decide +kernel
theorem dX12_law_122 : decode cX12_law 122 = .ok (.aload_n 0, 1) := by decide +kernel
theorem dX12_law_123 : decode cX12_law 123 = .ok (.getfield 203, 3) := by decide +kernel
theorem dX12_law_126 : decode cX12_law 126 = .ok (.bipush 6, 2) := by decide +kernel
theorem dX12_law_128 : decode cX12_law 128 = .ok (.invokevirtual 215, 3) := by decide +kernel
theorem dX12_law_131 : decode cX12_law 131 = .ok (.aload_n 0, 1) := by decide +kernel
theorem dX12_law_132 : decode cX12_law 132 = .ok (.aload_n 0, 1) := by decide +kernel
theorem dX12_law_133 : decode cX12_law 133 = .ok (.getfield 203, 3) := by decide +kernel
theorem dX12_law_136 : decode cX12_law 136 = .ok (.iconst 5, 1) := by decide +kernel
theorem dX12_law_137 : decode cX12_law 137 = .ok (.invokevirtual 215, 3) := by decide +kernel
theorem dX12_law_140 : decode cX12_law 140 = .ok (.if_icmp .ge 27, 3) := by decide +kernel
theorem dX12_law_143 : decode cX12_law 143 = .ok (.aload_n 0, 1) := by decide +kernel
theorem dX12_law_144 : decode cX12_law 144 = .ok (.getfield 41, 3) := by decide +kernel
theorem dX12_law_147 : decode cX12_law 147 = .ok (.bipush 7, 2) := by decide +kernel
theorem dX12_law_149 : decode cX12_law 149 = .ok (.aload_n 0, 1) := by decide +kernel
theorem dX12_law_150 : decode cX12_law 150 = .ok (.getfield 203, 3) := by decide +kernel
theorem dX12_law_153 : decode cX12_law 153 = .ok (.imul, 1) := by decide +kernel
theorem dX12_law_154 : decode cX12_law 154 = .ok (.bipush 6, 2) := by decide +kernel
theorem dX12_law_156 : decode cX12_law 156 = .ok (.iadd, 1) := by decide +kernel
theorem dX12_law_157 : decode cX12_law 157 = .ok (.aload_n 0, 1) := by decide +kernel
theorem dX12_law_158 : decode cX12_law 158 = .ok (.aload_n 0, 1) := by decide +kernel
theorem dX12_law_159 : decode cX12_law 159 = .ok (.getfield 203, 3) := by decide +kernel
theorem dX12_law_162 : decode cX12_law 162 = .ok (.iconst 5, 1) := by decide +kernel
theorem dX12_law_163 : decode cX12_law 163 = .ok (.invokevirtual 215, 3) := by decide +kernel
theorem dX12_law_166 : decode cX12_law 166 = .ok (.iastore, 1) := by decide +kernel
theorem dX12_law_167 : decode cX12_law 167 = .ok (.aload_n 0, 1) := by decide +kernel
theorem dX12_law_168 : decode cX12_law 168 = .ok (.dup, 1) := by decide +kernel
theorem dX12_law_169 : decode cX12_law 169 = .ok (.getfield 203, 3) := by decide +kernel
theorem dX12_law_172 : decode cX12_law 172 = .ok (.iconst 1, 1) := by decide +kernel
theorem dX12_law_173 : decode cX12_law 173 = .ok (.iadd, 1) := by decide +kernel
theorem dX12_law_174 : decode cX12_law 174 = .ok (.putfield 203, 3) := by decide +kernel
theorem dX12_law_177 : decode cX12_law 177 = .ok (.aload_n 0, 1) := by decide +kernel
theorem dX12_law_178 : decode cX12_law 178 = .ok (.aload_n 0, 1) := by decide +kernel
theorem dX12_law_179 : decode cX12_law 179 = .ok (.getfield 203, 3) := by decide +kernel
theorem dX12_law_182 : decode cX12_law 182 = .ok (.iconst 1, 1) := by decide +kernel
theorem dX12_law_183 : decode cX12_law 183 = .ok (.isub, 1) := by decide +kernel
theorem dX12_law_184 : decode cX12_law 184 = .ok (.invokevirtual 91, 3) := by decide +kernel
theorem dX12_law_187 : decode cX12_law 187 = .ok (.ireturn, 1) := by decide +kernel
theorem dX12_ofLaw_0 : decode cX12_ofLaw 0 = .ok (.aload_n 0, 1) := by decide +kernel
theorem dX12_ofLaw_1 : decode cX12_ofLaw 1 = .ok (.iload_n 1, 1) := by decide +kernel
theorem dX12_ofLaw_2 : decode cX12_ofLaw 2 = .ok (.invokevirtual 218, 3) := by decide +kernel
theorem dX12_ofLaw_5 : decode cX12_ofLaw 5 = .ok (.ifCond .ne 15, 3) := by decide +kernel
theorem dX12_ofLaw_8 : decode cX12_ofLaw 8 = .ok (.iload_n 2, 1) := by decide +kernel
theorem dX12_ofLaw_9 : decode cX12_ofLaw 9 = .ok (.i2l, 1) := by decide +kernel
theorem dX12_ofLaw_10 : decode cX12_ofLaw 10 = .ok (.lconst 0, 1) := by decide +kernel
theorem dX12_ofLaw_11 : decode cX12_ofLaw 11 = .ok (.ldc2_w 221, 3) := by decide +kernel
theorem dX12_ofLaw_14 : decode cX12_ofLaw 14 = .ok (.invokestatic 97, 3) := by decide +kernel
theorem dX12_ofLaw_17 : decode cX12_ofLaw 17 = .ok (.ifCond .ne 7, 3) := by decide +kernel
theorem dX12_ofLaw_20 : decode cX12_ofLaw 20 = .ok (.iconst (-1), 1) := by decide +kernel
theorem dX12_ofLaw_21 : decode cX12_ofLaw 21 = .ok (.goto 9, 3) := by decide +kernel
theorem dX12_ofLaw_24 : decode cX12_ofLaw 24 = .ok (.aload_n 0, 1) := by decide +kernel
theorem dX12_ofLaw_25 : decode cX12_ofLaw 25 = .ok (.iload_n 1, 1) := by decide +kernel
theorem dX12_ofLaw_26 : decode cX12_ofLaw 26 = .ok (.iload_n 2, 1) := by decide +kernel
theorem dX12_ofLaw_27 : decode cX12_ofLaw 27 = .ok (.invokevirtual 215, 3) := by decide +kernel
theorem dX12_ofLaw_30 : decode cX12_ofLaw 30 = .ok (.ireturn, 1) := by decide +kernel
theorem dX12_taken_0 : decode cX12_taken 0 = .ok (.aload_n 0, 1) := by decide +kernel
theorem dX12_taken_1 : decode cX12_taken 1 = .ok (.getfield 29, 3) := by decide +kernel
theorem dX12_taken_4 : decode cX12_taken 4 = .ok (.iload_n 2, 1) := by decide +kernel
theorem dX12_taken_5 : decode cX12_taken 5 = .ok (.iaload, 1) := by decide +kernel
theorem dX12_taken_6 : decode cX12_taken 6 = .ok (.ifCond .ne 6, 3) := by decide +kernel
theorem dX12_taken_9 : decode cX12_taken 9 = .ok (.iload 4, 2) := by decide +kernel
theorem dX12_taken_11 : decode cX12_taken 11 = .ok (.ireturn, 1) := by decide +kernel
theorem dX12_taken_12 : decode cX12_taken 12 = .ok (.iload_n 3, 1) := by decide +kernel
theorem dX12_taken_13 : decode cX12_taken 13 = .ok (.bipush (-9), 2) := by decide +kernel
theorem dX12_taken_15 : decode cX12_taken 15 = .ok (.if_icmp .eq 18, 3) := by decide +kernel
theorem dX12_taken_18 : decode cX12_taken 18 = .ok (.aload_n 0, 1) := by decide +kernel
theorem dX12_taken_19 : decode cX12_taken 19 = .ok (.getfield 38, 3) := by decide +kernel
theorem dX12_taken_22 : decode cX12_taken 22 = .ok (.iload_n 2, 1) := by decide +kernel
theorem dX12_taken_23 : decode cX12_taken 23 = .ok (.iaload, 1) := by decide +kernel
theorem dX12_taken_24 : decode cX12_taken 24 = .ok (.aload_n 0, 1) := by decide +kernel
theorem dX12_taken_25 : decode cX12_taken 25 = .ok (.getfield 38, 3) := by decide +kernel
theorem dX12_taken_28 : decode cX12_taken 28 = .ok (.iload_n 3, 1) := by decide +kernel
theorem dX12_taken_29 : decode cX12_taken 29 = .ok (.iaload, 1) := by decide +kernel
theorem dX12_taken_30 : decode cX12_taken 30 = .ok (.if_icmp .ne 7, 3) := by decide +kernel
theorem dX12_taken_33 : decode cX12_taken 33 = .ok (.iconst 1, 1) := by decide +kernel
theorem dX12_taken_34 : decode cX12_taken 34 = .ok (.goto 4, 3) := by decide +kernel
theorem dX12_taken_37 : decode cX12_taken 37 = .ok (.iconst 0, 1) := by decide +kernel
theorem dX12_taken_38 : decode cX12_taken 38 = .ok (.istore 5, 2) := by decide +kernel
theorem dX12_taken_40 : decode cX12_taken 40 = .ok (.aload_n 0, 1) := by decide +kernel
theorem dX12_taken_41 : decode cX12_taken 41 = .ok (.getfield 29, 3) := by decide +kernel
theorem dX12_taken_44 : decode cX12_taken 44 = .ok (.iload_n 2, 1) := by decide +kernel
theorem dX12_taken_45 : decode cX12_taken 45 = .ok (.iaload, 1) := by decide +kernel
theorem dX12_taken_46 : decode cX12_taken 46 = .ok (.iconst 2, 1) := by decide +kernel
theorem dX12_taken_47 : decode cX12_taken 47 = .ok (.if_icmp .ne 12, 3) := by decide +kernel
theorem dX12_taken_50 : decode cX12_taken 50 = .ok (.iload 5, 2) := by decide +kernel
theorem dX12_taken_52 : decode cX12_taken 52 = .ok (.ifCond .ne 7, 3) := by decide +kernel
theorem dX12_taken_55 : decode cX12_taken 55 = .ok (.iconst 0, 1) := by decide +kernel
theorem dX12_taken_56 : decode cX12_taken 56 = .ok (.goto 15, 3) := by decide +kernel
theorem dX12_taken_59 : decode cX12_taken 59 = .ok (.iload 4, 2) := by decide +kernel
theorem dX12_taken_61 : decode cX12_taken 61 = .ok (.aload_n 0, 1) := by decide +kernel
theorem dX12_taken_62 : decode cX12_taken 62 = .ok (.iload_n 1, 1) := by decide +kernel
theorem dX12_taken_63 : decode cX12_taken 63 = .ok (.iconst 4, 1) := by decide +kernel
theorem dX12_taken_64 : decode cX12_taken 64 = .ok (.invokevirtual 215, 3) := by decide +kernel
theorem dX12_taken_67 : decode cX12_taken 67 = .ok (.imul, 1) := by decide +kernel
theorem dX12_taken_68 : decode cX12_taken 68 = .ok (.bipush 9, 2) := by decide +kernel
theorem dX12_taken_70 : decode cX12_taken 70 = .ok (.idiv, 1) := by decide +kernel
theorem dX12_taken_71 : decode cX12_taken 71 = .ok (.ireturn, 1) := by decide +kernel
theorem dX12_caught_0 : decode cX12_caught 0 = .ok (.aload_n 0, 1) := by decide +kernel
theorem dX12_caught_1 : decode cX12_caught 1 = .ok (.iload_n 1, 1) := by decide +kernel
theorem dX12_caught_2 : decode cX12_caught 2 = .ok (.iload_n 2, 1) := by decide +kernel
theorem dX12_caught_3 : decode cX12_caught 3 = .ok (.iload_n 3, 1) := by decide +kernel
theorem dX12_caught_4 : decode cX12_caught 4 = .ok (.iload 4, 2) := by decide +kernel
theorem dX12_caught_6 : decode cX12_caught 6 = .ok (.ifCond .ne 12, 3) := by decide +kernel
theorem dX12_caught_9 : decode cX12_caught 9 = .ok (.aload_n 0, 1) := by decide +kernel
theorem dX12_caught_10 : decode cX12_caught 10 = .ok (.iload_n 2, 1) := by decide +kernel
theorem dX12_caught_11 : decode cX12_caught 11 = .ok (.iload_n 3, 1) := by decide +kernel
theorem dX12_caught_12 : decode cX12_caught 12 = .ok (.invokevirtual 197, 3) := by decide +kernel
theorem dX12_caught_15 : decode cX12_caught 15 = .ok (.ifCond .eq 7, 3) := by decide +kernel
theorem dX12_caught_18 : decode cX12_caught 18 = .ok (.iconst 1, 1) := by decide +kernel
theorem dX12_caught_19 : decode cX12_caught 19 = .ok (.goto 4, 3) := by decide +kernel
theorem dX12_caught_22 : decode cX12_caught 22 = .ok (.iconst 0, 1) := by decide +kernel
theorem dX12_caught_23 : decode cX12_caught 23 = .ok (.invokevirtual 223, 3) := by decide +kernel
theorem dX12_caught_26 : decode cX12_caught 26 = .ok (.ireturn, 1) := by decide +kernel
theorem dX12_caughtBy_0 : decode cX12_caughtBy 0 = .ok (.iload 4, 2) := by decide +kernel
theorem dX12_caughtBy_2 : decode cX12_caughtBy 2 = .ok (.ifCond .eq 12, 3) := by decide +kernel
theorem dX12_caughtBy_5 : decode cX12_caughtBy 5 = .ok (.aload_n 0, 1) := by decide +kernel
theorem dX12_caughtBy_6 : decode cX12_caughtBy 6 = .ok (.iload_n 1, 1) := by decide +kernel
theorem dX12_caughtBy_7 : decode cX12_caughtBy 7 = .ok (.iconst 1, 1) := by decide +kernel
theorem dX12_caughtBy_8 : decode cX12_caughtBy 8 = .ok (.invokevirtual 215, 3) := by decide +kernel
theorem dX12_caughtBy_11 : decode cX12_caughtBy 11 = .ok (.goto 22, 3) := by decide +kernel
theorem dX12_caughtBy_14 : decode cX12_caughtBy 14 = .ok (.aload_n 0, 1) := by decide +kernel
theorem dX12_caughtBy_15 : decode cX12_caughtBy 15 = .ok (.iload_n 2, 1) := by decide +kernel
theorem dX12_caughtBy_16 : decode cX12_caughtBy 16 = .ok (.iload_n 3, 1) := by decide +kernel
theorem dX12_caughtBy_17 : decode cX12_caughtBy 17 = .ok (.invokevirtual 200, 3) := by decide +kernel
theorem dX12_caughtBy_20 : decode cX12_caughtBy 20 = .ok (.ifCond .eq 12, 3) := by decide +kernel
theorem dX12_caughtBy_23 : decode cX12_caughtBy 23 = .ok (.aload_n 0, 1) := by decide +kernel
theorem dX12_caughtBy_24 : decode cX12_caughtBy 24 = .ok (.iload_n 1, 1) := by decide +kernel
theorem dX12_caughtBy_25 : decode cX12_caughtBy 25 = .ok (.iconst 2, 1) := by decide +kernel
theorem dX12_caughtBy_26 : decode cX12_caughtBy 26 = .ok (.invokevirtual 215, 3) := by decide +kernel
theorem dX12_caughtBy_29 : decode cX12_caughtBy 29 = .ok (.goto 4, 3) := by decide +kernel
theorem dX12_caughtBy_32 : decode cX12_caughtBy 32 = .ok (.iconst 0, 1) := by decide +kernel
theorem dX12_caughtBy_33 : decode cX12_caughtBy 33 = .ok (.istore 5, 2) := by decide +kernel
theorem dX12_caughtBy_35 : decode cX12_caughtBy 35 = .ok (.aload_n 0, 1) := by decide +kernel
theorem dX12_caughtBy_36 : decode cX12_caughtBy 36 = .ok (.iload_n 1, 1) := by decide +kernel
theorem dX12_caughtBy_37 : decode cX12_caughtBy 37 = .ok (.iload_n 2, 1) := by decide +kernel
theorem dX12_caughtBy_38 : decode cX12_caughtBy 38 = .ok (.iload_n 3, 1) := by decide +kernel
theorem dX12_caughtBy_39 : decode cX12_caughtBy 39 = .ok (.aload_n 0, 1) := by decide +kernel
theorem dX12_caughtBy_40 : decode cX12_caughtBy 40 = .ok (.getfield 38, 3) := by decide +kernel
theorem dX12_caughtBy_43 : decode cX12_caughtBy 43 = .ok (.iload_n 2, 1) := by decide +kernel
theorem dX12_caughtBy_44 : decode cX12_caughtBy 44 = .ok (.iaload, 1) := by decide +kernel
theorem dX12_caughtBy_45 : decode cX12_caughtBy 45 = .ok (.aload_n 0, 1) := by decide +kernel
theorem dX12_caughtBy_46 : decode cX12_caughtBy 46 = .ok (.getfield 38, 3) := by decide +kernel
theorem dX12_caughtBy_49 : decode cX12_caughtBy 49 = .ok (.iload_n 3, 1) := by decide +kernel
theorem dX12_caughtBy_50 : decode cX12_caughtBy 50 = .ok (.iaload, 1) := by decide +kernel
theorem dX12_caughtBy_51 : decode cX12_caughtBy 51 = .ok (.if_icmp .ne 15, 3) := by decide +kernel
theorem dX12_caughtBy_54 : decode cX12_caughtBy 54 = .ok (.iload 5, 2) := by decide +kernel
theorem dX12_caughtBy_56 : decode cX12_caughtBy 56 = .ok (.aload_n 0, 1) := by decide +kernel
theorem dX12_caughtBy_57 : decode cX12_caughtBy 57 = .ok (.iload_n 1, 1) := by decide +kernel
theorem dX12_caughtBy_58 : decode cX12_caughtBy 58 = .ok (.iconst 3, 1) := by decide +kernel
theorem dX12_caughtBy_59 : decode cX12_caughtBy 59 = .ok (.invokevirtual 215, 3) := by decide +kernel
theorem dX12_caughtBy_62 : decode cX12_caughtBy 62 = .ok (.imul, 1) := by decide +kernel
theorem dX12_caughtBy_63 : decode cX12_caughtBy 63 = .ok (.goto 5, 3) := by decide +kernel
theorem dX12_caughtBy_66 : decode cX12_caughtBy 66 = .ok (.iload 5, 2) := by decide +kernel
theorem dX12_caughtBy_68 : decode cX12_caughtBy 68 = .ok (.invokevirtual 227, 3) := by decide +kernel
theorem dX12_caughtBy_71 : decode cX12_caughtBy 71 = .ok (.ireturn, 1) := by decide +kernel
theorem dX12_mightOf_0 : decode cX12_mightOf 0 = .ok (.iload_n 3, 1) := by decide +kernel
theorem dX12_mightOf_1 : decode cX12_mightOf 1 = .ok (.bipush (-9), 2) := by decide +kernel
theorem dX12_mightOf_3 : decode cX12_mightOf 3 = .ok (.if_icmp .ne 30, 3) := by decide +kernel
theorem dX12_mightOf_6 : decode cX12_mightOf 6 = .ok (.aload_n 0, 1) := by decide +kernel
theorem dX12_mightOf_7 : decode cX12_mightOf 7 = .ok (.iload_n 1, 1) := by decide +kernel
theorem dX12_mightOf_8 : decode cX12_mightOf 8 = .ok (.iload_n 2, 1) := by decide +kernel
theorem dX12_mightOf_9 : decode cX12_mightOf 9 = .ok (.bipush (-9), 2) := by decide +kernel
theorem dX12_mightOf_11 : decode cX12_mightOf 11 = .ok (.aload_n 0, 1) := by decide +kernel
theorem dX12_mightOf_12 : decode cX12_mightOf 12 = .ok (.iload_n 1, 1) := by decide +kernel
theorem dX12_mightOf_13 : decode cX12_mightOf 13 = .ok (.iconst 0, 1) := by decide +kernel
theorem dX12_mightOf_14 : decode cX12_mightOf 14 = .ok (.invokevirtual 215, 3) := by decide +kernel
theorem dX12_mightOf_17 : decode cX12_mightOf 17 = .ok (.bipush 10, 2) := by decide +kernel
theorem dX12_mightOf_19 : decode cX12_mightOf 19 = .ok (.aload_n 0, 1) := by decide +kernel
theorem dX12_mightOf_20 : decode cX12_mightOf 20 = .ok (.getfield 35, 3) := by decide +kernel
theorem dX12_mightOf_23 : decode cX12_mightOf 23 = .ok (.iload_n 2, 1) := by decide +kernel
theorem dX12_mightOf_24 : decode cX12_mightOf 24 = .ok (.iaload, 1) := by decide +kernel
theorem dX12_mightOf_25 : decode cX12_mightOf 25 = .ok (.isub, 1) := by decide +kernel
theorem dX12_mightOf_26 : decode cX12_mightOf 26 = .ok (.imul, 1) := by decide +kernel
theorem dX12_mightOf_27 : decode cX12_mightOf 27 = .ok (.invokevirtual 227, 3) := by decide +kernel
theorem dX12_mightOf_30 : decode cX12_mightOf 30 = .ok (.goto 11, 3) := by decide +kernel
theorem dX12_mightOf_33 : decode cX12_mightOf 33 = .ok (.aload_n 0, 1) := by decide +kernel
theorem dX12_mightOf_34 : decode cX12_mightOf 34 = .ok (.iload_n 1, 1) := by decide +kernel
theorem dX12_mightOf_35 : decode cX12_mightOf 35 = .ok (.iload_n 2, 1) := by decide +kernel
theorem dX12_mightOf_36 : decode cX12_mightOf 36 = .ok (.iload_n 3, 1) := by decide +kernel
theorem dX12_mightOf_37 : decode cX12_mightOf 37 = .ok (.iconst 0, 1) := by decide +kernel
theorem dX12_mightOf_38 : decode cX12_mightOf 38 = .ok (.invokevirtual 231, 3) := by decide +kernel
theorem dX12_mightOf_41 : decode cX12_mightOf 41 = .ok (.ireturn, 1) := by decide +kernel
theorem dX12_might_0 : decode cX12_might 0 = .ok (.aload_n 0, 1) := by decide +kernel
theorem dX12_might_1 : decode cX12_might 1 = .ok (.iload_n 1, 1) := by decide +kernel
theorem dX12_might_2 : decode cX12_might 2 = .ok (.invokevirtual 218, 3) := by decide +kernel
theorem dX12_might_5 : decode cX12_might 5 = .ok (.ifCond .ne 25, 3) := by decide +kernel
theorem dX12_might_8 : decode cX12_might 8 = .ok (.aload_n 0, 1) := by decide +kernel
theorem dX12_might_9 : decode cX12_might 9 = .ok (.iload_n 2, 1) := by decide +kernel
theorem dX12_might_10 : decode cX12_might 10 = .ok (.invokevirtual 194, 3) := by decide +kernel
theorem dX12_might_13 : decode cX12_might 13 = .ok (.ifCond .ne 17, 3) := by decide +kernel
theorem dX12_might_16 : decode cX12_might 16 = .ok (.aload_n 0, 1) := by decide +kernel
theorem dX12_might_17 : decode cX12_might 17 = .ok (.iload_n 3, 1) := by decide +kernel
theorem dX12_might_18 : decode cX12_might 18 = .ok (.invokevirtual 194, 3) := by decide +kernel
theorem dX12_might_21 : decode cX12_might 21 = .ok (.ifCond .eq 11, 3) := by decide +kernel
theorem dX12_might_24 : decode cX12_might 24 = .ok (.iload_n 3, 1) := by decide +kernel
theorem dX12_might_25 : decode cX12_might 25 = .ok (.bipush (-9), 2) := by decide +kernel
theorem dX12_might_27 : decode cX12_might 27 = .ok (.if_icmp .eq 5, 3) := by decide +kernel
theorem dX12_might_30 : decode cX12_might 30 = .ok (.iconst (-1), 1) := by decide +kernel
theorem dX12_might_31 : decode cX12_might 31 = .ok (.ireturn, 1) := by decide +kernel
theorem dX12_might_32 : decode cX12_might 32 = .ok (.iload_n 2, 1) := by decide +kernel
theorem dX12_might_33 : decode cX12_might 33 = .ok (.iload_n 3, 1) := by decide +kernel
theorem dX12_might_34 : decode cX12_might 34 = .ok (.if_icmp .ne 8, 3) := by decide +kernel
theorem dX12_might_37 : decode cX12_might 37 = .ok (.bipush (-2), 2) := by decide +kernel
theorem dX12_might_39 : decode cX12_might 39 = .ok (.goto 10, 3) := by decide +kernel
theorem dX12_might_42 : decode cX12_might 42 = .ok (.aload_n 0, 1) := by decide +kernel
theorem dX12_might_43 : decode cX12_might 43 = .ok (.iload_n 1, 1) := by decide +kernel
theorem dX12_might_44 : decode cX12_might 44 = .ok (.iload_n 2, 1) := by decide +kernel
theorem dX12_might_45 : decode cX12_might 45 = .ok (.iload_n 3, 1) := by decide +kernel
theorem dX12_might_46 : decode cX12_might 46 = .ok (.invokevirtual 234, 3) := by decide +kernel
theorem dX12_might_49 : decode cX12_might 49 = .ok (.ireturn, 1) := by decide +kernel
theorem dX12_noYawn_0 : decode cX12_noYawn 0 = .ok (.iload_n 1, 1) := by decide +kernel
theorem dX12_noYawn_1 : decode cX12_noYawn 1 = .ok (.i2l, 1) := by decide +kernel
theorem dX12_noYawn_2 : decode cX12_noYawn 2 = .ok (.lconst 0, 1) := by decide +kernel
theorem dX12_noYawn_3 : decode cX12_noYawn 3 = .ok (.aload_n 0, 1) := by decide +kernel
theorem dX12_noYawn_4 : decode cX12_noYawn 4 = .ok (.getfield 163, 3) := by decide +kernel
theorem dX12_noYawn_7 : decode cX12_noYawn 7 = .ok (.i2l, 1) := by decide +kernel
theorem dX12_noYawn_8 : decode cX12_noYawn 8 = .ok (.lconst 1, 1) := by decide +kernel
theorem dX12_noYawn_9 : decode cX12_noYawn 9 = .ok (.lsub, 1) := by decide +kernel
theorem dX12_noYawn_10 : decode cX12_noYawn 10 = .ok (.invokestatic 97, 3) := by decide +kernel
theorem dX12_noYawn_13 : decode cX12_noYawn 13 = .ok (.ifCond .ne 7, 3) := by decide +kernel
theorem dX12_noYawn_16 : decode cX12_noYawn 16 = .ok (.iconst 1, 1) := by decide +kernel
theorem dX12_noYawn_17 : decode cX12_noYawn 17 = .ok (.goto 4, 3) := by decide +kernel
theorem dX12_noYawn_20 : decode cX12_noYawn 20 = .ok (.iconst 0, 1) := by decide +kernel
theorem dX12_noYawn_21 : decode cX12_noYawn 21 = .ok (.ireturn, 1) := by decide +kernel
theorem dX12_lastMinute_0 : decode cX12_lastMinute 0 = .ok (.aload_n 0, 1) := by decide +kernel
theorem dX12_lastMinute_1 : decode cX12_lastMinute 1 = .ok (.getfield 163, 3) := by decide +kernel
theorem dX12_lastMinute_4 : decode cX12_lastMinute 4 = .ok (.ifCond .ne 7, 3) := by decide +kernel
theorem dX12_lastMinute_7 : decode cX12_lastMinute 7 = .ok (.iconst 0, 1) := by decide +kernel
theorem dX12_lastMinute_8 : decode cX12_lastMinute 8 = .ok (.goto 14, 3) := by decide +kernel
theorem dX12_lastMinute_11 : decode cX12_lastMinute 11 = .ok (.aload_n 0, 1) := by decide +kernel
theorem dX12_lastMinute_12 : decode cX12_lastMinute 12 = .ok (.getfield 47, 3) := by decide +kernel
theorem dX12_lastMinute_15 : decode cX12_lastMinute 15 = .ok (.aload_n 0, 1) := by decide +kernel
theorem dX12_lastMinute_16 : decode cX12_lastMinute 16 = .ok (.getfield 163, 3) := by decide +kernel
theorem dX12_lastMinute_19 : decode cX12_lastMinute 19 = .ok (.iconst 1, 1) := by decide +kernel
theorem dX12_lastMinute_20 : decode cX12_lastMinute 20 = .ok (.isub, 1) := by decide +kernel
theorem dX12_lastMinute_21 : decode cX12_lastMinute 21 = .ok (.iaload, 1) := by decide +kernel
theorem dX12_lastMinute_22 : decode cX12_lastMinute 22 = .ok (.ireturn, 1) := by decide +kernel
theorem dX12_yawn_0 : decode cX12_yawn 0 = .ok (.aload_n 0, 1) := by decide +kernel
theorem dX12_yawn_1 : decode cX12_yawn 1 = .ok (.iload_n 2, 1) := by decide +kernel
theorem dX12_yawn_2 : decode cX12_yawn 2 = .ok (.invokevirtual 194, 3) := by decide +kernel
theorem dX12_yawn_5 : decode cX12_yawn 5 = .ok (.ifCond .eq 5, 3) := by decide +kernel
theorem dX12_yawn_8 : decode cX12_yawn 8 = .ok (.iconst (-1), 1) := by decide +kernel
theorem dX12_yawn_9 : decode cX12_yawn 9 = .ok (.ireturn, 1) := by decide +kernel
theorem dX12_yawn_10 : decode cX12_yawn 10 = .ok (.iload_n 1, 1) := by decide +kernel
theorem dX12_yawn_11 : decode cX12_yawn 11 = .ok (.i2l, 1) := by decide +kernel
theorem dX12_yawn_12 : decode cX12_yawn 12 = .ok (.lconst 0, 1) := by decide +kernel
theorem dX12_yawn_13 : decode cX12_yawn 13 = .ok (.ldc2_w 238, 3) := by decide +kernel
theorem dX12_yawn_16 : decode cX12_yawn 16 = .ok (.invokestatic 97, 3) := by decide +kernel
theorem dX12_yawn_19 : decode cX12_yawn 19 = .ok (.ifCond .ne 6, 3) := by decide +kernel
theorem dX12_yawn_22 : decode cX12_yawn 22 = .ok (.bipush (-2), 2) := by decide +kernel
theorem dX12_yawn_24 : decode cX12_yawn 24 = .ok (.ireturn, 1) := by decide +kernel
theorem dX12_yawn_25 : decode cX12_yawn 25 = .ok (.iload_n 1, 1) := by decide +kernel
theorem dX12_yawn_26 : decode cX12_yawn 26 = .ok (.aload_n 0, 1) := by decide +kernel
theorem dX12_yawn_27 : decode cX12_yawn 27 = .ok (.invokevirtual 240, 3) := by decide +kernel
theorem dX12_yawn_30 : decode cX12_yawn 30 = .ok (.if_icmp .ge 6, 3) := by decide +kernel
theorem dX12_yawn_33 : decode cX12_yawn 33 = .ok (.bipush (-3), 2) := by decide +kernel
theorem dX12_yawn_35 : decode cX12_yawn 35 = .ok (.ireturn, 1) := by decide +kernel
theorem dX12_yawn_36 : decode cX12_yawn 36 = .ok (.aload_n 0, 1) := by decide +kernel
theorem dX12_yawn_37 : decode cX12_yawn 37 = .ok (.getfield 163, 3) := by decide +kernel
theorem dX12_yawn_40 : decode cX12_yawn 40 = .ok (.bipush 24, 2) := by decide +kernel
theorem dX12_yawn_42 : decode cX12_yawn 42 = .ok (.if_icmp .ne 6, 3) := by decide +kernel
theorem dX12_yawn_45 : decode cX12_yawn 45 = .ok (.bipush (-4), 2) := by decide +kernel
theorem dX12_yawn_47 : decode cX12_yawn 47 = .ok (.ireturn, 1) := by decide +kernel
theorem dX12_yawn_48 : decode cX12_yawn 48 = .ok (.aload_n 0, 1) := by decide +kernel
theorem dX12_yawn_49 : decode cX12_yawn 49 = .ok (.getfield 47, 3) := by decide +kernel
theorem dX12_yawn_52 : decode cX12_yawn 52 = .ok (.aload_n 0, 1) := by decide +kernel
theorem dX12_yawn_53 : decode cX12_yawn 53 = .ok (.getfield 163, 3) := by decide +kernel
theorem dX12_yawn_56 : decode cX12_yawn 56 = .ok (.iload_n 1, 1) := by decide +kernel
theorem dX12_yawn_57 : decode cX12_yawn 57 = .ok (.iastore, 1) := by decide +kernel
theorem dX12_yawn_58 : decode cX12_yawn 58 = .ok (.aload_n 0, 1) := by decide +kernel
theorem dX12_yawn_59 : decode cX12_yawn 59 = .ok (.getfield 50, 3) := by decide +kernel
theorem dX12_yawn_62 : decode cX12_yawn 62 = .ok (.aload_n 0, 1) := by decide +kernel
theorem dX12_yawn_63 : decode cX12_yawn 63 = .ok (.getfield 163, 3) := by decide +kernel
theorem dX12_yawn_66 : decode cX12_yawn 66 = .ok (.iload_n 2, 1) := by decide +kernel
theorem dX12_yawn_67 : decode cX12_yawn 67 = .ok (.iastore, 1) := by decide +kernel
theorem dX12_yawn_68 : decode cX12_yawn 68 = .ok (.aload_n 0, 1) := by decide +kernel
theorem dX12_yawn_69 : decode cX12_yawn 69 = .ok (.dup, 1) := by decide +kernel
theorem dX12_yawn_70 : decode cX12_yawn 70 = .ok (.getfield 163, 3) := by decide +kernel
theorem dX12_yawn_73 : decode cX12_yawn 73 = .ok (.iconst 1, 1) := by decide +kernel
theorem dX12_yawn_74 : decode cX12_yawn 74 = .ok (.iadd, 1) := by decide +kernel
theorem dX12_yawn_75 : decode cX12_yawn 75 = .ok (.putfield 163, 3) := by decide +kernel
theorem dX12_yawn_78 : decode cX12_yawn 78 = .ok (.aload_n 0, 1) := by decide +kernel
theorem dX12_yawn_79 : decode cX12_yawn 79 = .ok (.getfield 163, 3) := by decide +kernel
theorem dX12_yawn_82 : decode cX12_yawn 82 = .ok (.iconst 1, 1) := by decide +kernel
theorem dX12_yawn_83 : decode cX12_yawn 83 = .ok (.isub, 1) := by decide +kernel
theorem dX12_yawn_84 : decode cX12_yawn 84 = .ok (.ireturn, 1) := by decide +kernel
theorem dX12_ofYawn_0 : decode cX12_ofYawn 0 = .ok (.aload_n 0, 1) := by decide +kernel
theorem dX12_ofYawn_1 : decode cX12_ofYawn 1 = .ok (.iload_n 1, 1) := by decide +kernel
theorem dX12_ofYawn_2 : decode cX12_ofYawn 2 = .ok (.invokevirtual 243, 3) := by decide +kernel
theorem dX12_ofYawn_5 : decode cX12_ofYawn 5 = .ok (.ifCond .eq 5, 3) := by decide +kernel
theorem dX12_ofYawn_8 : decode cX12_ofYawn 8 = .ok (.iconst (-1), 1) := by decide +kernel
theorem dX12_ofYawn_9 : decode cX12_ofYawn 9 = .ok (.ireturn, 1) := by decide +kernel
theorem dX12_ofYawn_10 : decode cX12_ofYawn 10 = .ok (.iload_n 2, 1) := by decide +kernel
theorem dX12_ofYawn_11 : decode cX12_ofYawn 11 = .ok (.ifCond .ne 12, 3) := by decide +kernel
theorem dX12_ofYawn_14 : decode cX12_ofYawn 14 = .ok (.aload_n 0, 1) := by decide +kernel
theorem dX12_ofYawn_15 : decode cX12_ofYawn 15 = .ok (.getfield 47, 3) := by decide +kernel
theorem dX12_ofYawn_18 : decode cX12_ofYawn 18 = .ok (.iload_n 1, 1) := by decide +kernel
theorem dX12_ofYawn_19 : decode cX12_ofYawn 19 = .ok (.iaload, 1) := by decide +kernel
theorem dX12_ofYawn_20 : decode cX12_ofYawn 20 = .ok (.goto 19, 3) := by decide +kernel
theorem dX12_ofYawn_23 : decode cX12_ofYawn 23 = .ok (.iload_n 2, 1) := by decide +kernel
theorem dX12_ofYawn_24 : decode cX12_ofYawn 24 = .ok (.iconst 1, 1) := by decide +kernel
theorem dX12_ofYawn_25 : decode cX12_ofYawn 25 = .ok (.if_icmp .ne 12, 3) := by decide +kernel
theorem dX12_ofYawn_28 : decode cX12_ofYawn 28 = .ok (.aload_n 0, 1) := by decide +kernel
theorem dX12_ofYawn_29 : decode cX12_ofYawn 29 = .ok (.getfield 50, 3) := by decide +kernel
theorem dX12_ofYawn_32 : decode cX12_ofYawn 32 = .ok (.iload_n 1, 1) := by decide +kernel
theorem dX12_ofYawn_33 : decode cX12_ofYawn 33 = .ok (.iaload, 1) := by decide +kernel
theorem dX12_ofYawn_34 : decode cX12_ofYawn 34 = .ok (.goto 5, 3) := by decide +kernel
theorem dX12_ofYawn_37 : decode cX12_ofYawn 37 = .ok (.bipush (-2), 2) := by decide +kernel
theorem dX12_ofYawn_39 : decode cX12_ofYawn 39 = .ok (.ireturn, 1) := by decide +kernel
theorem dX12_back_0 : decode cX12_back 0 = .ok (.iload_n 1, 1) := by decide +kernel
theorem dX12_back_1 : decode cX12_back 1 = .ok (.i2l, 1) := by decide +kernel
theorem dX12_back_2 : decode cX12_back 2 = .ok (.lconst 0, 1) := by decide +kernel
theorem dX12_back_3 : decode cX12_back 3 = .ok (.aload_n 0, 1) := by decide +kernel
theorem dX12_back_4 : decode cX12_back 4 = .ok (.getfield 163, 3) := by decide +kernel
theorem dX12_back_7 : decode cX12_back 7 = .ok (.i2l, 1) := by decide +kernel
theorem dX12_back_8 : decode cX12_back 8 = .ok (.invokestatic 97, 3) := by decide +kernel
theorem dX12_back_11 : decode cX12_back 11 = .ok (.ifCond .ne 6, 3) := by decide +kernel
theorem dX12_back_14 : decode cX12_back 14 = .ok (.bipush (-2), 2) := by decide +kernel
theorem dX12_back_16 : decode cX12_back 16 = .ok (.ireturn, 1) := by decide +kernel
theorem dX12_back_17 : decode cX12_back 17 = .ok (.aload_n 0, 1) := by decide +kernel
theorem dX12_back_18 : decode cX12_back 18 = .ok (.dup, 1) := by decide +kernel
theorem dX12_back_19 : decode cX12_back 19 = .ok (.getfield 163, 3) := by decide +kernel
theorem dX12_back_22 : decode cX12_back 22 = .ok (.iload_n 1, 1) := by decide +kernel
theorem dX12_back_23 : decode cX12_back 23 = .ok (.isub, 1) := by decide +kernel
theorem dX12_back_24 : decode cX12_back 24 = .ok (.putfield 163, 3) := by decide +kernel
theorem dX12_back_27 : decode cX12_back 27 = .ok (.aload_n 0, 1) := by decide +kernel
theorem dX12_back_28 : decode cX12_back 28 = .ok (.getfield 163, 3) := by decide +kernel
theorem dX12_back_31 : decode cX12_back 31 = .ok (.ireturn, 1) := by decide +kernel
theorem dX12_mightFrom_0 : decode cX12_mightFrom 0 = .ok (.iload_n 3, 1) := by decide +kernel
theorem dX12_mightFrom_1 : decode cX12_mightFrom 1 = .ok (.iload 5, 2) := by decide +kernel
theorem dX12_mightFrom_3 : decode cX12_mightFrom 3 = .ok (.if_icmp .eq 40, 3) := by decide +kernel
theorem dX12_mightFrom_6 : decode cX12_mightFrom 6 = .ok (.iload_n 2, 1) := by decide +kernel
theorem dX12_mightFrom_7 : decode cX12_mightFrom 7 = .ok (.iload 4, 2) := by decide +kernel
theorem dX12_mightFrom_9 : decode cX12_mightFrom 9 = .ok (.isub, 1) := by decide +kernel
theorem dX12_mightFrom_10 : decode cX12_mightFrom 10 = .ok (.i2l, 1) := by decide +kernel
theorem dX12_mightFrom_11 : decode cX12_mightFrom 11 = .ok (.aload_n 0, 1) := by decide +kernel
theorem dX12_mightFrom_12 : decode cX12_mightFrom 12 = .ok (.iload_n 1, 1) := by decide +kernel
theorem dX12_mightFrom_13 : decode cX12_mightFrom 13 = .ok (.iconst 5, 1) := by decide +kernel
theorem dX12_mightFrom_14 : decode cX12_mightFrom 14 = .ok (.invokevirtual 215, 3) := by decide +kernel
theorem dX12_mightFrom_17 : decode cX12_mightFrom 17 = .ok (.i2l, 1) := by decide +kernel
theorem dX12_mightFrom_18 : decode cX12_mightFrom 18 = .ok (.aload_n 0, 1) := by decide +kernel
theorem dX12_mightFrom_19 : decode cX12_mightFrom 19 = .ok (.iload_n 1, 1) := by decide +kernel
theorem dX12_mightFrom_20 : decode cX12_mightFrom 20 = .ok (.bipush 6, 2) := by decide +kernel
theorem dX12_mightFrom_22 : decode cX12_mightFrom 22 = .ok (.invokevirtual 215, 3) := by decide +kernel
theorem dX12_mightFrom_25 : decode cX12_mightFrom 25 = .ok (.i2l, 1) := by decide +kernel
theorem dX12_mightFrom_26 : decode cX12_mightFrom 26 = .ok (.invokestatic 97, 3) := by decide +kernel
theorem dX12_mightFrom_29 : decode cX12_mightFrom 29 = .ok (.ifCond .eq 14, 3) := by decide +kernel
theorem dX12_mightFrom_32 : decode cX12_mightFrom 32 = .ok (.aload_n 0, 1) := by decide +kernel
theorem dX12_mightFrom_33 : decode cX12_mightFrom 33 = .ok (.iload_n 1, 1) := by decide +kernel
theorem dX12_mightFrom_34 : decode cX12_mightFrom 34 = .ok (.iload_n 3, 1) := by decide +kernel
theorem dX12_mightFrom_35 : decode cX12_mightFrom 35 = .ok (.iload 5, 2) := by decide +kernel
theorem dX12_mightFrom_37 : decode cX12_mightFrom 37 = .ok (.invokevirtual 234, 3) := by decide +kernel
theorem dX12_mightFrom_40 : decode cX12_mightFrom 40 = .ok (.goto 4, 3) := by decide +kernel
theorem dX12_mightFrom_43 : decode cX12_mightFrom 43 = .ok (.iconst 0, 1) := by decide +kernel
theorem dX12_mightFrom_44 : decode cX12_mightFrom 44 = .ok (.ireturn, 1) := by decide +kernel
theorem dX12_source_0 : decode cX12_source 0 = .ok (.iload_n 3, 1) := by decide +kernel
theorem dX12_source_1 : decode cX12_source 1 = .ok (.bipush (-9), 2) := by decide +kernel
theorem dX12_source_3 : decode cX12_source 3 = .ok (.if_icmp .ne 17, 3) := by decide +kernel
theorem dX12_source_6 : decode cX12_source 6 = .ok (.aload_n 0, 1) := by decide +kernel
theorem dX12_source_7 : decode cX12_source 7 = .ok (.iload_n 1, 1) := by decide +kernel
theorem dX12_source_8 : decode cX12_source 8 = .ok (.aload_n 0, 1) := by decide +kernel
theorem dX12_source_9 : decode cX12_source 9 = .ok (.getfield 50, 3) := by decide +kernel
theorem dX12_source_12 : decode cX12_source 12 = .ok (.iload_n 2, 1) := by decide +kernel
theorem dX12_source_13 : decode cX12_source 13 = .ok (.iaload, 1) := by decide +kernel
theorem dX12_source_14 : decode cX12_source 14 = .ok (.bipush (-9), 2) := by decide +kernel
theorem dX12_source_16 : decode cX12_source 16 = .ok (.invokevirtual 234, 3) := by decide +kernel
theorem dX12_source_19 : decode cX12_source 19 = .ok (.ireturn, 1) := by decide +kernel
theorem dX12_source_20 : decode cX12_source 20 = .ok (.iload_n 3, 1) := by decide +kernel
theorem dX12_source_21 : decode cX12_source 21 = .ok (.iload_n 2, 1) := by decide +kernel
theorem dX12_source_22 : decode cX12_source 22 = .ok (.if_icmp .ge 35, 3) := by decide +kernel
theorem dX12_source_25 : decode cX12_source 25 = .ok (.aload_n 0, 1) := by decide +kernel
theorem dX12_source_26 : decode cX12_source 26 = .ok (.iload_n 1, 1) := by decide +kernel
theorem dX12_source_27 : decode cX12_source 27 = .ok (.aload_n 0, 1) := by decide +kernel
theorem dX12_source_28 : decode cX12_source 28 = .ok (.getfield 47, 3) := by decide +kernel
theorem dX12_source_31 : decode cX12_source 31 = .ok (.iload_n 2, 1) := by decide +kernel
theorem dX12_source_32 : decode cX12_source 32 = .ok (.iaload, 1) := by decide +kernel
theorem dX12_source_33 : decode cX12_source 33 = .ok (.aload_n 0, 1) := by decide +kernel
theorem dX12_source_34 : decode cX12_source 34 = .ok (.getfield 50, 3) := by decide +kernel
theorem dX12_source_37 : decode cX12_source 37 = .ok (.iload_n 2, 1) := by decide +kernel
theorem dX12_source_38 : decode cX12_source 38 = .ok (.iaload, 1) := by decide +kernel
theorem dX12_source_39 : decode cX12_source 39 = .ok (.aload_n 0, 1) := by decide +kernel
theorem dX12_source_40 : decode cX12_source 40 = .ok (.getfield 47, 3) := by decide +kernel
theorem dX12_source_43 : decode cX12_source 43 = .ok (.iload_n 3, 1) := by decide +kernel
theorem dX12_source_44 : decode cX12_source 44 = .ok (.iaload, 1) := by decide +kernel
theorem dX12_source_45 : decode cX12_source 45 = .ok (.aload_n 0, 1) := by decide +kernel
theorem dX12_source_46 : decode cX12_source 46 = .ok (.getfield 50, 3) := by decide +kernel
theorem dX12_source_49 : decode cX12_source 49 = .ok (.iload_n 3, 1) := by decide +kernel
theorem dX12_source_50 : decode cX12_source 50 = .ok (.iaload, 1) := by decide +kernel
theorem dX12_source_51 : decode cX12_source 51 = .ok (.invokevirtual 246, 3) := by decide +kernel
theorem dX12_source_54 : decode cX12_source 54 = .ok (.goto 4, 3) := by decide +kernel
theorem dX12_source_57 : decode cX12_source 57 = .ok (.iconst 0, 1) := by decide +kernel
theorem dX12_source_58 : decode cX12_source 58 = .ok (.ireturn, 1) := by decide +kernel
theorem dX12_allSources_0 : decode cX12_allSources 0 = .ok (.aload_n 0, 1) := by decide +kernel
theorem dX12_allSources_1 : decode cX12_allSources 1 = .ok (.iload_n 1, 1) := by decide +kernel
theorem dX12_allSources_2 : decode cX12_allSources 2 = .ok (.iload_n 2, 1) := by decide +kernel
theorem dX12_allSources_3 : decode cX12_allSources 3 = .ok (.bipush (-9), 2) := by decide +kernel
theorem dX12_allSources_5 : decode cX12_allSources 5 = .ok (.invokevirtual 250, 3) := by decide +kernel
theorem dX12_allSources_8 : decode cX12_allSources 8 = .ok (.istore_n 3, 1) := by decide +kernel
theorem dX12_allSources_9 : decode cX12_allSources 9 = .ok (.iconst 0, 1) := by decide +kernel
theorem dX12_allSources_10 : decode cX12_allSources 10 = .ok (.istore 4, 2) := by decide +kernel
theorem dX12_allSources_12 : decode cX12_allSources 12 = .ok (.iload 4, 2) := by decide +kernel
theorem dX12_allSources_14 : decode cX12_allSources 14 = .ok (.iload_n 2, 1) := by decide +kernel
theorem dX12_allSources_15 : decode cX12_allSources 15 = .ok (.if_icmp .ge 20, 3) := by decide +kernel
theorem dX12_allSources_18 : decode cX12_allSources 18 = .ok (.iload_n 3, 1) := by decide +kernel
theorem dX12_allSources_19 : decode cX12_allSources 19 = .ok (.aload_n 0, 1) := by decide +kernel
theorem dX12_allSources_20 : decode cX12_allSources 20 = .ok (.iload_n 1, 1) := by decide +kernel
theorem dX12_allSources_21 : decode cX12_allSources 21 = .ok (.iload_n 2, 1) := by decide +kernel
theorem dX12_allSources_22 : decode cX12_allSources 22 = .ok (.iload 4, 2) := by decide +kernel
theorem dX12_allSources_24 : decode cX12_allSources 24 = .ok (.invokevirtual 250, 3) := by decide +kernel
theorem dX12_allSources_27 : decode cX12_allSources 27 = .ok (.iadd, 1) := by decide +kernel
theorem dX12_allSources_28 : decode cX12_allSources 28 = .ok (.istore_n 3, 1) := by decide +kernel
theorem dX12_allSources_29 : decode cX12_allSources 29 = .ok (.iinc 4 1, 3) := by decide +kernel
theorem dX12_allSources_32 : decode cX12_allSources 32 = .ok (.goto (-20), 3) := by decide +kernel
theorem dX12_allSources_35 : decode cX12_allSources 35 = .ok (.iload_n 3, 1) := by decide +kernel
theorem dX12_allSources_36 : decode cX12_allSources 36 = .ok (.ireturn, 1) := by decide +kernel
theorem dX12_could_0 : decode cX12_could 0 = .ok (.aload_n 0, 1) := by decide +kernel
theorem dX12_could_1 : decode cX12_could 1 = .ok (.iload_n 1, 1) := by decide +kernel
theorem dX12_could_2 : decode cX12_could 2 = .ok (.invokevirtual 218, 3) := by decide +kernel
theorem dX12_could_5 : decode cX12_could 5 = .ok (.ifCond .ne 11, 3) := by decide +kernel
theorem dX12_could_8 : decode cX12_could 8 = .ok (.aload_n 0, 1) := by decide +kernel
theorem dX12_could_9 : decode cX12_could 9 = .ok (.iload_n 2, 1) := by decide +kernel
theorem dX12_could_10 : decode cX12_could 10 = .ok (.invokevirtual 243, 3) := by decide +kernel
theorem dX12_could_13 : decode cX12_could 13 = .ok (.ifCond .eq 5, 3) := by decide +kernel
theorem dX12_could_16 : decode cX12_could 16 = .ok (.iconst (-1), 1) := by decide +kernel
theorem dX12_could_17 : decode cX12_could 17 = .ok (.ireturn, 1) := by decide +kernel
theorem dX12_could_18 : decode cX12_could 18 = .ok (.iconst 0, 1) := by decide +kernel
theorem dX12_could_19 : decode cX12_could 19 = .ok (.istore_n 3, 1) := by decide +kernel
theorem dX12_could_20 : decode cX12_could 20 = .ok (.iconst 0, 1) := by decide +kernel
theorem dX12_could_21 : decode cX12_could 21 = .ok (.istore 4, 2) := by decide +kernel
theorem dX12_could_23 : decode cX12_could 23 = .ok (.iload 4, 2) := by decide +kernel
theorem dX12_could_25 : decode cX12_could 25 = .ok (.iload_n 2, 1) := by decide +kernel
theorem dX12_could_26 : decode cX12_could 26 = .ok (.if_icmp .ge 31, 3) := by decide +kernel
theorem dX12_could_29 : decode cX12_could 29 = .ok (.iload_n 3, 1) := by decide +kernel
theorem dX12_could_30 : decode cX12_could 30 = .ok (.aload_n 0, 1) := by decide +kernel
theorem dX12_could_31 : decode cX12_could 31 = .ok (.iload_n 1, 1) := by decide +kernel
theorem dX12_could_32 : decode cX12_could 32 = .ok (.iload_n 2, 1) := by decide +kernel
theorem dX12_could_33 : decode cX12_could 33 = .ok (.iload 4, 2) := by decide +kernel
theorem dX12_could_35 : decode cX12_could 35 = .ok (.invokevirtual 250, 3) := by decide +kernel
theorem dX12_could_38 : decode cX12_could 38 = .ok (.ifCond .le 10, 3) := by decide +kernel
theorem dX12_could_41 : decode cX12_could 41 = .ok (.iconst 1, 1) := by decide +kernel
theorem dX12_could_42 : decode cX12_could 42 = .ok (.iload 4, 2) := by decide +kernel
theorem dX12_could_44 : decode cX12_could 44 = .ok (.ishl, 1) := by decide +kernel
theorem dX12_could_45 : decode cX12_could 45 = .ok (.goto 4, 3) := by decide +kernel
theorem dX12_could_48 : decode cX12_could 48 = .ok (.iconst 0, 1) := by decide +kernel
theorem dX12_could_49 : decode cX12_could 49 = .ok (.ior, 1) := by decide +kernel
theorem dX12_could_50 : decode cX12_could 50 = .ok (.istore_n 3, 1) := by decide +kernel
theorem dX12_could_51 : decode cX12_could 51 = .ok (.iinc 4 1, 3) := by decide +kernel
theorem dX12_could_54 : decode cX12_could 54 = .ok (.goto (-31), 3) := by decide +kernel
theorem dX12_could_57 : decode cX12_could 57 = .ok (.iload_n 3, 1) := by decide +kernel
theorem dX12_could_58 : decode cX12_could 58 = .ok (.ireturn, 1) := by decide +kernel
theorem dX12_share_0 : decode cX12_share 0 = .ok (.aload_n 0, 1) := by decide +kernel
theorem dX12_share_1 : decode cX12_share 1 = .ok (.iload_n 1, 1) := by decide +kernel
theorem dX12_share_2 : decode cX12_share 2 = .ok (.invokevirtual 218, 3) := by decide +kernel
theorem dX12_share_5 : decode cX12_share 5 = .ok (.ifCond .ne 45, 3) := by decide +kernel
theorem dX12_share_8 : decode cX12_share 8 = .ok (.aload_n 0, 1) := by decide +kernel
theorem dX12_share_9 : decode cX12_share 9 = .ok (.iload_n 2, 1) := by decide +kernel
theorem dX12_share_10 : decode cX12_share 10 = .ok (.invokevirtual 243, 3) := by decide +kernel
theorem dX12_share_13 : decode cX12_share 13 = .ok (.ifCond .ne 37, 3) := by decide +kernel
theorem dX12_share_16 : decode cX12_share 16 = .ok (.aload_n 0, 1) := by decide +kernel
theorem dX12_share_17 : decode cX12_share 17 = .ok (.iload_n 3, 1) := by decide +kernel
theorem dX12_share_18 : decode cX12_share 18 = .ok (.invokevirtual 243, 3) := by decide +kernel
theorem dX12_share_21 : decode cX12_share 21 = .ok (.ifCond .eq 9, 3) := by decide +kernel
theorem dX12_share_24 : decode cX12_share 24 = .ok (.iload_n 3, 1) := by decide +kernel
theorem dX12_share_25 : decode cX12_share 25 = .ok (.bipush (-9), 2) := by decide +kernel
theorem dX12_share_27 : decode cX12_share 27 = .ok (.if_icmp .ne 23, 3) := by decide +kernel
theorem dX12_share_30 : decode cX12_share 30 = .ok (.iload 4, 2) := by decide +kernel
theorem dX12_share_32 : decode cX12_share 32 = .ok (.i2l, 1) := by decide +kernel
theorem dX12_share_33 : decode cX12_share 33 = .ok (.lconst 0, 1) := by decide +kernel
theorem dX12_share_34 : decode cX12_share 34 = .ok (.lconst 1, 1) := by decide +kernel
theorem dX12_share_35 : decode cX12_share 35 = .ok (.invokestatic 97, 3) := by decide +kernel
theorem dX12_share_38 : decode cX12_share 38 = .ok (.ifCond .eq 12, 3) := by decide +kernel
theorem dX12_share_41 : decode cX12_share 41 = .ok (.aload_n 0, 1) := by decide +kernel
theorem dX12_share_42 : decode cX12_share 42 = .ok (.iload_n 1, 1) := by decide +kernel
theorem dX12_share_43 : decode cX12_share 43 = .ok (.iload_n 2, 1) := by decide +kernel
theorem dX12_share_44 : decode cX12_share 44 = .ok (.invokevirtual 253, 3) := by decide +kernel
theorem dX12_share_47 : decode cX12_share 47 = .ok (.ifCond .ne 7, 3) := by decide +kernel
theorem dX12_share_50 : decode cX12_share 50 = .ok (.invokestatic 83, 3) := by decide +kernel
theorem dX12_share_53 : decode cX12_share 53 = .ok (.lreturn, 1) := by decide +kernel
theorem dX12_share_54 : decode cX12_share 54 = .ok (.aload_n 0, 1) := by decide +kernel
theorem dX12_share_55 : decode cX12_share 55 = .ok (.iload_n 1, 1) := by decide +kernel
theorem dX12_share_56 : decode cX12_share 56 = .ok (.iload_n 2, 1) := by decide +kernel
theorem dX12_share_57 : decode cX12_share 57 = .ok (.iload_n 3, 1) := by decide +kernel
theorem dX12_share_58 : decode cX12_share 58 = .ok (.invokevirtual 250, 3) := by decide +kernel
theorem dX12_share_61 : decode cX12_share 61 = .ok (.i2l, 1) := by decide +kernel
theorem dX12_share_62 : decode cX12_share 62 = .ok (.aload_n 0, 1) := by decide +kernel
theorem dX12_share_63 : decode cX12_share 63 = .ok (.iload_n 1, 1) := by decide +kernel
theorem dX12_share_64 : decode cX12_share 64 = .ok (.iload_n 2, 1) := by decide +kernel
theorem dX12_share_65 : decode cX12_share 65 = .ok (.invokevirtual 253, 3) := by decide +kernel
theorem dX12_share_68 : decode cX12_share 68 = .ok (.i2l, 1) := by decide +kernel
theorem dX12_share_69 : decode cX12_share 69 = .ok (.iload 4, 2) := by decide +kernel
theorem dX12_share_71 : decode cX12_share 71 = .ok (.invokestatic 256, 3) := by decide +kernel
theorem dX12_share_74 : decode cX12_share 74 = .ok (.lreturn, 1) := by decide +kernel
theorem dX12_firstBarred_0 : decode cX12_firstBarred 0 = .ok (.iconst 0, 1) := by decide +kernel
theorem dX12_firstBarred_1 : decode cX12_firstBarred 1 = .ok (.istore_n 2, 1) := by decide +kernel
theorem dX12_firstBarred_2 : decode cX12_firstBarred 2 = .ok (.iload_n 2, 1) := by decide +kernel
theorem dX12_firstBarred_3 : decode cX12_firstBarred 3 = .ok (.aload_n 0, 1) := by decide +kernel
theorem dX12_firstBarred_4 : decode cX12_firstBarred 4 = .ok (.getfield 163, 3) := by decide +kernel
theorem dX12_firstBarred_7 : decode cX12_firstBarred 7 = .ok (.if_icmp .ge 20, 3) := by decide +kernel
theorem dX12_firstBarred_10 : decode cX12_firstBarred 10 = .ok (.aload_n 0, 1) := by decide +kernel
theorem dX12_firstBarred_11 : decode cX12_firstBarred 11 = .ok (.iload_n 1, 1) := by decide +kernel
theorem dX12_firstBarred_12 : decode cX12_firstBarred 12 = .ok (.iload_n 2, 1) := by decide +kernel
theorem dX12_firstBarred_13 : decode cX12_firstBarred 13 = .ok (.invokevirtual 253, 3) := by decide +kernel
theorem dX12_firstBarred_16 : decode cX12_firstBarred 16 = .ok (.ifCond .ne 5, 3) := by decide +kernel
theorem dX12_firstBarred_19 : decode cX12_firstBarred 19 = .ok (.iload_n 2, 1) := by decide +kernel
theorem dX12_firstBarred_20 : decode cX12_firstBarred 20 = .ok (.ireturn, 1) := by decide +kernel
theorem dX12_firstBarred_21 : decode cX12_firstBarred 21 = .ok (.iinc 2 1, 3) := by decide +kernel
theorem dX12_firstBarred_24 : decode cX12_firstBarred 24 = .ok (.goto (-22), 3) := by decide +kernel
theorem dX12_firstBarred_27 : decode cX12_firstBarred 27 = .ok (.bipush (-9), 2) := by decide +kernel
theorem dX12_firstBarred_29 : decode cX12_firstBarred 29 = .ok (.ireturn, 1) := by decide +kernel
theorem dX12_barred_0 : decode cX12_barred 0 = .ok (.aload_n 0, 1) := by decide +kernel
theorem dX12_barred_1 : decode cX12_barred 1 = .ok (.iload_n 1, 1) := by decide +kernel
theorem dX12_barred_2 : decode cX12_barred 2 = .ok (.invokevirtual 218, 3) := by decide +kernel
theorem dX12_barred_5 : decode cX12_barred 5 = .ok (.ifCond .eq 7, 3) := by decide +kernel
theorem dX12_barred_8 : decode cX12_barred 8 = .ok (.iconst (-1), 1) := by decide +kernel
theorem dX12_barred_9 : decode cX12_barred 9 = .ok (.goto 8, 3) := by decide +kernel
theorem dX12_barred_12 : decode cX12_barred 12 = .ok (.aload_n 0, 1) := by decide +kernel
theorem dX12_barred_13 : decode cX12_barred 13 = .ok (.iload_n 1, 1) := by decide +kernel
theorem dX12_barred_14 : decode cX12_barred 14 = .ok (.invokevirtual 260, 3) := by decide +kernel
theorem dX12_barred_17 : decode cX12_barred 17 = .ok (.ireturn, 1) := by decide +kernel
theorem dX12_trees_0 : decode cX12_trees 0 = .ok (.aload_n 0, 1) := by decide +kernel
theorem dX12_trees_1 : decode cX12_trees 1 = .ok (.iload_n 1, 1) := by decide +kernel
theorem dX12_trees_2 : decode cX12_trees 2 = .ok (.invokevirtual 218, 3) := by decide +kernel
theorem dX12_trees_5 : decode cX12_trees 5 = .ok (.ifCond .eq 5, 3) := by decide +kernel
theorem dX12_trees_8 : decode cX12_trees 8 = .ok (.iconst (-1), 1) := by decide +kernel
theorem dX12_trees_9 : decode cX12_trees 9 = .ok (.ireturn, 1) := by decide +kernel
theorem dX12_trees_10 : decode cX12_trees 10 = .ok (.lconst 1, 1) := by decide +kernel
theorem dX12_trees_11 : decode cX12_trees 11 = .ok (.lstore_n 2, 1) := by decide +kernel
theorem dX12_trees_12 : decode cX12_trees 12 = .ok (.iconst 0, 1) := by decide +kernel
theorem dX12_trees_13 : decode cX12_trees 13 = .ok (.istore 4, 2) := by decide +kernel
theorem dX12_trees_15 : decode cX12_trees 15 = .ok (.iload 4, 2) := by decide +kernel
theorem dX12_trees_17 : decode cX12_trees 17 = .ok (.aload_n 0, 1) := by decide +kernel
theorem dX12_trees_18 : decode cX12_trees 18 = .ok (.getfield 163, 3) := by decide +kernel
theorem dX12_trees_21 : decode cX12_trees 21 = .ok (.if_icmp .ge 76, 3) := by decide +kernel
theorem dX12_trees_24 : decode cX12_trees 24 = .ok (.aload_n 0, 1) := by decide +kernel
theorem dX12_trees_25 : decode cX12_trees 25 = .ok (.iload_n 1, 1) := by decide +kernel
theorem dX12_trees_26 : decode cX12_trees 26 = .ok (.iload 4, 2) := by decide +kernel
theorem dX12_trees_28 : decode cX12_trees 28 = .ok (.bipush (-9), 2) := by decide +kernel
theorem dX12_trees_30 : decode cX12_trees 30 = .ok (.invokevirtual 250, 3) := by decide +kernel
theorem dX12_trees_33 : decode cX12_trees 33 = .ok (.ifCond .le 7, 3) := by decide +kernel
theorem dX12_trees_36 : decode cX12_trees 36 = .ok (.iconst 1, 1) := by decide +kernel
theorem dX12_trees_37 : decode cX12_trees 37 = .ok (.goto 4, 3) := by decide +kernel
theorem dX12_trees_40 : decode cX12_trees 40 = .ok (.iconst 0, 1) := by decide +kernel
theorem dX12_trees_41 : decode cX12_trees 41 = .ok (.istore 5, 2) := by decide +kernel
theorem dX12_trees_43 : decode cX12_trees 43 = .ok (.iconst 0, 1) := by decide +kernel
theorem dX12_trees_44 : decode cX12_trees 44 = .ok (.istore 6, 2) := by decide +kernel
theorem dX12_trees_46 : decode cX12_trees 46 = .ok (.iload 6, 2) := by decide +kernel
theorem dX12_trees_48 : decode cX12_trees 48 = .ok (.iload 4, 2) := by decide +kernel
theorem dX12_trees_50 : decode cX12_trees 50 = .ok (.if_icmp .ge 31, 3) := by decide +kernel
theorem dX12_trees_53 : decode cX12_trees 53 = .ok (.iload 5, 2) := by decide +kernel
theorem dX12_trees_55 : decode cX12_trees 55 = .ok (.aload_n 0, 1) := by decide +kernel
theorem dX12_trees_56 : decode cX12_trees 56 = .ok (.iload_n 1, 1) := by decide +kernel
theorem dX12_trees_57 : decode cX12_trees 57 = .ok (.iload 4, 2) := by decide +kernel
theorem dX12_trees_59 : decode cX12_trees 59 = .ok (.iload 6, 2) := by decide +kernel
theorem dX12_trees_61 : decode cX12_trees 61 = .ok (.invokevirtual 250, 3) := by decide +kernel
theorem dX12_trees_64 : decode cX12_trees 64 = .ok (.ifCond .le 7, 3) := by decide +kernel
theorem dX12_trees_67 : decode cX12_trees 67 = .ok (.iconst 1, 1) := by decide +kernel
theorem dX12_trees_68 : decode cX12_trees 68 = .ok (.goto 4, 3) := by decide +kernel
theorem dX12_trees_71 : decode cX12_trees 71 = .ok (.iconst 0, 1) := by decide +kernel
theorem dX12_trees_72 : decode cX12_trees 72 = .ok (.iadd, 1) := by decide +kernel
theorem dX12_trees_73 : decode cX12_trees 73 = .ok (.istore 5, 2) := by decide +kernel
theorem dX12_trees_75 : decode cX12_trees 75 = .ok (.iinc 6 1, 3) := by decide +kernel
theorem dX12_trees_78 : decode cX12_trees 78 = .ok (.goto (-32), 3) := by decide +kernel
theorem dX12_trees_81 : decode cX12_trees 81 = .ok (.lload_n 2, 1) := by decide +kernel
theorem dX12_trees_82 : decode cX12_trees 82 = .ok (.iload 5, 2) := by decide +kernel
theorem dX12_trees_84 : decode cX12_trees 84 = .ok (.i2l, 1) := by decide +kernel
theorem dX12_trees_85 : decode cX12_trees 85 = .ok (.lmul, 1) := by decide +kernel
theorem dX12_trees_86 : decode cX12_trees 86 = .ok (.ldc2_w 263, 3) := by decide +kernel
theorem dX12_trees_89 : decode cX12_trees 89 = .ok (.lrem, 1) := by decide +kernel
theorem dX12_trees_90 : decode cX12_trees 90 = .ok (.lstore_n 2, 1) := by decide +kernel
theorem dX12_trees_91 : decode cX12_trees 91 = .ok (.iinc 4 1, 3) := by decide +kernel
theorem dX12_trees_94 : decode cX12_trees 94 = .ok (.goto (-79), 3) := by decide +kernel
theorem dX12_trees_97 : decode cX12_trees 97 = .ok (.lload_n 2, 1) := by decide +kernel
theorem dX12_trees_98 : decode cX12_trees 98 = .ok (.l2i, 1) := by decide +kernel
theorem dX12_trees_99 : decode cX12_trees 99 = .ok (.ireturn, 1) := by decide +kernel
theorem dX12_causesOf_0 : decode cX12_causesOf 0 = .ok (.iconst 0, 1) := by decide +kernel
theorem dX12_causesOf_1 : decode cX12_causesOf 1 = .ok (.istore_n 3, 1) := by decide +kernel
theorem dX12_causesOf_2 : decode cX12_causesOf 2 = .ok (.iconst 0, 1) := by decide +kernel
theorem dX12_causesOf_3 : decode cX12_causesOf 3 = .ok (.istore 4, 2) := by decide +kernel
theorem dX12_causesOf_5 : decode cX12_causesOf 5 = .ok (.iload 4, 2) := by decide +kernel
theorem dX12_causesOf_7 : decode cX12_causesOf 7 = .ok (.aload_n 0, 1) := by decide +kernel
theorem dX12_causesOf_8 : decode cX12_causesOf 8 = .ok (.getfield 163, 3) := by decide +kernel
theorem dX12_causesOf_11 : decode cX12_causesOf 11 = .ok (.if_icmp .ge 68, 3) := by decide +kernel
theorem dX12_causesOf_14 : decode cX12_causesOf 14 = .ok (.aload_n 0, 1) := by decide +kernel
theorem dX12_causesOf_15 : decode cX12_causesOf 15 = .ok (.iload_n 1, 1) := by decide +kernel
theorem dX12_causesOf_16 : decode cX12_causesOf 16 = .ok (.iload 4, 2) := by decide +kernel
theorem dX12_causesOf_18 : decode cX12_causesOf 18 = .ok (.invokevirtual 253, 3) := by decide +kernel
theorem dX12_causesOf_21 : decode cX12_causesOf 21 = .ok (.istore 5, 2) := by decide +kernel
theorem dX12_causesOf_23 : decode cX12_causesOf 23 = .ok (.iconst 0, 1) := by decide +kernel
theorem dX12_causesOf_24 : decode cX12_causesOf 24 = .ok (.istore 6, 2) := by decide +kernel
theorem dX12_causesOf_26 : decode cX12_causesOf 26 = .ok (.iload 6, 2) := by decide +kernel
theorem dX12_causesOf_28 : decode cX12_causesOf 28 = .ok (.iload 4, 2) := by decide +kernel
theorem dX12_causesOf_30 : decode cX12_causesOf 30 = .ok (.if_icmp .ge 43, 3) := by decide +kernel
theorem dX12_causesOf_33 : decode cX12_causesOf 33 = .ok (.iload_n 3, 1) := by decide +kernel
theorem dX12_causesOf_34 : decode cX12_causesOf 34 = .ok (.aload_n 0, 1) := by decide +kernel
theorem dX12_causesOf_35 : decode cX12_causesOf 35 = .ok (.getfield 50, 3) := by decide +kernel
theorem dX12_causesOf_38 : decode cX12_causesOf 38 = .ok (.iload 6, 2) := by decide +kernel
theorem dX12_causesOf_40 : decode cX12_causesOf 40 = .ok (.iaload, 1) := by decide +kernel
theorem dX12_causesOf_41 : decode cX12_causesOf 41 = .ok (.iload_n 2, 1) := by decide +kernel
theorem dX12_causesOf_42 : decode cX12_causesOf 42 = .ok (.if_icmp .ne 22, 3) := by decide +kernel
theorem dX12_causesOf_45 : decode cX12_causesOf 45 = .ok (.aload_n 0, 1) := by decide +kernel
theorem dX12_causesOf_46 : decode cX12_causesOf 46 = .ok (.iload_n 1, 1) := by decide +kernel
theorem dX12_causesOf_47 : decode cX12_causesOf 47 = .ok (.iload 4, 2) := by decide +kernel
theorem dX12_causesOf_49 : decode cX12_causesOf 49 = .ok (.iload 6, 2) := by decide +kernel
theorem dX12_causesOf_51 : decode cX12_causesOf 51 = .ok (.invokevirtual 250, 3) := by decide +kernel
theorem dX12_causesOf_54 : decode cX12_causesOf 54 = .ok (.ldc_w 265, 3) := by decide +kernel
theorem dX12_causesOf_57 : decode cX12_causesOf 57 = .ok (.imul, 1) := by decide +kernel
theorem dX12_causesOf_58 : decode cX12_causesOf 58 = .ok (.iload 5, 2) := by decide +kernel
theorem dX12_causesOf_60 : decode cX12_causesOf 60 = .ok (.idiv, 1) := by decide +kernel
theorem dX12_causesOf_61 : decode cX12_causesOf 61 = .ok (.goto 4, 3) := by decide +kernel
theorem dX12_causesOf_64 : decode cX12_causesOf 64 = .ok (.iconst 0, 1) := by decide +kernel
theorem dX12_causesOf_65 : decode cX12_causesOf 65 = .ok (.iadd, 1) := by decide +kernel
theorem dX12_causesOf_66 : decode cX12_causesOf 66 = .ok (.istore_n 3, 1) := by decide +kernel
theorem dX12_causesOf_67 : decode cX12_causesOf 67 = .ok (.iinc 6 1, 3) := by decide +kernel
theorem dX12_causesOf_70 : decode cX12_causesOf 70 = .ok (.goto (-44), 3) := by decide +kernel
theorem dX12_causesOf_73 : decode cX12_causesOf 73 = .ok (.iinc 4 1, 3) := by decide +kernel
theorem dX12_causesOf_76 : decode cX12_causesOf 76 = .ok (.goto (-71), 3) := by decide +kernel
theorem dX12_causesOf_79 : decode cX12_causesOf 79 = .ok (.iload_n 3, 1) := by decide +kernel
theorem dX12_causesOf_80 : decode cX12_causesOf 80 = .ok (.ireturn, 1) := by decide +kernel
theorem dX12_causes_0 : decode cX12_causes 0 = .ok (.aload_n 0, 1) := by decide +kernel
theorem dX12_causes_1 : decode cX12_causes 1 = .ok (.iload_n 1, 1) := by decide +kernel
theorem dX12_causes_2 : decode cX12_causes 2 = .ok (.invokevirtual 218, 3) := by decide +kernel
theorem dX12_causes_5 : decode cX12_causes 5 = .ok (.ifCond .ne 11, 3) := by decide +kernel
theorem dX12_causes_8 : decode cX12_causes 8 = .ok (.aload_n 0, 1) := by decide +kernel
theorem dX12_causes_9 : decode cX12_causes 9 = .ok (.iload_n 2, 1) := by decide +kernel
theorem dX12_causes_10 : decode cX12_causes 10 = .ok (.invokevirtual 194, 3) := by decide +kernel
theorem dX12_causes_13 : decode cX12_causes 13 = .ok (.ifCond .eq 5, 3) := by decide +kernel
theorem dX12_causes_16 : decode cX12_causes 16 = .ok (.iconst (-1), 1) := by decide +kernel
theorem dX12_causes_17 : decode cX12_causes 17 = .ok (.ireturn, 1) := by decide +kernel
theorem dX12_causes_18 : decode cX12_causes 18 = .ok (.aload_n 0, 1) := by decide +kernel
theorem dX12_causes_19 : decode cX12_causes 19 = .ok (.iload_n 1, 1) := by decide +kernel
theorem dX12_causes_20 : decode cX12_causes 20 = .ok (.invokevirtual 260, 3) := by decide +kernel
theorem dX12_causes_23 : decode cX12_causes 23 = .ok (.ifCond .ge 12, 3) := by decide +kernel
theorem dX12_causes_26 : decode cX12_causes 26 = .ok (.aload_n 0, 1) := by decide +kernel
theorem dX12_causes_27 : decode cX12_causes 27 = .ok (.iload_n 1, 1) := by decide +kernel
theorem dX12_causes_28 : decode cX12_causes 28 = .ok (.iload_n 2, 1) := by decide +kernel
theorem dX12_causes_29 : decode cX12_causes 29 = .ok (.invokevirtual 266, 3) := by decide +kernel
theorem dX12_causes_32 : decode cX12_causes 32 = .ok (.goto 5, 3) := by decide +kernel
theorem dX12_causes_35 : decode cX12_causes 35 = .ok (.bipush (-3), 2) := by decide +kernel
theorem dX12_causes_37 : decode cX12_causes 37 = .ok (.ireturn, 1) := by decide +kernel
theorem dX12_most_0 : decode cX12_most 0 = .ok (.aload_n 0, 1) := by decide +kernel
theorem dX12_most_1 : decode cX12_most 1 = .ok (.iload_n 1, 1) := by decide +kernel
theorem dX12_most_2 : decode cX12_most 2 = .ok (.invokevirtual 218, 3) := by decide +kernel
theorem dX12_most_5 : decode cX12_most 5 = .ok (.ifCond .eq 5, 3) := by decide +kernel
theorem dX12_most_8 : decode cX12_most 8 = .ok (.iconst (-1), 1) := by decide +kernel
theorem dX12_most_9 : decode cX12_most 9 = .ok (.ireturn, 1) := by decide +kernel
theorem dX12_most_10 : decode cX12_most 10 = .ok (.aload_n 0, 1) := by decide +kernel
theorem dX12_most_11 : decode cX12_most 11 = .ok (.iload_n 1, 1) := by decide +kernel
theorem dX12_most_12 : decode cX12_most 12 = .ok (.invokevirtual 260, 3) := by decide +kernel
theorem dX12_most_15 : decode cX12_most 15 = .ok (.ifCond .lt 6, 3) := by decide +kernel
theorem dX12_most_18 : decode cX12_most 18 = .ok (.bipush (-3), 2) := by decide +kernel
theorem dX12_most_20 : decode cX12_most 20 = .ok (.ireturn, 1) := by decide +kernel
theorem dX12_most_21 : decode cX12_most 21 = .ok (.bipush (-9), 2) := by decide +kernel
theorem dX12_most_23 : decode cX12_most 23 = .ok (.istore_n 2, 1) := by decide +kernel
theorem dX12_most_24 : decode cX12_most 24 = .ok (.iconst (-1), 1) := by decide +kernel
theorem dX12_most_25 : decode cX12_most 25 = .ok (.istore_n 3, 1) := by decide +kernel
theorem dX12_most_26 : decode cX12_most 26 = .ok (.iconst 0, 1) := by decide +kernel
theorem dX12_most_27 : decode cX12_most 27 = .ok (.istore 4, 2) := by decide +kernel
theorem dX12_most_29 : decode cX12_most 29 = .ok (.iload 4, 2) := by decide +kernel
theorem dX12_most_31 : decode cX12_most 31 = .ok (.aload_n 0, 1) := by decide +kernel
theorem dX12_most_32 : decode cX12_most 32 = .ok (.getfield 160, 3) := by decide +kernel
theorem dX12_most_35 : decode cX12_most 35 = .ok (.if_icmp .ge 44, 3) := by decide +kernel
theorem dX12_most_38 : decode cX12_most 38 = .ok (.aload_n 0, 1) := by decide +kernel
theorem dX12_most_39 : decode cX12_most 39 = .ok (.iload_n 1, 1) := by decide +kernel
theorem dX12_most_40 : decode cX12_most 40 = .ok (.iload 4, 2) := by decide +kernel
theorem dX12_most_42 : decode cX12_most 42 = .ok (.invokevirtual 266, 3) := by decide +kernel
theorem dX12_most_45 : decode cX12_most 45 = .ok (.istore 5, 2) := by decide +kernel
theorem dX12_most_47 : decode cX12_most 47 = .ok (.iload 5, 2) := by decide +kernel
theorem dX12_most_49 : decode cX12_most 49 = .ok (.iload_n 3, 1) := by decide +kernel
theorem dX12_most_50 : decode cX12_most 50 = .ok (.if_icmp .le 8, 3) := by decide +kernel
theorem dX12_most_53 : decode cX12_most 53 = .ok (.iload 4, 2) := by decide +kernel
theorem dX12_most_55 : decode cX12_most 55 = .ok (.goto 4, 3) := by decide +kernel
theorem dX12_most_58 : decode cX12_most 58 = .ok (.iload_n 2, 1) := by decide +kernel
theorem dX12_most_59 : decode cX12_most 59 = .ok (.istore_n 2, 1) := by decide +kernel
theorem dX12_most_60 : decode cX12_most 60 = .ok (.iload 5, 2) := by decide +kernel
theorem dX12_most_62 : decode cX12_most 62 = .ok (.iload_n 3, 1) := by decide +kernel
theorem dX12_most_63 : decode cX12_most 63 = .ok (.if_icmp .le 8, 3) := by decide +kernel
theorem dX12_most_66 : decode cX12_most 66 = .ok (.iload 5, 2) := by decide +kernel
theorem dX12_most_68 : decode cX12_most 68 = .ok (.goto 4, 3) := by decide +kernel
theorem dX12_most_71 : decode cX12_most 71 = .ok (.iload_n 3, 1) := by decide +kernel
theorem dX12_most_72 : decode cX12_most 72 = .ok (.istore_n 3, 1) := by decide +kernel
theorem dX12_most_73 : decode cX12_most 73 = .ok (.iinc 4 1, 3) := by decide +kernel
theorem dX12_most_76 : decode cX12_most 76 = .ok (.goto (-47), 3) := by decide +kernel
theorem dX12_most_79 : decode cX12_most 79 = .ok (.iload_n 2, 1) := by decide +kernel
theorem dX12_most_80 : decode cX12_most 80 = .ok (.ireturn, 1) := by decide +kernel
theorem dX12_goesOn_0 : decode cX12_goesOn 0 = .ok (.aload_n 0, 1) := by decide +kernel
theorem dX12_goesOn_1 : decode cX12_goesOn 1 = .ok (.iload_n 1, 1) := by decide +kernel
theorem dX12_goesOn_2 : decode cX12_goesOn 2 = .ok (.invokevirtual 218, 3) := by decide +kernel
theorem dX12_goesOn_5 : decode cX12_goesOn 5 = .ok (.ifCond .eq 5, 3) := by decide +kernel
theorem dX12_goesOn_8 : decode cX12_goesOn 8 = .ok (.iconst (-1), 1) := by decide +kernel
theorem dX12_goesOn_9 : decode cX12_goesOn 9 = .ok (.ireturn, 1) := by decide +kernel
theorem dX12_goesOn_10 : decode cX12_goesOn 10 = .ok (.aload_n 0, 1) := by decide +kernel
theorem dX12_goesOn_11 : decode cX12_goesOn 11 = .ok (.iload_n 1, 1) := by decide +kernel
theorem dX12_goesOn_12 : decode cX12_goesOn 12 = .ok (.invokevirtual 260, 3) := by decide +kernel
theorem dX12_goesOn_15 : decode cX12_goesOn 15 = .ok (.ifCond .lt 6, 3) := by decide +kernel
theorem dX12_goesOn_18 : decode cX12_goesOn 18 = .ok (.bipush (-3), 2) := by decide +kernel
theorem dX12_goesOn_20 : decode cX12_goesOn 20 = .ok (.ireturn, 1) := by decide +kernel
theorem dX12_goesOn_21 : decode cX12_goesOn 21 = .ok (.iconst 0, 1) := by decide +kernel
theorem dX12_goesOn_22 : decode cX12_goesOn 22 = .ok (.istore_n 2, 1) := by decide +kernel
theorem dX12_goesOn_23 : decode cX12_goesOn 23 = .ok (.iconst 0, 1) := by decide +kernel
theorem dX12_goesOn_24 : decode cX12_goesOn 24 = .ok (.istore_n 3, 1) := by decide +kernel
theorem dX12_goesOn_25 : decode cX12_goesOn 25 = .ok (.iload_n 3, 1) := by decide +kernel
theorem dX12_goesOn_26 : decode cX12_goesOn 26 = .ok (.aload_n 0, 1) := by decide +kernel
theorem dX12_goesOn_27 : decode cX12_goesOn 27 = .ok (.getfield 160, 3) := by decide +kernel
theorem dX12_goesOn_30 : decode cX12_goesOn 30 = .ok (.if_icmp .ge 76, 3) := by decide +kernel
theorem dX12_goesOn_33 : decode cX12_goesOn 33 = .ok (.iconst 0, 1) := by decide +kernel
theorem dX12_goesOn_34 : decode cX12_goesOn 34 = .ok (.istore 4, 2) := by decide +kernel
theorem dX12_goesOn_36 : decode cX12_goesOn 36 = .ok (.iconst 0, 1) := by decide +kernel
theorem dX12_goesOn_37 : decode cX12_goesOn 37 = .ok (.istore 5, 2) := by decide +kernel
theorem dX12_goesOn_39 : decode cX12_goesOn 39 = .ok (.iload 5, 2) := by decide +kernel
theorem dX12_goesOn_41 : decode cX12_goesOn 41 = .ok (.aload_n 0, 1) := by decide +kernel
theorem dX12_goesOn_42 : decode cX12_goesOn 42 = .ok (.getfield 163, 3) := by decide +kernel
theorem dX12_goesOn_45 : decode cX12_goesOn 45 = .ok (.if_icmp .ge 30, 3) := by decide +kernel
theorem dX12_goesOn_48 : decode cX12_goesOn 48 = .ok (.iload 4, 2) := by decide +kernel
theorem dX12_goesOn_50 : decode cX12_goesOn 50 = .ok (.aload_n 0, 1) := by decide +kernel
theorem dX12_goesOn_51 : decode cX12_goesOn 51 = .ok (.getfield 50, 3) := by decide +kernel
theorem dX12_goesOn_54 : decode cX12_goesOn 54 = .ok (.iload 5, 2) := by decide +kernel
theorem dX12_goesOn_56 : decode cX12_goesOn 56 = .ok (.iaload, 1) := by decide +kernel
theorem dX12_goesOn_57 : decode cX12_goesOn 57 = .ok (.iload_n 3, 1) := by decide +kernel
theorem dX12_goesOn_58 : decode cX12_goesOn 58 = .ok (.if_icmp .ne 7, 3) := by decide +kernel
theorem dX12_goesOn_61 : decode cX12_goesOn 61 = .ok (.iconst 1, 1) := by decide +kernel
theorem dX12_goesOn_62 : decode cX12_goesOn 62 = .ok (.goto 4, 3) := by decide +kernel
theorem dX12_goesOn_65 : decode cX12_goesOn 65 = .ok (.iconst 0, 1) := by decide +kernel
theorem dX12_goesOn_66 : decode cX12_goesOn 66 = .ok (.iadd, 1) := by decide +kernel
theorem dX12_goesOn_67 : decode cX12_goesOn 67 = .ok (.istore 4, 2) := by decide +kernel
theorem dX12_goesOn_69 : decode cX12_goesOn 69 = .ok (.iinc 5 1, 3) := by decide +kernel
theorem dX12_goesOn_72 : decode cX12_goesOn 72 = .ok (.goto (-33), 3) := by decide +kernel
theorem dX12_goesOn_75 : decode cX12_goesOn 75 = .ok (.iload_n 2, 1) := by decide +kernel
theorem dX12_goesOn_76 : decode cX12_goesOn 76 = .ok (.ifCond .ne 18, 3) := by decide +kernel
theorem dX12_goesOn_79 : decode cX12_goesOn 79 = .ok (.aload_n 0, 1) := by decide +kernel
theorem dX12_goesOn_80 : decode cX12_goesOn 80 = .ok (.iload_n 1, 1) := by decide +kernel
theorem dX12_goesOn_81 : decode cX12_goesOn 81 = .ok (.iload_n 3, 1) := by decide +kernel
theorem dX12_goesOn_82 : decode cX12_goesOn 82 = .ok (.invokevirtual 266, 3) := by decide +kernel
theorem dX12_goesOn_85 : decode cX12_goesOn 85 = .ok (.ldc_w 265, 3) := by decide +kernel
theorem dX12_goesOn_88 : decode cX12_goesOn 88 = .ok (.iload 4, 2) := by decide +kernel
theorem dX12_goesOn_90 : decode cX12_goesOn 90 = .ok (.imul, 1) := by decide +kernel
theorem dX12_goesOn_91 : decode cX12_goesOn 91 = .ok (.if_icmp .le 7, 3) := by decide +kernel
theorem dX12_goesOn_94 : decode cX12_goesOn 94 = .ok (.iconst 1, 1) := by decide +kernel
theorem dX12_goesOn_95 : decode cX12_goesOn 95 = .ok (.goto 4, 3) := by decide +kernel
theorem dX12_goesOn_98 : decode cX12_goesOn 98 = .ok (.iconst 0, 1) := by decide +kernel
theorem dX12_goesOn_99 : decode cX12_goesOn 99 = .ok (.istore_n 2, 1) := by decide +kernel
theorem dX12_goesOn_100 : decode cX12_goesOn 100 = .ok (.iinc 3 1, 3) := by decide +kernel
theorem dX12_goesOn_103 : decode cX12_goesOn 103 = .ok (.goto (-78), 3) := by decide +kernel
theorem dX12_goesOn_106 : decode cX12_goesOn 106 = .ok (.iload_n 2, 1) := by decide +kernel
theorem dX12_goesOn_107 : decode cX12_goesOn 107 = .ok (.ifCond .eq 7, 3) := by decide +kernel
theorem dX12_goesOn_110 : decode cX12_goesOn 110 = .ok (.iconst 1, 1) := by decide +kernel
theorem dX12_goesOn_111 : decode cX12_goesOn 111 = .ok (.goto 4, 3) := by decide +kernel
theorem dX12_goesOn_114 : decode cX12_goesOn 114 = .ok (.iconst 0, 1) := by decide +kernel
theorem dX12_goesOn_115 : decode cX12_goesOn 115 = .ok (.ireturn, 1) := by decide +kernel
theorem dX12_chain_0 : decode cX12_chain 0 = .ok (.aload_n 0, 1) := by decide +kernel
theorem dX12_chain_1 : decode cX12_chain 1 = .ok (.iload_n 1, 1) := by decide +kernel
theorem dX12_chain_2 : decode cX12_chain 2 = .ok (.invokevirtual 218, 3) := by decide +kernel
theorem dX12_chain_5 : decode cX12_chain 5 = .ok (.ifCond .eq 5, 3) := by decide +kernel
theorem dX12_chain_8 : decode cX12_chain 8 = .ok (.iconst (-1), 1) := by decide +kernel
theorem dX12_chain_9 : decode cX12_chain 9 = .ok (.ireturn, 1) := by decide +kernel
theorem dX12_chain_10 : decode cX12_chain 10 = .ok (.iconst 0, 1) := by decide +kernel
theorem dX12_chain_11 : decode cX12_chain 11 = .ok (.istore_n 2, 1) := by decide +kernel
theorem dX12_chain_12 : decode cX12_chain 12 = .ok (.iconst 0, 1) := by decide +kernel
theorem dX12_chain_13 : decode cX12_chain 13 = .ok (.istore_n 3, 1) := by decide +kernel
theorem dX12_chain_14 : decode cX12_chain 14 = .ok (.iload_n 3, 1) := by decide +kernel
theorem dX12_chain_15 : decode cX12_chain 15 = .ok (.aload_n 0, 1) := by decide +kernel
theorem dX12_chain_16 : decode cX12_chain 16 = .ok (.getfield 163, 3) := by decide +kernel
theorem dX12_chain_19 : decode cX12_chain 19 = .ok (.if_icmp .ge 117, 3) := by decide +kernel
theorem dX12_chain_22 : decode cX12_chain 22 = .ok (.aload_n 0, 1) := by decide +kernel
theorem dX12_chain_23 : decode cX12_chain 23 = .ok (.getfield 53, 3) := by decide +kernel
theorem dX12_chain_26 : decode cX12_chain 26 = .ok (.iload_n 3, 1) := by decide +kernel
theorem dX12_chain_27 : decode cX12_chain 27 = .ok (.iconst 1, 1) := by decide +kernel
theorem dX12_chain_28 : decode cX12_chain 28 = .ok (.iastore, 1) := by decide +kernel
theorem dX12_chain_29 : decode cX12_chain 29 = .ok (.iconst 0, 1) := by decide +kernel
theorem dX12_chain_30 : decode cX12_chain 30 = .ok (.istore 4, 2) := by decide +kernel
theorem dX12_chain_32 : decode cX12_chain 32 = .ok (.iload 4, 2) := by decide +kernel
theorem dX12_chain_34 : decode cX12_chain 34 = .ok (.iload_n 3, 1) := by decide +kernel
theorem dX12_chain_35 : decode cX12_chain 35 = .ok (.if_icmp .ge 74, 3) := by decide +kernel
theorem dX12_chain_38 : decode cX12_chain 38 = .ok (.aload_n 0, 1) := by decide +kernel
theorem dX12_chain_39 : decode cX12_chain 39 = .ok (.iload_n 1, 1) := by decide +kernel
theorem dX12_chain_40 : decode cX12_chain 40 = .ok (.iload_n 3, 1) := by decide +kernel
theorem dX12_chain_41 : decode cX12_chain 41 = .ok (.iload 4, 2) := by decide +kernel
theorem dX12_chain_43 : decode cX12_chain 43 = .ok (.invokevirtual 250, 3) := by decide +kernel
theorem dX12_chain_46 : decode cX12_chain 46 = .ok (.ifCond .le 25, 3) := by decide +kernel
theorem dX12_chain_49 : decode cX12_chain 49 = .ok (.aload_n 0, 1) := by decide +kernel
theorem dX12_chain_50 : decode cX12_chain 50 = .ok (.getfield 53, 3) := by decide +kernel
theorem dX12_chain_53 : decode cX12_chain 53 = .ok (.iload 4, 2) := by decide +kernel
theorem dX12_chain_55 : decode cX12_chain 55 = .ok (.iaload, 1) := by decide +kernel
theorem dX12_chain_56 : decode cX12_chain 56 = .ok (.iconst 1, 1) := by decide +kernel
theorem dX12_chain_57 : decode cX12_chain 57 = .ok (.iadd, 1) := by decide +kernel
theorem dX12_chain_58 : decode cX12_chain 58 = .ok (.aload_n 0, 1) := by decide +kernel
theorem dX12_chain_59 : decode cX12_chain 59 = .ok (.getfield 53, 3) := by decide +kernel
theorem dX12_chain_62 : decode cX12_chain 62 = .ok (.iload_n 3, 1) := by decide +kernel
theorem dX12_chain_63 : decode cX12_chain 63 = .ok (.iaload, 1) := by decide +kernel
theorem dX12_chain_64 : decode cX12_chain 64 = .ok (.if_icmp .le 7, 3) := by decide +kernel
theorem dX12_chain_67 : decode cX12_chain 67 = .ok (.iconst 1, 1) := by decide +kernel
theorem dX12_chain_68 : decode cX12_chain 68 = .ok (.goto 4, 3) := by decide +kernel
theorem dX12_chain_71 : decode cX12_chain 71 = .ok (.iconst 0, 1) := by decide +kernel
theorem dX12_chain_72 : decode cX12_chain 72 = .ok (.istore 5, 2) := by decide +kernel
theorem dX12_chain_74 : decode cX12_chain 74 = .ok (.aload_n 0, 1) := by decide +kernel
theorem dX12_chain_75 : decode cX12_chain 75 = .ok (.getfield 53, 3) := by decide +kernel
theorem dX12_chain_78 : decode cX12_chain 78 = .ok (.iload_n 3, 1) := by decide +kernel
theorem dX12_chain_79 : decode cX12_chain 79 = .ok (.iload 5, 2) := by decide +kernel
theorem dX12_chain_81 : decode cX12_chain 81 = .ok (.ifCond .eq 15, 3) := by decide +kernel
theorem dX12_chain_84 : decode cX12_chain 84 = .ok (.aload_n 0, 1) := by decide +kernel
theorem dX12_chain_85 : decode cX12_chain 85 = .ok (.getfield 53, 3) := by decide +kernel
theorem dX12_chain_88 : decode cX12_chain 88 = .ok (.iload 4, 2) := by decide +kernel
theorem dX12_chain_90 : decode cX12_chain 90 = .ok (.iaload, 1) := by decide +kernel
theorem dX12_chain_91 : decode cX12_chain 91 = .ok (.iconst 1, 1) := by decide +kernel
theorem dX12_chain_92 : decode cX12_chain 92 = .ok (.iadd, 1) := by decide +kernel
theorem dX12_chain_93 : decode cX12_chain 93 = .ok (.goto 9, 3) := by decide +kernel
theorem dX12_chain_96 : decode cX12_chain 96 = .ok (.aload_n 0, 1) := by decide +kernel
theorem dX12_chain_97 : decode cX12_chain 97 = .ok (.getfield 53, 3) := by decide +kernel
theorem dX12_chain_100 : decode cX12_chain 100 = .ok (.iload_n 3, 1) := by decide +kernel
theorem dX12_chain_101 : decode cX12_chain 101 = .ok (.iaload, 1) := by decide +kernel
theorem dX12_chain_102 : decode cX12_chain 102 = .ok (.iastore, 1) := by decide +kernel
theorem dX12_chain_103 : decode cX12_chain 103 = .ok (.iinc 4 1, 3) := by decide +kernel
theorem dX12_chain_106 : decode cX12_chain 106 = .ok (.goto (-74), 3) := by decide +kernel
theorem dX12_chain_109 : decode cX12_chain 109 = .ok (.aload_n 0, 1) := by decide +kernel
theorem dX12_chain_110 : decode cX12_chain 110 = .ok (.getfield 53, 3) := by decide +kernel
theorem dX12_chain_113 : decode cX12_chain 113 = .ok (.iload_n 3, 1) := by decide +kernel
theorem dX12_chain_114 : decode cX12_chain 114 = .ok (.iaload, 1) := by decide +kernel
theorem dX12_chain_115 : decode cX12_chain 115 = .ok (.iload_n 2, 1) := by decide +kernel
theorem dX12_chain_116 : decode cX12_chain 116 = .ok (.if_icmp .le 12, 3) := by decide +kernel
theorem dX12_chain_119 : decode cX12_chain 119 = .ok (.aload_n 0, 1) := by decide +kernel
theorem dX12_chain_120 : decode cX12_chain 120 = .ok (.getfield 53, 3) := by decide +kernel
theorem dX12_chain_123 : decode cX12_chain 123 = .ok (.iload_n 3, 1) := by decide +kernel
theorem dX12_chain_124 : decode cX12_chain 124 = .ok (.iaload, 1) := by decide +kernel
theorem dX12_chain_125 : decode cX12_chain 125 = .ok (.goto 4, 3) := by decide +kernel
theorem dX12_chain_128 : decode cX12_chain 128 = .ok (.iload_n 2, 1) := by decide +kernel
theorem dX12_chain_129 : decode cX12_chain 129 = .ok (.istore_n 2, 1) := by decide +kernel
theorem dX12_chain_130 : decode cX12_chain 130 = .ok (.iinc 3 1, 3) := by decide +kernel
theorem dX12_chain_133 : decode cX12_chain 133 = .ok (.goto (-119), 3) := by decide +kernel
theorem dX12_chain_136 : decode cX12_chain 136 = .ok (.iload_n 2, 1) := by decide +kernel
theorem dX12_chain_137 : decode cX12_chain 137 = .ok (.ireturn, 1) := by decide +kernel
theorem dX12_doesMend_0 : decode cX12_doesMend 0 = .ok (.iconst 1, 1) := by decide +kernel
theorem dX12_doesMend_1 : decode cX12_doesMend 1 = .ok (.istore 4, 2) := by decide +kernel
theorem dX12_doesMend_3 : decode cX12_doesMend 3 = .ok (.iconst 0, 1) := by decide +kernel
theorem dX12_doesMend_4 : decode cX12_doesMend 4 = .ok (.istore 5, 2) := by decide +kernel
theorem dX12_doesMend_6 : decode cX12_doesMend 6 = .ok (.iload 5, 2) := by decide +kernel
theorem dX12_doesMend_8 : decode cX12_doesMend 8 = .ok (.aload_n 0, 1) := by decide +kernel
theorem dX12_doesMend_9 : decode cX12_doesMend 9 = .ok (.getfield 163, 3) := by decide +kernel
theorem dX12_doesMend_12 : decode cX12_doesMend 12 = .ok (.if_icmp .ge 55, 3) := by decide +kernel
theorem dX12_doesMend_15 : decode cX12_doesMend 15 = .ok (.iload 4, 2) := by decide +kernel
theorem dX12_doesMend_17 : decode cX12_doesMend 17 = .ok (.ifCond .eq 50, 3) := by decide +kernel
theorem dX12_doesMend_20 : decode cX12_doesMend 20 = .ok (.aload_n 0, 1) := by decide +kernel
theorem dX12_doesMend_21 : decode cX12_doesMend 21 = .ok (.iload_n 1, 1) := by decide +kernel
theorem dX12_doesMend_22 : decode cX12_doesMend 22 = .ok (.aload_n 0, 1) := by decide +kernel
theorem dX12_doesMend_23 : decode cX12_doesMend 23 = .ok (.getfield 47, 3) := by decide +kernel
theorem dX12_doesMend_26 : decode cX12_doesMend 26 = .ok (.iload 5, 2) := by decide +kernel
theorem dX12_doesMend_28 : decode cX12_doesMend 28 = .ok (.iaload, 1) := by decide +kernel
theorem dX12_doesMend_29 : decode cX12_doesMend 29 = .ok (.aload_n 0, 1) := by decide +kernel
theorem dX12_doesMend_30 : decode cX12_doesMend 30 = .ok (.getfield 50, 3) := by decide +kernel
theorem dX12_doesMend_33 : decode cX12_doesMend 33 = .ok (.iload 5, 2) := by decide +kernel
theorem dX12_doesMend_35 : decode cX12_doesMend 35 = .ok (.iaload, 1) := by decide +kernel
theorem dX12_doesMend_36 : decode cX12_doesMend 36 = .ok (.iload_n 2, 1) := by decide +kernel
theorem dX12_doesMend_37 : decode cX12_doesMend 37 = .ok (.iload_n 3, 1) := by decide +kernel
theorem dX12_doesMend_38 : decode cX12_doesMend 38 = .ok (.invokevirtual 246, 3) := by decide +kernel
theorem dX12_doesMend_41 : decode cX12_doesMend 41 = .ok (.ifCond .gt 13, 3) := by decide +kernel
theorem dX12_doesMend_44 : decode cX12_doesMend 44 = .ok (.aload_n 0, 1) := by decide +kernel
theorem dX12_doesMend_45 : decode cX12_doesMend 45 = .ok (.iload_n 1, 1) := by decide +kernel
theorem dX12_doesMend_46 : decode cX12_doesMend 46 = .ok (.iload 5, 2) := by decide +kernel
theorem dX12_doesMend_48 : decode cX12_doesMend 48 = .ok (.invokevirtual 253, 3) := by decide +kernel
theorem dX12_doesMend_51 : decode cX12_doesMend 51 = .ok (.ifCond .le 7, 3) := by decide +kernel
theorem dX12_doesMend_54 : decode cX12_doesMend 54 = .ok (.iconst 1, 1) := by decide +kernel
theorem dX12_doesMend_55 : decode cX12_doesMend 55 = .ok (.goto 4, 3) := by decide +kernel
theorem dX12_doesMend_58 : decode cX12_doesMend 58 = .ok (.iconst 0, 1) := by decide +kernel
theorem dX12_doesMend_59 : decode cX12_doesMend 59 = .ok (.istore 4, 2) := by decide +kernel
theorem dX12_doesMend_61 : decode cX12_doesMend 61 = .ok (.iinc 5 1, 3) := by decide +kernel
theorem dX12_doesMend_64 : decode cX12_doesMend 64 = .ok (.goto (-58), 3) := by decide +kernel
theorem dX12_doesMend_67 : decode cX12_doesMend 67 = .ok (.iload 4, 2) := by decide +kernel
theorem dX12_doesMend_69 : decode cX12_doesMend 69 = .ok (.ireturn, 1) := by decide +kernel
theorem dX12_missed_0 : decode cX12_missed 0 = .ok (.aload_n 0, 1) := by decide +kernel
theorem dX12_missed_1 : decode cX12_missed 1 = .ok (.iload_n 1, 1) := by decide +kernel
theorem dX12_missed_2 : decode cX12_missed 2 = .ok (.invokevirtual 218, 3) := by decide +kernel
theorem dX12_missed_5 : decode cX12_missed 5 = .ok (.ifCond .eq 5, 3) := by decide +kernel
theorem dX12_missed_8 : decode cX12_missed 8 = .ok (.iconst (-1), 1) := by decide +kernel
theorem dX12_missed_9 : decode cX12_missed 9 = .ok (.ireturn, 1) := by decide +kernel
theorem dX12_missed_10 : decode cX12_missed 10 = .ok (.iload_n 2, 1) := by decide +kernel
theorem dX12_missed_11 : decode cX12_missed 11 = .ok (.i2l, 1) := by decide +kernel
theorem dX12_missed_12 : decode cX12_missed 12 = .ok (.lconst 0, 1) := by decide +kernel
theorem dX12_missed_13 : decode cX12_missed 13 = .ok (.ldc2_w 95, 3) := by decide +kernel
theorem dX12_missed_16 : decode cX12_missed 16 = .ok (.invokestatic 97, 3) := by decide +kernel
theorem dX12_missed_19 : decode cX12_missed 19 = .ok (.ifCond .ne 6, 3) := by decide +kernel
theorem dX12_missed_22 : decode cX12_missed 22 = .ok (.bipush (-2), 2) := by decide +kernel
theorem dX12_missed_24 : decode cX12_missed 24 = .ok (.ireturn, 1) := by decide +kernel
theorem dX12_missed_25 : decode cX12_missed 25 = .ok (.aload_n 0, 1) := by decide +kernel
theorem dX12_missed_26 : decode cX12_missed 26 = .ok (.iload_n 1, 1) := by decide +kernel
theorem dX12_missed_27 : decode cX12_missed 27 = .ok (.invokevirtual 260, 3) := by decide +kernel
theorem dX12_missed_30 : decode cX12_missed 30 = .ok (.istore_n 3, 1) := by decide +kernel
theorem dX12_missed_31 : decode cX12_missed 31 = .ok (.iload_n 3, 1) := by decide +kernel
theorem dX12_missed_32 : decode cX12_missed 32 = .ok (.ifCond .ge 6, 3) := by decide +kernel
theorem dX12_missed_35 : decode cX12_missed 35 = .ok (.bipush (-3), 2) := by decide +kernel
theorem dX12_missed_37 : decode cX12_missed 37 = .ok (.ireturn, 1) := by decide +kernel
theorem dX12_missed_38 : decode cX12_missed 38 = .ok (.iconst 0, 1) := by decide +kernel
theorem dX12_missed_39 : decode cX12_missed 39 = .ok (.istore 4, 2) := by decide +kernel
theorem dX12_missed_41 : decode cX12_missed 41 = .ok (.bipush (-9), 2) := by decide +kernel
theorem dX12_missed_43 : decode cX12_missed 43 = .ok (.istore 5, 2) := by decide +kernel
theorem dX12_missed_45 : decode cX12_missed 45 = .ok (.bipush (-9), 2) := by decide +kernel
theorem dX12_missed_47 : decode cX12_missed 47 = .ok (.istore 6, 2) := by decide +kernel
theorem dX12_missed_49 : decode cX12_missed 49 = .ok (.iconst 0, 1) := by decide +kernel
theorem dX12_missed_50 : decode cX12_missed 50 = .ok (.istore 7, 2) := by decide +kernel
theorem dX12_missed_52 : decode cX12_missed 52 = .ok (.iload 7, 2) := by decide +kernel
theorem dX12_missed_54 : decode cX12_missed 54 = .ok (.aload_n 0, 1) := by decide +kernel
theorem dX12_missed_55 : decode cX12_missed 55 = .ok (.invokevirtual 240, 3) := by decide +kernel
theorem dX12_missed_58 : decode cX12_missed 58 = .ok (.if_icmp .gt 126, 3) := by decide +kernel
theorem dX12_missed_61 : decode cX12_missed 61 = .ok (.aload_n 0, 1) := by decide +kernel
theorem dX12_missed_62 : decode cX12_missed 62 = .ok (.getfield 47, 3) := by decide +kernel
theorem dX12_missed_65 : decode cX12_missed 65 = .ok (.iload_n 3, 1) := by decide +kernel
theorem dX12_missed_66 : decode cX12_missed 66 = .ok (.iaload, 1) := by decide +kernel
theorem dX12_missed_67 : decode cX12_missed 67 = .ok (.iload 7, 2) := by decide +kernel
theorem dX12_missed_69 : decode cX12_missed 69 = .ok (.isub, 1) := by decide +kernel
theorem dX12_missed_70 : decode cX12_missed 70 = .ok (.i2l, 1) := by decide +kernel
theorem dX12_missed_71 : decode cX12_missed 71 = .ok (.aload_n 0, 1) := by decide +kernel
theorem dX12_missed_72 : decode cX12_missed 72 = .ok (.iload_n 1, 1) := by decide +kernel
theorem dX12_missed_73 : decode cX12_missed 73 = .ok (.iconst 5, 1) := by decide +kernel
theorem dX12_missed_74 : decode cX12_missed 74 = .ok (.invokevirtual 215, 3) := by decide +kernel
theorem dX12_missed_77 : decode cX12_missed 77 = .ok (.i2l, 1) := by decide +kernel
theorem dX12_missed_78 : decode cX12_missed 78 = .ok (.aload_n 0, 1) := by decide +kernel
theorem dX12_missed_79 : decode cX12_missed 79 = .ok (.iload_n 1, 1) := by decide +kernel
theorem dX12_missed_80 : decode cX12_missed 80 = .ok (.bipush 6, 2) := by decide +kernel
theorem dX12_missed_82 : decode cX12_missed 82 = .ok (.invokevirtual 215, 3) := by decide +kernel
theorem dX12_missed_85 : decode cX12_missed 85 = .ok (.i2l, 1) := by decide +kernel
theorem dX12_missed_86 : decode cX12_missed 86 = .ok (.invokestatic 97, 3) := by decide +kernel
theorem dX12_missed_89 : decode cX12_missed 89 = .ok (.istore 8, 2) := by decide +kernel
theorem dX12_missed_91 : decode cX12_missed 91 = .ok (.iconst 0, 1) := by decide +kernel
theorem dX12_missed_92 : decode cX12_missed 92 = .ok (.istore 9, 2) := by decide +kernel
theorem dX12_missed_94 : decode cX12_missed 94 = .ok (.iload 9, 2) := by decide +kernel
theorem dX12_missed_96 : decode cX12_missed 96 = .ok (.aload_n 0, 1) := by decide +kernel
theorem dX12_missed_97 : decode cX12_missed 97 = .ok (.getfield 160, 3) := by decide +kernel
theorem dX12_missed_100 : decode cX12_missed 100 = .ok (.if_icmp .ge 78, 3) := by decide +kernel
theorem dX12_missed_103 : decode cX12_missed 103 = .ok (.iload 8, 2) := by decide +kernel
theorem dX12_missed_105 : decode cX12_missed 105 = .ok (.ifCond .eq 73, 3) := by decide +kernel
theorem dX12_missed_108 : decode cX12_missed 108 = .ok (.aload_n 0, 1) := by decide +kernel
theorem dX12_missed_109 : decode cX12_missed 109 = .ok (.iload_n 1, 1) := by decide +kernel
theorem dX12_missed_110 : decode cX12_missed 110 = .ok (.iload 7, 2) := by decide +kernel
theorem dX12_missed_112 : decode cX12_missed 112 = .ok (.iload 9, 2) := by decide +kernel
theorem dX12_missed_114 : decode cX12_missed 114 = .ok (.invokevirtual 269, 3) := by decide +kernel
theorem dX12_missed_117 : decode cX12_missed 117 = .ok (.istore 10, 2) := by decide +kernel
theorem dX12_missed_119 : decode cX12_missed 119 = .ok (.iload 10, 2) := by decide +kernel
theorem dX12_missed_121 : decode cX12_missed 121 = .ok (.ifCond .eq 13, 3) := by decide +kernel
theorem dX12_missed_124 : decode cX12_missed 124 = .ok (.iload 4, 2) := by decide +kernel
theorem dX12_missed_126 : decode cX12_missed 126 = .ok (.ifCond .ne 8, 3) := by decide +kernel
theorem dX12_missed_129 : decode cX12_missed 129 = .ok (.iload 7, 2) := by decide +kernel
theorem dX12_missed_131 : decode cX12_missed 131 = .ok (.goto 5, 3) := by decide +kernel
theorem dX12_missed_134 : decode cX12_missed 134 = .ok (.iload 5, 2) := by decide +kernel
theorem dX12_missed_136 : decode cX12_missed 136 = .ok (.istore 5, 2) := by decide +kernel
theorem dX12_missed_138 : decode cX12_missed 138 = .ok (.iload 10, 2) := by decide +kernel
theorem dX12_missed_140 : decode cX12_missed 140 = .ok (.ifCond .eq 13, 3) := by decide +kernel
theorem dX12_missed_143 : decode cX12_missed 143 = .ok (.iload 4, 2) := by decide +kernel
theorem dX12_missed_145 : decode cX12_missed 145 = .ok (.ifCond .ne 8, 3) := by decide +kernel
theorem dX12_missed_148 : decode cX12_missed 148 = .ok (.iload 9, 2) := by decide +kernel
theorem dX12_missed_150 : decode cX12_missed 150 = .ok (.goto 5, 3) := by decide +kernel
theorem dX12_missed_153 : decode cX12_missed 153 = .ok (.iload 6, 2) := by decide +kernel
theorem dX12_missed_155 : decode cX12_missed 155 = .ok (.istore 6, 2) := by decide +kernel
theorem dX12_missed_157 : decode cX12_missed 157 = .ok (.iload 4, 2) := by decide +kernel
theorem dX12_missed_159 : decode cX12_missed 159 = .ok (.iload 10, 2) := by decide +kernel
theorem dX12_missed_161 : decode cX12_missed 161 = .ok (.ifCond .eq 7, 3) := by decide +kernel
theorem dX12_missed_164 : decode cX12_missed 164 = .ok (.iconst 1, 1) := by decide +kernel
theorem dX12_missed_165 : decode cX12_missed 165 = .ok (.goto 4, 3) := by decide +kernel
theorem dX12_missed_168 : decode cX12_missed 168 = .ok (.iconst 0, 1) := by decide +kernel
theorem dX12_missed_169 : decode cX12_missed 169 = .ok (.iadd, 1) := by decide +kernel
theorem dX12_missed_170 : decode cX12_missed 170 = .ok (.istore 4, 2) := by decide +kernel
theorem dX12_missed_172 : decode cX12_missed 172 = .ok (.iinc 9 1, 3) := by decide +kernel
theorem dX12_missed_175 : decode cX12_missed 175 = .ok (.goto (-81), 3) := by decide +kernel
theorem dX12_missed_178 : decode cX12_missed 178 = .ok (.iinc 7 1, 3) := by decide +kernel
theorem dX12_missed_181 : decode cX12_missed 181 = .ok (.goto (-129), 3) := by decide +kernel
theorem dX12_missed_184 : decode cX12_missed 184 = .ok (.iload_n 2, 1) := by decide +kernel
theorem dX12_missed_185 : decode cX12_missed 185 = .ok (.ifCond .ne 8, 3) := by decide +kernel
theorem dX12_missed_188 : decode cX12_missed 188 = .ok (.iload 4, 2) := by decide +kernel
theorem dX12_missed_190 : decode cX12_missed 190 = .ok (.goto 15, 3) := by decide +kernel
theorem dX12_missed_193 : decode cX12_missed 193 = .ok (.iload_n 2, 1) := by decide +kernel
theorem dX12_missed_194 : decode cX12_missed 194 = .ok (.iconst 1, 1) := by decide +kernel
theorem dX12_missed_195 : decode cX12_missed 195 = .ok (.if_icmp .ne 8, 3) := by decide +kernel
theorem dX12_missed_198 : decode cX12_missed 198 = .ok (.iload 5, 2) := by decide +kernel
theorem dX12_missed_200 : decode cX12_missed 200 = .ok (.goto 5, 3) := by decide +kernel
theorem dX12_missed_203 : decode cX12_missed 203 = .ok (.iload 6, 2) := by decide +kernel
theorem dX12_missed_205 : decode cX12_missed 205 = .ok (.ireturn, 1) := by decide +kernel
theorem dX12_sumAt_0 : decode cX12_sumAt 0 = .ok (.aload_n 0, 1) := by decide +kernel
theorem dX12_sumAt_1 : decode cX12_sumAt 1 = .ok (.iload_n 1, 1) := by decide +kernel
theorem dX12_sumAt_2 : decode cX12_sumAt 2 = .ok (.iload_n 3, 1) := by decide +kernel
theorem dX12_sumAt_3 : decode cX12_sumAt 3 = .ok (.bipush (-9), 2) := by decide +kernel
theorem dX12_sumAt_5 : decode cX12_sumAt 5 = .ok (.invokevirtual 234, 3) := by decide +kernel
theorem dX12_sumAt_8 : decode cX12_sumAt 8 = .ok (.istore 4, 2) := by decide +kernel
theorem dX12_sumAt_10 : decode cX12_sumAt 10 = .ok (.iconst 0, 1) := by decide +kernel
theorem dX12_sumAt_11 : decode cX12_sumAt 11 = .ok (.istore 5, 2) := by decide +kernel
theorem dX12_sumAt_13 : decode cX12_sumAt 13 = .ok (.iload 5, 2) := by decide +kernel
theorem dX12_sumAt_15 : decode cX12_sumAt 15 = .ok (.aload_n 0, 1) := by decide +kernel
theorem dX12_sumAt_16 : decode cX12_sumAt 16 = .ok (.getfield 163, 3) := by decide +kernel
theorem dX12_sumAt_19 : decode cX12_sumAt 19 = .ok (.if_icmp .ge 35, 3) := by decide +kernel
theorem dX12_sumAt_22 : decode cX12_sumAt 22 = .ok (.iload 4, 2) := by decide +kernel
theorem dX12_sumAt_24 : decode cX12_sumAt 24 = .ok (.aload_n 0, 1) := by decide +kernel
theorem dX12_sumAt_25 : decode cX12_sumAt 25 = .ok (.iload_n 1, 1) := by decide +kernel
theorem dX12_sumAt_26 : decode cX12_sumAt 26 = .ok (.iload_n 2, 1) := by decide +kernel
theorem dX12_sumAt_27 : decode cX12_sumAt 27 = .ok (.iload_n 3, 1) := by decide +kernel
theorem dX12_sumAt_28 : decode cX12_sumAt 28 = .ok (.aload_n 0, 1) := by decide +kernel
theorem dX12_sumAt_29 : decode cX12_sumAt 29 = .ok (.getfield 47, 3) := by decide +kernel
theorem dX12_sumAt_32 : decode cX12_sumAt 32 = .ok (.iload 5, 2) := by decide +kernel
theorem dX12_sumAt_34 : decode cX12_sumAt 34 = .ok (.iaload, 1) := by decide +kernel
theorem dX12_sumAt_35 : decode cX12_sumAt 35 = .ok (.aload_n 0, 1) := by decide +kernel
theorem dX12_sumAt_36 : decode cX12_sumAt 36 = .ok (.getfield 50, 3) := by decide +kernel
theorem dX12_sumAt_39 : decode cX12_sumAt 39 = .ok (.iload 5, 2) := by decide +kernel
theorem dX12_sumAt_41 : decode cX12_sumAt 41 = .ok (.iaload, 1) := by decide +kernel
theorem dX12_sumAt_42 : decode cX12_sumAt 42 = .ok (.invokevirtual 246, 3) := by decide +kernel
theorem dX12_sumAt_45 : decode cX12_sumAt 45 = .ok (.iadd, 1) := by decide +kernel
theorem dX12_sumAt_46 : decode cX12_sumAt 46 = .ok (.istore 4, 2) := by decide +kernel
theorem dX12_sumAt_48 : decode cX12_sumAt 48 = .ok (.iinc 5 1, 3) := by decide +kernel
theorem dX12_sumAt_51 : decode cX12_sumAt 51 = .ok (.goto (-38), 3) := by decide +kernel
theorem dX12_sumAt_54 : decode cX12_sumAt 54 = .ok (.iload 4, 2) := by decide +kernel
theorem dX12_sumAt_56 : decode cX12_sumAt 56 = .ok (.ireturn, 1) := by decide +kernel
theorem dX12_night_0 : decode cX12_night 0 = .ok (.aload_n 0, 1) := by decide +kernel
theorem dX12_night_1 : decode cX12_night 1 = .ok (.iload_n 1, 1) := by decide +kernel
theorem dX12_night_2 : decode cX12_night 2 = .ok (.invokevirtual 218, 3) := by decide +kernel
theorem dX12_night_5 : decode cX12_night 5 = .ok (.ifCond .eq 9, 3) := by decide +kernel
theorem dX12_night_8 : decode cX12_night 8 = .ok (.aload_n 0, 1) := by decide +kernel
theorem dX12_night_9 : decode cX12_night 9 = .ok (.iconst (-1), 1) := by decide +kernel
theorem dX12_night_10 : decode cX12_night 10 = .ok (.invokevirtual 91, 3) := by decide +kernel
theorem dX12_night_13 : decode cX12_night 13 = .ok (.ireturn, 1) := by decide +kernel
theorem dX12_night_14 : decode cX12_night 14 = .ok (.aload_n 0, 1) := by decide +kernel
theorem dX12_night_15 : decode cX12_night 15 = .ok (.iload_n 2, 1) := by decide +kernel
theorem dX12_night_16 : decode cX12_night 16 = .ok (.iload_n 3, 1) := by decide +kernel
theorem dX12_night_17 : decode cX12_night 17 = .ok (.iload 4, 2) := by decide +kernel
theorem dX12_night_19 : decode cX12_night 19 = .ok (.iload 5, 2) := by decide +kernel
theorem dX12_night_21 : decode cX12_night 21 = .ok (.i2l, 1) := by decide +kernel
theorem dX12_night_22 : decode cX12_night 22 = .ok (.invokevirtual 145, 3) := by decide +kernel
theorem dX12_night_25 : decode cX12_night 25 = .ok (.istore 6, 2) := by decide +kernel
theorem dX12_night_27 : decode cX12_night 27 = .ok (.iload 6, 2) := by decide +kernel
theorem dX12_night_29 : decode cX12_night 29 = .ok (.ifCond .ge 6, 3) := by decide +kernel
theorem dX12_night_32 : decode cX12_night 32 = .ok (.iload 6, 2) := by decide +kernel
theorem dX12_night_34 : decode cX12_night 34 = .ok (.ireturn, 1) := by decide +kernel
theorem dX12_night_35 : decode cX12_night 35 = .ok (.bipush 60, 2) := by decide +kernel
theorem dX12_night_37 : decode cX12_night 37 = .ok (.iload_n 2, 1) := by decide +kernel
theorem dX12_night_38 : decode cX12_night 38 = .ok (.imul, 1) := by decide +kernel
theorem dX12_night_39 : decode cX12_night 39 = .ok (.iload 4, 2) := by decide +kernel
theorem dX12_night_41 : decode cX12_night 41 = .ok (.iadd, 1) := by decide +kernel
theorem dX12_night_42 : decode cX12_night 42 = .ok (.istore 7, 2) := by decide +kernel
theorem dX12_night_44 : decode cX12_night 44 = .ok (.aload_n 0, 1) := by decide +kernel
theorem dX12_night_45 : decode cX12_night 45 = .ok (.getfield 160, 3) := by decide +kernel
theorem dX12_night_48 : decode cX12_night 48 = .ok (.ifCond .ne 7, 3) := by decide +kernel
theorem dX12_night_51 : decode cX12_night 51 = .ok (.iconst 0, 1) := by decide +kernel
theorem dX12_night_52 : decode cX12_night 52 = .ok (.goto 10, 3) := by decide +kernel
theorem dX12_night_55 : decode cX12_night 55 = .ok (.iload 5, 2) := by decide +kernel
theorem dX12_night_57 : decode cX12_night 57 = .ok (.aload_n 0, 1) := by decide +kernel
theorem dX12_night_58 : decode cX12_night 58 = .ok (.getfield 160, 3) := by decide +kernel
theorem dX12_night_61 : decode cX12_night 61 = .ok (.idiv, 1) := by decide +kernel
theorem dX12_night_62 : decode cX12_night 62 = .ok (.istore 8, 2) := by decide +kernel
theorem dX12_night_64 : decode cX12_night 64 = .ok (.iconst 0, 1) := by decide +kernel
theorem dX12_night_65 : decode cX12_night 65 = .ok (.istore 9, 2) := by decide +kernel
theorem dX12_night_67 : decode cX12_night 67 = .ok (.iload 9, 2) := by decide +kernel
theorem dX12_night_69 : decode cX12_night 69 = .ok (.iload 8, 2) := by decide +kernel
theorem dX12_night_71 : decode cX12_night 71 = .ok (.aload_n 0, 1) := by decide +kernel
theorem dX12_night_72 : decode cX12_night 72 = .ok (.getfield 160, 3) := by decide +kernel
theorem dX12_night_75 : decode cX12_night 75 = .ok (.imul, 1) := by decide +kernel
theorem dX12_night_76 : decode cX12_night 76 = .ok (.if_icmp .ge 37, 3) := by decide +kernel
theorem dX12_night_79 : decode cX12_night 79 = .ok (.aload_n 0, 1) := by decide +kernel
theorem dX12_night_80 : decode cX12_night 80 = .ok (.getfield 71, 3) := by decide +kernel
theorem dX12_night_83 : decode cX12_night 83 = .ok (.iload 7, 2) := by decide +kernel
theorem dX12_night_85 : decode cX12_night 85 = .ok (.iload 9, 2) := by decide +kernel
theorem dX12_night_87 : decode cX12_night 87 = .ok (.iadd, 1) := by decide +kernel
theorem dX12_night_88 : decode cX12_night 88 = .ok (.iaload, 1) := by decide +kernel
theorem dX12_night_89 : decode cX12_night 89 = .ok (.i2l, 1) := by decide +kernel
theorem dX12_night_90 : decode cX12_night 90 = .ok (.lconst 0, 1) := by decide +kernel
theorem dX12_night_91 : decode cX12_night 91 = .ok (.ldc2_w 272, 3) := by decide +kernel
theorem dX12_night_94 : decode cX12_night 94 = .ok (.invokestatic 97, 3) := by decide +kernel
theorem dX12_night_97 : decode cX12_night 97 = .ok (.ifCond .ne 10, 3) := by decide +kernel
theorem dX12_night_100 : decode cX12_night 100 = .ok (.aload_n 0, 1) := by decide +kernel
theorem dX12_night_101 : decode cX12_night 101 = .ok (.bipush (-2), 2) := by decide +kernel
theorem dX12_night_103 : decode cX12_night 103 = .ok (.invokevirtual 91, 3) := by decide +kernel
theorem dX12_night_106 : decode cX12_night 106 = .ok (.ireturn, 1) := by decide +kernel
theorem dX12_night_107 : decode cX12_night 107 = .ok (.iinc 9 1, 3) := by decide +kernel
theorem dX12_night_110 : decode cX12_night 110 = .ok (.goto (-43), 3) := by decide +kernel
theorem dX12_night_113 : decode cX12_night 113 = .ok (.aload_n 0, 1) := by decide +kernel
theorem dX12_night_114 : decode cX12_night 114 = .ok (.getfield 160, 3) := by decide +kernel
theorem dX12_night_117 : decode cX12_night 117 = .ok (.ifCond .ne 10, 3) := by decide +kernel
theorem dX12_night_120 : decode cX12_night 120 = .ok (.aload_n 0, 1) := by decide +kernel
theorem dX12_night_121 : decode cX12_night 121 = .ok (.bipush (-3), 2) := by decide +kernel
theorem dX12_night_123 : decode cX12_night 123 = .ok (.invokevirtual 91, 3) := by decide +kernel
theorem dX12_night_126 : decode cX12_night 126 = .ok (.ireturn, 1) := by decide +kernel
theorem dX12_night_127 : decode cX12_night 127 = .ok (.aload_n 0, 1) := by decide +kernel
theorem dX12_night_128 : decode cX12_night 128 = .ok (.invokevirtual 240, 3) := by decide +kernel
theorem dX12_night_131 : decode cX12_night 131 = .ok (.iconst 1, 1) := by decide +kernel
theorem dX12_night_132 : decode cX12_night 132 = .ok (.iadd, 1) := by decide +kernel
theorem dX12_night_133 : decode cX12_night 133 = .ok (.istore 9, 2) := by decide +kernel
theorem dX12_night_135 : decode cX12_night 135 = .ok (.iconst 0, 1) := by decide +kernel
theorem dX12_night_136 : decode cX12_night 136 = .ok (.istore 10, 2) := by decide +kernel
theorem dX12_night_138 : decode cX12_night 138 = .ok (.iconst 0, 1) := by decide +kernel
theorem dX12_night_139 : decode cX12_night 139 = .ok (.istore 11, 2) := by decide +kernel
theorem dX12_night_141 : decode cX12_night 141 = .ok (.iload 11, 2) := by decide +kernel
theorem dX12_night_143 : decode cX12_night 143 = .ok (.iload 8, 2) := by decide +kernel
theorem dX12_night_145 : decode cX12_night 145 = .ok (.if_icmp .ge 130, 3) := by decide +kernel
theorem dX12_night_148 : decode cX12_night 148 = .ok (.iload 9, 2) := by decide +kernel
theorem dX12_night_150 : decode cX12_night 150 = .ok (.iload 11, 2) := by decide +kernel
theorem dX12_night_152 : decode cX12_night 152 = .ok (.iadd, 1) := by decide +kernel
theorem dX12_night_153 : decode cX12_night 153 = .ok (.sipush 599, 3) := by decide +kernel
theorem dX12_night_156 : decode cX12_night 156 = .ok (.if_icmp .gt 119, 3) := by decide +kernel
theorem dX12_night_159 : decode cX12_night 159 = .ok (.iconst 0, 1) := by decide +kernel
theorem dX12_night_160 : decode cX12_night 160 = .ok (.istore 12, 2) := by decide +kernel
theorem dX12_night_162 : decode cX12_night 162 = .ok (.iload 12, 2) := by decide +kernel
theorem dX12_night_164 : decode cX12_night 164 = .ok (.aload_n 0, 1) := by decide +kernel
theorem dX12_night_165 : decode cX12_night 165 = .ok (.getfield 160, 3) := by decide +kernel
theorem dX12_night_168 : decode cX12_night 168 = .ok (.if_icmp .ge 101, 3) := by decide +kernel
theorem dX12_night_171 : decode cX12_night 171 = .ok (.aload_n 0, 1) := by decide +kernel
theorem dX12_night_172 : decode cX12_night 172 = .ok (.getfield 163, 3) := by decide +kernel
theorem dX12_night_175 : decode cX12_night 175 = .ok (.bipush 24, 2) := by decide +kernel
theorem dX12_night_177 : decode cX12_night 177 = .ok (.if_icmp .ge 40, 3) := by decide +kernel
theorem dX12_night_180 : decode cX12_night 180 = .ok (.aload_n 0, 1) := by decide +kernel
theorem dX12_night_181 : decode cX12_night 181 = .ok (.getfield 71, 3) := by decide +kernel
theorem dX12_night_184 : decode cX12_night 184 = .ok (.iload 7, 2) := by decide +kernel
theorem dX12_night_186 : decode cX12_night 186 = .ok (.iload 11, 2) := by decide +kernel
theorem dX12_night_188 : decode cX12_night 188 = .ok (.aload_n 0, 1) := by decide +kernel
theorem dX12_night_189 : decode cX12_night 189 = .ok (.getfield 160, 3) := by decide +kernel
theorem dX12_night_192 : decode cX12_night 192 = .ok (.imul, 1) := by decide +kernel
theorem dX12_night_193 : decode cX12_night 193 = .ok (.iadd, 1) := by decide +kernel
theorem dX12_night_194 : decode cX12_night 194 = .ok (.iload 12, 2) := by decide +kernel
theorem dX12_night_196 : decode cX12_night 196 = .ok (.iadd, 1) := by decide +kernel
theorem dX12_night_197 : decode cX12_night 197 = .ok (.iaload, 1) := by decide +kernel
theorem dX12_night_198 : decode cX12_night 198 = .ok (.aload_n 0, 1) := by decide +kernel
theorem dX12_night_199 : decode cX12_night 199 = .ok (.iload_n 1, 1) := by decide +kernel
theorem dX12_night_200 : decode cX12_night 200 = .ok (.iload 9, 2) := by decide +kernel
theorem dX12_night_202 : decode cX12_night 202 = .ok (.iload 11, 2) := by decide +kernel
theorem dX12_night_204 : decode cX12_night 204 = .ok (.iadd, 1) := by decide +kernel
theorem dX12_night_205 : decode cX12_night 205 = .ok (.iload 12, 2) := by decide +kernel
theorem dX12_night_207 : decode cX12_night 207 = .ok (.invokevirtual 274, 3) := by decide +kernel
theorem dX12_night_210 : decode cX12_night 210 = .ok (.if_icmp .ge 7, 3) := by decide +kernel
theorem dX12_night_213 : decode cX12_night 213 = .ok (.iconst 1, 1) := by decide +kernel
theorem dX12_night_214 : decode cX12_night 214 = .ok (.goto 4, 3) := by decide +kernel
theorem dX12_night_217 : decode cX12_night 217 = .ok (.iconst 0, 1) := by decide +kernel
theorem dX12_night_218 : decode cX12_night 218 = .ok (.istore 13, 2) := by decide +kernel
theorem dX12_night_220 : decode cX12_night 220 = .ok (.iload 13, 2) := by decide +kernel
theorem dX12_night_222 : decode cX12_night 222 = .ok (.ifCond .eq 41, 3) := by decide +kernel
theorem dX12_night_225 : decode cX12_night 225 = .ok (.aload_n 0, 1) := by decide +kernel
theorem dX12_night_226 : decode cX12_night 226 = .ok (.getfield 47, 3) := by decide +kernel
theorem dX12_night_229 : decode cX12_night 229 = .ok (.aload_n 0, 1) := by decide +kernel
theorem dX12_night_230 : decode cX12_night 230 = .ok (.getfield 163, 3) := by decide +kernel
theorem dX12_night_233 : decode cX12_night 233 = .ok (.iload 9, 2) := by decide +kernel
theorem dX12_night_235 : decode cX12_night 235 = .ok (.iload 11, 2) := by decide +kernel
theorem dX12_night_237 : decode cX12_night 237 = .ok (.iadd, 1) := by decide +kernel
theorem dX12_night_238 : decode cX12_night 238 = .ok (.iastore, 1) := by decide +kernel
theorem dX12_night_239 : decode cX12_night 239 = .ok (.aload_n 0, 1) := by decide +kernel
theorem dX12_night_240 : decode cX12_night 240 = .ok (.getfield 50, 3) := by decide +kernel
theorem dX12_night_243 : decode cX12_night 243 = .ok (.aload_n 0, 1) := by decide +kernel
theorem dX12_night_244 : decode cX12_night 244 = .ok (.getfield 163, 3) := by decide +kernel
theorem dX12_night_247 : decode cX12_night 247 = .ok (.iload 12, 2) := by decide +kernel
theorem dX12_night_249 : decode cX12_night 249 = .ok (.iastore, 1) := by decide +kernel
theorem dX12_night_250 : decode cX12_night 250 = .ok (.aload_n 0, 1) := by decide +kernel
theorem dX12_night_251 : decode cX12_night 251 = .ok (.dup, 1) := by decide +kernel
theorem dX12_night_252 : decode cX12_night 252 = .ok (.getfield 163, 3) := by decide +kernel
theorem dX12_night_255 : decode cX12_night 255 = .ok (.iconst 1, 1) := by decide +kernel
theorem dX12_night_256 : decode cX12_night 256 = .ok (.iadd, 1) := by decide +kernel
theorem dX12_night_257 : decode cX12_night 257 = .ok (.putfield 163, 3) := by decide +kernel
theorem dX12_night_260 : decode cX12_night 260 = .ok (.iinc 10 1, 3) := by decide +kernel
theorem dX12_night_263 : decode cX12_night 263 = .ok (.iinc 12 1, 3) := by decide +kernel
theorem dX12_night_266 : decode cX12_night 266 = .ok (.goto (-104), 3) := by decide +kernel
theorem dX12_night_269 : decode cX12_night 269 = .ok (.iinc 11 1, 3) := by decide +kernel
theorem dX12_night_272 : decode cX12_night 272 = .ok (.goto (-131), 3) := by decide +kernel
theorem dX12_night_275 : decode cX12_night 275 = .ok (.aload_n 0, 1) := by decide +kernel
theorem dX12_night_276 : decode cX12_night 276 = .ok (.iload 10, 2) := by decide +kernel
theorem dX12_night_278 : decode cX12_night 278 = .ok (.invokevirtual 91, 3) := by decide +kernel
theorem dX12_night_281 : decode cX12_night 281 = .ok (.ireturn, 1) := by decide +kernel
theorem dX12_spreadOf_0 : decode cX12_spreadOf 0 = .ok (.iconst 0, 1) := by decide +kernel
theorem dX12_spreadOf_1 : decode cX12_spreadOf 1 = .ok (.istore_n 2, 1) := by decide +kernel
theorem dX12_spreadOf_2 : decode cX12_spreadOf 2 = .ok (.iconst 0, 1) := by decide +kernel
theorem dX12_spreadOf_3 : decode cX12_spreadOf 3 = .ok (.istore_n 3, 1) := by decide +kernel
theorem dX12_spreadOf_4 : decode cX12_spreadOf 4 = .ok (.iload_n 3, 1) := by decide +kernel
theorem dX12_spreadOf_5 : decode cX12_spreadOf 5 = .ok (.aload_n 0, 1) := by decide +kernel
theorem dX12_spreadOf_6 : decode cX12_spreadOf 6 = .ok (.getfield 160, 3) := by decide +kernel
theorem dX12_spreadOf_9 : decode cX12_spreadOf 9 = .ok (.if_icmp .ge 70, 3) := by decide +kernel
theorem dX12_spreadOf_12 : decode cX12_spreadOf 12 = .ok (.aload_n 0, 1) := by decide +kernel
theorem dX12_spreadOf_13 : decode cX12_spreadOf 13 = .ok (.aload_n 0, 1) := by decide +kernel
theorem dX12_spreadOf_14 : decode cX12_spreadOf 14 = .ok (.getfield 32, 3) := by decide +kernel
theorem dX12_spreadOf_17 : decode cX12_spreadOf 17 = .ok (.iload_n 3, 1) := by decide +kernel
theorem dX12_spreadOf_18 : decode cX12_spreadOf 18 = .ok (.iaload, 1) := by decide +kernel
theorem dX12_spreadOf_19 : decode cX12_spreadOf 19 = .ok (.invokevirtual 178, 3) := by decide +kernel
theorem dX12_spreadOf_22 : decode cX12_spreadOf 22 = .ok (.iconst 0, 1) := by decide +kernel
theorem dX12_spreadOf_23 : decode cX12_spreadOf 23 = .ok (.istore 4, 2) := by decide +kernel
theorem dX12_spreadOf_25 : decode cX12_spreadOf 25 = .ok (.iload 4, 2) := by decide +kernel
theorem dX12_spreadOf_27 : decode cX12_spreadOf 27 = .ok (.aload_n 0, 1) := by decide +kernel
theorem dX12_spreadOf_28 : decode cX12_spreadOf 28 = .ok (.getfield 160, 3) := by decide +kernel
theorem dX12_spreadOf_31 : decode cX12_spreadOf 31 = .ok (.if_icmp .ge 42, 3) := by decide +kernel
theorem dX12_spreadOf_34 : decode cX12_spreadOf 34 = .ok (.iload_n 2, 1) := by decide +kernel
theorem dX12_spreadOf_35 : decode cX12_spreadOf 35 = .ok (.iload_n 3, 1) := by decide +kernel
theorem dX12_spreadOf_36 : decode cX12_spreadOf 36 = .ok (.iload 4, 2) := by decide +kernel
theorem dX12_spreadOf_38 : decode cX12_spreadOf 38 = .ok (.if_icmp .ne 7, 3) := by decide +kernel
theorem dX12_spreadOf_41 : decode cX12_spreadOf 41 = .ok (.iconst 0, 1) := by decide +kernel
theorem dX12_spreadOf_42 : decode cX12_spreadOf 42 = .ok (.goto 23, 3) := by decide +kernel
theorem dX12_spreadOf_45 : decode cX12_spreadOf 45 = .ok (.aload_n 0, 1) := by decide +kernel
theorem dX12_spreadOf_46 : decode cX12_spreadOf 46 = .ok (.iload_n 1, 1) := by decide +kernel
theorem dX12_spreadOf_47 : decode cX12_spreadOf 47 = .ok (.iload_n 3, 1) := by decide +kernel
theorem dX12_spreadOf_48 : decode cX12_spreadOf 48 = .ok (.iload 4, 2) := by decide +kernel
theorem dX12_spreadOf_50 : decode cX12_spreadOf 50 = .ok (.aload_n 0, 1) := by decide +kernel
theorem dX12_spreadOf_51 : decode cX12_spreadOf 51 = .ok (.getfield 26, 3) := by decide +kernel
theorem dX12_spreadOf_54 : decode cX12_spreadOf 54 = .ok (.aload_n 0, 1) := by decide +kernel
theorem dX12_spreadOf_55 : decode cX12_spreadOf 55 = .ok (.getfield 32, 3) := by decide +kernel
theorem dX12_spreadOf_58 : decode cX12_spreadOf 58 = .ok (.iload 4, 2) := by decide +kernel
theorem dX12_spreadOf_60 : decode cX12_spreadOf 60 = .ok (.iaload, 1) := by decide +kernel
theorem dX12_spreadOf_61 : decode cX12_spreadOf 61 = .ok (.baload, 1) := by decide +kernel
theorem dX12_spreadOf_62 : decode cX12_spreadOf 62 = .ok (.invokevirtual 223, 3) := by decide +kernel
theorem dX12_spreadOf_65 : decode cX12_spreadOf 65 = .ok (.iadd, 1) := by decide +kernel
theorem dX12_spreadOf_66 : decode cX12_spreadOf 66 = .ok (.istore_n 2, 1) := by decide +kernel
theorem dX12_spreadOf_67 : decode cX12_spreadOf 67 = .ok (.iinc 4 1, 3) := by decide +kernel
theorem dX12_spreadOf_70 : decode cX12_spreadOf 70 = .ok (.goto (-45), 3) := by decide +kernel
theorem dX12_spreadOf_73 : decode cX12_spreadOf 73 = .ok (.iinc 3 1, 3) := by decide +kernel
theorem dX12_spreadOf_76 : decode cX12_spreadOf 76 = .ok (.goto (-72), 3) := by decide +kernel
theorem dX12_spreadOf_79 : decode cX12_spreadOf 79 = .ok (.iload_n 2, 1) := by decide +kernel
theorem dX12_spreadOf_80 : decode cX12_spreadOf 80 = .ok (.ireturn, 1) := by decide +kernel
theorem dX12_spread_0 : decode cX12_spread 0 = .ok (.aload_n 0, 1) := by decide +kernel
theorem dX12_spread_1 : decode cX12_spread 1 = .ok (.iload_n 1, 1) := by decide +kernel
theorem dX12_spread_2 : decode cX12_spread 2 = .ok (.invokevirtual 218, 3) := by decide +kernel
theorem dX12_spread_5 : decode cX12_spread 5 = .ok (.ifCond .eq 7, 3) := by decide +kernel
theorem dX12_spread_8 : decode cX12_spread 8 = .ok (.iconst (-1), 1) := by decide +kernel
theorem dX12_spread_9 : decode cX12_spread 9 = .ok (.goto 8, 3) := by decide +kernel
theorem dX12_spread_12 : decode cX12_spread 12 = .ok (.aload_n 0, 1) := by decide +kernel
theorem dX12_spread_13 : decode cX12_spread 13 = .ok (.iload_n 1, 1) := by decide +kernel
theorem dX12_spread_14 : decode cX12_spread 14 = .ok (.invokevirtual 277, 3) := by decide +kernel
theorem dX12_spread_17 : decode cX12_spread 17 = .ok (.ireturn, 1) := by decide +kernel
theorem dX12_layGaps_0 : decode cX12_layGaps 0 = .ok (.aload_n 0, 1) := by decide +kernel
theorem dX12_layGaps_1 : decode cX12_layGaps 1 = .ok (.iconst 0, 1) := by decide +kernel
theorem dX12_layGaps_2 : decode cX12_layGaps 2 = .ok (.putfield 280, 3) := by decide +kernel
theorem dX12_layGaps_5 : decode cX12_layGaps 5 = .ok (.iconst 0, 1) := by decide +kernel
theorem dX12_layGaps_6 : decode cX12_layGaps 6 = .ok (.istore_n 1, 1) := by decide +kernel
theorem dX12_layGaps_7 : decode cX12_layGaps 7 = .ok (.iload_n 1, 1) := by decide +kernel
theorem dX12_layGaps_8 : decode cX12_layGaps 8 = .ok (.aload_n 0, 1) := by decide +kernel
theorem dX12_layGaps_9 : decode cX12_layGaps 9 = .ok (.invokevirtual 114, 3) := by decide +kernel
theorem dX12_layGaps_12 : decode cX12_layGaps 12 = .ok (.if_icmp .ge 75, 3) := by decide +kernel
theorem dX12_layGaps_15 : decode cX12_layGaps 15 = .ok (.iload_n 1, 1) := by decide +kernel
theorem dX12_layGaps_16 : decode cX12_layGaps 16 = .ok (.iconst 1, 1) := by decide +kernel
theorem dX12_layGaps_17 : decode cX12_layGaps 17 = .ok (.iadd, 1) := by decide +kernel
theorem dX12_layGaps_18 : decode cX12_layGaps 18 = .ok (.istore_n 2, 1) := by decide +kernel
theorem dX12_layGaps_19 : decode cX12_layGaps 19 = .ok (.iload_n 2, 1) := by decide +kernel
theorem dX12_layGaps_20 : decode cX12_layGaps 20 = .ok (.aload_n 0, 1) := by decide +kernel
theorem dX12_layGaps_21 : decode cX12_layGaps 21 = .ok (.invokevirtual 114, 3) := by decide +kernel
theorem dX12_layGaps_24 : decode cX12_layGaps 24 = .ok (.if_icmp .ge 57, 3) := by decide +kernel
theorem dX12_layGaps_27 : decode cX12_layGaps 27 = .ok (.aload_n 0, 1) := by decide +kernel
theorem dX12_layGaps_28 : decode cX12_layGaps 28 = .ok (.iload_n 1, 1) := by decide +kernel
theorem dX12_layGaps_29 : decode cX12_layGaps 29 = .ok (.iload_n 2, 1) := by decide +kernel
theorem dX12_layGaps_30 : decode cX12_layGaps 30 = .ok (.invokevirtual 185, 3) := by decide +kernel
theorem dX12_layGaps_33 : decode cX12_layGaps 33 = .ok (.ifCond .eq 42, 3) := by decide +kernel
theorem dX12_layGaps_36 : decode cX12_layGaps 36 = .ok (.aload_n 0, 1) := by decide +kernel
theorem dX12_layGaps_37 : decode cX12_layGaps 37 = .ok (.iload_n 1, 1) := by decide +kernel
theorem dX12_layGaps_38 : decode cX12_layGaps 38 = .ok (.iload_n 2, 1) := by decide +kernel
theorem dX12_layGaps_39 : decode cX12_layGaps 39 = .ok (.invokevirtual 169, 3) := by decide +kernel
theorem dX12_layGaps_42 : decode cX12_layGaps 42 = .ok (.ifCond .ne 33, 3) := by decide +kernel
theorem dX12_layGaps_45 : decode cX12_layGaps 45 = .ok (.aload_n 0, 1) := by decide +kernel
theorem dX12_layGaps_46 : decode cX12_layGaps 46 = .ok (.getfield 56, 3) := by decide +kernel
theorem dX12_layGaps_49 : decode cX12_layGaps 49 = .ok (.aload_n 0, 1) := by decide +kernel
theorem dX12_layGaps_50 : decode cX12_layGaps 50 = .ok (.getfield 280, 3) := by decide +kernel
theorem dX12_layGaps_53 : decode cX12_layGaps 53 = .ok (.iload_n 1, 1) := by decide +kernel
theorem dX12_layGaps_54 : decode cX12_layGaps 54 = .ok (.iastore, 1) := by decide +kernel
theorem dX12_layGaps_55 : decode cX12_layGaps 55 = .ok (.aload_n 0, 1) := by decide +kernel
theorem dX12_layGaps_56 : decode cX12_layGaps 56 = .ok (.getfield 59, 3) := by decide +kernel
theorem dX12_layGaps_59 : decode cX12_layGaps 59 = .ok (.aload_n 0, 1) := by decide +kernel
theorem dX12_layGaps_60 : decode cX12_layGaps 60 = .ok (.getfield 280, 3) := by decide +kernel
theorem dX12_layGaps_63 : decode cX12_layGaps 63 = .ok (.iload_n 2, 1) := by decide +kernel
theorem dX12_layGaps_64 : decode cX12_layGaps 64 = .ok (.iastore, 1) := by decide +kernel
theorem dX12_layGaps_65 : decode cX12_layGaps 65 = .ok (.aload_n 0, 1) := by decide +kernel
theorem dX12_layGaps_66 : decode cX12_layGaps 66 = .ok (.dup, 1) := by decide +kernel
theorem dX12_layGaps_67 : decode cX12_layGaps 67 = .ok (.getfield 280, 3) := by decide +kernel
theorem dX12_layGaps_70 : decode cX12_layGaps 70 = .ok (.iconst 1, 1) := by decide +kernel
theorem dX12_layGaps_71 : decode cX12_layGaps 71 = .ok (.iadd, 1) := by decide +kernel
theorem dX12_layGaps_72 : decode cX12_layGaps 72 = .ok (.putfield 280, 3) := by decide +kernel
theorem dX12_layGaps_75 : decode cX12_layGaps 75 = .ok (.iinc 2 1, 3) := by decide +kernel
theorem dX12_layGaps_78 : decode cX12_layGaps 78 = .ok (.goto (-59), 3) := by decide +kernel
theorem dX12_layGaps_81 : decode cX12_layGaps 81 = .ok (.iinc 1 1, 3) := by decide +kernel
theorem dX12_layGaps_84 : decode cX12_layGaps 84 = .ok (.goto (-77), 3) := by decide +kernel
theorem dX12_layGaps_87 : decode cX12_layGaps 87 = .ok (.return_, 1) := by decide +kernel
theorem dX12_hangGap_0 : decode cX12_hangGap 0 = .ok (.aload_n 0, 1) := by decide +kernel
theorem dX12_hangGap_1 : decode cX12_hangGap 1 = .ok (.aload_n 0, 1) := by decide +kernel
theorem dX12_hangGap_2 : decode cX12_hangGap 2 = .ok (.getfield 56, 3) := by decide +kernel
theorem dX12_hangGap_5 : decode cX12_hangGap 5 = .ok (.iload_n 1, 1) := by decide +kernel
theorem dX12_hangGap_6 : decode cX12_hangGap 6 = .ok (.iaload, 1) := by decide +kernel
theorem dX12_hangGap_7 : decode cX12_hangGap 7 = .ok (.aload_n 0, 1) := by decide +kernel
theorem dX12_hangGap_8 : decode cX12_hangGap 8 = .ok (.getfield 59, 3) := by decide +kernel
theorem dX12_hangGap_11 : decode cX12_hangGap 11 = .ok (.iload_n 1, 1) := by decide +kernel
theorem dX12_hangGap_12 : decode cX12_hangGap 12 = .ok (.iaload, 1) := by decide +kernel
theorem dX12_hangGap_13 : decode cX12_hangGap 13 = .ok (.iload_n 2, 1) := by decide +kernel
theorem dX12_hangGap_14 : decode cX12_hangGap 14 = .ok (.invokevirtual 188, 3) := by decide +kernel
theorem dX12_hangGap_17 : decode cX12_hangGap 17 = .ok (.return_, 1) := by decide +kernel
theorem dX12_look_0 : decode cX12_look 0 = .ok (.aload_n 0, 1) := by decide +kernel
theorem dX12_look_1 : decode cX12_look 1 = .ok (.iload_n 2, 1) := by decide +kernel
theorem dX12_look_2 : decode cX12_look 2 = .ok (.iconst 1, 1) := by decide +kernel
theorem dX12_look_3 : decode cX12_look 3 = .ok (.invokevirtual 283, 3) := by decide +kernel
theorem dX12_look_6 : decode cX12_look 6 = .ok (.aload_n 0, 1) := by decide +kernel
theorem dX12_look_7 : decode cX12_look 7 = .ok (.iload_n 3, 1) := by decide +kernel
theorem dX12_look_8 : decode cX12_look 8 = .ok (.iconst 1, 1) := by decide +kernel
theorem dX12_look_9 : decode cX12_look 9 = .ok (.invokevirtual 283, 3) := by decide +kernel
theorem dX12_look_12 : decode cX12_look 12 = .ok (.aload_n 0, 1) := by decide +kernel
theorem dX12_look_13 : decode cX12_look 13 = .ok (.iload 4, 2) := by decide +kernel
theorem dX12_look_15 : decode cX12_look 15 = .ok (.iconst 1, 1) := by decide +kernel
theorem dX12_look_16 : decode cX12_look 16 = .ok (.invokevirtual 283, 3) := by decide +kernel
theorem dX12_look_19 : decode cX12_look 19 = .ok (.aload_n 0, 1) := by decide +kernel
theorem dX12_look_20 : decode cX12_look 20 = .ok (.iload_n 1, 1) := by decide +kernel
theorem dX12_look_21 : decode cX12_look 21 = .ok (.invokevirtual 277, 3) := by decide +kernel
theorem dX12_look_24 : decode cX12_look 24 = .ok (.istore 5, 2) := by decide +kernel
theorem dX12_look_26 : decode cX12_look 26 = .ok (.aload_n 0, 1) := by decide +kernel
theorem dX12_look_27 : decode cX12_look 27 = .ok (.iload_n 2, 1) := by decide +kernel
theorem dX12_look_28 : decode cX12_look 28 = .ok (.iconst 0, 1) := by decide +kernel
theorem dX12_look_29 : decode cX12_look 29 = .ok (.invokevirtual 283, 3) := by decide +kernel
theorem dX12_look_32 : decode cX12_look 32 = .ok (.aload_n 0, 1) := by decide +kernel
theorem dX12_look_33 : decode cX12_look 33 = .ok (.iload_n 3, 1) := by decide +kernel
theorem dX12_look_34 : decode cX12_look 34 = .ok (.iconst 0, 1) := by decide +kernel
theorem dX12_look_35 : decode cX12_look 35 = .ok (.invokevirtual 283, 3) := by decide +kernel
theorem dX12_look_38 : decode cX12_look 38 = .ok (.aload_n 0, 1) := by decide +kernel
theorem dX12_look_39 : decode cX12_look 39 = .ok (.iload 4, 2) := by decide +kernel
theorem dX12_look_41 : decode cX12_look 41 = .ok (.iconst 0, 1) := by decide +kernel
theorem dX12_look_42 : decode cX12_look 42 = .ok (.invokevirtual 283, 3) := by decide +kernel
theorem dX12_look_45 : decode cX12_look 45 = .ok (.aload_n 0, 1) := by decide +kernel
theorem dX12_look_46 : decode cX12_look 46 = .ok (.getfield 287, 3) := by decide +kernel
theorem dX12_look_49 : decode cX12_look 49 = .ok (.ifCond .lt 12, 3) := by decide +kernel
theorem dX12_look_52 : decode cX12_look 52 = .ok (.iload 5, 2) := by decide +kernel
theorem dX12_look_54 : decode cX12_look 54 = .ok (.aload_n 0, 1) := by decide +kernel
theorem dX12_look_55 : decode cX12_look 55 = .ok (.getfield 287, 3) := by decide +kernel
theorem dX12_look_58 : decode cX12_look 58 = .ok (.if_icmp .ge 31, 3) := by decide +kernel
theorem dX12_look_61 : decode cX12_look 61 = .ok (.aload_n 0, 1) := by decide +kernel
theorem dX12_look_62 : decode cX12_look 62 = .ok (.iload 5, 2) := by decide +kernel
theorem dX12_look_64 : decode cX12_look 64 = .ok (.putfield 287, 3) := by decide +kernel
theorem dX12_look_67 : decode cX12_look 67 = .ok (.aload_n 0, 1) := by decide +kernel
theorem dX12_look_68 : decode cX12_look 68 = .ok (.getfield 62, 3) := by decide +kernel
theorem dX12_look_71 : decode cX12_look 71 = .ok (.iconst 0, 1) := by decide +kernel
theorem dX12_look_72 : decode cX12_look 72 = .ok (.iload_n 2, 1) := by decide +kernel
theorem dX12_look_73 : decode cX12_look 73 = .ok (.iastore, 1) := by decide +kernel
theorem dX12_look_74 : decode cX12_look 74 = .ok (.aload_n 0, 1) := by decide +kernel
theorem dX12_look_75 : decode cX12_look 75 = .ok (.getfield 62, 3) := by decide +kernel
theorem dX12_look_78 : decode cX12_look 78 = .ok (.iconst 1, 1) := by decide +kernel
theorem dX12_look_79 : decode cX12_look 79 = .ok (.iload_n 3, 1) := by decide +kernel
theorem dX12_look_80 : decode cX12_look 80 = .ok (.iastore, 1) := by decide +kernel
theorem dX12_look_81 : decode cX12_look 81 = .ok (.aload_n 0, 1) := by decide +kernel
theorem dX12_look_82 : decode cX12_look 82 = .ok (.getfield 62, 3) := by decide +kernel
theorem dX12_look_85 : decode cX12_look 85 = .ok (.iconst 2, 1) := by decide +kernel
theorem dX12_look_86 : decode cX12_look 86 = .ok (.iload 4, 2) := by decide +kernel
theorem dX12_look_88 : decode cX12_look 88 = .ok (.iastore, 1) := by decide +kernel
theorem dX12_look_89 : decode cX12_look 89 = .ok (.return_, 1) := by decide +kernel
theorem dX12_layBlinds_0 : decode cX12_layBlinds 0 = .ok (.aload_n 0, 1) := by decide +kernel
theorem dX12_layBlinds_1 : decode cX12_layBlinds 1 = .ok (.iload_n 2, 1) := by decide +kernel
theorem dX12_layBlinds_2 : decode cX12_layBlinds 2 = .ok (.aload_n 0, 1) := by decide +kernel
theorem dX12_layBlinds_3 : decode cX12_layBlinds 3 = .ok (.getfield 280, 3) := by decide +kernel
theorem dX12_layBlinds_6 : decode cX12_layBlinds 6 = .ok (.if_icmp .ge 7, 3) := by decide +kernel
theorem dX12_layBlinds_9 : decode cX12_layBlinds 9 = .ok (.iload_n 2, 1) := by decide +kernel
theorem dX12_layBlinds_10 : decode cX12_layBlinds 10 = .ok (.goto 7, 3) := by decide +kernel
theorem dX12_layBlinds_13 : decode cX12_layBlinds 13 = .ok (.aload_n 0, 1) := by decide +kernel
theorem dX12_layBlinds_14 : decode cX12_layBlinds 14 = .ok (.getfield 280, 3) := by decide +kernel
theorem dX12_layBlinds_17 : decode cX12_layBlinds 17 = .ok (.putfield 290, 3) := by decide +kernel
theorem dX12_layBlinds_20 : decode cX12_layBlinds 20 = .ok (.aload_n 0, 1) := by decide +kernel
theorem dX12_layBlinds_21 : decode cX12_layBlinds 21 = .ok (.iconst (-1), 1) := by decide +kernel
theorem dX12_layBlinds_22 : decode cX12_layBlinds 22 = .ok (.putfield 287, 3) := by decide +kernel
theorem dX12_layBlinds_25 : decode cX12_layBlinds 25 = .ok (.iconst 0, 1) := by decide +kernel
theorem dX12_layBlinds_26 : decode cX12_layBlinds 26 = .ok (.istore_n 3, 1) := by decide +kernel
theorem dX12_layBlinds_27 : decode cX12_layBlinds 27 = .ok (.iload_n 3, 1) := by decide +kernel
theorem dX12_layBlinds_28 : decode cX12_layBlinds 28 = .ok (.aload_n 0, 1) := by decide +kernel
theorem dX12_layBlinds_29 : decode cX12_layBlinds 29 = .ok (.getfield 280, 3) := by decide +kernel
theorem dX12_layBlinds_32 : decode cX12_layBlinds 32 = .ok (.if_icmp .ge 122, 3) := by decide +kernel
theorem dX12_layBlinds_35 : decode cX12_layBlinds 35 = .ok (.aload_n 0, 1) := by decide +kernel
theorem dX12_layBlinds_36 : decode cX12_layBlinds 36 = .ok (.getfield 290, 3) := by decide +kernel
theorem dX12_layBlinds_39 : decode cX12_layBlinds 39 = .ok (.iconst 1, 1) := by decide +kernel
theorem dX12_layBlinds_40 : decode cX12_layBlinds 40 = .ok (.if_icmp .le 12, 3) := by decide +kernel
theorem dX12_layBlinds_43 : decode cX12_layBlinds 43 = .ok (.aload_n 0, 1) := by decide +kernel
theorem dX12_layBlinds_44 : decode cX12_layBlinds 44 = .ok (.getfield 280, 3) := by decide +kernel
theorem dX12_layBlinds_47 : decode cX12_layBlinds 47 = .ok (.iconst 1, 1) := by decide +kernel
theorem dX12_layBlinds_48 : decode cX12_layBlinds 48 = .ok (.isub, 1) := by decide +kernel
theorem dX12_layBlinds_49 : decode cX12_layBlinds 49 = .ok (.goto 4, 3) := by decide +kernel
theorem dX12_layBlinds_52 : decode cX12_layBlinds 52 = .ok (.iload_n 3, 1) := by decide +kernel
theorem dX12_layBlinds_53 : decode cX12_layBlinds 53 = .ok (.istore 4, 2) := by decide +kernel
theorem dX12_layBlinds_55 : decode cX12_layBlinds 55 = .ok (.aload_n 0, 1) := by decide +kernel
theorem dX12_layBlinds_56 : decode cX12_layBlinds 56 = .ok (.getfield 290, 3) := by decide +kernel
theorem dX12_layBlinds_59 : decode cX12_layBlinds 59 = .ok (.iconst 1, 1) := by decide +kernel
theorem dX12_layBlinds_60 : decode cX12_layBlinds 60 = .ok (.if_icmp .le 9, 3) := by decide +kernel
theorem dX12_layBlinds_63 : decode cX12_layBlinds 63 = .ok (.iload_n 3, 1) := by decide +kernel
theorem dX12_layBlinds_64 : decode cX12_layBlinds 64 = .ok (.iconst 1, 1) := by decide +kernel
theorem dX12_layBlinds_65 : decode cX12_layBlinds 65 = .ok (.iadd, 1) := by decide +kernel
theorem dX12_layBlinds_66 : decode cX12_layBlinds 66 = .ok (.goto 4, 3) := by decide +kernel
theorem dX12_layBlinds_69 : decode cX12_layBlinds 69 = .ok (.iload_n 3, 1) := by decide +kernel
theorem dX12_layBlinds_70 : decode cX12_layBlinds 70 = .ok (.istore 5, 2) := by decide +kernel
theorem dX12_layBlinds_72 : decode cX12_layBlinds 72 = .ok (.iload 5, 2) := by decide +kernel
theorem dX12_layBlinds_74 : decode cX12_layBlinds 74 = .ok (.iload 4, 2) := by decide +kernel
theorem dX12_layBlinds_76 : decode cX12_layBlinds 76 = .ok (.if_icmp .gt 72, 3) := by decide +kernel
theorem dX12_layBlinds_79 : decode cX12_layBlinds 79 = .ok (.aload_n 0, 1) := by decide +kernel
theorem dX12_layBlinds_80 : decode cX12_layBlinds 80 = .ok (.getfield 290, 3) := by decide +kernel
theorem dX12_layBlinds_83 : decode cX12_layBlinds 83 = .ok (.iconst 2, 1) := by decide +kernel
theorem dX12_layBlinds_84 : decode cX12_layBlinds 84 = .ok (.if_icmp .le 12, 3) := by decide +kernel
theorem dX12_layBlinds_87 : decode cX12_layBlinds 87 = .ok (.aload_n 0, 1) := by decide +kernel
theorem dX12_layBlinds_88 : decode cX12_layBlinds 88 = .ok (.getfield 280, 3) := by decide +kernel
theorem dX12_layBlinds_91 : decode cX12_layBlinds 91 = .ok (.iconst 1, 1) := by decide +kernel
theorem dX12_layBlinds_92 : decode cX12_layBlinds 92 = .ok (.isub, 1) := by decide +kernel
theorem dX12_layBlinds_93 : decode cX12_layBlinds 93 = .ok (.goto 5, 3) := by decide +kernel
theorem dX12_layBlinds_96 : decode cX12_layBlinds 96 = .ok (.iload 5, 2) := by decide +kernel
theorem dX12_layBlinds_98 : decode cX12_layBlinds 98 = .ok (.istore 6, 2) := by decide +kernel
theorem dX12_layBlinds_100 : decode cX12_layBlinds 100 = .ok (.aload_n 0, 1) := by decide +kernel
theorem dX12_layBlinds_101 : decode cX12_layBlinds 101 = .ok (.getfield 290, 3) := by decide +kernel
theorem dX12_layBlinds_104 : decode cX12_layBlinds 104 = .ok (.iconst 2, 1) := by decide +kernel
theorem dX12_layBlinds_105 : decode cX12_layBlinds 105 = .ok (.if_icmp .le 10, 3) := by decide +kernel
theorem dX12_layBlinds_108 : decode cX12_layBlinds 108 = .ok (.iload 5, 2) := by decide +kernel
theorem dX12_layBlinds_110 : decode cX12_layBlinds 110 = .ok (.iconst 1, 1) := by decide +kernel
theorem dX12_layBlinds_111 : decode cX12_layBlinds 111 = .ok (.iadd, 1) := by decide +kernel
theorem dX12_layBlinds_112 : decode cX12_layBlinds 112 = .ok (.goto 5, 3) := by decide +kernel
theorem dX12_layBlinds_115 : decode cX12_layBlinds 115 = .ok (.iload 5, 2) := by decide +kernel
theorem dX12_layBlinds_117 : decode cX12_layBlinds 117 = .ok (.istore 7, 2) := by decide +kernel
theorem dX12_layBlinds_119 : decode cX12_layBlinds 119 = .ok (.iload 7, 2) := by decide +kernel
theorem dX12_layBlinds_121 : decode cX12_layBlinds 121 = .ok (.iload 6, 2) := by decide +kernel
theorem dX12_layBlinds_123 : decode cX12_layBlinds 123 = .ok (.if_icmp .gt 19, 3) := by decide +kernel
theorem dX12_layBlinds_126 : decode cX12_layBlinds 126 = .ok (.aload_n 0, 1) := by decide +kernel
theorem dX12_layBlinds_127 : decode cX12_layBlinds 127 = .ok (.iload_n 1, 1) := by decide +kernel
theorem dX12_layBlinds_128 : decode cX12_layBlinds 128 = .ok (.iload_n 3, 1) := by decide +kernel
theorem dX12_layBlinds_129 : decode cX12_layBlinds 129 = .ok (.iload 5, 2) := by decide +kernel
theorem dX12_layBlinds_131 : decode cX12_layBlinds 131 = .ok (.iload 7, 2) := by decide +kernel
theorem dX12_layBlinds_133 : decode cX12_layBlinds 133 = .ok (.invokevirtual 293, 3) := by decide +kernel
theorem dX12_layBlinds_136 : decode cX12_layBlinds 136 = .ok (.iinc 7 1, 3) := by decide +kernel
theorem dX12_layBlinds_139 : decode cX12_layBlinds 139 = .ok (.goto (-20), 3) := by decide +kernel
theorem dX12_layBlinds_142 : decode cX12_layBlinds 142 = .ok (.iinc 5 1, 3) := by decide +kernel
theorem dX12_layBlinds_145 : decode cX12_layBlinds 145 = .ok (.goto (-73), 3) := by decide +kernel
theorem dX12_layBlinds_148 : decode cX12_layBlinds 148 = .ok (.iinc 3 1, 3) := by decide +kernel
theorem dX12_layBlinds_151 : decode cX12_layBlinds 151 = .ok (.goto (-124), 3) := by decide +kernel
theorem dX12_layBlinds_154 : decode cX12_layBlinds 154 = .ok (.return_, 1) := by decide +kernel
theorem dX12_blinds_0 : decode cX12_blinds 0 = .ok (.aload_n 0, 1) := by decide +kernel
theorem dX12_blinds_1 : decode cX12_blinds 1 = .ok (.iload_n 1, 1) := by decide +kernel
theorem dX12_blinds_2 : decode cX12_blinds 2 = .ok (.invokevirtual 218, 3) := by decide +kernel
theorem dX12_blinds_5 : decode cX12_blinds 5 = .ok (.ifCond .eq 5, 3) := by decide +kernel
theorem dX12_blinds_8 : decode cX12_blinds 8 = .ok (.iconst (-1), 1) := by decide +kernel
theorem dX12_blinds_9 : decode cX12_blinds 9 = .ok (.ireturn, 1) := by decide +kernel
theorem dX12_blinds_10 : decode cX12_blinds 10 = .ok (.iload_n 2, 1) := by decide +kernel
theorem dX12_blinds_11 : decode cX12_blinds 11 = .ok (.i2l, 1) := by decide +kernel
theorem dX12_blinds_12 : decode cX12_blinds 12 = .ok (.lconst 1, 1) := by decide +kernel
theorem dX12_blinds_13 : decode cX12_blinds 13 = .ok (.ldc2_w 297, 3) := by decide +kernel
theorem dX12_blinds_16 : decode cX12_blinds 16 = .ok (.invokestatic 97, 3) := by decide +kernel
theorem dX12_blinds_19 : decode cX12_blinds 19 = .ok (.ifCond .ne 6, 3) := by decide +kernel
theorem dX12_blinds_22 : decode cX12_blinds 22 = .ok (.bipush (-2), 2) := by decide +kernel
theorem dX12_blinds_24 : decode cX12_blinds 24 = .ok (.ireturn, 1) := by decide +kernel
theorem dX12_blinds_25 : decode cX12_blinds 25 = .ok (.iload_n 3, 1) := by decide +kernel
theorem dX12_blinds_26 : decode cX12_blinds 26 = .ok (.i2l, 1) := by decide +kernel
theorem dX12_blinds_27 : decode cX12_blinds 27 = .ok (.ldc2_w 299, 3) := by decide +kernel
theorem dX12_blinds_30 : decode cX12_blinds 30 = .ok (.ldc2_w 95, 3) := by decide +kernel
theorem dX12_blinds_33 : decode cX12_blinds 33 = .ok (.invokestatic 97, 3) := by decide +kernel
theorem dX12_blinds_36 : decode cX12_blinds 36 = .ok (.ifCond .ne 5, 3) := by decide +kernel
theorem dX12_blinds_39 : decode cX12_blinds 39 = .ok (.iconst (-1), 1) := by decide +kernel
theorem dX12_blinds_40 : decode cX12_blinds 40 = .ok (.ireturn, 1) := by decide +kernel
theorem dX12_blinds_41 : decode cX12_blinds 41 = .ok (.aload_n 0, 1) := by decide +kernel
theorem dX12_blinds_42 : decode cX12_blinds 42 = .ok (.invokevirtual 301, 3) := by decide +kernel
theorem dX12_blinds_45 : decode cX12_blinds 45 = .ok (.aload_n 0, 1) := by decide +kernel
theorem dX12_blinds_46 : decode cX12_blinds 46 = .ok (.getfield 280, 3) := by decide +kernel
theorem dX12_blinds_49 : decode cX12_blinds 49 = .ok (.ifCond .ne 6, 3) := by decide +kernel
theorem dX12_blinds_52 : decode cX12_blinds 52 = .ok (.bipush (-3), 2) := by decide +kernel
theorem dX12_blinds_54 : decode cX12_blinds 54 = .ok (.ireturn, 1) := by decide +kernel
theorem dX12_blinds_55 : decode cX12_blinds 55 = .ok (.aload_n 0, 1) := by decide +kernel
theorem dX12_blinds_56 : decode cX12_blinds 56 = .ok (.iload_n 1, 1) := by decide +kernel
theorem dX12_blinds_57 : decode cX12_blinds 57 = .ok (.iload_n 2, 1) := by decide +kernel
theorem dX12_blinds_58 : decode cX12_blinds 58 = .ok (.invokevirtual 304, 3) := by decide +kernel
theorem dX12_blinds_61 : decode cX12_blinds 61 = .ok (.iload_n 3, 1) := by decide +kernel
theorem dX12_blinds_62 : decode cX12_blinds 62 = .ok (.ifCond .ge 8, 3) := by decide +kernel
theorem dX12_blinds_65 : decode cX12_blinds 65 = .ok (.aload_n 0, 1) := by decide +kernel
theorem dX12_blinds_66 : decode cX12_blinds 66 = .ok (.getfield 287, 3) := by decide +kernel
theorem dX12_blinds_69 : decode cX12_blinds 69 = .ok (.ireturn, 1) := by decide +kernel
theorem dX12_blinds_70 : decode cX12_blinds 70 = .ok (.iload_n 3, 1) := by decide +kernel
theorem dX12_blinds_71 : decode cX12_blinds 71 = .ok (.aload_n 0, 1) := by decide +kernel
theorem dX12_blinds_72 : decode cX12_blinds 72 = .ok (.getfield 290, 3) := by decide +kernel
theorem dX12_blinds_75 : decode cX12_blinds 75 = .ok (.if_icmp .ge 32, 3) := by decide +kernel
theorem dX12_blinds_78 : decode cX12_blinds 78 = .ok (.bipush 100, 2) := by decide +kernel
theorem dX12_blinds_80 : decode cX12_blinds 80 = .ok (.aload_n 0, 1) := by decide +kernel
theorem dX12_blinds_81 : decode cX12_blinds 81 = .ok (.getfield 56, 3) := by decide +kernel
theorem dX12_blinds_84 : decode cX12_blinds 84 = .ok (.aload_n 0, 1) := by decide +kernel
theorem dX12_blinds_85 : decode cX12_blinds 85 = .ok (.getfield 62, 3) := by decide +kernel
theorem dX12_blinds_88 : decode cX12_blinds 88 = .ok (.iload_n 3, 1) := by decide +kernel
theorem dX12_blinds_89 : decode cX12_blinds 89 = .ok (.iaload, 1) := by decide +kernel
theorem dX12_blinds_90 : decode cX12_blinds 90 = .ok (.iaload, 1) := by decide +kernel
theorem dX12_blinds_91 : decode cX12_blinds 91 = .ok (.imul, 1) := by decide +kernel
theorem dX12_blinds_92 : decode cX12_blinds 92 = .ok (.aload_n 0, 1) := by decide +kernel
theorem dX12_blinds_93 : decode cX12_blinds 93 = .ok (.getfield 59, 3) := by decide +kernel
theorem dX12_blinds_96 : decode cX12_blinds 96 = .ok (.aload_n 0, 1) := by decide +kernel
theorem dX12_blinds_97 : decode cX12_blinds 97 = .ok (.getfield 62, 3) := by decide +kernel
theorem dX12_blinds_100 : decode cX12_blinds 100 = .ok (.iload_n 3, 1) := by decide +kernel
theorem dX12_blinds_101 : decode cX12_blinds 101 = .ok (.iaload, 1) := by decide +kernel
theorem dX12_blinds_102 : decode cX12_blinds 102 = .ok (.iaload, 1) := by decide +kernel
theorem dX12_blinds_103 : decode cX12_blinds 103 = .ok (.iadd, 1) := by decide +kernel
theorem dX12_blinds_104 : decode cX12_blinds 104 = .ok (.goto 5, 3) := by decide +kernel
theorem dX12_blinds_107 : decode cX12_blinds 107 = .ok (.bipush (-9), 2) := by decide +kernel
theorem dX12_blinds_109 : decode cX12_blinds 109 = .ok (.ireturn, 1) := by decide +kernel
theorem dX12_layFilm_0 : decode cX12_layFilm 0 = .ok (.aload_n 0, 1) := by decide +kernel
theorem dX12_layFilm_1 : decode cX12_layFilm 1 = .ok (.iload_n 1, 1) := by decide +kernel
theorem dX12_layFilm_2 : decode cX12_layFilm 2 = .ok (.iload 4, 2) := by decide +kernel
theorem dX12_layFilm_4 : decode cX12_layFilm 4 = .ok (.iload_n 3, 1) := by decide +kernel
theorem dX12_layFilm_5 : decode cX12_layFilm 5 = .ok (.iconst 1, 1) := by decide +kernel
theorem dX12_layFilm_6 : decode cX12_layFilm 6 = .ok (.invokevirtual 231, 3) := by decide +kernel
theorem dX12_layFilm_9 : decode cX12_layFilm 9 = .ok (.i2l, 1) := by decide +kernel
theorem dX12_layFilm_10 : decode cX12_layFilm 10 = .ok (.lstore 5, 2) := by decide +kernel
theorem dX12_layFilm_12 : decode cX12_layFilm 12 = .ok (.aload_n 0, 1) := by decide +kernel
theorem dX12_layFilm_13 : decode cX12_layFilm 13 = .ok (.iload_n 2, 1) := by decide +kernel
theorem dX12_layFilm_14 : decode cX12_layFilm 14 = .ok (.iload 4, 2) := by decide +kernel
theorem dX12_layFilm_16 : decode cX12_layFilm 16 = .ok (.iload_n 3, 1) := by decide +kernel
theorem dX12_layFilm_17 : decode cX12_layFilm 17 = .ok (.iconst 1, 1) := by decide +kernel
theorem dX12_layFilm_18 : decode cX12_layFilm 18 = .ok (.invokevirtual 231, 3) := by decide +kernel
theorem dX12_layFilm_21 : decode cX12_layFilm 21 = .ok (.i2l, 1) := by decide +kernel
theorem dX12_layFilm_22 : decode cX12_layFilm 22 = .ok (.lstore 7, 2) := by decide +kernel
theorem dX12_layFilm_24 : decode cX12_layFilm 24 = .ok (.aload_n 0, 1) := by decide +kernel
theorem dX12_layFilm_25 : decode cX12_layFilm 25 = .ok (.ldc2_w 308, 3) := by decide +kernel
theorem dX12_layFilm_28 : decode cX12_layFilm 28 = .ok (.lload 5, 2) := by decide +kernel
theorem dX12_layFilm_30 : decode cX12_layFilm 30 = .ok (.lload 7, 2) := by decide +kernel
theorem dX12_layFilm_32 : decode cX12_layFilm 32 = .ok (.lcmp, 1) := by decide +kernel
theorem dX12_layFilm_33 : decode cX12_layFilm 33 = .ok (.ifCond .ge 11, 3) := by decide +kernel
theorem dX12_layFilm_36 : decode cX12_layFilm 36 = .ok (.lload 7, 2) := by decide +kernel
theorem dX12_layFilm_38 : decode cX12_layFilm 38 = .ok (.lload 5, 2) := by decide +kernel
theorem dX12_layFilm_40 : decode cX12_layFilm 40 = .ok (.lsub, 1) := by decide +kernel
theorem dX12_layFilm_41 : decode cX12_layFilm 41 = .ok (.goto 8, 3) := by decide +kernel
theorem dX12_layFilm_44 : decode cX12_layFilm 44 = .ok (.lload 5, 2) := by decide +kernel
theorem dX12_layFilm_46 : decode cX12_layFilm 46 = .ok (.lload 7, 2) := by decide +kernel
theorem dX12_layFilm_48 : decode cX12_layFilm 48 = .ok (.lsub, 1) := by decide +kernel
theorem dX12_layFilm_49 : decode cX12_layFilm 49 = .ok (.lmul, 1) := by decide +kernel
theorem dX12_layFilm_50 : decode cX12_layFilm 50 = .ok (.putfield 310, 3) := by decide +kernel
theorem dX12_layFilm_53 : decode cX12_layFilm 53 = .ok (.aload_n 0, 1) := by decide +kernel
theorem dX12_layFilm_54 : decode cX12_layFilm 54 = .ok (.lload 5, 2) := by decide +kernel
theorem dX12_layFilm_56 : decode cX12_layFilm 56 = .ok (.ldc2_w 308, 3) := by decide +kernel
theorem dX12_layFilm_59 : decode cX12_layFilm 59 = .ok (.ladd, 1) := by decide +kernel
theorem dX12_layFilm_60 : decode cX12_layFilm 60 = .ok (.lload 7, 2) := by decide +kernel
theorem dX12_layFilm_62 : decode cX12_layFilm 62 = .ok (.ldc2_w 308, 3) := by decide +kernel
theorem dX12_layFilm_65 : decode cX12_layFilm 65 = .ok (.ladd, 1) := by decide +kernel
theorem dX12_layFilm_66 : decode cX12_layFilm 66 = .ok (.lmul, 1) := by decide +kernel
theorem dX12_layFilm_67 : decode cX12_layFilm 67 = .ok (.putfield 314, 3) := by decide +kernel
theorem dX12_layFilm_70 : decode cX12_layFilm 70 = .ok (.return_, 1) := by decide +kernel
theorem dX12_parts_0 : decode cX12_parts 0 = .ok (.aload_n 0, 1) := by decide +kernel
theorem dX12_parts_1 : decode cX12_parts 1 = .ok (.iload_n 1, 1) := by decide +kernel
theorem dX12_parts_2 : decode cX12_parts 2 = .ok (.invokevirtual 218, 3) := by decide +kernel
theorem dX12_parts_5 : decode cX12_parts 5 = .ok (.ifCond .ne 11, 3) := by decide +kernel
theorem dX12_parts_8 : decode cX12_parts 8 = .ok (.aload_n 0, 1) := by decide +kernel
theorem dX12_parts_9 : decode cX12_parts 9 = .ok (.iload_n 2, 1) := by decide +kernel
theorem dX12_parts_10 : decode cX12_parts 10 = .ok (.invokevirtual 218, 3) := by decide +kernel
theorem dX12_parts_13 : decode cX12_parts 13 = .ok (.ifCond .eq 5, 3) := by decide +kernel
theorem dX12_parts_16 : decode cX12_parts 16 = .ok (.iconst (-1), 1) := by decide +kernel
theorem dX12_parts_17 : decode cX12_parts 17 = .ok (.ireturn, 1) := by decide +kernel
theorem dX12_parts_18 : decode cX12_parts 18 = .ok (.iload_n 3, 1) := by decide +kernel
theorem dX12_parts_19 : decode cX12_parts 19 = .ok (.i2l, 1) := by decide +kernel
theorem dX12_parts_20 : decode cX12_parts 20 = .ok (.lconst 0, 1) := by decide +kernel
theorem dX12_parts_21 : decode cX12_parts 21 = .ok (.lconst 1, 1) := by decide +kernel
theorem dX12_parts_22 : decode cX12_parts 22 = .ok (.invokestatic 97, 3) := by decide +kernel
theorem dX12_parts_25 : decode cX12_parts 25 = .ok (.ifCond .ne 6, 3) := by decide +kernel
theorem dX12_parts_28 : decode cX12_parts 28 = .ok (.bipush (-2), 2) := by decide +kernel
theorem dX12_parts_30 : decode cX12_parts 30 = .ok (.ireturn, 1) := by decide +kernel
theorem dX12_parts_31 : decode cX12_parts 31 = .ok (.aload_n 0, 1) := by decide +kernel
theorem dX12_parts_32 : decode cX12_parts 32 = .ok (.getfield 160, 3) := by decide +kernel
theorem dX12_parts_35 : decode cX12_parts 35 = .ok (.iconst 2, 1) := by decide +kernel
theorem dX12_parts_36 : decode cX12_parts 36 = .ok (.if_icmp .ge 6, 3) := by decide +kernel
theorem dX12_parts_39 : decode cX12_parts 39 = .ok (.bipush (-3), 2) := by decide +kernel
theorem dX12_parts_41 : decode cX12_parts 41 = .ok (.ireturn, 1) := by decide +kernel
theorem dX12_parts_42 : decode cX12_parts 42 = .ok (.ldc2_w 299, 3) := by decide +kernel
theorem dX12_parts_45 : decode cX12_parts 45 = .ok (.lstore 4, 2) := by decide +kernel
theorem dX12_parts_47 : decode cX12_parts 47 = .ok (.lconst 1, 1) := by decide +kernel
theorem dX12_parts_48 : decode cX12_parts 48 = .ok (.lstore 6, 2) := by decide +kernel
theorem dX12_parts_50 : decode cX12_parts 50 = .ok (.iconst 0, 1) := by decide +kernel
theorem dX12_parts_51 : decode cX12_parts 51 = .ok (.istore 8, 2) := by decide +kernel
theorem dX12_parts_53 : decode cX12_parts 53 = .ok (.iconst 0, 1) := by decide +kernel
theorem dX12_parts_54 : decode cX12_parts 54 = .ok (.istore 9, 2) := by decide +kernel
theorem dX12_parts_56 : decode cX12_parts 56 = .ok (.iconst 0, 1) := by decide +kernel
theorem dX12_parts_57 : decode cX12_parts 57 = .ok (.istore 10, 2) := by decide +kernel
theorem dX12_parts_59 : decode cX12_parts 59 = .ok (.iload 10, 2) := by decide +kernel
theorem dX12_parts_61 : decode cX12_parts 61 = .ok (.aload_n 0, 1) := by decide +kernel
theorem dX12_parts_62 : decode cX12_parts 62 = .ok (.getfield 160, 3) := by decide +kernel
theorem dX12_parts_65 : decode cX12_parts 65 = .ok (.if_icmp .ge 82, 3) := by decide +kernel
theorem dX12_parts_68 : decode cX12_parts 68 = .ok (.iconst 0, 1) := by decide +kernel
theorem dX12_parts_69 : decode cX12_parts 69 = .ok (.istore 11, 2) := by decide +kernel
theorem dX12_parts_71 : decode cX12_parts 71 = .ok (.iload 11, 2) := by decide +kernel
theorem dX12_parts_73 : decode cX12_parts 73 = .ok (.aload_n 0, 1) := by decide +kernel
theorem dX12_parts_74 : decode cX12_parts 74 = .ok (.getfield 160, 3) := by decide +kernel
theorem dX12_parts_77 : decode cX12_parts 77 = .ok (.if_icmp .ge 64, 3) := by decide +kernel
theorem dX12_parts_80 : decode cX12_parts 80 = .ok (.iload 11, 2) := by decide +kernel
theorem dX12_parts_82 : decode cX12_parts 82 = .ok (.iload 10, 2) := by decide +kernel
theorem dX12_parts_84 : decode cX12_parts 84 = .ok (.if_icmp .eq 51, 3) := by decide +kernel
theorem dX12_parts_87 : decode cX12_parts 87 = .ok (.aload_n 0, 1) := by decide +kernel
theorem dX12_parts_88 : decode cX12_parts 88 = .ok (.iload_n 1, 1) := by decide +kernel
theorem dX12_parts_89 : decode cX12_parts 89 = .ok (.iload_n 2, 1) := by decide +kernel
theorem dX12_parts_90 : decode cX12_parts 90 = .ok (.iload 10, 2) := by decide +kernel
theorem dX12_parts_92 : decode cX12_parts 92 = .ok (.iload 11, 2) := by decide +kernel
theorem dX12_parts_94 : decode cX12_parts 94 = .ok (.invokevirtual 317, 3) := by decide +kernel
theorem dX12_parts_97 : decode cX12_parts 97 = .ok (.aload_n 0, 1) := by decide +kernel
theorem dX12_parts_98 : decode cX12_parts 98 = .ok (.getfield 310, 3) := by decide +kernel
theorem dX12_parts_101 : decode cX12_parts 101 = .ok (.lload 6, 2) := by decide +kernel
theorem dX12_parts_103 : decode cX12_parts 103 = .ok (.lmul, 1) := by decide +kernel
theorem dX12_parts_104 : decode cX12_parts 104 = .ok (.lload 4, 2) := by decide +kernel
theorem dX12_parts_106 : decode cX12_parts 106 = .ok (.aload_n 0, 1) := by decide +kernel
theorem dX12_parts_107 : decode cX12_parts 107 = .ok (.getfield 314, 3) := by decide +kernel
theorem dX12_parts_110 : decode cX12_parts 110 = .ok (.lmul, 1) := by decide +kernel
theorem dX12_parts_111 : decode cX12_parts 111 = .ok (.lcmp, 1) := by decide +kernel
theorem dX12_parts_112 : decode cX12_parts 112 = .ok (.ifCond .le 23, 3) := by decide +kernel
theorem dX12_parts_115 : decode cX12_parts 115 = .ok (.aload_n 0, 1) := by decide +kernel
theorem dX12_parts_116 : decode cX12_parts 116 = .ok (.getfield 310, 3) := by decide +kernel
theorem dX12_parts_119 : decode cX12_parts 119 = .ok (.lstore 4, 2) := by decide +kernel
theorem dX12_parts_121 : decode cX12_parts 121 = .ok (.aload_n 0, 1) := by decide +kernel
theorem dX12_parts_122 : decode cX12_parts 122 = .ok (.getfield 314, 3) := by decide +kernel
theorem dX12_parts_125 : decode cX12_parts 125 = .ok (.lstore 6, 2) := by decide +kernel
theorem dX12_parts_127 : decode cX12_parts 127 = .ok (.iload 10, 2) := by decide +kernel
theorem dX12_parts_129 : decode cX12_parts 129 = .ok (.istore 8, 2) := by decide +kernel
theorem dX12_parts_131 : decode cX12_parts 131 = .ok (.iload 11, 2) := by decide +kernel
theorem dX12_parts_133 : decode cX12_parts 133 = .ok (.istore 9, 2) := by decide +kernel
theorem dX12_parts_135 : decode cX12_parts 135 = .ok (.iinc 11 1, 3) := by decide +kernel
theorem dX12_parts_138 : decode cX12_parts 138 = .ok (.goto (-67), 3) := by decide +kernel
theorem dX12_parts_141 : decode cX12_parts 141 = .ok (.iinc 10 1, 3) := by decide +kernel
theorem dX12_parts_144 : decode cX12_parts 144 = .ok (.goto (-85), 3) := by decide +kernel
theorem dX12_parts_147 : decode cX12_parts 147 = .ok (.iload_n 3, 1) := by decide +kernel
theorem dX12_parts_148 : decode cX12_parts 148 = .ok (.ifCond .ne 8, 3) := by decide +kernel
theorem dX12_parts_151 : decode cX12_parts 151 = .ok (.iload 8, 2) := by decide +kernel
theorem dX12_parts_153 : decode cX12_parts 153 = .ok (.goto 5, 3) := by decide +kernel
theorem dX12_parts_156 : decode cX12_parts 156 = .ok (.iload 9, 2) := by decide +kernel
theorem dX12_parts_158 : decode cX12_parts 158 = .ok (.ireturn, 1) := by decide +kernel
theorem dX12_film_0 : decode cX12_film 0 = .ok (.aload_n 0, 1) := by decide +kernel
theorem dX12_film_1 : decode cX12_film 1 = .ok (.iload_n 1, 1) := by decide +kernel
theorem dX12_film_2 : decode cX12_film 2 = .ok (.invokevirtual 218, 3) := by decide +kernel
theorem dX12_film_5 : decode cX12_film 5 = .ok (.ifCond .ne 45, 3) := by decide +kernel
theorem dX12_film_8 : decode cX12_film 8 = .ok (.aload_n 0, 1) := by decide +kernel
theorem dX12_film_9 : decode cX12_film 9 = .ok (.iload_n 2, 1) := by decide +kernel
theorem dX12_film_10 : decode cX12_film 10 = .ok (.invokevirtual 218, 3) := by decide +kernel
theorem dX12_film_13 : decode cX12_film 13 = .ok (.ifCond .ne 37, 3) := by decide +kernel
theorem dX12_film_16 : decode cX12_film 16 = .ok (.aload_n 0, 1) := by decide +kernel
theorem dX12_film_17 : decode cX12_film 17 = .ok (.iload_n 3, 1) := by decide +kernel
theorem dX12_film_18 : decode cX12_film 18 = .ok (.invokevirtual 194, 3) := by decide +kernel
theorem dX12_film_21 : decode cX12_film 21 = .ok (.ifCond .ne 29, 3) := by decide +kernel
theorem dX12_film_24 : decode cX12_film 24 = .ok (.aload_n 0, 1) := by decide +kernel
theorem dX12_film_25 : decode cX12_film 25 = .ok (.iload 4, 2) := by decide +kernel
theorem dX12_film_27 : decode cX12_film 27 = .ok (.invokevirtual 194, 3) := by decide +kernel
theorem dX12_film_30 : decode cX12_film 30 = .ok (.ifCond .ne 20, 3) := by decide +kernel
theorem dX12_film_33 : decode cX12_film 33 = .ok (.iload 4, 2) := by decide +kernel
theorem dX12_film_35 : decode cX12_film 35 = .ok (.iload_n 3, 1) := by decide +kernel
theorem dX12_film_36 : decode cX12_film 36 = .ok (.if_icmp .eq 14, 3) := by decide +kernel
theorem dX12_film_39 : decode cX12_film 39 = .ok (.iload 5, 2) := by decide +kernel
theorem dX12_film_41 : decode cX12_film 41 = .ok (.i2l, 1) := by decide +kernel
theorem dX12_film_42 : decode cX12_film 42 = .ok (.lconst 0, 1) := by decide +kernel
theorem dX12_film_43 : decode cX12_film 43 = .ok (.lconst 1, 1) := by decide +kernel
theorem dX12_film_44 : decode cX12_film 44 = .ok (.invokestatic 97, 3) := by decide +kernel
theorem dX12_film_47 : decode cX12_film 47 = .ok (.ifCond .ne 7, 3) := by decide +kernel
theorem dX12_film_50 : decode cX12_film 50 = .ok (.invokestatic 83, 3) := by decide +kernel
theorem dX12_film_53 : decode cX12_film 53 = .ok (.lreturn, 1) := by decide +kernel
theorem dX12_film_54 : decode cX12_film 54 = .ok (.aload_n 0, 1) := by decide +kernel
theorem dX12_film_55 : decode cX12_film 55 = .ok (.iload_n 1, 1) := by decide +kernel
theorem dX12_film_56 : decode cX12_film 56 = .ok (.iload_n 2, 1) := by decide +kernel
theorem dX12_film_57 : decode cX12_film 57 = .ok (.iload_n 3, 1) := by decide +kernel
theorem dX12_film_58 : decode cX12_film 58 = .ok (.iload 4, 2) := by decide +kernel
theorem dX12_film_60 : decode cX12_film 60 = .ok (.invokevirtual 317, 3) := by decide +kernel
theorem dX12_film_63 : decode cX12_film 63 = .ok (.aload_n 0, 1) := by decide +kernel
theorem dX12_film_64 : decode cX12_film 64 = .ok (.getfield 310, 3) := by decide +kernel
theorem dX12_film_67 : decode cX12_film 67 = .ok (.aload_n 0, 1) := by decide +kernel
theorem dX12_film_68 : decode cX12_film 68 = .ok (.getfield 314, 3) := by decide +kernel
theorem dX12_film_71 : decode cX12_film 71 = .ok (.iload 5, 2) := by decide +kernel
theorem dX12_film_73 : decode cX12_film 73 = .ok (.invokestatic 256, 3) := by decide +kernel
theorem dX12_film_76 : decode cX12_film 76 = .ok (.lreturn, 1) := by decide +kernel
theorem dX12_noSheet_0 : decode cX12_noSheet 0 = .ok (.iload_n 0, 1) := by decide +kernel
theorem dX12_noSheet_1 : decode cX12_noSheet 1 = .ok (.i2l, 1) := by decide +kernel
theorem dX12_noSheet_2 : decode cX12_noSheet 2 = .ok (.lconst 0, 1) := by decide +kernel
theorem dX12_noSheet_3 : decode cX12_noSheet 3 = .ok (.ldc2_w 297, 3) := by decide +kernel
theorem dX12_noSheet_6 : decode cX12_noSheet 6 = .ok (.invokestatic 97, 3) := by decide +kernel
theorem dX12_noSheet_9 : decode cX12_noSheet 9 = .ok (.ifCond .ne 7, 3) := by decide +kernel
theorem dX12_noSheet_12 : decode cX12_noSheet 12 = .ok (.iconst 1, 1) := by decide +kernel
theorem dX12_noSheet_13 : decode cX12_noSheet 13 = .ok (.goto 4, 3) := by decide +kernel
theorem dX12_noSheet_16 : decode cX12_noSheet 16 = .ok (.iconst 0, 1) := by decide +kernel
theorem dX12_noSheet_17 : decode cX12_noSheet 17 = .ok (.ireturn, 1) := by decide +kernel
theorem dX12_sheet_0 : decode cX12_sheet 0 = .ok (.iload_n 1, 1) := by decide +kernel
theorem dX12_sheet_1 : decode cX12_sheet 1 = .ok (.invokestatic 87, 3) := by decide +kernel
theorem dX12_sheet_4 : decode cX12_sheet 4 = .ok (.ifCond .eq 9, 3) := by decide +kernel
theorem dX12_sheet_7 : decode cX12_sheet 7 = .ok (.aload_n 0, 1) := by decide +kernel
theorem dX12_sheet_8 : decode cX12_sheet 8 = .ok (.iconst (-1), 1) := by decide +kernel
theorem dX12_sheet_9 : decode cX12_sheet 9 = .ok (.invokevirtual 91, 3) := by decide +kernel
theorem dX12_sheet_12 : decode cX12_sheet 12 = .ok (.ireturn, 1) := by decide +kernel
theorem dX12_sheet_13 : decode cX12_sheet 13 = .ok (.iload_n 2, 1) := by decide +kernel
theorem dX12_sheet_14 : decode cX12_sheet 14 = .ok (.i2l, 1) := by decide +kernel
theorem dX12_sheet_15 : decode cX12_sheet 15 = .ok (.lconst 0, 1) := by decide +kernel
theorem dX12_sheet_16 : decode cX12_sheet 16 = .ok (.ldc2_w 95, 3) := by decide +kernel
theorem dX12_sheet_19 : decode cX12_sheet 19 = .ok (.invokestatic 97, 3) := by decide +kernel
theorem dX12_sheet_22 : decode cX12_sheet 22 = .ok (.ifCond .eq 9, 3) := by decide +kernel
theorem dX12_sheet_25 : decode cX12_sheet 25 = .ok (.iload_n 3, 1) := by decide +kernel
theorem dX12_sheet_26 : decode cX12_sheet 26 = .ok (.bipush 60, 2) := by decide +kernel
theorem dX12_sheet_28 : decode cX12_sheet 28 = .ok (.if_icmp .le 10, 3) := by decide +kernel
theorem dX12_sheet_31 : decode cX12_sheet 31 = .ok (.aload_n 0, 1) := by decide +kernel
theorem dX12_sheet_32 : decode cX12_sheet 32 = .ok (.bipush (-2), 2) := by decide +kernel
theorem dX12_sheet_34 : decode cX12_sheet 34 = .ok (.invokevirtual 91, 3) := by decide +kernel
theorem dX12_sheet_37 : decode cX12_sheet 37 = .ok (.ireturn, 1) := by decide +kernel
theorem dX12_sheet_38 : decode cX12_sheet 38 = .ok (.iload_n 3, 1) := by decide +kernel
theorem dX12_sheet_39 : decode cX12_sheet 39 = .ok (.ifCond .ge 9, 3) := by decide +kernel
theorem dX12_sheet_42 : decode cX12_sheet 42 = .ok (.aload_n 0, 1) := by decide +kernel
theorem dX12_sheet_43 : decode cX12_sheet 43 = .ok (.iconst 4, 1) := by decide +kernel
theorem dX12_sheet_44 : decode cX12_sheet 44 = .ok (.invokevirtual 101, 3) := by decide +kernel
theorem dX12_sheet_47 : decode cX12_sheet 47 = .ok (.ireturn, 1) := by decide +kernel
theorem dX12_sheet_48 : decode cX12_sheet 48 = .ok (.aload_n 0, 1) := by decide +kernel
theorem dX12_sheet_49 : decode cX12_sheet 49 = .ok (.getfield 65, 3) := by decide +kernel
theorem dX12_sheet_52 : decode cX12_sheet 52 = .ok (.iload_n 1, 1) := by decide +kernel
theorem dX12_sheet_53 : decode cX12_sheet 53 = .ok (.iload_n 3, 1) := by decide +kernel
theorem dX12_sheet_54 : decode cX12_sheet 54 = .ok (.iastore, 1) := by decide +kernel
theorem dX12_sheet_55 : decode cX12_sheet 55 = .ok (.aload_n 0, 1) := by decide +kernel
theorem dX12_sheet_56 : decode cX12_sheet 56 = .ok (.getfield 68, 3) := by decide +kernel
theorem dX12_sheet_59 : decode cX12_sheet 59 = .ok (.iload_n 1, 1) := by decide +kernel
theorem dX12_sheet_60 : decode cX12_sheet 60 = .ok (.iload_n 2, 1) := by decide +kernel
theorem dX12_sheet_61 : decode cX12_sheet 61 = .ok (.iastore, 1) := by decide +kernel
theorem dX12_sheet_62 : decode cX12_sheet 62 = .ok (.iconst 0, 1) := by decide +kernel
theorem dX12_sheet_63 : decode cX12_sheet 63 = .ok (.istore 4, 2) := by decide +kernel
theorem dX12_sheet_65 : decode cX12_sheet 65 = .ok (.iload 4, 2) := by decide +kernel
theorem dX12_sheet_67 : decode cX12_sheet 67 = .ok (.iload_n 3, 1) := by decide +kernel
theorem dX12_sheet_68 : decode cX12_sheet 68 = .ok (.if_icmp .ge 22, 3) := by decide +kernel
theorem dX12_sheet_71 : decode cX12_sheet 71 = .ok (.aload_n 0, 1) := by decide +kernel
theorem dX12_sheet_72 : decode cX12_sheet 72 = .ok (.getfield 71, 3) := by decide +kernel
theorem dX12_sheet_75 : decode cX12_sheet 75 = .ok (.bipush 60, 2) := by decide +kernel
theorem dX12_sheet_77 : decode cX12_sheet 77 = .ok (.iload_n 1, 1) := by decide +kernel
theorem dX12_sheet_78 : decode cX12_sheet 78 = .ok (.imul, 1) := by decide +kernel
theorem dX12_sheet_79 : decode cX12_sheet 79 = .ok (.iload 4, 2) := by decide +kernel
theorem dX12_sheet_81 : decode cX12_sheet 81 = .ok (.iadd, 1) := by decide +kernel
theorem dX12_sheet_82 : decode cX12_sheet 82 = .ok (.iconst 0, 1) := by decide +kernel
theorem dX12_sheet_83 : decode cX12_sheet 83 = .ok (.iastore, 1) := by decide +kernel
theorem dX12_sheet_84 : decode cX12_sheet 84 = .ok (.iinc 4 1, 3) := by decide +kernel
theorem dX12_sheet_87 : decode cX12_sheet 87 = .ok (.goto (-22), 3) := by decide +kernel
theorem dX12_sheet_90 : decode cX12_sheet 90 = .ok (.aload_n 0, 1) := by decide +kernel
theorem dX12_sheet_91 : decode cX12_sheet 91 = .ok (.iconst 1, 1) := by decide +kernel
theorem dX12_sheet_92 : decode cX12_sheet 92 = .ok (.invokevirtual 91, 3) := by decide +kernel
theorem dX12_sheet_95 : decode cX12_sheet 95 = .ok (.ireturn, 1) := by decide +kernel
theorem dX12_lose_0 : decode cX12_lose 0 = .ok (.iload_n 1, 1) := by decide +kernel
theorem dX12_lose_1 : decode cX12_lose 1 = .ok (.invokestatic 87, 3) := by decide +kernel
theorem dX12_lose_4 : decode cX12_lose 4 = .ok (.ifCond .eq 5, 3) := by decide +kernel
theorem dX12_lose_7 : decode cX12_lose 7 = .ok (.iconst (-1), 1) := by decide +kernel
theorem dX12_lose_8 : decode cX12_lose 8 = .ok (.ireturn, 1) := by decide +kernel
theorem dX12_lose_9 : decode cX12_lose 9 = .ok (.aload_n 0, 1) := by decide +kernel
theorem dX12_lose_10 : decode cX12_lose 10 = .ok (.getfield 65, 3) := by decide +kernel
theorem dX12_lose_13 : decode cX12_lose 13 = .ok (.iload_n 1, 1) := by decide +kernel
theorem dX12_lose_14 : decode cX12_lose 14 = .ok (.iaload, 1) := by decide +kernel
theorem dX12_lose_15 : decode cX12_lose 15 = .ok (.ifCond .ge 7, 3) := by decide +kernel
theorem dX12_lose_18 : decode cX12_lose 18 = .ok (.iconst 0, 1) := by decide +kernel
theorem dX12_lose_19 : decode cX12_lose 19 = .ok (.goto 4, 3) := by decide +kernel
theorem dX12_lose_22 : decode cX12_lose 22 = .ok (.iconst 1, 1) := by decide +kernel
theorem dX12_lose_23 : decode cX12_lose 23 = .ok (.istore_n 2, 1) := by decide +kernel
theorem dX12_lose_24 : decode cX12_lose 24 = .ok (.aload_n 0, 1) := by decide +kernel
theorem dX12_lose_25 : decode cX12_lose 25 = .ok (.getfield 65, 3) := by decide +kernel
theorem dX12_lose_28 : decode cX12_lose 28 = .ok (.iload_n 1, 1) := by decide +kernel
theorem dX12_lose_29 : decode cX12_lose 29 = .ok (.iconst (-1), 1) := by decide +kernel
theorem dX12_lose_30 : decode cX12_lose 30 = .ok (.iastore, 1) := by decide +kernel
theorem dX12_lose_31 : decode cX12_lose 31 = .ok (.iload_n 2, 1) := by decide +kernel
theorem dX12_lose_32 : decode cX12_lose 32 = .ok (.ireturn, 1) := by decide +kernel
theorem dX12_noCell_0 : decode cX12_noCell 0 = .ok (.aload_n 0, 1) := by decide +kernel
theorem dX12_noCell_1 : decode cX12_noCell 1 = .ok (.getfield 65, 3) := by decide +kernel
theorem dX12_noCell_4 : decode cX12_noCell 4 = .ok (.iload_n 1, 1) := by decide +kernel
theorem dX12_noCell_5 : decode cX12_noCell 5 = .ok (.iaload, 1) := by decide +kernel
theorem dX12_noCell_6 : decode cX12_noCell 6 = .ok (.ifCond .ge 7, 3) := by decide +kernel
theorem dX12_noCell_9 : decode cX12_noCell 9 = .ok (.iconst 1, 1) := by decide +kernel
theorem dX12_noCell_10 : decode cX12_noCell 10 = .ok (.goto 26, 3) := by decide +kernel
theorem dX12_noCell_13 : decode cX12_noCell 13 = .ok (.iload_n 2, 1) := by decide +kernel
theorem dX12_noCell_14 : decode cX12_noCell 14 = .ok (.i2l, 1) := by decide +kernel
theorem dX12_noCell_15 : decode cX12_noCell 15 = .ok (.lconst 0, 1) := by decide +kernel
theorem dX12_noCell_16 : decode cX12_noCell 16 = .ok (.aload_n 0, 1) := by decide +kernel
theorem dX12_noCell_17 : decode cX12_noCell 17 = .ok (.getfield 65, 3) := by decide +kernel
theorem dX12_noCell_20 : decode cX12_noCell 20 = .ok (.iload_n 1, 1) := by decide +kernel
theorem dX12_noCell_21 : decode cX12_noCell 21 = .ok (.iaload, 1) := by decide +kernel
theorem dX12_noCell_22 : decode cX12_noCell 22 = .ok (.i2l, 1) := by decide +kernel
theorem dX12_noCell_23 : decode cX12_noCell 23 = .ok (.lconst 1, 1) := by decide +kernel
theorem dX12_noCell_24 : decode cX12_noCell 24 = .ok (.lsub, 1) := by decide +kernel
theorem dX12_noCell_25 : decode cX12_noCell 25 = .ok (.invokestatic 97, 3) := by decide +kernel
theorem dX12_noCell_28 : decode cX12_noCell 28 = .ok (.ifCond .eq 7, 3) := by decide +kernel
theorem dX12_noCell_31 : decode cX12_noCell 31 = .ok (.iconst 0, 1) := by decide +kernel
theorem dX12_noCell_32 : decode cX12_noCell 32 = .ok (.goto 4, 3) := by decide +kernel
theorem dX12_noCell_35 : decode cX12_noCell 35 = .ok (.iconst 3, 1) := by decide +kernel
theorem dX12_noCell_36 : decode cX12_noCell 36 = .ok (.ireturn, 1) := by decide +kernel
theorem dX12_put_0 : decode cX12_put 0 = .ok (.iload_n 1, 1) := by decide +kernel
theorem dX12_put_1 : decode cX12_put 1 = .ok (.invokestatic 87, 3) := by decide +kernel
theorem dX12_put_4 : decode cX12_put 4 = .ok (.ifCond .eq 9, 3) := by decide +kernel
theorem dX12_put_7 : decode cX12_put 7 = .ok (.aload_n 0, 1) := by decide +kernel
theorem dX12_put_8 : decode cX12_put 8 = .ok (.iconst (-1), 1) := by decide +kernel
theorem dX12_put_9 : decode cX12_put 9 = .ok (.invokevirtual 91, 3) := by decide +kernel
theorem dX12_put_12 : decode cX12_put 12 = .ok (.ireturn, 1) := by decide +kernel
theorem dX12_put_13 : decode cX12_put 13 = .ok (.aload_n 0, 1) := by decide +kernel
theorem dX12_put_14 : decode cX12_put 14 = .ok (.iload_n 1, 1) := by decide +kernel
theorem dX12_put_15 : decode cX12_put 15 = .ok (.iload_n 2, 1) := by decide +kernel
theorem dX12_put_16 : decode cX12_put 16 = .ok (.invokevirtual 320, 3) := by decide +kernel
theorem dX12_put_19 : decode cX12_put 19 = .ok (.ifCond .le 14, 3) := by decide +kernel
theorem dX12_put_22 : decode cX12_put 22 = .ok (.aload_n 0, 1) := by decide +kernel
theorem dX12_put_23 : decode cX12_put 23 = .ok (.aload_n 0, 1) := by decide +kernel
theorem dX12_put_24 : decode cX12_put 24 = .ok (.iload_n 1, 1) := by decide +kernel
theorem dX12_put_25 : decode cX12_put 25 = .ok (.iload_n 2, 1) := by decide +kernel
theorem dX12_put_26 : decode cX12_put 26 = .ok (.invokevirtual 320, 3) := by decide +kernel
theorem dX12_put_29 : decode cX12_put 29 = .ok (.invokevirtual 101, 3) := by decide +kernel
theorem dX12_put_32 : decode cX12_put 32 = .ok (.ireturn, 1) := by decide +kernel
theorem dX12_put_33 : decode cX12_put 33 = .ok (.aload_n 0, 1) := by decide +kernel
theorem dX12_put_34 : decode cX12_put 34 = .ok (.getfield 71, 3) := by decide +kernel
theorem dX12_put_37 : decode cX12_put 37 = .ok (.bipush 60, 2) := by decide +kernel
theorem dX12_put_39 : decode cX12_put 39 = .ok (.iload_n 1, 1) := by decide +kernel
theorem dX12_put_40 : decode cX12_put 40 = .ok (.imul, 1) := by decide +kernel
theorem dX12_put_41 : decode cX12_put 41 = .ok (.iload_n 2, 1) := by decide +kernel
theorem dX12_put_42 : decode cX12_put 42 = .ok (.iadd, 1) := by decide +kernel
theorem dX12_put_43 : decode cX12_put 43 = .ok (.aload_n 0, 1) := by decide +kernel
theorem dX12_put_44 : decode cX12_put 44 = .ok (.getfield 68, 3) := by decide +kernel
theorem dX12_put_47 : decode cX12_put 47 = .ok (.iload_n 1, 1) := by decide +kernel
theorem dX12_put_48 : decode cX12_put 48 = .ok (.iaload, 1) := by decide +kernel
theorem dX12_put_49 : decode cX12_put 49 = .ok (.ifCond .ne 8, 3) := by decide +kernel
theorem dX12_put_52 : decode cX12_put 52 = .ok (.iload_n 3, 1) := by decide +kernel
theorem dX12_put_53 : decode cX12_put 53 = .ok (.i2b, 1) := by decide +kernel
theorem dX12_put_54 : decode cX12_put 54 = .ok (.goto 19, 3) := by decide +kernel
theorem dX12_put_57 : decode cX12_put 57 = .ok (.aload_n 0, 1) := by decide +kernel
theorem dX12_put_58 : decode cX12_put 58 = .ok (.getfield 68, 3) := by decide +kernel
theorem dX12_put_61 : decode cX12_put 61 = .ok (.iload_n 1, 1) := by decide +kernel
theorem dX12_put_62 : decode cX12_put 62 = .ok (.iaload, 1) := by decide +kernel
theorem dX12_put_63 : decode cX12_put 63 = .ok (.iconst 1, 1) := by decide +kernel
theorem dX12_put_64 : decode cX12_put 64 = .ok (.if_icmp .ne 8, 3) := by decide +kernel
theorem dX12_put_67 : decode cX12_put 67 = .ok (.iload_n 3, 1) := by decide +kernel
theorem dX12_put_68 : decode cX12_put 68 = .ok (.i2s, 1) := by decide +kernel
theorem dX12_put_69 : decode cX12_put 69 = .ok (.goto 4, 3) := by decide +kernel
theorem dX12_put_72 : decode cX12_put 72 = .ok (.iload_n 3, 1) := by decide +kernel
theorem dX12_put_73 : decode cX12_put 73 = .ok (.iastore, 1) := by decide +kernel
theorem dX12_put_74 : decode cX12_put 74 = .ok (.aload_n 0, 1) := by decide +kernel
theorem dX12_put_75 : decode cX12_put 75 = .ok (.iconst 1, 1) := by decide +kernel
theorem dX12_put_76 : decode cX12_put 76 = .ok (.invokevirtual 91, 3) := by decide +kernel
theorem dX12_put_79 : decode cX12_put 79 = .ok (.ireturn, 1) := by decide +kernel
theorem dX12_cell_0 : decode cX12_cell 0 = .ok (.aload_n 0, 1) := by decide +kernel
theorem dX12_cell_1 : decode cX12_cell 1 = .ok (.iconst 0, 1) := by decide +kernel
theorem dX12_cell_2 : decode cX12_cell 2 = .ok (.putfield 79, 3) := by decide +kernel
theorem dX12_cell_5 : decode cX12_cell 5 = .ok (.iload_n 1, 1) := by decide +kernel
theorem dX12_cell_6 : decode cX12_cell 6 = .ok (.invokestatic 87, 3) := by decide +kernel
theorem dX12_cell_9 : decode cX12_cell 9 = .ok (.ifCond .ne 15, 3) := by decide +kernel
theorem dX12_cell_12 : decode cX12_cell 12 = .ok (.iload_n 3, 1) := by decide +kernel
theorem dX12_cell_13 : decode cX12_cell 13 = .ok (.i2l, 1) := by decide +kernel
theorem dX12_cell_14 : decode cX12_cell 14 = .ok (.lconst 0, 1) := by decide +kernel
theorem dX12_cell_15 : decode cX12_cell 15 = .ok (.ldc2_w 95, 3) := by decide +kernel
theorem dX12_cell_18 : decode cX12_cell 18 = .ok (.invokestatic 97, 3) := by decide +kernel
theorem dX12_cell_21 : decode cX12_cell 21 = .ok (.ifCond .ne 7, 3) := by decide +kernel
theorem dX12_cell_24 : decode cX12_cell 24 = .ok (.invokestatic 83, 3) := by decide +kernel
theorem dX12_cell_27 : decode cX12_cell 27 = .ok (.lreturn, 1) := by decide +kernel
theorem dX12_cell_28 : decode cX12_cell 28 = .ok (.aload_n 0, 1) := by decide +kernel
theorem dX12_cell_29 : decode cX12_cell 29 = .ok (.getfield 65, 3) := by decide +kernel
theorem dX12_cell_32 : decode cX12_cell 32 = .ok (.iload_n 1, 1) := by decide +kernel
theorem dX12_cell_33 : decode cX12_cell 33 = .ok (.iaload, 1) := by decide +kernel
theorem dX12_cell_34 : decode cX12_cell 34 = .ok (.ifCond .lt 19, 3) := by decide +kernel
theorem dX12_cell_37 : decode cX12_cell 37 = .ok (.aload_n 0, 1) := by decide +kernel
theorem dX12_cell_38 : decode cX12_cell 38 = .ok (.getfield 68, 3) := by decide +kernel
theorem dX12_cell_41 : decode cX12_cell 41 = .ok (.iload_n 1, 1) := by decide +kernel
theorem dX12_cell_42 : decode cX12_cell 42 = .ok (.iaload, 1) := by decide +kernel
theorem dX12_cell_43 : decode cX12_cell 43 = .ok (.iload_n 3, 1) := by decide +kernel
theorem dX12_cell_44 : decode cX12_cell 44 = .ok (.if_icmp .eq 9, 3) := by decide +kernel
theorem dX12_cell_47 : decode cX12_cell 47 = .ok (.aload_n 0, 1) := by decide +kernel
theorem dX12_cell_48 : decode cX12_cell 48 = .ok (.iconst 2, 1) := by decide +kernel
theorem dX12_cell_49 : decode cX12_cell 49 = .ok (.invokevirtual 323, 3) := by decide +kernel
theorem dX12_cell_52 : decode cX12_cell 52 = .ok (.lreturn, 1) := by decide +kernel
theorem dX12_cell_53 : decode cX12_cell 53 = .ok (.aload_n 0, 1) := by decide +kernel
theorem dX12_cell_54 : decode cX12_cell 54 = .ok (.iload_n 1, 1) := by decide +kernel
theorem dX12_cell_55 : decode cX12_cell 55 = .ok (.iload_n 2, 1) := by decide +kernel
theorem dX12_cell_56 : decode cX12_cell 56 = .ok (.invokevirtual 320, 3) := by decide +kernel
theorem dX12_cell_59 : decode cX12_cell 59 = .ok (.ifCond .le 16, 3) := by decide +kernel
theorem dX12_cell_62 : decode cX12_cell 62 = .ok (.aload_n 0, 1) := by decide +kernel
theorem dX12_cell_63 : decode cX12_cell 63 = .ok (.aload_n 0, 1) := by decide +kernel
theorem dX12_cell_64 : decode cX12_cell 64 = .ok (.iload_n 1, 1) := by decide +kernel
theorem dX12_cell_65 : decode cX12_cell 65 = .ok (.iload_n 2, 1) := by decide +kernel
theorem dX12_cell_66 : decode cX12_cell 66 = .ok (.invokevirtual 320, 3) := by decide +kernel
theorem dX12_cell_69 : decode cX12_cell 69 = .ok (.invokevirtual 323, 3) := by decide +kernel
theorem dX12_cell_72 : decode cX12_cell 72 = .ok (.goto 15, 3) := by decide +kernel
theorem dX12_cell_75 : decode cX12_cell 75 = .ok (.aload_n 0, 1) := by decide +kernel
theorem dX12_cell_76 : decode cX12_cell 76 = .ok (.getfield 71, 3) := by decide +kernel
theorem dX12_cell_79 : decode cX12_cell 79 = .ok (.bipush 60, 2) := by decide +kernel
theorem dX12_cell_81 : decode cX12_cell 81 = .ok (.iload_n 1, 1) := by decide +kernel
theorem dX12_cell_82 : decode cX12_cell 82 = .ok (.imul, 1) := by decide +kernel
theorem dX12_cell_83 : decode cX12_cell 83 = .ok (.iload_n 2, 1) := by decide +kernel
theorem dX12_cell_84 : decode cX12_cell 84 = .ok (.iadd, 1) := by decide +kernel
theorem dX12_cell_85 : decode cX12_cell 85 = .ok (.iaload, 1) := by decide +kernel
theorem dX12_cell_86 : decode cX12_cell 86 = .ok (.i2l, 1) := by decide +kernel
theorem dX12_cell_87 : decode cX12_cell 87 = .ok (.lreturn, 1) := by decide +kernel
theorem dX12_isBeyond_0 : decode cX12_isBeyond 0 = .ok (.iload_n 0, 1) := by decide +kernel
theorem dX12_isBeyond_1 : decode cX12_isBeyond 1 = .ok (.ifCond .lt 19, 3) := by decide +kernel
theorem dX12_isBeyond_4 : decode cX12_isBeyond 4 = .ok (.lload_n 1, 1) := by decide +kernel
theorem dX12_isBeyond_5 : decode cX12_isBeyond 5 = .ok (.lconst 0, 1) := by decide +kernel
theorem dX12_isBeyond_6 : decode cX12_isBeyond 6 = .ok (.lcmp, 1) := by decide +kernel
theorem dX12_isBeyond_7 : decode cX12_isBeyond 7 = .ok (.ifCond .lt 13, 3) := by decide +kernel
theorem dX12_isBeyond_10 : decode cX12_isBeyond 10 = .ok (.iload_n 0, 1) := by decide +kernel
theorem dX12_isBeyond_11 : decode cX12_isBeyond 11 = .ok (.i2l, 1) := by decide +kernel
theorem dX12_isBeyond_12 : decode cX12_isBeyond 12 = .ok (.lload_n 1, 1) := by decide +kernel
theorem dX12_isBeyond_13 : decode cX12_isBeyond 13 = .ok (.ladd, 1) := by decide +kernel
theorem dX12_isBeyond_14 : decode cX12_isBeyond 14 = .ok (.iload_n 3, 1) := by decide +kernel
theorem dX12_isBeyond_15 : decode cX12_isBeyond 15 = .ok (.i2l, 1) := by decide +kernel
theorem dX12_isBeyond_16 : decode cX12_isBeyond 16 = .ok (.lcmp, 1) := by decide +kernel
theorem dX12_isBeyond_17 : decode cX12_isBeyond 17 = .ok (.ifCond .le 7, 3) := by decide +kernel
theorem dX12_isBeyond_20 : decode cX12_isBeyond 20 = .ok (.iconst 1, 1) := by decide +kernel
theorem dX12_isBeyond_21 : decode cX12_isBeyond 21 = .ok (.goto 4, 3) := by decide +kernel
theorem dX12_isBeyond_24 : decode cX12_isBeyond 24 = .ok (.iconst 0, 1) := by decide +kernel
theorem dX12_isBeyond_25 : decode cX12_isBeyond 25 = .ok (.ireturn, 1) := by decide +kernel
theorem dX12_copy_0 : decode cX12_copy 0 = .ok (.iload_n 1, 1) := by decide +kernel
theorem dX12_copy_1 : decode cX12_copy 1 = .ok (.invokestatic 87, 3) := by decide +kernel
theorem dX12_copy_4 : decode cX12_copy 4 = .ok (.ifCond .ne 10, 3) := by decide +kernel
theorem dX12_copy_7 : decode cX12_copy 7 = .ok (.iload_n 3, 1) := by decide +kernel
theorem dX12_copy_8 : decode cX12_copy 8 = .ok (.invokestatic 87, 3) := by decide +kernel
theorem dX12_copy_11 : decode cX12_copy 11 = .ok (.ifCond .eq 9, 3) := by decide +kernel
theorem dX12_copy_14 : decode cX12_copy 14 = .ok (.aload_n 0, 1) := by decide +kernel
theorem dX12_copy_15 : decode cX12_copy 15 = .ok (.iconst (-1), 1) := by decide +kernel
theorem dX12_copy_16 : decode cX12_copy 16 = .ok (.invokevirtual 91, 3) := by decide +kernel
theorem dX12_copy_19 : decode cX12_copy 19 = .ok (.ireturn, 1) := by decide +kernel
theorem dX12_copy_20 : decode cX12_copy 20 = .ok (.aload_n 0, 1) := by decide +kernel
theorem dX12_copy_21 : decode cX12_copy 21 = .ok (.getfield 65, 3) := by decide +kernel
theorem dX12_copy_24 : decode cX12_copy 24 = .ok (.iload_n 1, 1) := by decide +kernel
theorem dX12_copy_25 : decode cX12_copy 25 = .ok (.iaload, 1) := by decide +kernel
theorem dX12_copy_26 : decode cX12_copy 26 = .ok (.ifCond .lt 12, 3) := by decide +kernel
theorem dX12_copy_29 : decode cX12_copy 29 = .ok (.aload_n 0, 1) := by decide +kernel
theorem dX12_copy_30 : decode cX12_copy 30 = .ok (.getfield 65, 3) := by decide +kernel
theorem dX12_copy_33 : decode cX12_copy 33 = .ok (.iload_n 3, 1) := by decide +kernel
theorem dX12_copy_34 : decode cX12_copy 34 = .ok (.iaload, 1) := by decide +kernel
theorem dX12_copy_35 : decode cX12_copy 35 = .ok (.ifCond .ge 9, 3) := by decide +kernel
theorem dX12_copy_38 : decode cX12_copy 38 = .ok (.aload_n 0, 1) := by decide +kernel
theorem dX12_copy_39 : decode cX12_copy 39 = .ok (.iconst 1, 1) := by decide +kernel
theorem dX12_copy_40 : decode cX12_copy 40 = .ok (.invokevirtual 101, 3) := by decide +kernel
theorem dX12_copy_43 : decode cX12_copy 43 = .ok (.ireturn, 1) := by decide +kernel
theorem dX12_copy_44 : decode cX12_copy 44 = .ok (.aload_n 0, 1) := by decide +kernel
theorem dX12_copy_45 : decode cX12_copy 45 = .ok (.getfield 68, 3) := by decide +kernel
theorem dX12_copy_48 : decode cX12_copy 48 = .ok (.iload_n 1, 1) := by decide +kernel
theorem dX12_copy_49 : decode cX12_copy 49 = .ok (.iaload, 1) := by decide +kernel
theorem dX12_copy_50 : decode cX12_copy 50 = .ok (.aload_n 0, 1) := by decide +kernel
theorem dX12_copy_51 : decode cX12_copy 51 = .ok (.getfield 68, 3) := by decide +kernel
theorem dX12_copy_54 : decode cX12_copy 54 = .ok (.iload_n 3, 1) := by decide +kernel
theorem dX12_copy_55 : decode cX12_copy 55 = .ok (.iaload, 1) := by decide +kernel
theorem dX12_copy_56 : decode cX12_copy 56 = .ok (.if_icmp .eq 9, 3) := by decide +kernel
theorem dX12_copy_59 : decode cX12_copy 59 = .ok (.aload_n 0, 1) := by decide +kernel
theorem dX12_copy_60 : decode cX12_copy 60 = .ok (.iconst 2, 1) := by decide +kernel
theorem dX12_copy_61 : decode cX12_copy 61 = .ok (.invokevirtual 101, 3) := by decide +kernel
theorem dX12_copy_64 : decode cX12_copy 64 = .ok (.ireturn, 1) := by decide +kernel
theorem dX12_copy_65 : decode cX12_copy 65 = .ok (.iload_n 2, 1) := by decide +kernel
theorem dX12_copy_66 : decode cX12_copy 66 = .ok (.iload 5, 2) := by decide +kernel
theorem dX12_copy_68 : decode cX12_copy 68 = .ok (.i2l, 1) := by decide +kernel
theorem dX12_copy_69 : decode cX12_copy 69 = .ok (.aload_n 0, 1) := by decide +kernel
theorem dX12_copy_70 : decode cX12_copy 70 = .ok (.getfield 65, 3) := by decide +kernel
theorem dX12_copy_73 : decode cX12_copy 73 = .ok (.iload_n 1, 1) := by decide +kernel
theorem dX12_copy_74 : decode cX12_copy 74 = .ok (.iaload, 1) := by decide +kernel
theorem dX12_copy_75 : decode cX12_copy 75 = .ok (.invokestatic 104, 3) := by decide +kernel
theorem dX12_copy_78 : decode cX12_copy 78 = .ok (.ifCond .ne 20, 3) := by decide +kernel
theorem dX12_copy_81 : decode cX12_copy 81 = .ok (.iload 4, 2) := by decide +kernel
theorem dX12_copy_83 : decode cX12_copy 83 = .ok (.iload 5, 2) := by decide +kernel
theorem dX12_copy_85 : decode cX12_copy 85 = .ok (.i2l, 1) := by decide +kernel
theorem dX12_copy_86 : decode cX12_copy 86 = .ok (.aload_n 0, 1) := by decide +kernel
theorem dX12_copy_87 : decode cX12_copy 87 = .ok (.getfield 65, 3) := by decide +kernel
theorem dX12_copy_90 : decode cX12_copy 90 = .ok (.iload_n 3, 1) := by decide +kernel
theorem dX12_copy_91 : decode cX12_copy 91 = .ok (.iaload, 1) := by decide +kernel
theorem dX12_copy_92 : decode cX12_copy 92 = .ok (.invokestatic 104, 3) := by decide +kernel
theorem dX12_copy_95 : decode cX12_copy 95 = .ok (.ifCond .eq 9, 3) := by decide +kernel
theorem dX12_copy_98 : decode cX12_copy 98 = .ok (.aload_n 0, 1) := by decide +kernel
theorem dX12_copy_99 : decode cX12_copy 99 = .ok (.iconst 3, 1) := by decide +kernel
theorem dX12_copy_100 : decode cX12_copy 100 = .ok (.invokevirtual 101, 3) := by decide +kernel
theorem dX12_copy_103 : decode cX12_copy 103 = .ok (.ireturn, 1) := by decide +kernel
theorem dX12_copy_104 : decode cX12_copy 104 = .ok (.iconst 0, 1) := by decide +kernel
theorem dX12_copy_105 : decode cX12_copy 105 = .ok (.istore 6, 2) := by decide +kernel
theorem dX12_copy_107 : decode cX12_copy 107 = .ok (.iload 6, 2) := by decide +kernel
theorem dX12_copy_109 : decode cX12_copy 109 = .ok (.iload 5, 2) := by decide +kernel
theorem dX12_copy_111 : decode cX12_copy 111 = .ok (.if_icmp .ge 30, 3) := by decide +kernel
theorem dX12_copy_114 : decode cX12_copy 114 = .ok (.aload_n 0, 1) := by decide +kernel
theorem dX12_copy_115 : decode cX12_copy 115 = .ok (.getfield 74, 3) := by decide +kernel
theorem dX12_copy_118 : decode cX12_copy 118 = .ok (.iload 6, 2) := by decide +kernel
theorem dX12_copy_120 : decode cX12_copy 120 = .ok (.aload_n 0, 1) := by decide +kernel
theorem dX12_copy_121 : decode cX12_copy 121 = .ok (.getfield 71, 3) := by decide +kernel
theorem dX12_copy_124 : decode cX12_copy 124 = .ok (.bipush 60, 2) := by decide +kernel
theorem dX12_copy_126 : decode cX12_copy 126 = .ok (.iload_n 1, 1) := by decide +kernel
theorem dX12_copy_127 : decode cX12_copy 127 = .ok (.imul, 1) := by decide +kernel
theorem dX12_copy_128 : decode cX12_copy 128 = .ok (.iload_n 2, 1) := by decide +kernel
theorem dX12_copy_129 : decode cX12_copy 129 = .ok (.iadd, 1) := by decide +kernel
theorem dX12_copy_130 : decode cX12_copy 130 = .ok (.iload 6, 2) := by decide +kernel
theorem dX12_copy_132 : decode cX12_copy 132 = .ok (.iadd, 1) := by decide +kernel
theorem dX12_copy_133 : decode cX12_copy 133 = .ok (.iaload, 1) := by decide +kernel
theorem dX12_copy_134 : decode cX12_copy 134 = .ok (.iastore, 1) := by decide +kernel
theorem dX12_copy_135 : decode cX12_copy 135 = .ok (.iinc 6 1, 3) := by decide +kernel
theorem dX12_copy_138 : decode cX12_copy 138 = .ok (.goto (-31), 3) := by decide +kernel
theorem dX12_copy_141 : decode cX12_copy 141 = .ok (.iconst 0, 1) := by decide +kernel
theorem dX12_copy_142 : decode cX12_copy 142 = .ok (.istore 6, 2) := by decide +kernel
theorem dX12_copy_144 : decode cX12_copy 144 = .ok (.iload 6, 2) := by decide +kernel
theorem dX12_copy_146 : decode cX12_copy 146 = .ok (.iload 5, 2) := by decide +kernel
theorem dX12_copy_148 : decode cX12_copy 148 = .ok (.if_icmp .ge 31, 3) := by decide +kernel
theorem dX12_copy_151 : decode cX12_copy 151 = .ok (.aload_n 0, 1) := by decide +kernel
theorem dX12_copy_152 : decode cX12_copy 152 = .ok (.getfield 71, 3) := by decide +kernel
theorem dX12_copy_155 : decode cX12_copy 155 = .ok (.bipush 60, 2) := by decide +kernel
theorem dX12_copy_157 : decode cX12_copy 157 = .ok (.iload_n 3, 1) := by decide +kernel
theorem dX12_copy_158 : decode cX12_copy 158 = .ok (.imul, 1) := by decide +kernel
theorem dX12_copy_159 : decode cX12_copy 159 = .ok (.iload 4, 2) := by decide +kernel
theorem dX12_copy_161 : decode cX12_copy 161 = .ok (.iadd, 1) := by decide +kernel
theorem dX12_copy_162 : decode cX12_copy 162 = .ok (.iload 6, 2) := by decide +kernel
theorem dX12_copy_164 : decode cX12_copy 164 = .ok (.iadd, 1) := by decide +kernel
theorem dX12_copy_165 : decode cX12_copy 165 = .ok (.aload_n 0, 1) := by decide +kernel
theorem dX12_copy_166 : decode cX12_copy 166 = .ok (.getfield 74, 3) := by decide +kernel
theorem dX12_copy_169 : decode cX12_copy 169 = .ok (.iload 6, 2) := by decide +kernel
theorem dX12_copy_171 : decode cX12_copy 171 = .ok (.iaload, 1) := by decide +kernel
theorem dX12_copy_172 : decode cX12_copy 172 = .ok (.iastore, 1) := by decide +kernel
theorem dX12_copy_173 : decode cX12_copy 173 = .ok (.iinc 6 1, 3) := by decide +kernel
theorem dX12_copy_176 : decode cX12_copy 176 = .ok (.goto (-32), 3) := by decide +kernel
theorem dX12_copy_179 : decode cX12_copy 179 = .ok (.aload_n 0, 1) := by decide +kernel
theorem dX12_copy_180 : decode cX12_copy 180 = .ok (.iload 5, 2) := by decide +kernel
theorem dX12_copy_182 : decode cX12_copy 182 = .ok (.invokevirtual 91, 3) := by decide +kernel
theorem dX12_copy_185 : decode cX12_copy 185 = .ok (.ireturn, 1) := by decide +kernel
theorem dX12_traced_0 : decode cX12_traced 0 = .ok (.aload_n 0, 1) := by decide +kernel
theorem dX12_traced_1 : decode cX12_traced 1 = .ok (.bipush 31, 2) := by decide +kernel
theorem dX12_traced_3 : decode cX12_traced 3 = .ok (.aload_n 0, 1) := by decide +kernel
theorem dX12_traced_4 : decode cX12_traced 4 = .ok (.getfield 327, 3) := by decide +kernel
theorem dX12_traced_7 : decode cX12_traced 7 = .ok (.imul, 1) := by decide +kernel
theorem dX12_traced_8 : decode cX12_traced 8 = .ok (.iload_n 1, 1) := by decide +kernel
theorem dX12_traced_9 : decode cX12_traced 9 = .ok (.iadd, 1) := by decide +kernel
theorem dX12_traced_10 : decode cX12_traced 10 = .ok (.putfield 327, 3) := by decide +kernel
theorem dX12_traced_13 : decode cX12_traced 13 = .ok (.return_, 1) := by decide +kernel
theorem dX12_tell_0 : decode cX12_tell 0 = .ok (.aload_n 0, 1) := by decide +kernel
theorem dX12_tell_1 : decode cX12_tell 1 = .ok (.iload_n 1, 1) := by decide +kernel
theorem dX12_tell_2 : decode cX12_tell 2 = .ok (.invokevirtual 194, 3) := by decide +kernel
theorem dX12_tell_5 : decode cX12_tell 5 = .ok (.ifCond .eq 5, 3) := by decide +kernel
theorem dX12_tell_8 : decode cX12_tell 8 = .ok (.iconst (-1), 1) := by decide +kernel
theorem dX12_tell_9 : decode cX12_tell 9 = .ok (.ireturn, 1) := by decide +kernel
theorem dX12_tell_10 : decode cX12_tell 10 = .ok (.aload_n 0, 1) := by decide +kernel
theorem dX12_tell_11 : decode cX12_tell 11 = .ok (.getfield 29, 3) := by decide +kernel
theorem dX12_tell_14 : decode cX12_tell 14 = .ok (.iload_n 1, 1) := by decide +kernel
theorem dX12_tell_15 : decode cX12_tell 15 = .ok (.iaload, 1) := by decide +kernel
theorem dX12_tell_16 : decode cX12_tell 16 = .ok (.istore_n 2, 1) := by decide +kernel
theorem dX12_tell_17 : decode cX12_tell 17 = .ok (.iload_n 2, 1) := by decide +kernel
theorem dX12_tell_18 : decode cX12_tell 18 = .ok (.iconst 2, 1) := by decide +kernel
theorem dX12_tell_19 : decode cX12_tell 19 = .ok (.if_icmp .ne 8, 3) := by decide +kernel
theorem dX12_tell_22 : decode cX12_tell 22 = .ok (.aload_n 0, 1) := by decide +kernel
theorem dX12_tell_23 : decode cX12_tell 23 = .ok (.iconst 3, 1) := by decide +kernel
theorem dX12_tell_24 : decode cX12_tell 24 = .ok (.invokevirtual 330, 3) := by decide +kernel
theorem dX12_tell_27 : decode cX12_tell 27 = .ok (.iload_n 2, 1) := by decide +kernel
theorem dX12_tell_28 : decode cX12_tell 28 = .ok (.ifCond .le 8, 3) := by decide +kernel
theorem dX12_tell_31 : decode cX12_tell 31 = .ok (.aload_n 0, 1) := by decide +kernel
theorem dX12_tell_32 : decode cX12_tell 32 = .ok (.iconst 2, 1) := by decide +kernel
theorem dX12_tell_33 : decode cX12_tell 33 = .ok (.invokevirtual 330, 3) := by decide +kernel
theorem dX12_tell_36 : decode cX12_tell 36 = .ok (.aload_n 0, 1) := by decide +kernel
theorem dX12_tell_37 : decode cX12_tell 37 = .ok (.iconst 1, 1) := by decide +kernel
theorem dX12_tell_38 : decode cX12_tell 38 = .ok (.invokevirtual 330, 3) := by decide +kernel
theorem dX12_tell_41 : decode cX12_tell 41 = .ok (.iload_n 2, 1) := by decide +kernel
theorem dX12_tell_42 : decode cX12_tell 42 = .ok (.iconst 2, 1) := by decide +kernel
theorem dX12_tell_43 : decode cX12_tell 43 = .ok (.if_icmp .ne 8, 3) := by decide +kernel
theorem dX12_tell_46 : decode cX12_tell 46 = .ok (.aload_n 0, 1) := by decide +kernel
theorem dX12_tell_47 : decode cX12_tell 47 = .ok (.iconst 1, 1) := by decide +kernel
theorem dX12_tell_48 : decode cX12_tell 48 = .ok (.invokevirtual 330, 3) := by decide +kernel
theorem dX12_tell_51 : decode cX12_tell 51 = .ok (.bipush 9, 2) := by decide +kernel
theorem dX12_tell_53 : decode cX12_tell 53 = .ok (.aload_n 0, 1) := by decide +kernel
theorem dX12_tell_54 : decode cX12_tell 54 = .ok (.getfield 35, 3) := by decide +kernel
theorem dX12_tell_57 : decode cX12_tell 57 = .ok (.iload_n 1, 1) := by decide +kernel
theorem dX12_tell_58 : decode cX12_tell 58 = .ok (.iaload, 1) := by decide +kernel
theorem dX12_tell_59 : decode cX12_tell 59 = .ok (.isub, 1) := by decide +kernel
theorem dX12_tell_60 : decode cX12_tell 60 = .ok (.istore_n 3, 1) := by decide +kernel
theorem dX12_tell_61 : decode cX12_tell 61 = .ok (.iload_n 2, 1) := by decide +kernel
theorem dX12_tell_62 : decode cX12_tell 62 = .ok (.ifCond .ne 7, 3) := by decide +kernel
theorem dX12_tell_65 : decode cX12_tell 65 = .ok (.iload_n 3, 1) := by decide +kernel
theorem dX12_tell_66 : decode cX12_tell 66 = .ok (.goto 21, 3) := by decide +kernel
theorem dX12_tell_69 : decode cX12_tell 69 = .ok (.iload_n 2, 1) := by decide +kernel
theorem dX12_tell_70 : decode cX12_tell 70 = .ok (.iconst 1, 1) := by decide +kernel
theorem dX12_tell_71 : decode cX12_tell 71 = .ok (.if_icmp .ne 10, 3) := by decide +kernel
theorem dX12_tell_74 : decode cX12_tell 74 = .ok (.iload_n 3, 1) := by decide +kernel
theorem dX12_tell_75 : decode cX12_tell 75 = .ok (.bipush 100, 2) := by decide +kernel
theorem dX12_tell_77 : decode cX12_tell 77 = .ok (.iadd, 1) := by decide +kernel
theorem dX12_tell_78 : decode cX12_tell 78 = .ok (.goto 9, 3) := by decide +kernel
theorem dX12_tell_81 : decode cX12_tell 81 = .ok (.iconst 2, 1) := by decide +kernel
theorem dX12_tell_82 : decode cX12_tell 82 = .ok (.iload_n 3, 1) := by decide +kernel
theorem dX12_tell_83 : decode cX12_tell 83 = .ok (.imul, 1) := by decide +kernel
theorem dX12_tell_84 : decode cX12_tell 84 = .ok (.bipush 100, 2) := by decide +kernel
theorem dX12_tell_86 : decode cX12_tell 86 = .ok (.iadd, 1) := by decide +kernel
theorem dX12_tell_87 : decode cX12_tell 87 = .ok (.ireturn, 1) := by decide +kernel
theorem dX12_wake_0 : decode cX12_wake 0 = .ok (.aload_n 0, 1) := by decide +kernel
theorem dX12_wake_1 : decode cX12_wake 1 = .ok (.iload_n 1, 1) := by decide +kernel
theorem dX12_wake_2 : decode cX12_wake 2 = .ok (.invokevirtual 194, 3) := by decide +kernel
theorem dX12_wake_5 : decode cX12_wake 5 = .ok (.ifCond .eq 5, 3) := by decide +kernel
theorem dX12_wake_8 : decode cX12_wake 8 = .ok (.iconst (-1), 1) := by decide +kernel
theorem dX12_wake_9 : decode cX12_wake 9 = .ok (.ireturn, 1) := by decide +kernel
theorem dX12_wake_10 : decode cX12_wake 10 = .ok (.aload_n 0, 1) := by decide +kernel
theorem dX12_wake_11 : decode cX12_wake 11 = .ok (.aload_n 0, 1) := by decide +kernel
theorem dX12_wake_12 : decode cX12_wake 12 = .ok (.getfield 29, 3) := by decide +kernel
theorem dX12_wake_15 : decode cX12_wake 15 = .ok (.iload_n 1, 1) := by decide +kernel
theorem dX12_wake_16 : decode cX12_wake 16 = .ok (.iaload, 1) := by decide +kernel
theorem dX12_wake_17 : decode cX12_wake 17 = .ok (.iconst 2, 1) := by decide +kernel
theorem dX12_wake_18 : decode cX12_wake 18 = .ok (.if_icmp .ne 7, 3) := by decide +kernel
theorem dX12_wake_21 : decode cX12_wake 21 = .ok (.iconst 5, 1) := by decide +kernel
theorem dX12_wake_22 : decode cX12_wake 22 = .ok (.goto 4, 3) := by decide +kernel
theorem dX12_wake_25 : decode cX12_wake 25 = .ok (.iconst 4, 1) := by decide +kernel
theorem dX12_wake_26 : decode cX12_wake 26 = .ok (.invokevirtual 330, 3) := by decide +kernel
theorem dX12_wake_29 : decode cX12_wake 29 = .ok (.aload_n 0, 1) := by decide +kernel
theorem dX12_wake_30 : decode cX12_wake 30 = .ok (.getfield 29, 3) := by decide +kernel
theorem dX12_wake_33 : decode cX12_wake 33 = .ok (.iload_n 1, 1) := by decide +kernel
theorem dX12_wake_34 : decode cX12_wake 34 = .ok (.iaload, 1) := by decide +kernel
theorem dX12_wake_35 : decode cX12_wake 35 = .ok (.iconst 2, 1) := by decide +kernel
theorem dX12_wake_36 : decode cX12_wake 36 = .ok (.if_icmp .ne 8, 3) := by decide +kernel
theorem dX12_wake_39 : decode cX12_wake 39 = .ok (.bipush 80, 2) := by decide +kernel
theorem dX12_wake_41 : decode cX12_wake 41 = .ok (.goto 4, 3) := by decide +kernel
theorem dX12_wake_44 : decode cX12_wake 44 = .ok (.iload_n 1, 1) := by decide +kernel
theorem dX12_wake_45 : decode cX12_wake 45 = .ok (.ireturn, 1) := by decide +kernel
theorem dX12_as_0 : decode cX12_as 0 = .ok (.aload_n 0, 1) := by decide +kernel
theorem dX12_as_1 : decode cX12_as 1 = .ok (.iload_n 1, 1) := by decide +kernel
theorem dX12_as_2 : decode cX12_as 2 = .ok (.invokevirtual 194, 3) := by decide +kernel
theorem dX12_as_5 : decode cX12_as 5 = .ok (.ifCond .eq 9, 3) := by decide +kernel
theorem dX12_as_8 : decode cX12_as 8 = .ok (.aload_n 0, 1) := by decide +kernel
theorem dX12_as_9 : decode cX12_as 9 = .ok (.iconst (-1), 1) := by decide +kernel
theorem dX12_as_10 : decode cX12_as 10 = .ok (.invokevirtual 91, 3) := by decide +kernel
theorem dX12_as_13 : decode cX12_as 13 = .ok (.ireturn, 1) := by decide +kernel
theorem dX12_as_14 : decode cX12_as 14 = .ok (.iload_n 2, 1) := by decide +kernel
theorem dX12_as_15 : decode cX12_as 15 = .ok (.i2l, 1) := by decide +kernel
theorem dX12_as_16 : decode cX12_as 16 = .ok (.lconst 0, 1) := by decide +kernel
theorem dX12_as_17 : decode cX12_as 17 = .ok (.ldc2_w 95, 3) := by decide +kernel
theorem dX12_as_20 : decode cX12_as 20 = .ok (.invokestatic 97, 3) := by decide +kernel
theorem dX12_as_23 : decode cX12_as 23 = .ok (.ifCond .ne 10, 3) := by decide +kernel
theorem dX12_as_26 : decode cX12_as 26 = .ok (.aload_n 0, 1) := by decide +kernel
theorem dX12_as_27 : decode cX12_as 27 = .ok (.bipush (-2), 2) := by decide +kernel
theorem dX12_as_29 : decode cX12_as 29 = .ok (.invokevirtual 91, 3) := by decide +kernel
theorem dX12_as_32 : decode cX12_as 32 = .ok (.ireturn, 1) := by decide +kernel
theorem dX12_as_33 : decode cX12_as 33 = .ok (.aload_n 0, 1) := by decide +kernel
theorem dX12_as_34 : decode cX12_as 34 = .ok (.getfield 29, 3) := by decide +kernel
theorem dX12_as_37 : decode cX12_as 37 = .ok (.iload_n 1, 1) := by decide +kernel
theorem dX12_as_38 : decode cX12_as 38 = .ok (.iaload, 1) := by decide +kernel
theorem dX12_as_39 : decode cX12_as 39 = .ok (.iload_n 2, 1) := by decide +kernel
theorem dX12_as_40 : decode cX12_as 40 = .ok (.if_icmp .lt 11, 3) := by decide +kernel
theorem dX12_as_43 : decode cX12_as 43 = .ok (.aload_n 0, 1) := by decide +kernel
theorem dX12_as_44 : decode cX12_as 44 = .ok (.iconst 1, 1) := by decide +kernel
theorem dX12_as_45 : decode cX12_as 45 = .ok (.invokevirtual 91, 3) := by decide +kernel
theorem dX12_as_48 : decode cX12_as 48 = .ok (.goto 8, 3) := by decide +kernel
theorem dX12_as_51 : decode cX12_as 51 = .ok (.aload_n 0, 1) := by decide +kernel
theorem dX12_as_52 : decode cX12_as 52 = .ok (.iconst 2, 1) := by decide +kernel
theorem dX12_as_53 : decode cX12_as 53 = .ok (.invokevirtual 101, 3) := by decide +kernel
theorem dX12_as_56 : decode cX12_as 56 = .ok (.ireturn, 1) := by decide +kernel
theorem dX12_trace_0 : decode cX12_trace 0 = .ok (.aload_n 0, 1) := by decide +kernel
theorem dX12_trace_1 : decode cX12_trace 1 = .ok (.getfield 327, 3) := by decide +kernel
theorem dX12_trace_4 : decode cX12_trace 4 = .ok (.ireturn, 1) := by decide +kernel
theorem dX12_fault_0 : decode cX12_fault 0 = .ok (.aload_n 0, 1) := by decide +kernel
theorem dX12_fault_1 : decode cX12_fault 1 = .ok (.getfield 79, 3) := by decide +kernel
theorem dX12_fault_4 : decode cX12_fault 4 = .ok (.ireturn, 1) := by decide +kernel
theorem dX12_many_0 : decode cX12_many 0 = .ok (.iconst 0, 1) := by decide +kernel
theorem dX12_many_1 : decode cX12_many 1 = .ok (.istore_n 2, 1) := by decide +kernel
theorem dX12_many_2 : decode cX12_many 2 = .ok (.iconst 0, 1) := by decide +kernel
theorem dX12_many_3 : decode cX12_many 3 = .ok (.istore_n 3, 1) := by decide +kernel
theorem dX12_many_4 : decode cX12_many 4 = .ok (.iload_n 3, 1) := by decide +kernel
theorem dX12_many_5 : decode cX12_many 5 = .ok (.bipush 32, 2) := by decide +kernel
theorem dX12_many_7 : decode cX12_many 7 = .ok (.if_icmp .ge 41, 3) := by decide +kernel
theorem dX12_many_10 : decode cX12_many 10 = .ok (.iload_n 2, 1) := by decide +kernel
theorem dX12_many_11 : decode cX12_many 11 = .ok (.aload_n 0, 1) := by decide +kernel
theorem dX12_many_12 : decode cX12_many 12 = .ok (.getfield 13, 3) := by decide +kernel
theorem dX12_many_15 : decode cX12_many 15 = .ok (.iload_n 3, 1) := by decide +kernel
theorem dX12_many_16 : decode cX12_many 16 = .ok (.baload, 1) := by decide +kernel
theorem dX12_many_17 : decode cX12_many 17 = .ok (.ifCond .eq 7, 3) := by decide +kernel
theorem dX12_many_20 : decode cX12_many 20 = .ok (.iconst 1, 1) := by decide +kernel
theorem dX12_many_21 : decode cX12_many 21 = .ok (.goto 4, 3) := by decide +kernel
theorem dX12_many_24 : decode cX12_many 24 = .ok (.iconst 0, 1) := by decide +kernel
theorem dX12_many_25 : decode cX12_many 25 = .ok (.aload_n 0, 1) := by decide +kernel
theorem dX12_many_26 : decode cX12_many 26 = .ok (.getfield 17, 3) := by decide +kernel
theorem dX12_many_29 : decode cX12_many 29 = .ok (.iload_n 3, 1) := by decide +kernel
theorem dX12_many_30 : decode cX12_many 30 = .ok (.baload, 1) := by decide +kernel
theorem dX12_many_31 : decode cX12_many 31 = .ok (.ifCond .eq 7, 3) := by decide +kernel
theorem dX12_many_34 : decode cX12_many 34 = .ok (.iconst 1, 1) := by decide +kernel
theorem dX12_many_35 : decode cX12_many 35 = .ok (.goto 4, 3) := by decide +kernel
theorem dX12_many_38 : decode cX12_many 38 = .ok (.iconst 0, 1) := by decide +kernel
theorem dX12_many_39 : decode cX12_many 39 = .ok (.iadd, 1) := by decide +kernel
theorem dX12_many_40 : decode cX12_many 40 = .ok (.iadd, 1) := by decide +kernel
theorem dX12_many_41 : decode cX12_many 41 = .ok (.istore_n 2, 1) := by decide +kernel
theorem dX12_many_42 : decode cX12_many 42 = .ok (.iinc 3 1, 3) := by decide +kernel
theorem dX12_many_45 : decode cX12_many 45 = .ok (.goto (-41), 3) := by decide +kernel
theorem dX12_many_48 : decode cX12_many 48 = .ok (.iload_n 1, 1) := by decide +kernel
theorem dX12_many_49 : decode cX12_many 49 = .ok (.tableswitch 57 0 4 #[35, 40, 45, 50, 55], 35) := by decide +kernel
theorem dX12_many_84 : decode cX12_many 84 = .ok (.aload_n 0, 1) := by decide +kernel
theorem dX12_many_85 : decode cX12_many 85 = .ok (.invokevirtual 114, 3) := by decide +kernel
theorem dX12_many_88 : decode cX12_many 88 = .ok (.ireturn, 1) := by decide +kernel
theorem dX12_many_89 : decode cX12_many 89 = .ok (.aload_n 0, 1) := by decide +kernel
theorem dX12_many_90 : decode cX12_many 90 = .ok (.getfield 160, 3) := by decide +kernel
theorem dX12_many_93 : decode cX12_many 93 = .ok (.ireturn, 1) := by decide +kernel
theorem dX12_many_94 : decode cX12_many 94 = .ok (.aload_n 0, 1) := by decide +kernel
theorem dX12_many_95 : decode cX12_many 95 = .ok (.getfield 203, 3) := by decide +kernel
theorem dX12_many_98 : decode cX12_many 98 = .ok (.ireturn, 1) := by decide +kernel
theorem dX12_many_99 : decode cX12_many 99 = .ok (.aload_n 0, 1) := by decide +kernel
theorem dX12_many_100 : decode cX12_many 100 = .ok (.getfield 163, 3) := by decide +kernel
theorem dX12_many_103 : decode cX12_many 103 = .ok (.ireturn, 1) := by decide +kernel
theorem dX12_many_104 : decode cX12_many 104 = .ok (.iload_n 2, 1) := by decide +kernel
theorem dX12_many_105 : decode cX12_many 105 = .ok (.ireturn, 1) := by decide +kernel
theorem dX12_many_106 : decode cX12_many 106 = .ok (.bipush (-2), 2) := by decide +kernel
theorem dX12_many_108 : decode cX12_many 108 = .ok (.ireturn, 1) := by decide +kernel
