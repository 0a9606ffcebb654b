theorem dX0_init_0 : decode cX0_init 0 = .ok (.aload_n 0, 1) := by decide +kernel
theorem dX0_init_1 : decode cX0_init 1 = .ok (.invokespecial 3, 3) := by decide +kernel
theorem dX0_init_4 : decode cX0_init 4 = .ok (.aload_n 0, 1) := by decide +kernel
theorem dX0_init_5 : decode cX0_init 5 = .ok (.bipush 52, 2) := by decide +kernel
theorem dX0_init_7 : decode cX0_init 7 = .ok (.newarray .int, 2) := by decide +kernel
theorem dX0_init_9 : decode cX0_init 9 = .ok (.putfield 9, 3) := by decide +kernel
theorem dX0_init_12 : decode cX0_init 12 = .ok (.aload_n 0, 1) := by decide +kernel
theorem dX0_init_13 : decode cX0_init 13 = .ok (.bipush 64, 2) := by decide +kernel
theorem dX0_init_15 : decode cX0_init 15 = .ok (.newarray .int, 2) := by decide +kernel
theorem dX0_init_17 : decode cX0_init 17 = .ok (.putfield 15, 3) := by decide +kernel
theorem dX0_init_20 : decode cX0_init 20 = .ok (.aload_n 0, 1) := by decide +kernel
theorem dX0_init_21 : decode cX0_init 21 = .ok (.bipush 52, 2) := by decide +kernel
theorem dX0_init_23 : decode cX0_init 23 = .ok (.newarray .int, 2) := by decide +kernel
theorem dX0_init_25 : decode cX0_init 25 = .ok (.putfield 18, 3) := by decide +kernel
theorem dX0_init_28 : decode cX0_init 28 = .ok (.aload_n 0, 1) := by decide +kernel
theorem dX0_init_29 : decode cX0_init 29 = .ok (.bipush 52, 2) := by decide +kernel
theorem dX0_init_31 : decode cX0_init 31 = .ok (.newarray .int, 2) := by decide +kernel
theorem dX0_init_33 : decode cX0_init 33 = .ok (.putfield 21, 3) := by decide +kernel
theorem dX0_init_36 : decode cX0_init 36 = .ok (.aload_n 0, 1) := by decide +kernel
theorem dX0_init_37 : decode cX0_init 37 = .ok (.sipush 2704, 3) := by decide +kernel
theorem dX0_init_40 : decode cX0_init 40 = .ok (.newarray .int, 2) := by decide +kernel
theorem dX0_init_42 : decode cX0_init 42 = .ok (.putfield 24, 3) := by decide +kernel
theorem dX0_init_45 : decode cX0_init 45 = .ok (.aload_n 0, 1) := by decide +kernel
theorem dX0_init_46 : decode cX0_init 46 = .ok (.bipush 32, 2) := by decide +kernel
theorem dX0_init_48 : decode cX0_init 48 = .ok (.newarray .int, 2) := by decide +kernel
theorem dX0_init_50 : decode cX0_init 50 = .ok (.putfield 27, 3) := by decide +kernel
theorem dX0_init_53 : decode cX0_init 53 = .ok (.aload_n 0, 1) := by decide +kernel
theorem dX0_init_54 : decode cX0_init 54 = .ok (.iconst 3, 1) := by decide +kernel
theorem dX0_init_55 : decode cX0_init 55 = .ok (.newarray .int, 2) := by decide +kernel
theorem dX0_init_57 : decode cX0_init 57 = .ok (.putfield 30, 3) := by decide +kernel
theorem dX0_init_60 : decode cX0_init 60 = .ok (.return_, 1) := by decide +kernel
theorem dX0_begin_0 : decode cX0_begin 0 = .ok (.aload_n 0, 1) := by decide +kernel
theorem dX0_begin_1 : decode cX0_begin 1 = .ok (.iconst 0, 1) := by decide +kernel
theorem dX0_begin_2 : decode cX0_begin 2 = .ok (.putfield 33, 3) := by decide +kernel
theorem dX0_begin_5 : decode cX0_begin 5 = .ok (.iconst 0, 1) := by decide +kernel
theorem dX0_begin_6 : decode cX0_begin 6 = .ok (.istore_n 2, 1) := by decide +kernel
theorem dX0_begin_7 : decode cX0_begin 7 = .ok (.iload_n 2, 1) := by decide +kernel
theorem dX0_begin_8 : decode cX0_begin 8 = .ok (.aload_n 0, 1) := by decide +kernel
theorem dX0_begin_9 : decode cX0_begin 9 = .ok (.getfield 21, 3) := by decide +kernel
theorem dX0_begin_12 : decode cX0_begin 12 = .ok (.arraylength, 1) := by decide +kernel
theorem dX0_begin_13 : decode cX0_begin 13 = .ok (.if_icmp .ge 16, 3) := by decide +kernel
theorem dX0_begin_16 : decode cX0_begin 16 = .ok (.aload_n 0, 1) := by decide +kernel
theorem dX0_begin_17 : decode cX0_begin 17 = .ok (.getfield 21, 3) := by decide +kernel
theorem dX0_begin_20 : decode cX0_begin 20 = .ok (.iload_n 2, 1) := by decide +kernel
theorem dX0_begin_21 : decode cX0_begin 21 = .ok (.iconst 0, 1) := by decide +kernel
theorem dX0_begin_22 : decode cX0_begin 22 = .ok (.iastore, 1) := by decide +kernel
theorem dX0_begin_23 : decode cX0_begin 23 = .ok (.iinc 2 1, 3) := by decide +kernel
theorem dX0_begin_26 : decode cX0_begin 26 = .ok (.goto (-19), 3) := by decide +kernel
theorem dX0_begin_29 : decode cX0_begin 29 = .ok (.iconst 0, 1) := by decide +kernel
theorem dX0_begin_30 : decode cX0_begin 30 = .ok (.istore_n 2, 1) := by decide +kernel
theorem dX0_begin_31 : decode cX0_begin 31 = .ok (.iload_n 2, 1) := by decide +kernel
theorem dX0_begin_32 : decode cX0_begin 32 = .ok (.aload_n 0, 1) := by decide +kernel
theorem dX0_begin_33 : decode cX0_begin 33 = .ok (.getfield 24, 3) := by decide +kernel
theorem dX0_begin_36 : decode cX0_begin 36 = .ok (.arraylength, 1) := by decide +kernel
theorem dX0_begin_37 : decode cX0_begin 37 = .ok (.if_icmp .ge 16, 3) := by decide +kernel
theorem dX0_begin_40 : decode cX0_begin 40 = .ok (.aload_n 0, 1) := by decide +kernel
theorem dX0_begin_41 : decode cX0_begin 41 = .ok (.getfield 24, 3) := by decide +kernel
theorem dX0_begin_44 : decode cX0_begin 44 = .ok (.iload_n 2, 1) := by decide +kernel
theorem dX0_begin_45 : decode cX0_begin 45 = .ok (.iconst 0, 1) := by decide +kernel
theorem dX0_begin_46 : decode cX0_begin 46 = .ok (.iastore, 1) := by decide +kernel
theorem dX0_begin_47 : decode cX0_begin 47 = .ok (.iinc 2 1, 3) := by decide +kernel
theorem dX0_begin_50 : decode cX0_begin 50 = .ok (.goto (-19), 3) := by decide +kernel
theorem dX0_begin_53 : decode cX0_begin 53 = .ok (.iconst 0, 1) := by decide +kernel
theorem dX0_begin_54 : decode cX0_begin 54 = .ok (.istore_n 2, 1) := by decide +kernel
theorem dX0_begin_55 : decode cX0_begin 55 = .ok (.iload_n 2, 1) := by decide +kernel
theorem dX0_begin_56 : decode cX0_begin 56 = .ok (.aload_n 1, 1) := by decide +kernel
theorem dX0_begin_57 : decode cX0_begin 57 = .ok (.getfield 37, 3) := by decide +kernel
theorem dX0_begin_60 : decode cX0_begin 60 = .ok (.if_icmp .ge 23, 3) := by decide +kernel
theorem dX0_begin_63 : decode cX0_begin 63 = .ok (.aload_n 0, 1) := by decide +kernel
theorem dX0_begin_64 : decode cX0_begin 64 = .ok (.aload_n 1, 1) := by decide +kernel
theorem dX0_begin_65 : decode cX0_begin 65 = .ok (.iload_n 2, 1) := by decide +kernel
theorem dX0_begin_66 : decode cX0_begin 66 = .ok (.iconst 3, 1) := by decide +kernel
theorem dX0_begin_67 : decode cX0_begin 67 = .ok (.invokevirtual 42, 3) := by decide +kernel
theorem dX0_begin_70 : decode cX0_begin 70 = .ok (.aload_n 0, 1) := by decide +kernel
theorem dX0_begin_71 : decode cX0_begin 71 = .ok (.aload_n 1, 1) := by decide +kernel
theorem dX0_begin_72 : decode cX0_begin 72 = .ok (.iload_n 2, 1) := by decide +kernel
theorem dX0_begin_73 : decode cX0_begin 73 = .ok (.iconst 1, 1) := by decide +kernel
theorem dX0_begin_74 : decode cX0_begin 74 = .ok (.invokevirtual 42, 3) := by decide +kernel
theorem dX0_begin_77 : decode cX0_begin 77 = .ok (.iinc 2 1, 3) := by decide +kernel
theorem dX0_begin_80 : decode cX0_begin 80 = .ok (.goto (-25), 3) := by decide +kernel
theorem dX0_begin_83 : decode cX0_begin 83 = .ok (.return_, 1) := by decide +kernel
theorem dX0_addGap_0 : decode cX0_addGap 0 = .ok (.aload_n 1, 1) := by decide +kernel
theorem dX0_addGap_1 : decode cX0_addGap 1 = .ok (.iload_n 2, 1) := by decide +kernel
theorem dX0_addGap_2 : decode cX0_addGap 2 = .ok (.iload_n 3, 1) := by decide +kernel
theorem dX0_addGap_3 : decode cX0_addGap 3 = .ok (.invokevirtual 46, 3) := by decide +kernel
theorem dX0_addGap_6 : decode cX0_addGap 6 = .ok (.istore 4, 2) := by decide +kernel
theorem dX0_addGap_8 : decode cX0_addGap 8 = .ok (.iload 4, 2) := by decide +kernel
theorem dX0_addGap_10 : decode cX0_addGap 10 = .ok (.bipush (-9), 2) := by decide +kernel
theorem dX0_addGap_12 : decode cX0_addGap 12 = .ok (.if_icmp .ne 8, 3) := by decide +kernel
theorem dX0_addGap_15 : decode cX0_addGap 15 = .ok (.bipush (-9), 2) := by decide +kernel
theorem dX0_addGap_17 : decode cX0_addGap 17 = .ok (.goto 10, 3) := by decide +kernel
theorem dX0_addGap_20 : decode cX0_addGap 20 = .ok (.aload_n 1, 1) := by decide +kernel
theorem dX0_addGap_21 : decode cX0_addGap 21 = .ok (.iload_n 2, 1) := by decide +kernel
theorem dX0_addGap_22 : decode cX0_addGap 22 = .ok (.iload 4, 2) := by decide +kernel
theorem dX0_addGap_24 : decode cX0_addGap 24 = .ok (.invokevirtual 50, 3) := by decide +kernel
theorem dX0_addGap_27 : decode cX0_addGap 27 = .ok (.istore 5, 2) := by decide +kernel
theorem dX0_addGap_29 : decode cX0_addGap 29 = .ok (.iload 5, 2) := by decide +kernel
theorem dX0_addGap_31 : decode cX0_addGap 31 = .ok (.ifCond .lt 22, 3) := by decide +kernel
theorem dX0_addGap_34 : decode cX0_addGap 34 = .ok (.iload 5, 2) := by decide +kernel
theorem dX0_addGap_36 : decode cX0_addGap 36 = .ok (.aload_n 0, 1) := by decide +kernel
theorem dX0_addGap_37 : decode cX0_addGap 37 = .ok (.getfield 15, 3) := by decide +kernel
theorem dX0_addGap_40 : decode cX0_addGap 40 = .ok (.arraylength, 1) := by decide +kernel
theorem dX0_addGap_41 : decode cX0_addGap 41 = .ok (.if_icmp .ge 12, 3) := by decide +kernel
theorem dX0_addGap_44 : decode cX0_addGap 44 = .ok (.aload_n 1, 1) := by decide +kernel
theorem dX0_addGap_45 : decode cX0_addGap 45 = .ok (.iload 5, 2) := by decide +kernel
theorem dX0_addGap_47 : decode cX0_addGap 47 = .ok (.invokevirtual 53, 3) := by decide +kernel
theorem dX0_addGap_50 : decode cX0_addGap 50 = .ok (.ifCond .eq 4, 3) := by decide +kernel
theorem dX0_addGap_53 : decode cX0_addGap 53 = .ok (.return_, 1) := by decide +kernel
theorem dX0_addGap_54 : decode cX0_addGap 54 = .ok (.aload_n 1, 1) := by decide +kernel
theorem dX0_addGap_55 : decode cX0_addGap 55 = .ok (.getfield 57, 3) := by decide +kernel
theorem dX0_addGap_58 : decode cX0_addGap 58 = .ok (.ifCond .le 98, 3) := by decide +kernel
theorem dX0_addGap_61 : decode cX0_addGap 61 = .ok (.aload_n 0, 1) := by decide +kernel
theorem dX0_addGap_62 : decode cX0_addGap 62 = .ok (.getfield 33, 3) := by decide +kernel
theorem dX0_addGap_65 : decode cX0_addGap 65 = .ok (.ifCond .lt 91, 3) := by decide +kernel
theorem dX0_addGap_68 : decode cX0_addGap 68 = .ok (.aload_n 0, 1) := by decide +kernel
theorem dX0_addGap_69 : decode cX0_addGap 69 = .ok (.getfield 33, 3) := by decide +kernel
theorem dX0_addGap_72 : decode cX0_addGap 72 = .ok (.aload_n 0, 1) := by decide +kernel
theorem dX0_addGap_73 : decode cX0_addGap 73 = .ok (.getfield 9, 3) := by decide +kernel
theorem dX0_addGap_76 : decode cX0_addGap 76 = .ok (.arraylength, 1) := by decide +kernel
theorem dX0_addGap_77 : decode cX0_addGap 77 = .ok (.if_icmp .ge 79, 3) := by decide +kernel
theorem dX0_addGap_80 : decode cX0_addGap 80 = .ok (.aload_n 0, 1) := by decide +kernel
theorem dX0_addGap_81 : decode cX0_addGap 81 = .ok (.getfield 33, 3) := by decide +kernel
theorem dX0_addGap_84 : decode cX0_addGap 84 = .ok (.aload_n 0, 1) := by decide +kernel
theorem dX0_addGap_85 : decode cX0_addGap 85 = .ok (.getfield 18, 3) := by decide +kernel
theorem dX0_addGap_88 : decode cX0_addGap 88 = .ok (.arraylength, 1) := by decide +kernel
theorem dX0_addGap_89 : decode cX0_addGap 89 = .ok (.if_icmp .ge 67, 3) := by decide +kernel
theorem dX0_addGap_92 : decode cX0_addGap 92 = .ok (.aload_n 0, 1) := by decide +kernel
theorem dX0_addGap_93 : decode cX0_addGap 93 = .ok (.getfield 9, 3) := by decide +kernel
theorem dX0_addGap_96 : decode cX0_addGap 96 = .ok (.aload_n 0, 1) := by decide +kernel
theorem dX0_addGap_97 : decode cX0_addGap 97 = .ok (.getfield 33, 3) := by decide +kernel
theorem dX0_addGap_100 : decode cX0_addGap 100 = .ok (.iload 5, 2) := by decide +kernel
theorem dX0_addGap_102 : decode cX0_addGap 102 = .ok (.iastore, 1) := by decide +kernel
theorem dX0_addGap_103 : decode cX0_addGap 103 = .ok (.aload_n 0, 1) := by decide +kernel
theorem dX0_addGap_104 : decode cX0_addGap 104 = .ok (.getfield 15, 3) := by decide +kernel
theorem dX0_addGap_107 : decode cX0_addGap 107 = .ok (.iload 5, 2) := by decide +kernel
theorem dX0_addGap_109 : decode cX0_addGap 109 = .ok (.aload_n 0, 1) := by decide +kernel
theorem dX0_addGap_110 : decode cX0_addGap 110 = .ok (.getfield 33, 3) := by decide +kernel
theorem dX0_addGap_113 : decode cX0_addGap 113 = .ok (.iastore, 1) := by decide +kernel
theorem dX0_addGap_114 : decode cX0_addGap 114 = .ok (.aload_n 0, 1) := by decide +kernel
theorem dX0_addGap_115 : decode cX0_addGap 115 = .ok (.getfield 18, 3) := by decide +kernel
theorem dX0_addGap_118 : decode cX0_addGap 118 = .ok (.aload_n 0, 1) := by decide +kernel
theorem dX0_addGap_119 : decode cX0_addGap 119 = .ok (.getfield 33, 3) := by decide +kernel
theorem dX0_addGap_122 : decode cX0_addGap 122 = .ok (.iload_n 3, 1) := by decide +kernel
theorem dX0_addGap_123 : decode cX0_addGap 123 = .ok (.iconst 3, 1) := by decide +kernel
theorem dX0_addGap_124 : decode cX0_addGap 124 = .ok (.if_icmp .ne 12, 3) := by decide +kernel
theorem dX0_addGap_127 : decode cX0_addGap 127 = .ok (.iload_n 2, 1) := by decide +kernel
theorem dX0_addGap_128 : decode cX0_addGap 128 = .ok (.aload_n 1, 1) := by decide +kernel
theorem dX0_addGap_129 : decode cX0_addGap 129 = .ok (.getfield 57, 3) := by decide +kernel
theorem dX0_addGap_132 : decode cX0_addGap 132 = .ok (.idiv, 1) := by decide +kernel
theorem dX0_addGap_133 : decode cX0_addGap 133 = .ok (.goto 12, 3) := by decide +kernel
theorem dX0_addGap_136 : decode cX0_addGap 136 = .ok (.bipush 32, 2) := by decide +kernel
theorem dX0_addGap_138 : decode cX0_addGap 138 = .ok (.iload_n 2, 1) := by decide +kernel
theorem dX0_addGap_139 : decode cX0_addGap 139 = .ok (.aload_n 1, 1) := by decide +kernel
theorem dX0_addGap_140 : decode cX0_addGap 140 = .ok (.getfield 57, 3) := by decide +kernel
theorem dX0_addGap_143 : decode cX0_addGap 143 = .ok (.irem, 1) := by decide +kernel
theorem dX0_addGap_144 : decode cX0_addGap 144 = .ok (.iadd, 1) := by decide +kernel
theorem dX0_addGap_145 : decode cX0_addGap 145 = .ok (.iastore, 1) := by decide +kernel
theorem dX0_addGap_146 : decode cX0_addGap 146 = .ok (.aload_n 0, 1) := by decide +kernel
theorem dX0_addGap_147 : decode cX0_addGap 147 = .ok (.dup, 1) := by decide +kernel
theorem dX0_addGap_148 : decode cX0_addGap 148 = .ok (.getfield 33, 3) := by decide +kernel
theorem dX0_addGap_151 : decode cX0_addGap 151 = .ok (.iconst 1, 1) := by decide +kernel
theorem dX0_addGap_152 : decode cX0_addGap 152 = .ok (.iadd, 1) := by decide +kernel
theorem dX0_addGap_153 : decode cX0_addGap 153 = .ok (.putfield 33, 3) := by decide +kernel
theorem dX0_addGap_156 : decode cX0_addGap 156 = .ok (.return_, 1) := by decide +kernel
theorem dX0_addSight_0 : decode cX0_addSight 0 = .ok (.aload_n 1, 1) := by decide +kernel
theorem dX0_addSight_1 : decode cX0_addSight 1 = .ok (.iload_n 2, 1) := by decide +kernel
theorem dX0_addSight_2 : decode cX0_addSight 2 = .ok (.invokevirtual 60, 3) := by decide +kernel
theorem dX0_addSight_5 : decode cX0_addSight 5 = .ok (.istore 5, 2) := by decide +kernel
theorem dX0_addSight_7 : decode cX0_addSight 7 = .ok (.aload_n 0, 1) := by decide +kernel
theorem dX0_addSight_8 : decode cX0_addSight 8 = .ok (.aload_n 1, 1) := by decide +kernel
theorem dX0_addSight_9 : decode cX0_addSight 9 = .ok (.iload_n 2, 1) := by decide +kernel
theorem dX0_addSight_10 : decode cX0_addSight 10 = .ok (.iload_n 3, 1) := by decide +kernel
theorem dX0_addSight_11 : decode cX0_addSight 11 = .ok (.iload 5, 2) := by decide +kernel
theorem dX0_addSight_13 : decode cX0_addSight 13 = .ok (.invokevirtual 64, 3) := by decide +kernel
theorem dX0_addSight_16 : decode cX0_addSight 16 = .ok (.istore 6, 2) := by decide +kernel
theorem dX0_addSight_18 : decode cX0_addSight 18 = .ok (.iload 6, 2) := by decide +kernel
theorem dX0_addSight_20 : decode cX0_addSight 20 = .ok (.bipush (-9), 2) := by decide +kernel
theorem dX0_addSight_22 : decode cX0_addSight 22 = .ok (.if_icmp .ne 15, 3) := by decide +kernel
theorem dX0_addSight_25 : decode cX0_addSight 25 = .ok (.aload_n 0, 1) := by decide +kernel
theorem dX0_addSight_26 : decode cX0_addSight 26 = .ok (.aload_n 1, 1) := by decide +kernel
theorem dX0_addSight_27 : decode cX0_addSight 27 = .ok (.iload_n 3, 1) := by decide +kernel
theorem dX0_addSight_28 : decode cX0_addSight 28 = .ok (.bipush (-9), 2) := by decide +kernel
theorem dX0_addSight_30 : decode cX0_addSight 30 = .ok (.iload 5, 2) := by decide +kernel
theorem dX0_addSight_32 : decode cX0_addSight 32 = .ok (.invokevirtual 64, 3) := by decide +kernel
theorem dX0_addSight_35 : decode cX0_addSight 35 = .ok (.istore 6, 2) := by decide +kernel
theorem dX0_addSight_37 : decode cX0_addSight 37 = .ok (.iconst 0, 1) := by decide +kernel
theorem dX0_addSight_38 : decode cX0_addSight 38 = .ok (.istore 7, 2) := by decide +kernel
theorem dX0_addSight_40 : decode cX0_addSight 40 = .ok (.iload 7, 2) := by decide +kernel
theorem dX0_addSight_42 : decode cX0_addSight 42 = .ok (.iload 6, 2) := by decide +kernel
theorem dX0_addSight_44 : decode cX0_addSight 44 = .ok (.if_icmp .ge 88, 3) := by decide +kernel
theorem dX0_addSight_47 : decode cX0_addSight 47 = .ok (.iload 7, 2) := by decide +kernel
theorem dX0_addSight_49 : decode cX0_addSight 49 = .ok (.aload_n 0, 1) := by decide +kernel
theorem dX0_addSight_50 : decode cX0_addSight 50 = .ok (.getfield 27, 3) := by decide +kernel
theorem dX0_addSight_53 : decode cX0_addSight 53 = .ok (.arraylength, 1) := by decide +kernel
theorem dX0_addSight_54 : decode cX0_addSight 54 = .ok (.if_icmp .ge 78, 3) := by decide +kernel
theorem dX0_addSight_57 : decode cX0_addSight 57 = .ok (.aload_n 0, 1) := by decide +kernel
theorem dX0_addSight_58 : decode cX0_addSight 58 = .ok (.aload_n 0, 1) := by decide +kernel
theorem dX0_addSight_59 : decode cX0_addSight 59 = .ok (.getfield 27, 3) := by decide +kernel
theorem dX0_addSight_62 : decode cX0_addSight 62 = .ok (.iload 7, 2) := by decide +kernel
theorem dX0_addSight_64 : decode cX0_addSight 64 = .ok (.iaload, 1) := by decide +kernel
theorem dX0_addSight_65 : decode cX0_addSight 65 = .ok (.iload 4, 2) := by decide +kernel
theorem dX0_addSight_67 : decode cX0_addSight 67 = .ok (.invokevirtual 68, 3) := by decide +kernel
theorem dX0_addSight_70 : decode cX0_addSight 70 = .ok (.iconst 0, 1) := by decide +kernel
theorem dX0_addSight_71 : decode cX0_addSight 71 = .ok (.istore 8, 2) := by decide +kernel
theorem dX0_addSight_73 : decode cX0_addSight 73 = .ok (.iload 8, 2) := by decide +kernel
theorem dX0_addSight_75 : decode cX0_addSight 75 = .ok (.iload 7, 2) := by decide +kernel
theorem dX0_addSight_77 : decode cX0_addSight 77 = .ok (.if_icmp .ge 49, 3) := by decide +kernel
theorem dX0_addSight_80 : decode cX0_addSight 80 = .ok (.aload_n 0, 1) := by decide +kernel
theorem dX0_addSight_81 : decode cX0_addSight 81 = .ok (.aload_n 0, 1) := by decide +kernel
theorem dX0_addSight_82 : decode cX0_addSight 82 = .ok (.getfield 27, 3) := by decide +kernel
theorem dX0_addSight_85 : decode cX0_addSight 85 = .ok (.iload 7, 2) := by decide +kernel
theorem dX0_addSight_87 : decode cX0_addSight 87 = .ok (.iaload, 1) := by decide +kernel
theorem dX0_addSight_88 : decode cX0_addSight 88 = .ok (.aload_n 0, 1) := by decide +kernel
theorem dX0_addSight_89 : decode cX0_addSight 89 = .ok (.getfield 27, 3) := by decide +kernel
theorem dX0_addSight_92 : decode cX0_addSight 92 = .ok (.iload 8, 2) := by decide +kernel
theorem dX0_addSight_94 : decode cX0_addSight 94 = .ok (.iaload, 1) := by decide +kernel
theorem dX0_addSight_95 : decode cX0_addSight 95 = .ok (.invokestatic 72, 3) := by decide +kernel
theorem dX0_addSight_98 : decode cX0_addSight 98 = .ok (.aload_n 0, 1) := by decide +kernel
theorem dX0_addSight_99 : decode cX0_addSight 99 = .ok (.getfield 27, 3) := by decide +kernel
theorem dX0_addSight_102 : decode cX0_addSight 102 = .ok (.iload 7, 2) := by decide +kernel
theorem dX0_addSight_104 : decode cX0_addSight 104 = .ok (.iaload, 1) := by decide +kernel
theorem dX0_addSight_105 : decode cX0_addSight 105 = .ok (.aload_n 0, 1) := by decide +kernel
theorem dX0_addSight_106 : decode cX0_addSight 106 = .ok (.getfield 27, 3) := by decide +kernel
theorem dX0_addSight_109 : decode cX0_addSight 109 = .ok (.iload 8, 2) := by decide +kernel
theorem dX0_addSight_111 : decode cX0_addSight 111 = .ok (.iaload, 1) := by decide +kernel
theorem dX0_addSight_112 : decode cX0_addSight 112 = .ok (.invokestatic 77, 3) := by decide +kernel
theorem dX0_addSight_115 : decode cX0_addSight 115 = .ok (.iload 4, 2) := by decide +kernel
theorem dX0_addSight_117 : decode cX0_addSight 117 = .ok (.invokevirtual 80, 3) := by decide +kernel
theorem dX0_addSight_120 : decode cX0_addSight 120 = .ok (.iinc 8 1, 3) := by decide +kernel
theorem dX0_addSight_123 : decode cX0_addSight 123 = .ok (.goto (-50), 3) := by decide +kernel
theorem dX0_addSight_126 : decode cX0_addSight 126 = .ok (.iinc 7 1, 3) := by decide +kernel
theorem dX0_addSight_129 : decode cX0_addSight 129 = .ok (.goto (-89), 3) := by decide +kernel
theorem dX0_addSight_132 : decode cX0_addSight 132 = .ok (.return_, 1) := by decide +kernel
theorem dX0_passGaps_0 : decode cX0_passGaps 0 = .ok (.iload_n 2, 1) := by decide +kernel
theorem dX0_passGaps_1 : decode cX0_passGaps 1 = .ok (.istore 5, 2) := by decide +kernel
theorem dX0_passGaps_3 : decode cX0_passGaps 3 = .ok (.iconst 0, 1) := by decide +kernel
theorem dX0_passGaps_4 : decode cX0_passGaps 4 = .ok (.istore 6, 2) := by decide +kernel
theorem dX0_passGaps_6 : decode cX0_passGaps 6 = .ok (.iload 6, 2) := by decide +kernel
theorem dX0_passGaps_8 : decode cX0_passGaps 8 = .ok (.aload_n 0, 1) := by decide +kernel
theorem dX0_passGaps_9 : decode cX0_passGaps 9 = .ok (.getfield 27, 3) := by decide +kernel
theorem dX0_passGaps_12 : decode cX0_passGaps 12 = .ok (.arraylength, 1) := by decide +kernel
theorem dX0_passGaps_13 : decode cX0_passGaps 13 = .ok (.if_icmp .ge 104, 3) := by decide +kernel
theorem dX0_passGaps_16 : decode cX0_passGaps 16 = .ok (.iload 5, 2) := by decide +kernel
theorem dX0_passGaps_18 : decode cX0_passGaps 18 = .ok (.iload_n 3, 1) := by decide +kernel
theorem dX0_passGaps_19 : decode cX0_passGaps 19 = .ok (.if_icmp .ne 8, 3) := by decide +kernel
theorem dX0_passGaps_22 : decode cX0_passGaps 22 = .ok (.bipush (-9), 2) := by decide +kernel
theorem dX0_passGaps_24 : decode cX0_passGaps 24 = .ok (.goto 11, 3) := by decide +kernel
theorem dX0_passGaps_27 : decode cX0_passGaps 27 = .ok (.aload_n 1, 1) := by decide +kernel
theorem dX0_passGaps_28 : decode cX0_passGaps 28 = .ok (.iload 5, 2) := by decide +kernel
theorem dX0_passGaps_30 : decode cX0_passGaps 30 = .ok (.iload 4, 2) := by decide +kernel
theorem dX0_passGaps_32 : decode cX0_passGaps 32 = .ok (.invokevirtual 46, 3) := by decide +kernel
theorem dX0_passGaps_35 : decode cX0_passGaps 35 = .ok (.istore 7, 2) := by decide +kernel
theorem dX0_passGaps_37 : decode cX0_passGaps 37 = .ok (.iload 7, 2) := by decide +kernel
theorem dX0_passGaps_39 : decode cX0_passGaps 39 = .ok (.bipush (-9), 2) := by decide +kernel
theorem dX0_passGaps_41 : decode cX0_passGaps 41 = .ok (.if_icmp .ne 23, 3) := by decide +kernel
theorem dX0_passGaps_44 : decode cX0_passGaps 44 = .ok (.iload_n 3, 1) := by decide +kernel
theorem dX0_passGaps_45 : decode cX0_passGaps 45 = .ok (.bipush (-9), 2) := by decide +kernel
theorem dX0_passGaps_47 : decode cX0_passGaps 47 = .ok (.if_icmp .eq 9, 3) := by decide +kernel
theorem dX0_passGaps_50 : decode cX0_passGaps 50 = .ok (.iload 5, 2) := by decide +kernel
theorem dX0_passGaps_52 : decode cX0_passGaps 52 = .ok (.iload_n 3, 1) := by decide +kernel
theorem dX0_passGaps_53 : decode cX0_passGaps 53 = .ok (.if_icmp .ne 8, 3) := by decide +kernel
theorem dX0_passGaps_56 : decode cX0_passGaps 56 = .ok (.iload 6, 2) := by decide +kernel
theorem dX0_passGaps_58 : decode cX0_passGaps 58 = .ok (.goto 5, 3) := by decide +kernel
theorem dX0_passGaps_61 : decode cX0_passGaps 61 = .ok (.bipush (-9), 2) := by decide +kernel
theorem dX0_passGaps_63 : decode cX0_passGaps 63 = .ok (.ireturn, 1) := by decide +kernel
theorem dX0_passGaps_64 : decode cX0_passGaps 64 = .ok (.aload_n 1, 1) := by decide +kernel
theorem dX0_passGaps_65 : decode cX0_passGaps 65 = .ok (.iload 5, 2) := by decide +kernel
theorem dX0_passGaps_67 : decode cX0_passGaps 67 = .ok (.iload 7, 2) := by decide +kernel
theorem dX0_passGaps_69 : decode cX0_passGaps 69 = .ok (.invokevirtual 50, 3) := by decide +kernel
theorem dX0_passGaps_72 : decode cX0_passGaps 72 = .ok (.istore 8, 2) := by decide +kernel
theorem dX0_passGaps_74 : decode cX0_passGaps 74 = .ok (.aload_n 0, 1) := by decide +kernel
theorem dX0_passGaps_75 : decode cX0_passGaps 75 = .ok (.getfield 27, 3) := by decide +kernel
theorem dX0_passGaps_78 : decode cX0_passGaps 78 = .ok (.iload 6, 2) := by decide +kernel
theorem dX0_passGaps_80 : decode cX0_passGaps 80 = .ok (.iload 8, 2) := by decide +kernel
theorem dX0_passGaps_82 : decode cX0_passGaps 82 = .ok (.ifCond .lt 23, 3) := by decide +kernel
theorem dX0_passGaps_85 : decode cX0_passGaps 85 = .ok (.iload 8, 2) := by decide +kernel
theorem dX0_passGaps_87 : decode cX0_passGaps 87 = .ok (.aload_n 0, 1) := by decide +kernel
theorem dX0_passGaps_88 : decode cX0_passGaps 88 = .ok (.getfield 15, 3) := by decide +kernel
theorem dX0_passGaps_91 : decode cX0_passGaps 91 = .ok (.arraylength, 1) := by decide +kernel
theorem dX0_passGaps_92 : decode cX0_passGaps 92 = .ok (.if_icmp .ge 13, 3) := by decide +kernel
theorem dX0_passGaps_95 : decode cX0_passGaps 95 = .ok (.aload_n 0, 1) := by decide +kernel
theorem dX0_passGaps_96 : decode cX0_passGaps 96 = .ok (.getfield 15, 3) := by decide +kernel
theorem dX0_passGaps_99 : decode cX0_passGaps 99 = .ok (.iload 8, 2) := by decide +kernel
theorem dX0_passGaps_101 : decode cX0_passGaps 101 = .ok (.iaload, 1) := by decide +kernel
theorem dX0_passGaps_102 : decode cX0_passGaps 102 = .ok (.goto 4, 3) := by decide +kernel
theorem dX0_passGaps_105 : decode cX0_passGaps 105 = .ok (.iconst 0, 1) := by decide +kernel
theorem dX0_passGaps_106 : decode cX0_passGaps 106 = .ok (.iastore, 1) := by decide +kernel
theorem dX0_passGaps_107 : decode cX0_passGaps 107 = .ok (.iload 7, 2) := by decide +kernel
theorem dX0_passGaps_109 : decode cX0_passGaps 109 = .ok (.istore 5, 2) := by decide +kernel
theorem dX0_passGaps_111 : decode cX0_passGaps 111 = .ok (.iinc 6 1, 3) := by decide +kernel
theorem dX0_passGaps_114 : decode cX0_passGaps 114 = .ok (.goto (-108), 3) := by decide +kernel
theorem dX0_passGaps_117 : decode cX0_passGaps 117 = .ok (.bipush (-9), 2) := by decide +kernel
theorem dX0_passGaps_119 : decode cX0_passGaps 119 = .ok (.ireturn, 1) := by decide +kernel
theorem dX0_addAlone_0 : decode cX0_addAlone 0 = .ok (.iload_n 1, 1) := by decide +kernel
theorem dX0_addAlone_1 : decode cX0_addAlone 1 = .ok (.ifCond .lt 22, 3) := by decide +kernel
theorem dX0_addAlone_4 : decode cX0_addAlone 4 = .ok (.iload_n 1, 1) := by decide +kernel
theorem dX0_addAlone_5 : decode cX0_addAlone 5 = .ok (.aload_n 0, 1) := by decide +kernel
theorem dX0_addAlone_6 : decode cX0_addAlone 6 = .ok (.getfield 21, 3) := by decide +kernel
theorem dX0_addAlone_9 : decode cX0_addAlone 9 = .ok (.arraylength, 1) := by decide +kernel
theorem dX0_addAlone_10 : decode cX0_addAlone 10 = .ok (.if_icmp .ge 13, 3) := by decide +kernel
theorem dX0_addAlone_13 : decode cX0_addAlone 13 = .ok (.aload_n 0, 1) := by decide +kernel
theorem dX0_addAlone_14 : decode cX0_addAlone 14 = .ok (.getfield 21, 3) := by decide +kernel
theorem dX0_addAlone_17 : decode cX0_addAlone 17 = .ok (.iload_n 1, 1) := by decide +kernel
theorem dX0_addAlone_18 : decode cX0_addAlone 18 = .ok (.dup2, 1) := by decide +kernel
theorem dX0_addAlone_19 : decode cX0_addAlone 19 = .ok (.iaload, 1) := by decide +kernel
theorem dX0_addAlone_20 : decode cX0_addAlone 20 = .ok (.iload_n 2, 1) := by decide +kernel
theorem dX0_addAlone_21 : decode cX0_addAlone 21 = .ok (.iadd, 1) := by decide +kernel
theorem dX0_addAlone_22 : decode cX0_addAlone 22 = .ok (.iastore, 1) := by decide +kernel
theorem dX0_addAlone_23 : decode cX0_addAlone 23 = .ok (.return_, 1) := by decide +kernel
theorem dX0_addBoth_0 : decode cX0_addBoth 0 = .ok (.iload_n 1, 1) := by decide +kernel
theorem dX0_addBoth_1 : decode cX0_addBoth 1 = .ok (.bipush 52, 2) := by decide +kernel
theorem dX0_addBoth_3 : decode cX0_addBoth 3 = .ok (.imul, 1) := by decide +kernel
theorem dX0_addBoth_4 : decode cX0_addBoth 4 = .ok (.iload_n 2, 1) := by decide +kernel
theorem dX0_addBoth_5 : decode cX0_addBoth 5 = .ok (.iadd, 1) := by decide +kernel
theorem dX0_addBoth_6 : decode cX0_addBoth 6 = .ok (.istore 4, 2) := by decide +kernel
theorem dX0_addBoth_8 : decode cX0_addBoth 8 = .ok (.iload 4, 2) := by decide +kernel
theorem dX0_addBoth_10 : decode cX0_addBoth 10 = .ok (.ifCond .lt 24, 3) := by decide +kernel
theorem dX0_addBoth_13 : decode cX0_addBoth 13 = .ok (.iload 4, 2) := by decide +kernel
theorem dX0_addBoth_15 : decode cX0_addBoth 15 = .ok (.aload_n 0, 1) := by decide +kernel
theorem dX0_addBoth_16 : decode cX0_addBoth 16 = .ok (.getfield 24, 3) := by decide +kernel
theorem dX0_addBoth_19 : decode cX0_addBoth 19 = .ok (.arraylength, 1) := by decide +kernel
theorem dX0_addBoth_20 : decode cX0_addBoth 20 = .ok (.if_icmp .ge 14, 3) := by decide +kernel
theorem dX0_addBoth_23 : decode cX0_addBoth 23 = .ok (.aload_n 0, 1) := by decide +kernel
theorem dX0_addBoth_24 : decode cX0_addBoth 24 = .ok (.getfield 24, 3) := by decide +kernel
theorem dX0_addBoth_27 : decode cX0_addBoth 27 = .ok (.iload 4, 2) := by decide +kernel
theorem dX0_addBoth_29 : decode cX0_addBoth 29 = .ok (.dup2, 1) := by decide +kernel
theorem dX0_addBoth_30 : decode cX0_addBoth 30 = .ok (.iaload, 1) := by decide +kernel
theorem dX0_addBoth_31 : decode cX0_addBoth 31 = .ok (.iload_n 3, 1) := by decide +kernel
theorem dX0_addBoth_32 : decode cX0_addBoth 32 = .ok (.iadd, 1) := by decide +kernel
theorem dX0_addBoth_33 : decode cX0_addBoth 33 = .ok (.iastore, 1) := by decide +kernel
theorem dX0_addBoth_34 : decode cX0_addBoth 34 = .ok (.return_, 1) := by decide +kernel
theorem dX0_savedAlone_0 : decode cX0_savedAlone 0 = .ok (.iload_n 1, 1) := by decide +kernel
theorem dX0_savedAlone_1 : decode cX0_savedAlone 1 = .ok (.ifCond .lt 21, 3) := by decide +kernel
theorem dX0_savedAlone_4 : decode cX0_savedAlone 4 = .ok (.iload_n 1, 1) := by decide +kernel
theorem dX0_savedAlone_5 : decode cX0_savedAlone 5 = .ok (.aload_n 0, 1) := by decide +kernel
theorem dX0_savedAlone_6 : decode cX0_savedAlone 6 = .ok (.getfield 21, 3) := by decide +kernel
theorem dX0_savedAlone_9 : decode cX0_savedAlone 9 = .ok (.arraylength, 1) := by decide +kernel
theorem dX0_savedAlone_10 : decode cX0_savedAlone 10 = .ok (.if_icmp .ge 12, 3) := by decide +kernel
theorem dX0_savedAlone_13 : decode cX0_savedAlone 13 = .ok (.aload_n 0, 1) := by decide +kernel
theorem dX0_savedAlone_14 : decode cX0_savedAlone 14 = .ok (.getfield 21, 3) := by decide +kernel
theorem dX0_savedAlone_17 : decode cX0_savedAlone 17 = .ok (.iload_n 1, 1) := by decide +kernel
theorem dX0_savedAlone_18 : decode cX0_savedAlone 18 = .ok (.iaload, 1) := by decide +kernel
theorem dX0_savedAlone_19 : decode cX0_savedAlone 19 = .ok (.goto 4, 3) := by decide +kernel
theorem dX0_savedAlone_22 : decode cX0_savedAlone 22 = .ok (.iconst 0, 1) := by decide +kernel
theorem dX0_savedAlone_23 : decode cX0_savedAlone 23 = .ok (.ireturn, 1) := by decide +kernel
theorem dX0_savedBoth_0 : decode cX0_savedBoth 0 = .ok (.iload_n 1, 1) := by decide +kernel
theorem dX0_savedBoth_1 : decode cX0_savedBoth 1 = .ok (.bipush 52, 2) := by decide +kernel
theorem dX0_savedBoth_3 : decode cX0_savedBoth 3 = .ok (.imul, 1) := by decide +kernel
theorem dX0_savedBoth_4 : decode cX0_savedBoth 4 = .ok (.iload_n 2, 1) := by decide +kernel
theorem dX0_savedBoth_5 : decode cX0_savedBoth 5 = .ok (.iadd, 1) := by decide +kernel
theorem dX0_savedBoth_6 : decode cX0_savedBoth 6 = .ok (.istore_n 3, 1) := by decide +kernel
theorem dX0_savedBoth_7 : decode cX0_savedBoth 7 = .ok (.iload_n 3, 1) := by decide +kernel
theorem dX0_savedBoth_8 : decode cX0_savedBoth 8 = .ok (.ifCond .lt 21, 3) := by decide +kernel
theorem dX0_savedBoth_11 : decode cX0_savedBoth 11 = .ok (.iload_n 3, 1) := by decide +kernel
theorem dX0_savedBoth_12 : decode cX0_savedBoth 12 = .ok (.aload_n 0, 1) := by decide +kernel
theorem dX0_savedBoth_13 : decode cX0_savedBoth 13 = .ok (.getfield 24, 3) := by decide +kernel
theorem dX0_savedBoth_16 : decode cX0_savedBoth 16 = .ok (.arraylength, 1) := by decide +kernel
theorem dX0_savedBoth_17 : decode cX0_savedBoth 17 = .ok (.if_icmp .ge 12, 3) := by decide +kernel
theorem dX0_savedBoth_20 : decode cX0_savedBoth 20 = .ok (.aload_n 0, 1) := by decide +kernel
theorem dX0_savedBoth_21 : decode cX0_savedBoth 21 = .ok (.getfield 24, 3) := by decide +kernel
theorem dX0_savedBoth_24 : decode cX0_savedBoth 24 = .ok (.iload_n 3, 1) := by decide +kernel
theorem dX0_savedBoth_25 : decode cX0_savedBoth 25 = .ok (.iaload, 1) := by decide +kernel
theorem dX0_savedBoth_26 : decode cX0_savedBoth 26 = .ok (.goto 4, 3) := by decide +kernel
theorem dX0_savedBoth_29 : decode cX0_savedBoth 29 = .ok (.iconst 0, 1) := by decide +kernel
theorem dX0_savedBoth_30 : decode cX0_savedBoth 30 = .ok (.ireturn, 1) := by decide +kernel
theorem dX0_isOneLine_0 : decode cX0_isOneLine 0 = .ok (.iload_n 1, 1) := by decide +kernel
theorem dX0_isOneLine_1 : decode cX0_isOneLine 1 = .ok (.ifCond .lt 44, 3) := by decide +kernel
theorem dX0_isOneLine_4 : decode cX0_isOneLine 4 = .ok (.iload_n 1, 1) := by decide +kernel
theorem dX0_isOneLine_5 : decode cX0_isOneLine 5 = .ok (.aload_n 0, 1) := by decide +kernel
theorem dX0_isOneLine_6 : decode cX0_isOneLine 6 = .ok (.getfield 18, 3) := by decide +kernel
theorem dX0_isOneLine_9 : decode cX0_isOneLine 9 = .ok (.arraylength, 1) := by decide +kernel
theorem dX0_isOneLine_10 : decode cX0_isOneLine 10 = .ok (.if_icmp .ge 35, 3) := by decide +kernel
theorem dX0_isOneLine_13 : decode cX0_isOneLine 13 = .ok (.iload_n 2, 1) := by decide +kernel
theorem dX0_isOneLine_14 : decode cX0_isOneLine 14 = .ok (.ifCond .lt 31, 3) := by decide +kernel
theorem dX0_isOneLine_17 : decode cX0_isOneLine 17 = .ok (.iload_n 2, 1) := by decide +kernel
theorem dX0_isOneLine_18 : decode cX0_isOneLine 18 = .ok (.aload_n 0, 1) := by decide +kernel
theorem dX0_isOneLine_19 : decode cX0_isOneLine 19 = .ok (.getfield 18, 3) := by decide +kernel
theorem dX0_isOneLine_22 : decode cX0_isOneLine 22 = .ok (.arraylength, 1) := by decide +kernel
theorem dX0_isOneLine_23 : decode cX0_isOneLine 23 = .ok (.if_icmp .ge 22, 3) := by decide +kernel
theorem dX0_isOneLine_26 : decode cX0_isOneLine 26 = .ok (.aload_n 0, 1) := by decide +kernel
theorem dX0_isOneLine_27 : decode cX0_isOneLine 27 = .ok (.getfield 18, 3) := by decide +kernel
theorem dX0_isOneLine_30 : decode cX0_isOneLine 30 = .ok (.iload_n 1, 1) := by decide +kernel
theorem dX0_isOneLine_31 : decode cX0_isOneLine 31 = .ok (.iaload, 1) := by decide +kernel
theorem dX0_isOneLine_32 : decode cX0_isOneLine 32 = .ok (.aload_n 0, 1) := by decide +kernel
theorem dX0_isOneLine_33 : decode cX0_isOneLine 33 = .ok (.getfield 18, 3) := by decide +kernel
theorem dX0_isOneLine_36 : decode cX0_isOneLine 36 = .ok (.iload_n 2, 1) := by decide +kernel
theorem dX0_isOneLine_37 : decode cX0_isOneLine 37 = .ok (.iaload, 1) := by decide +kernel
theorem dX0_isOneLine_38 : decode cX0_isOneLine 38 = .ok (.if_icmp .ne 7, 3) := by decide +kernel
theorem dX0_isOneLine_41 : decode cX0_isOneLine 41 = .ok (.iconst 1, 1) := by decide +kernel
theorem dX0_isOneLine_42 : decode cX0_isOneLine 42 = .ok (.goto 4, 3) := by decide +kernel
theorem dX0_isOneLine_45 : decode cX0_isOneLine 45 = .ok (.iconst 0, 1) := by decide +kernel
theorem dX0_isOneLine_46 : decode cX0_isOneLine 46 = .ok (.ireturn, 1) := by decide +kernel
theorem dX0_search_0 : decode cX0_search 0 = .ok (.aload_n 0, 1) := by decide +kernel
theorem dX0_search_1 : decode cX0_search 1 = .ok (.iconst 0, 1) := by decide +kernel
theorem dX0_search_2 : decode cX0_search 2 = .ok (.putfield 84, 3) := by decide +kernel
theorem dX0_search_5 : decode cX0_search 5 = .ok (.iconst 0, 1) := by decide +kernel
theorem dX0_search_6 : decode cX0_search 6 = .ok (.istore_n 2, 1) := by decide +kernel
theorem dX0_search_7 : decode cX0_search 7 = .ok (.iload_n 2, 1) := by decide +kernel
theorem dX0_search_8 : decode cX0_search 8 = .ok (.aload_n 0, 1) := by decide +kernel
theorem dX0_search_9 : decode cX0_search 9 = .ok (.getfield 33, 3) := by decide +kernel
theorem dX0_search_12 : decode cX0_search 12 = .ok (.if_icmp .ge 37, 3) := by decide +kernel
theorem dX0_search_15 : decode cX0_search 15 = .ok (.iload_n 1, 1) := by decide +kernel
theorem dX0_search_16 : decode cX0_search 16 = .ok (.iconst 1, 1) := by decide +kernel
theorem dX0_search_17 : decode cX0_search 17 = .ok (.if_icmp .ne 20, 3) := by decide +kernel
theorem dX0_search_20 : decode cX0_search 20 = .ok (.aload_n 0, 1) := by decide +kernel
theorem dX0_search_21 : decode cX0_search 21 = .ok (.aload_n 0, 1) := by decide +kernel
theorem dX0_search_22 : decode cX0_search 22 = .ok (.iload_n 2, 1) := by decide +kernel
theorem dX0_search_23 : decode cX0_search 23 = .ok (.invokevirtual 87, 3) := by decide +kernel
theorem dX0_search_26 : decode cX0_search 26 = .ok (.iload_n 2, 1) := by decide +kernel
theorem dX0_search_27 : decode cX0_search 27 = .ok (.bipush (-9), 2) := by decide +kernel
theorem dX0_search_29 : decode cX0_search 29 = .ok (.bipush (-9), 2) := by decide +kernel
theorem dX0_search_31 : decode cX0_search 31 = .ok (.invokevirtual 90, 3) := by decide +kernel
theorem dX0_search_34 : decode cX0_search 34 = .ok (.goto 9, 3) := by decide +kernel
theorem dX0_search_37 : decode cX0_search 37 = .ok (.aload_n 0, 1) := by decide +kernel
theorem dX0_search_38 : decode cX0_search 38 = .ok (.iload_n 1, 1) := by decide +kernel
theorem dX0_search_39 : decode cX0_search 39 = .ok (.iload_n 2, 1) := by decide +kernel
theorem dX0_search_40 : decode cX0_search 40 = .ok (.invokevirtual 94, 3) := by decide +kernel
theorem dX0_search_43 : decode cX0_search 43 = .ok (.iinc 2 1, 3) := by decide +kernel
theorem dX0_search_46 : decode cX0_search 46 = .ok (.goto (-39), 3) := by decide +kernel
theorem dX0_search_49 : decode cX0_search 49 = .ok (.return_, 1) := by decide +kernel
theorem dX0_searchSecond_0 : decode cX0_searchSecond 0 = .ok (.iload_n 2, 1) := by decide +kernel
theorem dX0_searchSecond_1 : decode cX0_searchSecond 1 = .ok (.iconst 1, 1) := by decide +kernel
theorem dX0_searchSecond_2 : decode cX0_searchSecond 2 = .ok (.iadd, 1) := by decide +kernel
theorem dX0_searchSecond_3 : decode cX0_searchSecond 3 = .ok (.istore_n 3, 1) := by decide +kernel
theorem dX0_searchSecond_4 : decode cX0_searchSecond 4 = .ok (.iload_n 3, 1) := by decide +kernel
theorem dX0_searchSecond_5 : decode cX0_searchSecond 5 = .ok (.aload_n 0, 1) := by decide +kernel
theorem dX0_searchSecond_6 : decode cX0_searchSecond 6 = .ok (.getfield 33, 3) := by decide +kernel
theorem dX0_searchSecond_9 : decode cX0_searchSecond 9 = .ok (.if_icmp .ge 55, 3) := by decide +kernel
theorem dX0_searchSecond_12 : decode cX0_searchSecond 12 = .ok (.aload_n 0, 1) := by decide +kernel
theorem dX0_searchSecond_13 : decode cX0_searchSecond 13 = .ok (.iload_n 2, 1) := by decide +kernel
theorem dX0_searchSecond_14 : decode cX0_searchSecond 14 = .ok (.invokevirtual 87, 3) := by decide +kernel
theorem dX0_searchSecond_17 : decode cX0_searchSecond 17 = .ok (.aload_n 0, 1) := by decide +kernel
theorem dX0_searchSecond_18 : decode cX0_searchSecond 18 = .ok (.iload_n 3, 1) := by decide +kernel
theorem dX0_searchSecond_19 : decode cX0_searchSecond 19 = .ok (.invokevirtual 87, 3) := by decide +kernel
theorem dX0_searchSecond_22 : decode cX0_searchSecond 22 = .ok (.iadd, 1) := by decide +kernel
theorem dX0_searchSecond_23 : decode cX0_searchSecond 23 = .ok (.aload_n 0, 1) := by decide +kernel
theorem dX0_searchSecond_24 : decode cX0_searchSecond 24 = .ok (.iload_n 2, 1) := by decide +kernel
theorem dX0_searchSecond_25 : decode cX0_searchSecond 25 = .ok (.iload_n 3, 1) := by decide +kernel
theorem dX0_searchSecond_26 : decode cX0_searchSecond 26 = .ok (.invokevirtual 97, 3) := by decide +kernel
theorem dX0_searchSecond_29 : decode cX0_searchSecond 29 = .ok (.isub, 1) := by decide +kernel
theorem dX0_searchSecond_30 : decode cX0_searchSecond 30 = .ok (.istore 4, 2) := by decide +kernel
theorem dX0_searchSecond_32 : decode cX0_searchSecond 32 = .ok (.iload_n 1, 1) := by decide +kernel
theorem dX0_searchSecond_33 : decode cX0_searchSecond 33 = .ok (.iconst 2, 1) := by decide +kernel
theorem dX0_searchSecond_34 : decode cX0_searchSecond 34 = .ok (.if_icmp .ne 16, 3) := by decide +kernel
theorem dX0_searchSecond_37 : decode cX0_searchSecond 37 = .ok (.aload_n 0, 1) := by decide +kernel
theorem dX0_searchSecond_38 : decode cX0_searchSecond 38 = .ok (.iload 4, 2) := by decide +kernel
theorem dX0_searchSecond_40 : decode cX0_searchSecond 40 = .ok (.iload_n 2, 1) := by decide +kernel
theorem dX0_searchSecond_41 : decode cX0_searchSecond 41 = .ok (.iload_n 3, 1) := by decide +kernel
theorem dX0_searchSecond_42 : decode cX0_searchSecond 42 = .ok (.bipush (-9), 2) := by decide +kernel
theorem dX0_searchSecond_44 : decode cX0_searchSecond 44 = .ok (.invokevirtual 90, 3) := by decide +kernel
theorem dX0_searchSecond_47 : decode cX0_searchSecond 47 = .ok (.goto 11, 3) := by decide +kernel
theorem dX0_searchSecond_50 : decode cX0_searchSecond 50 = .ok (.aload_n 0, 1) := by decide +kernel
theorem dX0_searchSecond_51 : decode cX0_searchSecond 51 = .ok (.iload 4, 2) := by decide +kernel
theorem dX0_searchSecond_53 : decode cX0_searchSecond 53 = .ok (.iload_n 2, 1) := by decide +kernel
theorem dX0_searchSecond_54 : decode cX0_searchSecond 54 = .ok (.iload_n 3, 1) := by decide +kernel
theorem dX0_searchSecond_55 : decode cX0_searchSecond 55 = .ok (.invokevirtual 100, 3) := by decide +kernel
theorem dX0_searchSecond_58 : decode cX0_searchSecond 58 = .ok (.iinc 3 1, 3) := by decide +kernel
theorem dX0_searchSecond_61 : decode cX0_searchSecond 61 = .ok (.goto (-57), 3) := by decide +kernel
theorem dX0_searchSecond_64 : decode cX0_searchSecond 64 = .ok (.return_, 1) := by decide +kernel
theorem dX0_searchThird_0 : decode cX0_searchThird 0 = .ok (.aload_n 0, 1) := by decide +kernel
theorem dX0_searchThird_1 : decode cX0_searchThird 1 = .ok (.iload_n 2, 1) := by decide +kernel
theorem dX0_searchThird_2 : decode cX0_searchThird 2 = .ok (.iload_n 3, 1) := by decide +kernel
theorem dX0_searchThird_3 : decode cX0_searchThird 3 = .ok (.invokevirtual 103, 3) := by decide +kernel
theorem dX0_searchThird_6 : decode cX0_searchThird 6 = .ok (.istore 4, 2) := by decide +kernel
theorem dX0_searchThird_8 : decode cX0_searchThird 8 = .ok (.iload_n 3, 1) := by decide +kernel
theorem dX0_searchThird_9 : decode cX0_searchThird 9 = .ok (.iconst 1, 1) := by decide +kernel
theorem dX0_searchThird_10 : decode cX0_searchThird 10 = .ok (.iadd, 1) := by decide +kernel
theorem dX0_searchThird_11 : decode cX0_searchThird 11 = .ok (.istore 5, 2) := by decide +kernel
theorem dX0_searchThird_13 : decode cX0_searchThird 13 = .ok (.iload 5, 2) := by decide +kernel
theorem dX0_searchThird_15 : decode cX0_searchThird 15 = .ok (.aload_n 0, 1) := by decide +kernel
theorem dX0_searchThird_16 : decode cX0_searchThird 16 = .ok (.getfield 33, 3) := by decide +kernel
theorem dX0_searchThird_19 : decode cX0_searchThird 19 = .ok (.if_icmp .ge 72, 3) := by decide +kernel
theorem dX0_searchThird_22 : decode cX0_searchThird 22 = .ok (.aload_n 0, 1) := by decide +kernel
theorem dX0_searchThird_23 : decode cX0_searchThird 23 = .ok (.iload 5, 2) := by decide +kernel
theorem dX0_searchThird_25 : decode cX0_searchThird 25 = .ok (.invokevirtual 87, 3) := by decide +kernel
theorem dX0_searchThird_28 : decode cX0_searchThird 28 = .ok (.aload_n 0, 1) := by decide +kernel
theorem dX0_searchThird_29 : decode cX0_searchThird 29 = .ok (.iload_n 3, 1) := by decide +kernel
theorem dX0_searchThird_30 : decode cX0_searchThird 30 = .ok (.iload 5, 2) := by decide +kernel
theorem dX0_searchThird_32 : decode cX0_searchThird 32 = .ok (.invokevirtual 97, 3) := by decide +kernel
theorem dX0_searchThird_35 : decode cX0_searchThird 35 = .ok (.isub, 1) := by decide +kernel
theorem dX0_searchThird_36 : decode cX0_searchThird 36 = .ok (.iload 4, 2) := by decide +kernel
theorem dX0_searchThird_38 : decode cX0_searchThird 38 = .ok (.ifCond .eq 7, 3) := by decide +kernel
theorem dX0_searchThird_41 : decode cX0_searchThird 41 = .ok (.iconst 0, 1) := by decide +kernel
theorem dX0_searchThird_42 : decode cX0_searchThird 42 = .ok (.goto 10, 3) := by decide +kernel
theorem dX0_searchThird_45 : decode cX0_searchThird 45 = .ok (.aload_n 0, 1) := by decide +kernel
theorem dX0_searchThird_46 : decode cX0_searchThird 46 = .ok (.iload_n 2, 1) := by decide +kernel
theorem dX0_searchThird_47 : decode cX0_searchThird 47 = .ok (.iload 5, 2) := by decide +kernel
theorem dX0_searchThird_49 : decode cX0_searchThird 49 = .ok (.invokevirtual 97, 3) := by decide +kernel
theorem dX0_searchThird_52 : decode cX0_searchThird 52 = .ok (.isub, 1) := by decide +kernel
theorem dX0_searchThird_53 : decode cX0_searchThird 53 = .ok (.istore 6, 2) := by decide +kernel
theorem dX0_searchThird_55 : decode cX0_searchThird 55 = .ok (.aload_n 0, 1) := by decide +kernel
theorem dX0_searchThird_56 : decode cX0_searchThird 56 = .ok (.getfield 84, 3) := by decide +kernel
theorem dX0_searchThird_59 : decode cX0_searchThird 59 = .ok (.ifCond .eq 14, 3) := by decide +kernel
theorem dX0_searchThird_62 : decode cX0_searchThird 62 = .ok (.iload_n 1, 1) := by decide +kernel
theorem dX0_searchThird_63 : decode cX0_searchThird 63 = .ok (.iload 6, 2) := by decide +kernel
theorem dX0_searchThird_65 : decode cX0_searchThird 65 = .ok (.iadd, 1) := by decide +kernel
theorem dX0_searchThird_66 : decode cX0_searchThird 66 = .ok (.aload_n 0, 1) := by decide +kernel
theorem dX0_searchThird_67 : decode cX0_searchThird 67 = .ok (.getfield 107, 3) := by decide +kernel
theorem dX0_searchThird_70 : decode cX0_searchThird 70 = .ok (.if_icmp .le 15, 3) := by decide +kernel
theorem dX0_searchThird_73 : decode cX0_searchThird 73 = .ok (.aload_n 0, 1) := by decide +kernel
theorem dX0_searchThird_74 : decode cX0_searchThird 74 = .ok (.iload_n 1, 1) := by decide +kernel
theorem dX0_searchThird_75 : decode cX0_searchThird 75 = .ok (.iload 6, 2) := by decide +kernel
theorem dX0_searchThird_77 : decode cX0_searchThird 77 = .ok (.iadd, 1) := by decide +kernel
theorem dX0_searchThird_78 : decode cX0_searchThird 78 = .ok (.iload_n 2, 1) := by decide +kernel
theorem dX0_searchThird_79 : decode cX0_searchThird 79 = .ok (.iload_n 3, 1) := by decide +kernel
theorem dX0_searchThird_80 : decode cX0_searchThird 80 = .ok (.iload 5, 2) := by decide +kernel
theorem dX0_searchThird_82 : decode cX0_searchThird 82 = .ok (.invokevirtual 90, 3) := by decide +kernel
theorem dX0_searchThird_85 : decode cX0_searchThird 85 = .ok (.iinc 5 1, 3) := by decide +kernel
theorem dX0_searchThird_88 : decode cX0_searchThird 88 = .ok (.goto (-75), 3) := by decide +kernel
theorem dX0_searchThird_91 : decode cX0_searchThird 91 = .ok (.return_, 1) := by decide +kernel
theorem dX0_offer_0 : decode cX0_offer 0 = .ok (.aload_n 0, 1) := by decide +kernel
theorem dX0_offer_1 : decode cX0_offer 1 = .ok (.getfield 84, 3) := by decide +kernel
theorem dX0_offer_4 : decode cX0_offer 4 = .ok (.ifCond .eq 12, 3) := by decide +kernel
theorem dX0_offer_7 : decode cX0_offer 7 = .ok (.iload_n 1, 1) := by decide +kernel
theorem dX0_offer_8 : decode cX0_offer 8 = .ok (.aload_n 0, 1) := by decide +kernel
theorem dX0_offer_9 : decode cX0_offer 9 = .ok (.getfield 107, 3) := by decide +kernel
theorem dX0_offer_12 : decode cX0_offer 12 = .ok (.if_icmp .gt 4, 3) := by decide +kernel
theorem dX0_offer_15 : decode cX0_offer 15 = .ok (.return_, 1) := by decide +kernel
theorem dX0_offer_16 : decode cX0_offer 16 = .ok (.aload_n 0, 1) := by decide +kernel
theorem dX0_offer_17 : decode cX0_offer 17 = .ok (.iload_n 1, 1) := by decide +kernel
theorem dX0_offer_18 : decode cX0_offer 18 = .ok (.putfield 107, 3) := by decide +kernel
theorem dX0_offer_21 : decode cX0_offer 21 = .ok (.aload_n 0, 1) := by decide +kernel
theorem dX0_offer_22 : decode cX0_offer 22 = .ok (.getfield 30, 3) := by decide +kernel
theorem dX0_offer_25 : decode cX0_offer 25 = .ok (.arraylength, 1) := by decide +kernel
theorem dX0_offer_26 : decode cX0_offer 26 = .ok (.iconst 3, 1) := by decide +kernel
theorem dX0_offer_27 : decode cX0_offer 27 = .ok (.if_icmp .lt 25, 3) := by decide +kernel
theorem dX0_offer_30 : decode cX0_offer 30 = .ok (.aload_n 0, 1) := by decide +kernel
theorem dX0_offer_31 : decode cX0_offer 31 = .ok (.getfield 30, 3) := by decide +kernel
theorem dX0_offer_34 : decode cX0_offer 34 = .ok (.iconst 0, 1) := by decide +kernel
theorem dX0_offer_35 : decode cX0_offer 35 = .ok (.iload_n 2, 1) := by decide +kernel
theorem dX0_offer_36 : decode cX0_offer 36 = .ok (.iastore, 1) := by decide +kernel
theorem dX0_offer_37 : decode cX0_offer 37 = .ok (.aload_n 0, 1) := by decide +kernel
theorem dX0_offer_38 : decode cX0_offer 38 = .ok (.getfield 30, 3) := by decide +kernel
theorem dX0_offer_41 : decode cX0_offer 41 = .ok (.iconst 1, 1) := by decide +kernel
theorem dX0_offer_42 : decode cX0_offer 42 = .ok (.iload_n 3, 1) := by decide +kernel
theorem dX0_offer_43 : decode cX0_offer 43 = .ok (.iastore, 1) := by decide +kernel
theorem dX0_offer_44 : decode cX0_offer 44 = .ok (.aload_n 0, 1) := by decide +kernel
theorem dX0_offer_45 : decode cX0_offer 45 = .ok (.getfield 30, 3) := by decide +kernel
theorem dX0_offer_48 : decode cX0_offer 48 = .ok (.iconst 2, 1) := by decide +kernel
theorem dX0_offer_49 : decode cX0_offer 49 = .ok (.iload 4, 2) := by decide +kernel
theorem dX0_offer_51 : decode cX0_offer 51 = .ok (.iastore, 1) := by decide +kernel
theorem dX0_offer_52 : decode cX0_offer 52 = .ok (.aload_n 0, 1) := by decide +kernel
theorem dX0_offer_53 : decode cX0_offer 53 = .ok (.iload_n 3, 1) := by decide +kernel
theorem dX0_offer_54 : decode cX0_offer 54 = .ok (.bipush (-9), 2) := by decide +kernel
theorem dX0_offer_56 : decode cX0_offer 56 = .ok (.if_icmp .ne 7, 3) := by decide +kernel
theorem dX0_offer_59 : decode cX0_offer 59 = .ok (.iconst 1, 1) := by decide +kernel
theorem dX0_offer_60 : decode cX0_offer 60 = .ok (.goto 15, 3) := by decide +kernel
theorem dX0_offer_63 : decode cX0_offer 63 = .ok (.iload 4, 2) := by decide +kernel
theorem dX0_offer_65 : decode cX0_offer 65 = .ok (.bipush (-9), 2) := by decide +kernel
theorem dX0_offer_67 : decode cX0_offer 67 = .ok (.if_icmp .ne 7, 3) := by decide +kernel
theorem dX0_offer_70 : decode cX0_offer 70 = .ok (.iconst 2, 1) := by decide +kernel
theorem dX0_offer_71 : decode cX0_offer 71 = .ok (.goto 4, 3) := by decide +kernel
theorem dX0_offer_74 : decode cX0_offer 74 = .ok (.iconst 3, 1) := by decide +kernel
theorem dX0_offer_75 : decode cX0_offer 75 = .ok (.putfield 84, 3) := by decide +kernel
theorem dX0_offer_78 : decode cX0_offer 78 = .ok (.return_, 1) := by decide +kernel
theorem dX0_chosenGap_0 : decode cX0_chosenGap 0 = .ok (.iload_n 2, 1) := by decide +kernel
theorem dX0_chosenGap_1 : decode cX0_chosenGap 1 = .ok (.ifCond .lt 20, 3) := by decide +kernel
theorem dX0_chosenGap_4 : decode cX0_chosenGap 4 = .ok (.iload_n 2, 1) := by decide +kernel
theorem dX0_chosenGap_5 : decode cX0_chosenGap 5 = .ok (.aload_n 0, 1) := by decide +kernel
theorem dX0_chosenGap_6 : decode cX0_chosenGap 6 = .ok (.getfield 84, 3) := by decide +kernel
theorem dX0_chosenGap_9 : decode cX0_chosenGap 9 = .ok (.if_icmp .ge 12, 3) := by decide +kernel
theorem dX0_chosenGap_12 : decode cX0_chosenGap 12 = .ok (.iload_n 2, 1) := by decide +kernel
theorem dX0_chosenGap_13 : decode cX0_chosenGap 13 = .ok (.aload_n 0, 1) := by decide +kernel
theorem dX0_chosenGap_14 : decode cX0_chosenGap 14 = .ok (.getfield 30, 3) := by decide +kernel
theorem dX0_chosenGap_17 : decode cX0_chosenGap 17 = .ok (.arraylength, 1) := by decide +kernel
theorem dX0_chosenGap_18 : decode cX0_chosenGap 18 = .ok (.if_icmp .lt 6, 3) := by decide +kernel
theorem dX0_chosenGap_21 : decode cX0_chosenGap 21 = .ok (.bipush (-9), 2) := by decide +kernel
theorem dX0_chosenGap_23 : decode cX0_chosenGap 23 = .ok (.ireturn, 1) := by decide +kernel
theorem dX0_chosenGap_24 : decode cX0_chosenGap 24 = .ok (.aload_n 0, 1) := by decide +kernel
theorem dX0_chosenGap_25 : decode cX0_chosenGap 25 = .ok (.getfield 30, 3) := by decide +kernel
theorem dX0_chosenGap_28 : decode cX0_chosenGap 28 = .ok (.iload_n 2, 1) := by decide +kernel
theorem dX0_chosenGap_29 : decode cX0_chosenGap 29 = .ok (.iaload, 1) := by decide +kernel
theorem dX0_chosenGap_30 : decode cX0_chosenGap 30 = .ok (.istore_n 3, 1) := by decide +kernel
theorem dX0_chosenGap_31 : decode cX0_chosenGap 31 = .ok (.iload_n 3, 1) := by decide +kernel
theorem dX0_chosenGap_32 : decode cX0_chosenGap 32 = .ok (.ifCond .lt 12, 3) := by decide +kernel
theorem dX0_chosenGap_35 : decode cX0_chosenGap 35 = .ok (.iload_n 3, 1) := by decide +kernel
theorem dX0_chosenGap_36 : decode cX0_chosenGap 36 = .ok (.aload_n 0, 1) := by decide +kernel
theorem dX0_chosenGap_37 : decode cX0_chosenGap 37 = .ok (.getfield 9, 3) := by decide +kernel
theorem dX0_chosenGap_40 : decode cX0_chosenGap 40 = .ok (.arraylength, 1) := by decide +kernel
theorem dX0_chosenGap_41 : decode cX0_chosenGap 41 = .ok (.if_icmp .lt 6, 3) := by decide +kernel
theorem dX0_chosenGap_44 : decode cX0_chosenGap 44 = .ok (.bipush (-9), 2) := by decide +kernel
theorem dX0_chosenGap_46 : decode cX0_chosenGap 46 = .ok (.ireturn, 1) := by decide +kernel
theorem dX0_chosenGap_47 : decode cX0_chosenGap 47 = .ok (.bipush 100, 2) := by decide +kernel
theorem dX0_chosenGap_49 : decode cX0_chosenGap 49 = .ok (.aload_n 1, 1) := by decide +kernel
theorem dX0_chosenGap_50 : decode cX0_chosenGap 50 = .ok (.aload_n 0, 1) := by decide +kernel
theorem dX0_chosenGap_51 : decode cX0_chosenGap 51 = .ok (.getfield 9, 3) := by decide +kernel
theorem dX0_chosenGap_54 : decode cX0_chosenGap 54 = .ok (.iload_n 3, 1) := by decide +kernel
theorem dX0_chosenGap_55 : decode cX0_chosenGap 55 = .ok (.iaload, 1) := by decide +kernel
theorem dX0_chosenGap_56 : decode cX0_chosenGap 56 = .ok (.invokevirtual 110, 3) := by decide +kernel
theorem dX0_chosenGap_59 : decode cX0_chosenGap 59 = .ok (.imul, 1) := by decide +kernel
theorem dX0_chosenGap_60 : decode cX0_chosenGap 60 = .ok (.aload_n 1, 1) := by decide +kernel
theorem dX0_chosenGap_61 : decode cX0_chosenGap 61 = .ok (.aload_n 0, 1) := by decide +kernel
theorem dX0_chosenGap_62 : decode cX0_chosenGap 62 = .ok (.getfield 9, 3) := by decide +kernel
theorem dX0_chosenGap_65 : decode cX0_chosenGap 65 = .ok (.iload_n 3, 1) := by decide +kernel
theorem dX0_chosenGap_66 : decode cX0_chosenGap 66 = .ok (.iaload, 1) := by decide +kernel
theorem dX0_chosenGap_67 : decode cX0_chosenGap 67 = .ok (.invokevirtual 113, 3) := by decide +kernel
theorem dX0_chosenGap_70 : decode cX0_chosenGap 70 = .ok (.iadd, 1) := by decide +kernel
theorem dX0_chosenGap_71 : decode cX0_chosenGap 71 = .ok (.ireturn, 1) := by decide +kernel
theorem dX1_init_0 : decode cX1_init 0 = .ok (.aload_n 0, 1) := by decide +kernel
theorem dX1_init_1 : decode cX1_init 1 = .ok (.invokespecial 3, 3) := by decide +kernel
theorem dX1_init_4 : decode cX1_init 4 = .ok (.aload_n 0, 1) := by decide +kernel
theorem dX1_init_5 : decode cX1_init 5 = .ok (.bipush 32, 2) := by decide +kernel
theorem dX1_init_7 : decode cX1_init 7 = .ok (.newarray .int, 2) := by decide +kernel
theorem dX1_init_9 : decode cX1_init 9 = .ok (.putfield 9, 3) := by decide +kernel
theorem dX1_init_12 : decode cX1_init 12 = .ok (.aload_n 0, 1) := by decide +kernel
theorem dX1_init_13 : decode cX1_init 13 = .ok (.bipush 32, 2) := by decide +kernel
theorem dX1_init_15 : decode cX1_init 15 = .ok (.newarray .int, 2) := by decide +kernel
theorem dX1_init_17 : decode cX1_init 17 = .ok (.putfield 15, 3) := by decide +kernel
theorem dX1_init_20 : decode cX1_init 20 = .ok (.aload_n 0, 1) := by decide +kernel
theorem dX1_init_21 : decode cX1_init 21 = .ok (.bipush 32, 2) := by decide +kernel
theorem dX1_init_23 : decode cX1_init 23 = .ok (.newarray .int, 2) := by decide +kernel
theorem dX1_init_25 : decode cX1_init 25 = .ok (.putfield 18, 3) := by decide +kernel
theorem dX1_init_28 : decode cX1_init 28 = .ok (.aload_n 0, 1) := by decide +kernel
theorem dX1_init_29 : decode cX1_init 29 = .ok (.bipush 64, 2) := by decide +kernel
theorem dX1_init_31 : decode cX1_init 31 = .ok (.newarray .boolean, 2) := by decide +kernel
theorem dX1_init_33 : decode cX1_init 33 = .ok (.putfield 21, 3) := by decide +kernel
theorem dX1_init_36 : decode cX1_init 36 = .ok (.return_, 1) := by decide +kernel
theorem dX1_build_0 : decode cX1_build 0 = .ok (.aload_n 0, 1) := by decide +kernel
theorem dX1_build_1 : decode cX1_build 1 = .ok (.aload_n 1, 1) := by decide +kernel
theorem dX1_build_2 : decode cX1_build 2 = .ok (.getfield 25, 3) := by decide +kernel
theorem dX1_build_5 : decode cX1_build 5 = .ok (.putfield 31, 3) := by decide +kernel
theorem dX1_build_8 : decode cX1_build 8 = .ok (.aload_n 0, 1) := by decide +kernel
theorem dX1_build_9 : decode cX1_build 9 = .ok (.aload_n 1, 1) := by decide +kernel
theorem dX1_build_10 : decode cX1_build 10 = .ok (.getfield 32, 3) := by decide +kernel
theorem dX1_build_13 : decode cX1_build 13 = .ok (.putfield 35, 3) := by decide +kernel
theorem dX1_build_16 : decode cX1_build 16 = .ok (.aload_n 0, 1) := by decide +kernel
theorem dX1_build_17 : decode cX1_build 17 = .ok (.aload_n 1, 1) := by decide +kernel
theorem dX1_build_18 : decode cX1_build 18 = .ok (.getfield 36, 3) := by decide +kernel
theorem dX1_build_21 : decode cX1_build 21 = .ok (.putfield 40, 3) := by decide +kernel
theorem dX1_build_24 : decode cX1_build 24 = .ok (.iconst 0, 1) := by decide +kernel
theorem dX1_build_25 : decode cX1_build 25 = .ok (.istore_n 2, 1) := by decide +kernel
theorem dX1_build_26 : decode cX1_build 26 = .ok (.iload_n 2, 1) := by decide +kernel
theorem dX1_build_27 : decode cX1_build 27 = .ok (.aload_n 0, 1) := by decide +kernel
theorem dX1_build_28 : decode cX1_build 28 = .ok (.getfield 9, 3) := by decide +kernel
theorem dX1_build_31 : decode cX1_build 31 = .ok (.arraylength, 1) := by decide +kernel
theorem dX1_build_32 : decode cX1_build 32 = .ok (.if_icmp .ge 20, 3) := by decide +kernel
theorem dX1_build_35 : decode cX1_build 35 = .ok (.aload_n 0, 1) := by decide +kernel
theorem dX1_build_36 : decode cX1_build 36 = .ok (.getfield 9, 3) := by decide +kernel
theorem dX1_build_39 : decode cX1_build 39 = .ok (.iload_n 2, 1) := by decide +kernel
theorem dX1_build_40 : decode cX1_build 40 = .ok (.aload_n 1, 1) := by decide +kernel
theorem dX1_build_41 : decode cX1_build 41 = .ok (.iload_n 2, 1) := by decide +kernel
theorem dX1_build_42 : decode cX1_build 42 = .ok (.invokevirtual 41, 3) := by decide +kernel
theorem dX1_build_45 : decode cX1_build 45 = .ok (.iastore, 1) := by decide +kernel
theorem dX1_build_46 : decode cX1_build 46 = .ok (.iinc 2 1, 3) := by decide +kernel
theorem dX1_build_49 : decode cX1_build 49 = .ok (.goto (-23), 3) := by decide +kernel
theorem dX1_build_52 : decode cX1_build 52 = .ok (.iconst 0, 1) := by decide +kernel
theorem dX1_build_53 : decode cX1_build 53 = .ok (.istore_n 2, 1) := by decide +kernel
theorem dX1_build_54 : decode cX1_build 54 = .ok (.iload_n 2, 1) := by decide +kernel
theorem dX1_build_55 : decode cX1_build 55 = .ok (.aload_n 0, 1) := by decide +kernel
theorem dX1_build_56 : decode cX1_build 56 = .ok (.getfield 15, 3) := by decide +kernel
theorem dX1_build_59 : decode cX1_build 59 = .ok (.arraylength, 1) := by decide +kernel
theorem dX1_build_60 : decode cX1_build 60 = .ok (.if_icmp .ge 17, 3) := by decide +kernel
theorem dX1_build_63 : decode cX1_build 63 = .ok (.aload_n 0, 1) := by decide +kernel
theorem dX1_build_64 : decode cX1_build 64 = .ok (.getfield 15, 3) := by decide +kernel
theorem dX1_build_67 : decode cX1_build 67 = .ok (.iload_n 2, 1) := by decide +kernel
theorem dX1_build_68 : decode cX1_build 68 = .ok (.bipush (-9), 2) := by decide +kernel
theorem dX1_build_70 : decode cX1_build 70 = .ok (.iastore, 1) := by decide +kernel
theorem dX1_build_71 : decode cX1_build 71 = .ok (.iinc 2 1, 3) := by decide +kernel
theorem dX1_build_74 : decode cX1_build 74 = .ok (.goto (-20), 3) := by decide +kernel
theorem dX1_build_77 : decode cX1_build 77 = .ok (.iconst 0, 1) := by decide +kernel
theorem dX1_build_78 : decode cX1_build 78 = .ok (.istore_n 2, 1) := by decide +kernel
theorem dX1_build_79 : decode cX1_build 79 = .ok (.iload_n 2, 1) := by decide +kernel
theorem dX1_build_80 : decode cX1_build 80 = .ok (.aload_n 0, 1) := by decide +kernel
theorem dX1_build_81 : decode cX1_build 81 = .ok (.getfield 21, 3) := by decide +kernel
theorem dX1_build_84 : decode cX1_build 84 = .ok (.arraylength, 1) := by decide +kernel
theorem dX1_build_85 : decode cX1_build 85 = .ok (.if_icmp .ge 16, 3) := by decide +kernel
theorem dX1_build_88 : decode cX1_build 88 = .ok (.aload_n 0, 1) := by decide +kernel
theorem dX1_build_89 : decode cX1_build 89 = .ok (.getfield 21, 3) := by decide +kernel
theorem dX1_build_92 : decode cX1_build 92 = .ok (.iload_n 2, 1) := by decide +kernel
theorem dX1_build_93 : decode cX1_build 93 = .ok (.iconst 0, 1) := by decide +kernel
theorem dX1_build_94 : decode cX1_build 94 = .ok (.bastore, 1) := by decide +kernel
theorem dX1_build_95 : decode cX1_build 95 = .ok (.iinc 2 1, 3) := by decide +kernel
theorem dX1_build_98 : decode cX1_build 98 = .ok (.goto (-19), 3) := by decide +kernel
theorem dX1_build_101 : decode cX1_build 101 = .ok (.aload_n 0, 1) := by decide +kernel
theorem dX1_build_102 : decode cX1_build 102 = .ok (.iconst 0, 1) := by decide +kernel
theorem dX1_build_103 : decode cX1_build 103 = .ok (.putfield 45, 3) := by decide +kernel
theorem dX1_build_106 : decode cX1_build 106 = .ok (.aload_n 0, 1) := by decide +kernel
theorem dX1_build_107 : decode cX1_build 107 = .ok (.invokevirtual 48, 3) := by decide +kernel
theorem dX1_build_110 : decode cX1_build 110 = .ok (.return_, 1) := by decide +kernel
theorem dX1_isSeat_0 : decode cX1_isSeat 0 = .ok (.iload_n 1, 1) := by decide +kernel
theorem dX1_isSeat_1 : decode cX1_isSeat 1 = .ok (.ifCond .lt 15, 3) := by decide +kernel
theorem dX1_isSeat_4 : decode cX1_isSeat 4 = .ok (.iload_n 1, 1) := by decide +kernel
theorem dX1_isSeat_5 : decode cX1_isSeat 5 = .ok (.aload_n 0, 1) := by decide +kernel
theorem dX1_isSeat_6 : decode cX1_isSeat 6 = .ok (.getfield 35, 3) := by decide +kernel
theorem dX1_isSeat_9 : decode cX1_isSeat 9 = .ok (.if_icmp .ge 7, 3) := by decide +kernel
theorem dX1_isSeat_12 : decode cX1_isSeat 12 = .ok (.iconst 1, 1) := by decide +kernel
theorem dX1_isSeat_13 : decode cX1_isSeat 13 = .ok (.goto 4, 3) := by decide +kernel
theorem dX1_isSeat_16 : decode cX1_isSeat 16 = .ok (.iconst 0, 1) := by decide +kernel
theorem dX1_isSeat_17 : decode cX1_isSeat 17 = .ok (.ireturn, 1) := by decide +kernel
theorem dX1_faceOf_0 : decode cX1_faceOf 0 = .ok (.iload_n 1, 1) := by decide +kernel
theorem dX1_faceOf_1 : decode cX1_faceOf 1 = .ok (.ifCond .lt 21, 3) := by decide +kernel
theorem dX1_faceOf_4 : decode cX1_faceOf 4 = .ok (.iload_n 1, 1) := by decide +kernel
theorem dX1_faceOf_5 : decode cX1_faceOf 5 = .ok (.aload_n 0, 1) := by decide +kernel
theorem dX1_faceOf_6 : decode cX1_faceOf 6 = .ok (.getfield 9, 3) := by decide +kernel
theorem dX1_faceOf_9 : decode cX1_faceOf 9 = .ok (.arraylength, 1) := by decide +kernel
theorem dX1_faceOf_10 : decode cX1_faceOf 10 = .ok (.if_icmp .ge 12, 3) := by decide +kernel
theorem dX1_faceOf_13 : decode cX1_faceOf 13 = .ok (.aload_n 0, 1) := by decide +kernel
theorem dX1_faceOf_14 : decode cX1_faceOf 14 = .ok (.getfield 9, 3) := by decide +kernel
theorem dX1_faceOf_17 : decode cX1_faceOf 17 = .ok (.iload_n 1, 1) := by decide +kernel
theorem dX1_faceOf_18 : decode cX1_faceOf 18 = .ok (.iaload, 1) := by decide +kernel
theorem dX1_faceOf_19 : decode cX1_faceOf 19 = .ok (.goto 4, 3) := by decide +kernel
theorem dX1_faceOf_22 : decode cX1_faceOf 22 = .ok (.iconst 0, 1) := by decide +kernel
theorem dX1_faceOf_23 : decode cX1_faceOf 23 = .ok (.ireturn, 1) := by decide +kernel
theorem dX1_sitterOf_0 : decode cX1_sitterOf 0 = .ok (.iload_n 1, 1) := by decide +kernel
theorem dX1_sitterOf_1 : decode cX1_sitterOf 1 = .ok (.ifCond .lt 21, 3) := by decide +kernel
theorem dX1_sitterOf_4 : decode cX1_sitterOf 4 = .ok (.iload_n 1, 1) := by decide +kernel
theorem dX1_sitterOf_5 : decode cX1_sitterOf 5 = .ok (.aload_n 0, 1) := by decide +kernel
theorem dX1_sitterOf_6 : decode cX1_sitterOf 6 = .ok (.getfield 15, 3) := by decide +kernel
theorem dX1_sitterOf_9 : decode cX1_sitterOf 9 = .ok (.arraylength, 1) := by decide +kernel
theorem dX1_sitterOf_10 : decode cX1_sitterOf 10 = .ok (.if_icmp .ge 12, 3) := by decide +kernel
theorem dX1_sitterOf_13 : decode cX1_sitterOf 13 = .ok (.aload_n 0, 1) := by decide +kernel
theorem dX1_sitterOf_14 : decode cX1_sitterOf 14 = .ok (.getfield 15, 3) := by decide +kernel
theorem dX1_sitterOf_17 : decode cX1_sitterOf 17 = .ok (.iload_n 1, 1) := by decide +kernel
theorem dX1_sitterOf_18 : decode cX1_sitterOf 18 = .ok (.iaload, 1) := by decide +kernel
theorem dX1_sitterOf_19 : decode cX1_sitterOf 19 = .ok (.goto 5, 3) := by decide +kernel
theorem dX1_sitterOf_22 : decode cX1_sitterOf 22 = .ok (.bipush (-9), 2) := by decide +kernel
theorem dX1_sitterOf_24 : decode cX1_sitterOf 24 = .ok (.ireturn, 1) := by decide +kernel
theorem dX1_seatOne_0 : decode cX1_seatOne 0 = .ok (.iload_n 1, 1) := by decide +kernel
theorem dX1_seatOne_1 : decode cX1_seatOne 1 = .ok (.ifCond .lt 19, 3) := by decide +kernel
theorem dX1_seatOne_4 : decode cX1_seatOne 4 = .ok (.iload_n 1, 1) := by decide +kernel
theorem dX1_seatOne_5 : decode cX1_seatOne 5 = .ok (.aload_n 0, 1) := by decide +kernel
theorem dX1_seatOne_6 : decode cX1_seatOne 6 = .ok (.getfield 15, 3) := by decide +kernel
theorem dX1_seatOne_9 : decode cX1_seatOne 9 = .ok (.arraylength, 1) := by decide +kernel
theorem dX1_seatOne_10 : decode cX1_seatOne 10 = .ok (.if_icmp .ge 10, 3) := by decide +kernel
theorem dX1_seatOne_13 : decode cX1_seatOne 13 = .ok (.aload_n 0, 1) := by decide +kernel
theorem dX1_seatOne_14 : decode cX1_seatOne 14 = .ok (.getfield 15, 3) := by decide +kernel
theorem dX1_seatOne_17 : decode cX1_seatOne 17 = .ok (.iload_n 1, 1) := by decide +kernel
theorem dX1_seatOne_18 : decode cX1_seatOne 18 = .ok (.iload_n 2, 1) := by decide +kernel
theorem dX1_seatOne_19 : decode cX1_seatOne 19 = .ok (.iastore, 1) := by decide +kernel
theorem dX1_seatOne_20 : decode cX1_seatOne 20 = .ok (.return_, 1) := by decide +kernel
theorem dX1_lineOf_0 : decode cX1_lineOf 0 = .ok (.iload_n 1, 1) := by decide +kernel
theorem dX1_lineOf_1 : decode cX1_lineOf 1 = .ok (.ifCond .lt 21, 3) := by decide +kernel
theorem dX1_lineOf_4 : decode cX1_lineOf 4 = .ok (.iload_n 1, 1) := by decide +kernel
theorem dX1_lineOf_5 : decode cX1_lineOf 5 = .ok (.aload_n 0, 1) := by decide +kernel
theorem dX1_lineOf_6 : decode cX1_lineOf 6 = .ok (.getfield 18, 3) := by decide +kernel
theorem dX1_lineOf_9 : decode cX1_lineOf 9 = .ok (.arraylength, 1) := by decide +kernel
theorem dX1_lineOf_10 : decode cX1_lineOf 10 = .ok (.if_icmp .ge 12, 3) := by decide +kernel
theorem dX1_lineOf_13 : decode cX1_lineOf 13 = .ok (.aload_n 0, 1) := by decide +kernel
theorem dX1_lineOf_14 : decode cX1_lineOf 14 = .ok (.getfield 18, 3) := by decide +kernel
theorem dX1_lineOf_17 : decode cX1_lineOf 17 = .ok (.iload_n 1, 1) := by decide +kernel
theorem dX1_lineOf_18 : decode cX1_lineOf 18 = .ok (.iaload, 1) := by decide +kernel
theorem dX1_lineOf_19 : decode cX1_lineOf 19 = .ok (.goto 4, 3) := by decide +kernel
theorem dX1_lineOf_22 : decode cX1_lineOf 22 = .ok (.iconst 0, 1) := by decide +kernel
theorem dX1_lineOf_23 : decode cX1_lineOf 23 = .ok (.ireturn, 1) := by decide +kernel
theorem dX1_isOnLine_0 : decode cX1_isOnLine 0 = .ok (.aload_n 0, 1) := by decide +kernel
theorem dX1_isOnLine_1 : decode cX1_isOnLine 1 = .ok (.iload_n 1, 1) := by decide +kernel
theorem dX1_isOnLine_2 : decode cX1_isOnLine 2 = .ok (.invokevirtual 51, 3) := by decide +kernel
theorem dX1_isOnLine_5 : decode cX1_isOnLine 5 = .ok (.iload_n 2, 1) := by decide +kernel
theorem dX1_isOnLine_6 : decode cX1_isOnLine 6 = .ok (.iushr, 1) := by decide +kernel
theorem dX1_isOnLine_7 : decode cX1_isOnLine 7 = .ok (.iconst 1, 1) := by decide +kernel
theorem dX1_isOnLine_8 : decode cX1_isOnLine 8 = .ok (.iand, 1) := by decide +kernel
theorem dX1_isOnLine_9 : decode cX1_isOnLine 9 = .ok (.iconst 1, 1) := by decide +kernel
theorem dX1_isOnLine_10 : decode cX1_isOnLine 10 = .ok (.if_icmp .ne 7, 3) := by decide +kernel
theorem dX1_isOnLine_13 : decode cX1_isOnLine 13 = .ok (.iconst 1, 1) := by decide +kernel
theorem dX1_isOnLine_14 : decode cX1_isOnLine 14 = .ok (.goto 4, 3) := by decide +kernel
theorem dX1_isOnLine_17 : decode cX1_isOnLine 17 = .ok (.iconst 0, 1) := by decide +kernel
theorem dX1_isOnLine_18 : decode cX1_isOnLine 18 = .ok (.ireturn, 1) := by decide +kernel
theorem dX1_nextSeat_0 : decode cX1_nextSeat 0 = .ok (.aload_n 0, 1) := by decide +kernel
theorem dX1_nextSeat_1 : decode cX1_nextSeat 1 = .ok (.getfield 31, 3) := by decide +kernel
theorem dX1_nextSeat_4 : decode cX1_nextSeat 4 = .ok (.ifCond .gt 6, 3) := by decide +kernel
theorem dX1_nextSeat_7 : decode cX1_nextSeat 7 = .ok (.bipush (-9), 2) := by decide +kernel
theorem dX1_nextSeat_9 : decode cX1_nextSeat 9 = .ok (.ireturn, 1) := by decide +kernel
theorem dX1_nextSeat_10 : decode cX1_nextSeat 10 = .ok (.iload_n 1, 1) := by decide +kernel
theorem dX1_nextSeat_11 : decode cX1_nextSeat 11 = .ok (.aload_n 0, 1) := by decide +kernel
theorem dX1_nextSeat_12 : decode cX1_nextSeat 12 = .ok (.getfield 31, 3) := by decide +kernel
theorem dX1_nextSeat_15 : decode cX1_nextSeat 15 = .ok (.irem, 1) := by decide +kernel
theorem dX1_nextSeat_16 : decode cX1_nextSeat 16 = .ok (.istore_n 3, 1) := by decide +kernel
theorem dX1_nextSeat_17 : decode cX1_nextSeat 17 = .ok (.iload_n 2, 1) := by decide +kernel
theorem dX1_nextSeat_18 : decode cX1_nextSeat 18 = .ok (.tableswitch 84 0 2 #[26, 46, 71], 26) := by decide +kernel
theorem dX1_nextSeat_44 : decode cX1_nextSeat 44 = .ok (.iload_n 1, 1) := by decide +kernel
theorem dX1_nextSeat_45 : decode cX1_nextSeat 45 = .ok (.aload_n 0, 1) := by decide +kernel
theorem dX1_nextSeat_46 : decode cX1_nextSeat 46 = .ok (.getfield 31, 3) := by decide +kernel
theorem dX1_nextSeat_49 : decode cX1_nextSeat 49 = .ok (.if_icmp .lt 12, 3) := by decide +kernel
theorem dX1_nextSeat_52 : decode cX1_nextSeat 52 = .ok (.iload_n 1, 1) := by decide +kernel
theorem dX1_nextSeat_53 : decode cX1_nextSeat 53 = .ok (.aload_n 0, 1) := by decide +kernel
theorem dX1_nextSeat_54 : decode cX1_nextSeat 54 = .ok (.getfield 31, 3) := by decide +kernel
theorem dX1_nextSeat_57 : decode cX1_nextSeat 57 = .ok (.isub, 1) := by decide +kernel
theorem dX1_nextSeat_58 : decode cX1_nextSeat 58 = .ok (.goto 5, 3) := by decide +kernel
theorem dX1_nextSeat_61 : decode cX1_nextSeat 61 = .ok (.bipush (-9), 2) := by decide +kernel
theorem dX1_nextSeat_63 : decode cX1_nextSeat 63 = .ok (.ireturn, 1) := by decide +kernel
theorem dX1_nextSeat_64 : decode cX1_nextSeat 64 = .ok (.iload_n 1, 1) := by decide +kernel
theorem dX1_nextSeat_65 : decode cX1_nextSeat 65 = .ok (.aload_n 0, 1) := by decide +kernel
theorem dX1_nextSeat_66 : decode cX1_nextSeat 66 = .ok (.getfield 31, 3) := by decide +kernel
theorem dX1_nextSeat_69 : decode cX1_nextSeat 69 = .ok (.iadd, 1) := by decide +kernel
theorem dX1_nextSeat_70 : decode cX1_nextSeat 70 = .ok (.aload_n 0, 1) := by decide +kernel
theorem dX1_nextSeat_71 : decode cX1_nextSeat 71 = .ok (.getfield 35, 3) := by decide +kernel
theorem dX1_nextSeat_74 : decode cX1_nextSeat 74 = .ok (.if_icmp .ge 12, 3) := by decide +kernel
theorem dX1_nextSeat_77 : decode cX1_nextSeat 77 = .ok (.iload_n 1, 1) := by decide +kernel
theorem dX1_nextSeat_78 : decode cX1_nextSeat 78 = .ok (.aload_n 0, 1) := by decide +kernel
theorem dX1_nextSeat_79 : decode cX1_nextSeat 79 = .ok (.getfield 31, 3) := by decide +kernel
theorem dX1_nextSeat_82 : decode cX1_nextSeat 82 = .ok (.iadd, 1) := by decide +kernel
theorem dX1_nextSeat_83 : decode cX1_nextSeat 83 = .ok (.goto 5, 3) := by decide +kernel
theorem dX1_nextSeat_86 : decode cX1_nextSeat 86 = .ok (.bipush (-9), 2) := by decide +kernel
theorem dX1_nextSeat_88 : decode cX1_nextSeat 88 = .ok (.ireturn, 1) := by decide +kernel
theorem dX1_nextSeat_89 : decode cX1_nextSeat 89 = .ok (.iload_n 3, 1) := by decide +kernel
theorem dX1_nextSeat_90 : decode cX1_nextSeat 90 = .ok (.ifCond .le 9, 3) := by decide +kernel
theorem dX1_nextSeat_93 : decode cX1_nextSeat 93 = .ok (.iload_n 1, 1) := by decide +kernel
theorem dX1_nextSeat_94 : decode cX1_nextSeat 94 = .ok (.iconst 1, 1) := by decide +kernel
theorem dX1_nextSeat_95 : decode cX1_nextSeat 95 = .ok (.isub, 1) := by decide +kernel
theorem dX1_nextSeat_96 : decode cX1_nextSeat 96 = .ok (.goto 5, 3) := by decide +kernel
theorem dX1_nextSeat_99 : decode cX1_nextSeat 99 = .ok (.bipush (-9), 2) := by decide +kernel
theorem dX1_nextSeat_101 : decode cX1_nextSeat 101 = .ok (.ireturn, 1) := by decide +kernel
theorem dX1_nextSeat_102 : decode cX1_nextSeat 102 = .ok (.iload_n 3, 1) := by decide +kernel
theorem dX1_nextSeat_103 : decode cX1_nextSeat 103 = .ok (.iconst 1, 1) := by decide +kernel
theorem dX1_nextSeat_104 : decode cX1_nextSeat 104 = .ok (.iadd, 1) := by decide +kernel
theorem dX1_nextSeat_105 : decode cX1_nextSeat 105 = .ok (.aload_n 0, 1) := by decide +kernel
theorem dX1_nextSeat_106 : decode cX1_nextSeat 106 = .ok (.getfield 31, 3) := by decide +kernel
theorem dX1_nextSeat_109 : decode cX1_nextSeat 109 = .ok (.if_icmp .ge 9, 3) := by decide +kernel
theorem dX1_nextSeat_112 : decode cX1_nextSeat 112 = .ok (.iload_n 1, 1) := by decide +kernel
theorem dX1_nextSeat_113 : decode cX1_nextSeat 113 = .ok (.iconst 1, 1) := by decide +kernel
theorem dX1_nextSeat_114 : decode cX1_nextSeat 114 = .ok (.iadd, 1) := by decide +kernel
theorem dX1_nextSeat_115 : decode cX1_nextSeat 115 = .ok (.goto 5, 3) := by decide +kernel
theorem dX1_nextSeat_118 : decode cX1_nextSeat 118 = .ok (.bipush (-9), 2) := by decide +kernel
theorem dX1_nextSeat_120 : decode cX1_nextSeat 120 = .ok (.ireturn, 1) := by decide +kernel
theorem dX1_gapBetween_0 : decode cX1_gapBetween 0 = .ok (.iload_n 1, 1) := by decide +kernel
theorem dX1_gapBetween_1 : decode cX1_gapBetween 1 = .ok (.iload_n 2, 1) := by decide +kernel
theorem dX1_gapBetween_2 : decode cX1_gapBetween 2 = .ok (.invokestatic 54, 3) := by decide +kernel
theorem dX1_gapBetween_5 : decode cX1_gapBetween 5 = .ok (.istore_n 3, 1) := by decide +kernel
theorem dX1_gapBetween_6 : decode cX1_gapBetween 6 = .ok (.iload_n 1, 1) := by decide +kernel
theorem dX1_gapBetween_7 : decode cX1_gapBetween 7 = .ok (.iload_n 2, 1) := by decide +kernel
theorem dX1_gapBetween_8 : decode cX1_gapBetween 8 = .ok (.invokestatic 60, 3) := by decide +kernel
theorem dX1_gapBetween_11 : decode cX1_gapBetween 11 = .ok (.istore 4, 2) := by decide +kernel
theorem dX1_gapBetween_13 : decode cX1_gapBetween 13 = .ok (.aload_n 0, 1) := by decide +kernel
theorem dX1_gapBetween_14 : decode cX1_gapBetween 14 = .ok (.iload_n 3, 1) := by decide +kernel
theorem dX1_gapBetween_15 : decode cX1_gapBetween 15 = .ok (.iconst 3, 1) := by decide +kernel
theorem dX1_gapBetween_16 : decode cX1_gapBetween 16 = .ok (.invokevirtual 63, 3) := by decide +kernel
theorem dX1_gapBetween_19 : decode cX1_gapBetween 19 = .ok (.iload 4, 2) := by decide +kernel
theorem dX1_gapBetween_21 : decode cX1_gapBetween 21 = .ok (.if_icmp .ne 7, 3) := by decide +kernel
theorem dX1_gapBetween_24 : decode cX1_gapBetween 24 = .ok (.iconst 2, 1) := by decide +kernel
theorem dX1_gapBetween_25 : decode cX1_gapBetween 25 = .ok (.iload_n 3, 1) := by decide +kernel
theorem dX1_gapBetween_26 : decode cX1_gapBetween 26 = .ok (.imul, 1) := by decide +kernel
theorem dX1_gapBetween_27 : decode cX1_gapBetween 27 = .ok (.ireturn, 1) := by decide +kernel
theorem dX1_gapBetween_28 : decode cX1_gapBetween 28 = .ok (.aload_n 0, 1) := by decide +kernel
theorem dX1_gapBetween_29 : decode cX1_gapBetween 29 = .ok (.iload_n 3, 1) := by decide +kernel
theorem dX1_gapBetween_30 : decode cX1_gapBetween 30 = .ok (.iconst 1, 1) := by decide +kernel
theorem dX1_gapBetween_31 : decode cX1_gapBetween 31 = .ok (.invokevirtual 63, 3) := by decide +kernel
theorem dX1_gapBetween_34 : decode cX1_gapBetween 34 = .ok (.iload 4, 2) := by decide +kernel
theorem dX1_gapBetween_36 : decode cX1_gapBetween 36 = .ok (.if_icmp .ne 11, 3) := by decide +kernel
theorem dX1_gapBetween_39 : decode cX1_gapBetween 39 = .ok (.iconst 2, 1) := by decide +kernel
theorem dX1_gapBetween_40 : decode cX1_gapBetween 40 = .ok (.iload_n 3, 1) := by decide +kernel
theorem dX1_gapBetween_41 : decode cX1_gapBetween 41 = .ok (.imul, 1) := by decide +kernel
theorem dX1_gapBetween_42 : decode cX1_gapBetween 42 = .ok (.iconst 1, 1) := by decide +kernel
theorem dX1_gapBetween_43 : decode cX1_gapBetween 43 = .ok (.iadd, 1) := by decide +kernel
theorem dX1_gapBetween_44 : decode cX1_gapBetween 44 = .ok (.goto 5, 3) := by decide +kernel
theorem dX1_gapBetween_47 : decode cX1_gapBetween 47 = .ok (.bipush (-9), 2) := by decide +kernel
theorem dX1_gapBetween_49 : decode cX1_gapBetween 49 = .ok (.ireturn, 1) := by decide +kernel
theorem dX1_lesserSeat_0 : decode cX1_lesserSeat 0 = .ok (.iload_n 1, 1) := by decide +kernel
theorem dX1_lesserSeat_1 : decode cX1_lesserSeat 1 = .ok (.iconst 1, 1) := by decide +kernel
theorem dX1_lesserSeat_2 : decode cX1_lesserSeat 2 = .ok (.ishr, 1) := by decide +kernel
theorem dX1_lesserSeat_3 : decode cX1_lesserSeat 3 = .ok (.ireturn, 1) := by decide +kernel
theorem dX1_greaterSeat_0 : decode cX1_greaterSeat 0 = .ok (.iload_n 1, 1) := by decide +kernel
theorem dX1_greaterSeat_1 : decode cX1_greaterSeat 1 = .ok (.iconst 1, 1) := by decide +kernel
theorem dX1_greaterSeat_2 : decode cX1_greaterSeat 2 = .ok (.iand, 1) := by decide +kernel
theorem dX1_greaterSeat_3 : decode cX1_greaterSeat 3 = .ok (.ifCond .ne 11, 3) := by decide +kernel
theorem dX1_greaterSeat_6 : decode cX1_greaterSeat 6 = .ok (.iload_n 1, 1) := by decide +kernel
theorem dX1_greaterSeat_7 : decode cX1_greaterSeat 7 = .ok (.iconst 1, 1) := by decide +kernel
theorem dX1_greaterSeat_8 : decode cX1_greaterSeat 8 = .ok (.ishr, 1) := by decide +kernel
theorem dX1_greaterSeat_9 : decode cX1_greaterSeat 9 = .ok (.iconst 1, 1) := by decide +kernel
theorem dX1_greaterSeat_10 : decode cX1_greaterSeat 10 = .ok (.iadd, 1) := by decide +kernel
theorem dX1_greaterSeat_11 : decode cX1_greaterSeat 11 = .ok (.goto 11, 3) := by decide +kernel
theorem dX1_greaterSeat_14 : decode cX1_greaterSeat 14 = .ok (.iload_n 1, 1) := by decide +kernel
theorem dX1_greaterSeat_15 : decode cX1_greaterSeat 15 = .ok (.iconst 1, 1) := by decide +kernel
theorem dX1_greaterSeat_16 : decode cX1_greaterSeat 16 = .ok (.ishr, 1) := by decide +kernel
theorem dX1_greaterSeat_17 : decode cX1_greaterSeat 17 = .ok (.aload_n 0, 1) := by decide +kernel
theorem dX1_greaterSeat_18 : decode cX1_greaterSeat 18 = .ok (.getfield 31, 3) := by decide +kernel
theorem dX1_greaterSeat_21 : decode cX1_greaterSeat 21 = .ok (.iadd, 1) := by decide +kernel
theorem dX1_greaterSeat_22 : decode cX1_greaterSeat 22 = .ok (.ireturn, 1) := by decide +kernel
theorem dX1_hasBlind_0 : decode cX1_hasBlind 0 = .ok (.iload_n 1, 1) := by decide +kernel
theorem dX1_hasBlind_1 : decode cX1_hasBlind 1 = .ok (.ifCond .lt 25, 3) := by decide +kernel
theorem dX1_hasBlind_4 : decode cX1_hasBlind 4 = .ok (.iload_n 1, 1) := by decide +kernel
theorem dX1_hasBlind_5 : decode cX1_hasBlind 5 = .ok (.aload_n 0, 1) := by decide +kernel
theorem dX1_hasBlind_6 : decode cX1_hasBlind 6 = .ok (.getfield 21, 3) := by decide +kernel
theorem dX1_hasBlind_9 : decode cX1_hasBlind 9 = .ok (.arraylength, 1) := by decide +kernel
theorem dX1_hasBlind_10 : decode cX1_hasBlind 10 = .ok (.if_icmp .ge 16, 3) := by decide +kernel
theorem dX1_hasBlind_13 : decode cX1_hasBlind 13 = .ok (.aload_n 0, 1) := by decide +kernel
theorem dX1_hasBlind_14 : decode cX1_hasBlind 14 = .ok (.getfield 21, 3) := by decide +kernel
theorem dX1_hasBlind_17 : decode cX1_hasBlind 17 = .ok (.iload_n 1, 1) := by decide +kernel
theorem dX1_hasBlind_18 : decode cX1_hasBlind 18 = .ok (.baload, 1) := by decide +kernel
theorem dX1_hasBlind_19 : decode cX1_hasBlind 19 = .ok (.ifCond .eq 7, 3) := by decide +kernel
theorem dX1_hasBlind_22 : decode cX1_hasBlind 22 = .ok (.iconst 1, 1) := by decide +kernel
theorem dX1_hasBlind_23 : decode cX1_hasBlind 23 = .ok (.goto 4, 3) := by decide +kernel
theorem dX1_hasBlind_26 : decode cX1_hasBlind 26 = .ok (.iconst 0, 1) := by decide +kernel
theorem dX1_hasBlind_27 : decode cX1_hasBlind 27 = .ok (.ireturn, 1) := by decide +kernel
theorem dX1_setBlind_0 : decode cX1_setBlind 0 = .ok (.iload_n 1, 1) := by decide +kernel
theorem dX1_setBlind_1 : decode cX1_setBlind 1 = .ok (.ifCond .lt 22, 3) := by decide +kernel
theorem dX1_setBlind_4 : decode cX1_setBlind 4 = .ok (.iload_n 1, 1) := by decide +kernel
theorem dX1_setBlind_5 : decode cX1_setBlind 5 = .ok (.aload_n 0, 1) := by decide +kernel
theorem dX1_setBlind_6 : decode cX1_setBlind 6 = .ok (.getfield 21, 3) := by decide +kernel
theorem dX1_setBlind_9 : decode cX1_setBlind 9 = .ok (.arraylength, 1) := by decide +kernel
theorem dX1_setBlind_10 : decode cX1_setBlind 10 = .ok (.if_icmp .ge 13, 3) := by decide +kernel
theorem dX1_setBlind_13 : decode cX1_setBlind 13 = .ok (.aload_n 0, 1) := by decide +kernel
theorem dX1_setBlind_14 : decode cX1_setBlind 14 = .ok (.getfield 21, 3) := by decide +kernel
theorem dX1_setBlind_17 : decode cX1_setBlind 17 = .ok (.iload_n 1, 1) := by decide +kernel
theorem dX1_setBlind_18 : decode cX1_setBlind 18 = .ok (.baload, 1) := by decide +kernel
theorem dX1_setBlind_19 : decode cX1_setBlind 19 = .ok (.iload_n 2, 1) := by decide +kernel
theorem dX1_setBlind_20 : decode cX1_setBlind 20 = .ok (.if_icmp .ne 5, 3) := by decide +kernel
theorem dX1_setBlind_23 : decode cX1_setBlind 23 = .ok (.iconst 0, 1) := by decide +kernel
theorem dX1_setBlind_24 : decode cX1_setBlind 24 = .ok (.ireturn, 1) := by decide +kernel
theorem dX1_setBlind_25 : decode cX1_setBlind 25 = .ok (.aload_n 0, 1) := by decide +kernel
theorem dX1_setBlind_26 : decode cX1_setBlind 26 = .ok (.getfield 21, 3) := by decide +kernel
theorem dX1_setBlind_29 : decode cX1_setBlind 29 = .ok (.iload_n 1, 1) := by decide +kernel
theorem dX1_setBlind_30 : decode cX1_setBlind 30 = .ok (.iload_n 2, 1) := by decide +kernel
theorem dX1_setBlind_31 : decode cX1_setBlind 31 = .ok (.bastore, 1) := by decide +kernel
theorem dX1_setBlind_32 : decode cX1_setBlind 32 = .ok (.aload_n 0, 1) := by decide +kernel
theorem dX1_setBlind_33 : decode cX1_setBlind 33 = .ok (.dup, 1) := by decide +kernel
theorem dX1_setBlind_34 : decode cX1_setBlind 34 = .ok (.getfield 45, 3) := by decide +kernel
theorem dX1_setBlind_37 : decode cX1_setBlind 37 = .ok (.iload_n 2, 1) := by decide +kernel
theorem dX1_setBlind_38 : decode cX1_setBlind 38 = .ok (.ifCond .eq 7, 3) := by decide +kernel
theorem dX1_setBlind_41 : decode cX1_setBlind 41 = .ok (.iconst 1, 1) := by decide +kernel
theorem dX1_setBlind_42 : decode cX1_setBlind 42 = .ok (.goto 4, 3) := by decide +kernel
theorem dX1_setBlind_45 : decode cX1_setBlind 45 = .ok (.iconst (-1), 1) := by decide +kernel
theorem dX1_setBlind_46 : decode cX1_setBlind 46 = .ok (.iadd, 1) := by decide +kernel
theorem dX1_setBlind_47 : decode cX1_setBlind 47 = .ok (.putfield 45, 3) := by decide +kernel
theorem dX1_setBlind_50 : decode cX1_setBlind 50 = .ok (.aload_n 0, 1) := by decide +kernel
theorem dX1_setBlind_51 : decode cX1_setBlind 51 = .ok (.invokevirtual 48, 3) := by decide +kernel
theorem dX1_setBlind_54 : decode cX1_setBlind 54 = .ok (.iconst 1, 1) := by decide +kernel
theorem dX1_setBlind_55 : decode cX1_setBlind 55 = .ok (.ireturn, 1) := by decide +kernel
theorem dX1_drawLines_0 : decode cX1_drawLines 0 = .ok (.iconst 0, 1) := by decide +kernel
theorem dX1_drawLines_1 : decode cX1_drawLines 1 = .ok (.istore_n 1, 1) := by decide +kernel
theorem dX1_drawLines_2 : decode cX1_drawLines 2 = .ok (.iload_n 1, 1) := by decide +kernel
theorem dX1_drawLines_3 : decode cX1_drawLines 3 = .ok (.aload_n 0, 1) := by decide +kernel
theorem dX1_drawLines_4 : decode cX1_drawLines 4 = .ok (.getfield 35, 3) := by decide +kernel
theorem dX1_drawLines_7 : decode cX1_drawLines 7 = .ok (.if_icmp .ge 34, 3) := by decide +kernel
theorem dX1_drawLines_10 : decode cX1_drawLines 10 = .ok (.iload_n 1, 1) := by decide +kernel
theorem dX1_drawLines_11 : decode cX1_drawLines 11 = .ok (.aload_n 0, 1) := by decide +kernel
theorem dX1_drawLines_12 : decode cX1_drawLines 12 = .ok (.getfield 18, 3) := by decide +kernel
theorem dX1_drawLines_15 : decode cX1_drawLines 15 = .ok (.arraylength, 1) := by decide +kernel
theorem dX1_drawLines_16 : decode cX1_drawLines 16 = .ok (.if_icmp .ge 25, 3) := by decide +kernel
theorem dX1_drawLines_19 : decode cX1_drawLines 19 = .ok (.aload_n 0, 1) := by decide +kernel
theorem dX1_drawLines_20 : decode cX1_drawLines 20 = .ok (.getfield 18, 3) := by decide +kernel
theorem dX1_drawLines_23 : decode cX1_drawLines 23 = .ok (.iload_n 1, 1) := by decide +kernel
theorem dX1_drawLines_24 : decode cX1_drawLines 24 = .ok (.aload_n 0, 1) := by decide +kernel
theorem dX1_drawLines_25 : decode cX1_drawLines 25 = .ok (.iload_n 1, 1) := by decide +kernel
theorem dX1_drawLines_26 : decode cX1_drawLines 26 = .ok (.aload_n 0, 1) := by decide +kernel
theorem dX1_drawLines_27 : decode cX1_drawLines 27 = .ok (.iload_n 1, 1) := by decide +kernel
theorem dX1_drawLines_28 : decode cX1_drawLines 28 = .ok (.invokevirtual 66, 3) := by decide +kernel
theorem dX1_drawLines_31 : decode cX1_drawLines 31 = .ok (.invokevirtual 69, 3) := by decide +kernel
theorem dX1_drawLines_34 : decode cX1_drawLines 34 = .ok (.iastore, 1) := by decide +kernel
theorem dX1_drawLines_35 : decode cX1_drawLines 35 = .ok (.iinc 1 1, 3) := by decide +kernel
theorem dX1_drawLines_38 : decode cX1_drawLines 38 = .ok (.goto (-36), 3) := by decide +kernel
theorem dX1_drawLines_41 : decode cX1_drawLines 41 = .ok (.return_, 1) := by decide +kernel
theorem dX1_lineFrom_0 : decode cX1_lineFrom 0 = .ok (.iconst 0, 1) := by decide +kernel
theorem dX1_lineFrom_1 : decode cX1_lineFrom 1 = .ok (.istore_n 3, 1) := by decide +kernel
theorem dX1_lineFrom_2 : decode cX1_lineFrom 2 = .ok (.iload_n 1, 1) := by decide +kernel
theorem dX1_lineFrom_3 : decode cX1_lineFrom 3 = .ok (.istore 4, 2) := by decide +kernel
theorem dX1_lineFrom_5 : decode cX1_lineFrom 5 = .ok (.iconst 0, 1) := by decide +kernel
theorem dX1_lineFrom_6 : decode cX1_lineFrom 6 = .ok (.istore 5, 2) := by decide +kernel
theorem dX1_lineFrom_8 : decode cX1_lineFrom 8 = .ok (.iload 5, 2) := by decide +kernel
theorem dX1_lineFrom_10 : decode cX1_lineFrom 10 = .ok (.bipush 32, 2) := by decide +kernel
theorem dX1_lineFrom_12 : decode cX1_lineFrom 12 = .ok (.if_icmp .ge 103, 3) := by decide +kernel
theorem dX1_lineFrom_15 : decode cX1_lineFrom 15 = .ok (.aload_n 0, 1) := by decide +kernel
theorem dX1_lineFrom_16 : decode cX1_lineFrom 16 = .ok (.iload 4, 2) := by decide +kernel
theorem dX1_lineFrom_18 : decode cX1_lineFrom 18 = .ok (.iload_n 2, 1) := by decide +kernel
theorem dX1_lineFrom_19 : decode cX1_lineFrom 19 = .ok (.invokevirtual 63, 3) := by decide +kernel
theorem dX1_lineFrom_22 : decode cX1_lineFrom 22 = .ok (.istore 6, 2) := by decide +kernel
theorem dX1_lineFrom_24 : decode cX1_lineFrom 24 = .ok (.iload 6, 2) := by decide +kernel
theorem dX1_lineFrom_26 : decode cX1_lineFrom 26 = .ok (.bipush (-9), 2) := by decide +kernel
theorem dX1_lineFrom_28 : decode cX1_lineFrom 28 = .ok (.if_icmp .ne 53, 3) := by decide +kernel
theorem dX1_lineFrom_31 : decode cX1_lineFrom 31 = .ok (.aload_n 0, 1) := by decide +kernel
theorem dX1_lineFrom_32 : decode cX1_lineFrom 32 = .ok (.getfield 40, 3) := by decide +kernel
theorem dX1_lineFrom_35 : decode cX1_lineFrom 35 = .ok (.ifCond .eq 16, 3) := by decide +kernel
theorem dX1_lineFrom_38 : decode cX1_lineFrom 38 = .ok (.iload_n 2, 1) := by decide +kernel
theorem dX1_lineFrom_39 : decode cX1_lineFrom 39 = .ok (.ifCond .eq 8, 3) := by decide +kernel
theorem dX1_lineFrom_42 : decode cX1_lineFrom 42 = .ok (.iload_n 2, 1) := by decide +kernel
theorem dX1_lineFrom_43 : decode cX1_lineFrom 43 = .ok (.iconst 1, 1) := by decide +kernel
theorem dX1_lineFrom_44 : decode cX1_lineFrom 44 = .ok (.if_icmp .ne 7, 3) := by decide +kernel
theorem dX1_lineFrom_47 : decode cX1_lineFrom 47 = .ok (.iconst 1, 1) := by decide +kernel
theorem dX1_lineFrom_48 : decode cX1_lineFrom 48 = .ok (.goto 4, 3) := by decide +kernel
theorem dX1_lineFrom_51 : decode cX1_lineFrom 51 = .ok (.iconst 0, 1) := by decide +kernel
theorem dX1_lineFrom_52 : decode cX1_lineFrom 52 = .ok (.istore 7, 2) := by decide +kernel
theorem dX1_lineFrom_54 : decode cX1_lineFrom 54 = .ok (.iload 7, 2) := by decide +kernel
theorem dX1_lineFrom_56 : decode cX1_lineFrom 56 = .ok (.ifCond .eq 23, 3) := by decide +kernel
theorem dX1_lineFrom_59 : decode cX1_lineFrom 59 = .ok (.iload_n 3, 1) := by decide +kernel
theorem dX1_lineFrom_60 : decode cX1_lineFrom 60 = .ok (.aload_n 0, 1) := by decide +kernel
theorem dX1_lineFrom_61 : decode cX1_lineFrom 61 = .ok (.iload 4, 2) := by decide +kernel
theorem dX1_lineFrom_63 : decode cX1_lineFrom 63 = .ok (.iload_n 2, 1) := by decide +kernel
theorem dX1_lineFrom_64 : decode cX1_lineFrom 64 = .ok (.ifCond .ne 7, 3) := by decide +kernel
theorem dX1_lineFrom_67 : decode cX1_lineFrom 67 = .ok (.iconst 1, 1) := by decide +kernel
theorem dX1_lineFrom_68 : decode cX1_lineFrom 68 = .ok (.goto 4, 3) := by decide +kernel
theorem dX1_lineFrom_71 : decode cX1_lineFrom 71 = .ok (.iconst 0, 1) := by decide +kernel
theorem dX1_lineFrom_72 : decode cX1_lineFrom 72 = .ok (.invokevirtual 72, 3) := by decide +kernel
theorem dX1_lineFrom_75 : decode cX1_lineFrom 75 = .ok (.ior, 1) := by decide +kernel
theorem dX1_lineFrom_76 : decode cX1_lineFrom 76 = .ok (.goto 4, 3) := by decide +kernel
theorem dX1_lineFrom_79 : decode cX1_lineFrom 79 = .ok (.iload_n 3, 1) := by decide +kernel
theorem dX1_lineFrom_80 : decode cX1_lineFrom 80 = .ok (.ireturn, 1) := by decide +kernel
theorem dX1_lineFrom_81 : decode cX1_lineFrom 81 = .ok (.aload_n 0, 1) := by decide +kernel
theorem dX1_lineFrom_82 : decode cX1_lineFrom 82 = .ok (.aload_n 0, 1) := by decide +kernel
theorem dX1_lineFrom_83 : decode cX1_lineFrom 83 = .ok (.iload 4, 2) := by decide +kernel
theorem dX1_lineFrom_85 : decode cX1_lineFrom 85 = .ok (.iload 6, 2) := by decide +kernel
theorem dX1_lineFrom_87 : decode cX1_lineFrom 87 = .ok (.invokevirtual 75, 3) := by decide +kernel
theorem dX1_lineFrom_90 : decode cX1_lineFrom 90 = .ok (.invokevirtual 78, 3) := by decide +kernel
theorem dX1_lineFrom_93 : decode cX1_lineFrom 93 = .ok (.ifCond .eq 5, 3) := by decide +kernel
theorem dX1_lineFrom_96 : decode cX1_lineFrom 96 = .ok (.iload_n 3, 1) := by decide +kernel
theorem dX1_lineFrom_97 : decode cX1_lineFrom 97 = .ok (.ireturn, 1) := by decide +kernel
theorem dX1_lineFrom_98 : decode cX1_lineFrom 98 = .ok (.iload_n 3, 1) := by decide +kernel
theorem dX1_lineFrom_99 : decode cX1_lineFrom 99 = .ok (.iconst 1, 1) := by decide +kernel
theorem dX1_lineFrom_100 : decode cX1_lineFrom 100 = .ok (.iload 6, 2) := by decide +kernel
theorem dX1_lineFrom_102 : decode cX1_lineFrom 102 = .ok (.ishl, 1) := by decide +kernel
theorem dX1_lineFrom_103 : decode cX1_lineFrom 103 = .ok (.ior, 1) := by decide +kernel
theorem dX1_lineFrom_104 : decode cX1_lineFrom 104 = .ok (.istore_n 3, 1) := by decide +kernel
theorem dX1_lineFrom_105 : decode cX1_lineFrom 105 = .ok (.iload 6, 2) := by decide +kernel
theorem dX1_lineFrom_107 : decode cX1_lineFrom 107 = .ok (.istore 4, 2) := by decide +kernel
theorem dX1_lineFrom_109 : decode cX1_lineFrom 109 = .ok (.iinc 5 1, 3) := by decide +kernel
theorem dX1_lineFrom_112 : decode cX1_lineFrom 112 = .ok (.goto (-104), 3) := by decide +kernel
theorem dX1_lineFrom_115 : decode cX1_lineFrom 115 = .ok (.iload_n 3, 1) := by decide +kernel
theorem dX1_lineFrom_116 : decode cX1_lineFrom 116 = .ok (.ireturn, 1) := by decide +kernel
theorem dX1_wayBack_0 : decode cX1_wayBack 0 = .ok (.iconst 1, 1) := by decide +kernel
theorem dX1_wayBack_1 : decode cX1_wayBack 1 = .ok (.iload_n 1, 1) := by decide +kernel
theorem dX1_wayBack_2 : decode cX1_wayBack 2 = .ok (.ishl, 1) := by decide +kernel
theorem dX1_wayBack_3 : decode cX1_wayBack 3 = .ok (.istore_n 3, 1) := by decide +kernel
theorem dX1_wayBack_4 : decode cX1_wayBack 4 = .ok (.iload_n 1, 1) := by decide +kernel
theorem dX1_wayBack_5 : decode cX1_wayBack 5 = .ok (.istore 4, 2) := by decide +kernel
theorem dX1_wayBack_7 : decode cX1_wayBack 7 = .ok (.iconst 0, 1) := by decide +kernel
theorem dX1_wayBack_8 : decode cX1_wayBack 8 = .ok (.istore 5, 2) := by decide +kernel
theorem dX1_wayBack_10 : decode cX1_wayBack 10 = .ok (.iload 5, 2) := by decide +kernel
theorem dX1_wayBack_12 : decode cX1_wayBack 12 = .ok (.bipush 32, 2) := by decide +kernel
theorem dX1_wayBack_14 : decode cX1_wayBack 14 = .ok (.if_icmp .ge 53, 3) := by decide +kernel
theorem dX1_wayBack_17 : decode cX1_wayBack 17 = .ok (.aload_n 0, 1) := by decide +kernel
theorem dX1_wayBack_18 : decode cX1_wayBack 18 = .ok (.iload 4, 2) := by decide +kernel
theorem dX1_wayBack_20 : decode cX1_wayBack 20 = .ok (.iload_n 2, 1) := by decide +kernel
theorem dX1_wayBack_21 : decode cX1_wayBack 21 = .ok (.invokevirtual 63, 3) := by decide +kernel
theorem dX1_wayBack_24 : decode cX1_wayBack 24 = .ok (.istore 6, 2) := by decide +kernel
theorem dX1_wayBack_26 : decode cX1_wayBack 26 = .ok (.iload 6, 2) := by decide +kernel
theorem dX1_wayBack_28 : decode cX1_wayBack 28 = .ok (.bipush (-9), 2) := by decide +kernel
theorem dX1_wayBack_30 : decode cX1_wayBack 30 = .ok (.if_icmp .eq 18, 3) := by decide +kernel
theorem dX1_wayBack_33 : decode cX1_wayBack 33 = .ok (.aload_n 0, 1) := by decide +kernel
theorem dX1_wayBack_34 : decode cX1_wayBack 34 = .ok (.aload_n 0, 1) := by decide +kernel
theorem dX1_wayBack_35 : decode cX1_wayBack 35 = .ok (.iload 4, 2) := by decide +kernel
theorem dX1_wayBack_37 : decode cX1_wayBack 37 = .ok (.iload 6, 2) := by decide +kernel
theorem dX1_wayBack_39 : decode cX1_wayBack 39 = .ok (.invokevirtual 75, 3) := by decide +kernel
theorem dX1_wayBack_42 : decode cX1_wayBack 42 = .ok (.invokevirtual 78, 3) := by decide +kernel
theorem dX1_wayBack_45 : decode cX1_wayBack 45 = .ok (.ifCond .eq 5, 3) := by decide +kernel
theorem dX1_wayBack_48 : decode cX1_wayBack 48 = .ok (.iload_n 3, 1) := by decide +kernel
theorem dX1_wayBack_49 : decode cX1_wayBack 49 = .ok (.ireturn, 1) := by decide +kernel
theorem dX1_wayBack_50 : decode cX1_wayBack 50 = .ok (.iload_n 3, 1) := by decide +kernel
theorem dX1_wayBack_51 : decode cX1_wayBack 51 = .ok (.iconst 1, 1) := by decide +kernel
theorem dX1_wayBack_52 : decode cX1_wayBack 52 = .ok (.iload 6, 2) := by decide +kernel
theorem dX1_wayBack_54 : decode cX1_wayBack 54 = .ok (.ishl, 1) := by decide +kernel
theorem dX1_wayBack_55 : decode cX1_wayBack 55 = .ok (.ior, 1) := by decide +kernel
theorem dX1_wayBack_56 : decode cX1_wayBack 56 = .ok (.istore_n 3, 1) := by decide +kernel
theorem dX1_wayBack_57 : decode cX1_wayBack 57 = .ok (.iload 6, 2) := by decide +kernel
theorem dX1_wayBack_59 : decode cX1_wayBack 59 = .ok (.istore 4, 2) := by decide +kernel
theorem dX1_wayBack_61 : decode cX1_wayBack 61 = .ok (.iinc 5 1, 3) := by decide +kernel
theorem dX1_wayBack_64 : decode cX1_wayBack 64 = .ok (.goto (-54), 3) := by decide +kernel
theorem dX1_wayBack_67 : decode cX1_wayBack 67 = .ok (.iload_n 3, 1) := by decide +kernel
theorem dX1_wayBack_68 : decode cX1_wayBack 68 = .ok (.ireturn, 1) := by decide +kernel
theorem dX2_init_0 : decode cX2_init 0 = .ok (.aload_n 0, 1) := by decide +kernel
theorem dX2_init_1 : decode cX2_init 1 = .ok (.invokespecial 3, 3) := by decide +kernel
theorem dX2_init_4 : decode cX2_init 4 = .ok (.aload_n 0, 1) := by decide +kernel
theorem dX2_init_5 : decode cX2_init 5 = .ok (.bipush 32, 2) := by decide +kernel
theorem dX2_init_7 : decode cX2_init 7 = .ok (.newarray .int, 2) := by decide +kernel
theorem dX2_init_9 : decode cX2_init 9 = .ok (.putfield 9, 3) := by decide +kernel
theorem dX2_init_12 : decode cX2_init 12 = .ok (.return_, 1) := by decide +kernel
theorem dX2_begin_0 : decode cX2_begin 0 = .ok (.aload_n 0, 1) := by decide +kernel
theorem dX2_begin_1 : decode cX2_begin 1 = .ok (.iconst 0, 1) := by decide +kernel
theorem dX2_begin_2 : decode cX2_begin 2 = .ok (.putfield 15, 3) := by decide +kernel
theorem dX2_begin_5 : decode cX2_begin 5 = .ok (.aload_n 0, 1) := by decide +kernel
theorem dX2_begin_6 : decode cX2_begin 6 = .ok (.iconst 0, 1) := by decide +kernel
theorem dX2_begin_7 : decode cX2_begin 7 = .ok (.putfield 19, 3) := by decide +kernel
theorem dX2_begin_10 : decode cX2_begin 10 = .ok (.aload_n 0, 1) := by decide +kernel
theorem dX2_begin_11 : decode cX2_begin 11 = .ok (.iconst 0, 1) := by decide +kernel
theorem dX2_begin_12 : decode cX2_begin 12 = .ok (.putfield 22, 3) := by decide +kernel
theorem dX2_begin_15 : decode cX2_begin 15 = .ok (.aload_n 0, 1) := by decide +kernel
theorem dX2_begin_16 : decode cX2_begin 16 = .ok (.iconst 0, 1) := by decide +kernel
theorem dX2_begin_17 : decode cX2_begin 17 = .ok (.putfield 25, 3) := by decide +kernel
theorem dX2_begin_20 : decode cX2_begin 20 = .ok (.aload_n 0, 1) := by decide +kernel
theorem dX2_begin_21 : decode cX2_begin 21 = .ok (.iconst 0, 1) := by decide +kernel
theorem dX2_begin_22 : decode cX2_begin 22 = .ok (.putfield 29, 3) := by decide +kernel
theorem dX2_begin_25 : decode cX2_begin 25 = .ok (.return_, 1) := by decide +kernel
theorem dX2_takes_0 : decode cX2_takes 0 = .ok (.aload_n 0, 1) := by decide +kernel
theorem dX2_takes_1 : decode cX2_takes 1 = .ok (.getfield 15, 3) := by decide +kernel
theorem dX2_takes_4 : decode cX2_takes 4 = .ok (.tableswitch 182 0 4 #[36, 53, 84, 115, 165], 36) := by decide +kernel
theorem dX2_takes_40 : decode cX2_takes 40 = .ok (.aload_n 0, 1) := by decide +kernel
theorem dX2_takes_41 : decode cX2_takes 41 = .ok (.iconst 1, 1) := by decide +kernel
theorem dX2_takes_42 : decode cX2_takes 42 = .ok (.putfield 15, 3) := by decide +kernel
theorem dX2_takes_45 : decode cX2_takes 45 = .ok (.iload_n 1, 1) := by decide +kernel
theorem dX2_takes_46 : decode cX2_takes 46 = .ok (.bipush 99, 2) := by decide +kernel
theorem dX2_takes_48 : decode cX2_takes 48 = .ok (.if_icmp .ne 7, 3) := by decide +kernel
theorem dX2_takes_51 : decode cX2_takes 51 = .ok (.iconst 1, 1) := by decide +kernel
theorem dX2_takes_52 : decode cX2_takes 52 = .ok (.goto 4, 3) := by decide +kernel
theorem dX2_takes_55 : decode cX2_takes 55 = .ok (.iconst 0, 1) := by decide +kernel
theorem dX2_takes_56 : decode cX2_takes 56 = .ok (.ireturn, 1) := by decide +kernel
theorem dX2_takes_57 : decode cX2_takes 57 = .ok (.aload_n 0, 1) := by decide +kernel
theorem dX2_takes_58 : decode cX2_takes 58 = .ok (.iload_n 1, 1) := by decide +kernel
theorem dX2_takes_59 : decode cX2_takes 59 = .ok (.bipush 48, 2) := by decide +kernel
theorem dX2_takes_61 : decode cX2_takes 61 = .ok (.isub, 1) := by decide +kernel
theorem dX2_takes_62 : decode cX2_takes 62 = .ok (.putfield 19, 3) := by decide +kernel
theorem dX2_takes_65 : decode cX2_takes 65 = .ok (.aload_n 0, 1) := by decide +kernel
theorem dX2_takes_66 : decode cX2_takes 66 = .ok (.iconst 2, 1) := by decide +kernel
theorem dX2_takes_67 : decode cX2_takes 67 = .ok (.putfield 15, 3) := by decide +kernel
theorem dX2_takes_70 : decode cX2_takes 70 = .ok (.iload_n 1, 1) := by decide +kernel
theorem dX2_takes_71 : decode cX2_takes 71 = .ok (.bipush 49, 2) := by decide +kernel
theorem dX2_takes_73 : decode cX2_takes 73 = .ok (.if_icmp .lt 13, 3) := by decide +kernel
theorem dX2_takes_76 : decode cX2_takes 76 = .ok (.iload_n 1, 1) := by decide +kernel
theorem dX2_takes_77 : decode cX2_takes 77 = .ok (.bipush 56, 2) := by decide +kernel
theorem dX2_takes_79 : decode cX2_takes 79 = .ok (.if_icmp .gt 7, 3) := by decide +kernel
theorem dX2_takes_82 : decode cX2_takes 82 = .ok (.iconst 1, 1) := by decide +kernel
theorem dX2_takes_83 : decode cX2_takes 83 = .ok (.goto 4, 3) := by decide +kernel
theorem dX2_takes_86 : decode cX2_takes 86 = .ok (.iconst 0, 1) := by decide +kernel
theorem dX2_takes_87 : decode cX2_takes 87 = .ok (.ireturn, 1) := by decide +kernel
theorem dX2_takes_88 : decode cX2_takes 88 = .ok (.aload_n 0, 1) := by decide +kernel
theorem dX2_takes_89 : decode cX2_takes 89 = .ok (.iload_n 1, 1) := by decide +kernel
theorem dX2_takes_90 : decode cX2_takes 90 = .ok (.bipush 48, 2) := by decide +kernel
theorem dX2_takes_92 : decode cX2_takes 92 = .ok (.isub, 1) := by decide +kernel
theorem dX2_takes_93 : decode cX2_takes 93 = .ok (.putfield 22, 3) := by decide +kernel
theorem dX2_takes_96 : decode cX2_takes 96 = .ok (.aload_n 0, 1) := by decide +kernel
theorem dX2_takes_97 : decode cX2_takes 97 = .ok (.iconst 3, 1) := by decide +kernel
theorem dX2_takes_98 : decode cX2_takes 98 = .ok (.putfield 15, 3) := by decide +kernel
theorem dX2_takes_101 : decode cX2_takes 101 = .ok (.iload_n 1, 1) := by decide +kernel
theorem dX2_takes_102 : decode cX2_takes 102 = .ok (.bipush 49, 2) := by decide +kernel
theorem dX2_takes_104 : decode cX2_takes 104 = .ok (.if_icmp .lt 13, 3) := by decide +kernel
theorem dX2_takes_107 : decode cX2_takes 107 = .ok (.iload_n 1, 1) := by decide +kernel
theorem dX2_takes_108 : decode cX2_takes 108 = .ok (.bipush 52, 2) := by decide +kernel
theorem dX2_takes_110 : decode cX2_takes 110 = .ok (.if_icmp .gt 7, 3) := by decide +kernel
theorem dX2_takes_113 : decode cX2_takes 113 = .ok (.iconst 1, 1) := by decide +kernel
theorem dX2_takes_114 : decode cX2_takes 114 = .ok (.goto 4, 3) := by decide +kernel
theorem dX2_takes_117 : decode cX2_takes 117 = .ok (.iconst 0, 1) := by decide +kernel
theorem dX2_takes_118 : decode cX2_takes 118 = .ok (.ireturn, 1) := by decide +kernel
theorem dX2_takes_119 : decode cX2_takes 119 = .ok (.aload_n 0, 1) := by decide +kernel
theorem dX2_takes_120 : decode cX2_takes 120 = .ok (.iload_n 1, 1) := by decide +kernel
theorem dX2_takes_121 : decode cX2_takes 121 = .ok (.bipush 109, 2) := by decide +kernel
theorem dX2_takes_123 : decode cX2_takes 123 = .ok (.if_icmp .ne 7, 3) := by decide +kernel
theorem dX2_takes_126 : decode cX2_takes 126 = .ok (.iconst 1, 1) := by decide +kernel
theorem dX2_takes_127 : decode cX2_takes 127 = .ok (.goto 4, 3) := by decide +kernel
theorem dX2_takes_130 : decode cX2_takes 130 = .ok (.iconst 0, 1) := by decide +kernel
theorem dX2_takes_131 : decode cX2_takes 131 = .ok (.putfield 25, 3) := by decide +kernel
theorem dX2_takes_134 : decode cX2_takes 134 = .ok (.aload_n 0, 1) := by decide +kernel
theorem dX2_takes_135 : decode cX2_takes 135 = .ok (.aload_n 0, 1) := by decide +kernel
theorem dX2_takes_136 : decode cX2_takes 136 = .ok (.getfield 25, 3) := by decide +kernel
theorem dX2_takes_139 : decode cX2_takes 139 = .ok (.ifCond .eq 7, 3) := by decide +kernel
theorem dX2_takes_142 : decode cX2_takes 142 = .ok (.iconst 4, 1) := by decide +kernel
theorem dX2_takes_143 : decode cX2_takes 143 = .ok (.goto 4, 3) := by decide +kernel
theorem dX2_takes_146 : decode cX2_takes 146 = .ok (.iconst 5, 1) := by decide +kernel
theorem dX2_takes_147 : decode cX2_takes 147 = .ok (.putfield 15, 3) := by decide +kernel
theorem dX2_takes_150 : decode cX2_takes 150 = .ok (.aload_n 0, 1) := by decide +kernel
theorem dX2_takes_151 : decode cX2_takes 151 = .ok (.getfield 25, 3) := by decide +kernel
theorem dX2_takes_154 : decode cX2_takes 154 = .ok (.ifCond .ne 9, 3) := by decide +kernel
theorem dX2_takes_157 : decode cX2_takes 157 = .ok (.iload_n 1, 1) := by decide +kernel
theorem dX2_takes_158 : decode cX2_takes 158 = .ok (.bipush 59, 2) := by decide +kernel
theorem dX2_takes_160 : decode cX2_takes 160 = .ok (.if_icmp .ne 7, 3) := by decide +kernel
theorem dX2_takes_163 : decode cX2_takes 163 = .ok (.iconst 1, 1) := by decide +kernel
theorem dX2_takes_164 : decode cX2_takes 164 = .ok (.goto 4, 3) := by decide +kernel
theorem dX2_takes_167 : decode cX2_takes 167 = .ok (.iconst 0, 1) := by decide +kernel
theorem dX2_takes_168 : decode cX2_takes 168 = .ok (.ireturn, 1) := by decide +kernel
theorem dX2_takes_169 : decode cX2_takes 169 = .ok (.aload_n 0, 1) := by decide +kernel
theorem dX2_takes_170 : decode cX2_takes 170 = .ok (.iconst 5, 1) := by decide +kernel
theorem dX2_takes_171 : decode cX2_takes 171 = .ok (.putfield 15, 3) := by decide +kernel
theorem dX2_takes_174 : decode cX2_takes 174 = .ok (.iload_n 1, 1) := by decide +kernel
theorem dX2_takes_175 : decode cX2_takes 175 = .ok (.bipush 59, 2) := by decide +kernel
theorem dX2_takes_177 : decode cX2_takes 177 = .ok (.if_icmp .ne 7, 3) := by decide +kernel
theorem dX2_takes_180 : decode cX2_takes 180 = .ok (.iconst 1, 1) := by decide +kernel
theorem dX2_takes_181 : decode cX2_takes 181 = .ok (.goto 4, 3) := by decide +kernel
theorem dX2_takes_184 : decode cX2_takes 184 = .ok (.iconst 0, 1) := by decide +kernel
theorem dX2_takes_185 : decode cX2_takes 185 = .ok (.ireturn, 1) := by decide +kernel
theorem dX2_takes_186 : decode cX2_takes 186 = .ok (.aload_n 0, 1) := by decide +kernel
theorem dX2_takes_187 : decode cX2_takes 187 = .ok (.iload_n 1, 1) := by decide +kernel
theorem dX2_takes_188 : decode cX2_takes 188 = .ok (.invokestatic 32, 3) := by decide +kernel
theorem dX2_takes_191 : decode cX2_takes 191 = .ok (.invokevirtual 36, 3) := by decide +kernel
theorem dX2_takes_194 : decode cX2_takes 194 = .ok (.ireturn, 1) := by decide +kernel
theorem dX2_takesSeat_0 : decode cX2_takesSeat 0 = .ok (.iload_n 1, 1) := by decide +kernel
theorem dX2_takesSeat_1 : decode cX2_takesSeat 1 = .ok (.bipush (-9), 2) := by decide +kernel
theorem dX2_takesSeat_3 : decode cX2_takesSeat 3 = .ok (.if_icmp .eq 38, 3) := by decide +kernel
theorem dX2_takesSeat_6 : decode cX2_takesSeat 6 = .ok (.aload_n 0, 1) := by decide +kernel
theorem dX2_takesSeat_7 : decode cX2_takesSeat 7 = .ok (.getfield 29, 3) := by decide +kernel
theorem dX2_takesSeat_10 : decode cX2_takesSeat 10 = .ok (.aload_n 0, 1) := by decide +kernel
theorem dX2_takesSeat_11 : decode cX2_takesSeat 11 = .ok (.getfield 19, 3) := by decide +kernel
theorem dX2_takesSeat_14 : decode cX2_takesSeat 14 = .ok (.aload_n 0, 1) := by decide +kernel
theorem dX2_takesSeat_15 : decode cX2_takesSeat 15 = .ok (.getfield 22, 3) := by decide +kernel
theorem dX2_takesSeat_18 : decode cX2_takesSeat 18 = .ok (.imul, 1) := by decide +kernel
theorem dX2_takesSeat_19 : decode cX2_takesSeat 19 = .ok (.if_icmp .ge 22, 3) := by decide +kernel
theorem dX2_takesSeat_22 : decode cX2_takesSeat 22 = .ok (.aload_n 0, 1) := by decide +kernel
theorem dX2_takesSeat_23 : decode cX2_takesSeat 23 = .ok (.getfield 29, 3) := by decide +kernel
theorem dX2_takesSeat_26 : decode cX2_takesSeat 26 = .ok (.ifCond .lt 15, 3) := by decide +kernel
theorem dX2_takesSeat_29 : decode cX2_takesSeat 29 = .ok (.aload_n 0, 1) := by decide +kernel
theorem dX2_takesSeat_30 : decode cX2_takesSeat 30 = .ok (.getfield 29, 3) := by decide +kernel
theorem dX2_takesSeat_33 : decode cX2_takesSeat 33 = .ok (.aload_n 0, 1) := by decide +kernel
theorem dX2_takesSeat_34 : decode cX2_takesSeat 34 = .ok (.getfield 9, 3) := by decide +kernel
theorem dX2_takesSeat_37 : decode cX2_takesSeat 37 = .ok (.arraylength, 1) := by decide +kernel
theorem dX2_takesSeat_38 : decode cX2_takesSeat 38 = .ok (.if_icmp .lt 5, 3) := by decide +kernel
theorem dX2_takesSeat_41 : decode cX2_takesSeat 41 = .ok (.iconst 0, 1) := by decide +kernel
theorem dX2_takesSeat_42 : decode cX2_takesSeat 42 = .ok (.ireturn, 1) := by decide +kernel
theorem dX2_takesSeat_43 : decode cX2_takesSeat 43 = .ok (.aload_n 0, 1) := by decide +kernel
theorem dX2_takesSeat_44 : decode cX2_takesSeat 44 = .ok (.getfield 9, 3) := by decide +kernel
theorem dX2_takesSeat_47 : decode cX2_takesSeat 47 = .ok (.aload_n 0, 1) := by decide +kernel
theorem dX2_takesSeat_48 : decode cX2_takesSeat 48 = .ok (.getfield 29, 3) := by decide +kernel
theorem dX2_takesSeat_51 : decode cX2_takesSeat 51 = .ok (.iload_n 1, 1) := by decide +kernel
theorem dX2_takesSeat_52 : decode cX2_takesSeat 52 = .ok (.iastore, 1) := by decide +kernel
theorem dX2_takesSeat_53 : decode cX2_takesSeat 53 = .ok (.aload_n 0, 1) := by decide +kernel
theorem dX2_takesSeat_54 : decode cX2_takesSeat 54 = .ok (.dup, 1) := by decide +kernel
theorem dX2_takesSeat_55 : decode cX2_takesSeat 55 = .ok (.getfield 29, 3) := by decide +kernel
theorem dX2_takesSeat_58 : decode cX2_takesSeat 58 = .ok (.iconst 1, 1) := by decide +kernel
theorem dX2_takesSeat_59 : decode cX2_takesSeat 59 = .ok (.iadd, 1) := by decide +kernel
theorem dX2_takesSeat_60 : decode cX2_takesSeat 60 = .ok (.putfield 29, 3) := by decide +kernel
theorem dX2_takesSeat_63 : decode cX2_takesSeat 63 = .ok (.iconst 1, 1) := by decide +kernel
theorem dX2_takesSeat_64 : decode cX2_takesSeat 64 = .ok (.ireturn, 1) := by decide +kernel
theorem dX2_faceBy_0 : decode cX2_faceBy 0 = .ok (.iload_n 0, 1) := by decide +kernel
theorem dX2_faceBy_1 : decode cX2_faceBy 1 = .ok (.lookupswitch 51 #[(98, 45), (102, 43), (108, 47), (114, 49)], 43) := by decide +kernel
theorem dX2_faceBy_44 : decode cX2_faceBy 44 = .ok (.iconst 0, 1) := by decide +kernel
theorem dX2_faceBy_45 : decode cX2_faceBy 45 = .ok (.ireturn, 1) := by decide +kernel
theorem dX2_faceBy_46 : decode cX2_faceBy 46 = .ok (.iconst 1, 1) := by decide +kernel
theorem dX2_faceBy_47 : decode cX2_faceBy 47 = .ok (.ireturn, 1) := by decide +kernel
theorem dX2_faceBy_48 : decode cX2_faceBy 48 = .ok (.iconst 2, 1) := by decide +kernel
theorem dX2_faceBy_49 : decode cX2_faceBy 49 = .ok (.ireturn, 1) := by decide +kernel
theorem dX2_faceBy_50 : decode cX2_faceBy 50 = .ok (.iconst 3, 1) := by decide +kernel
theorem dX2_faceBy_51 : decode cX2_faceBy 51 = .ok (.ireturn, 1) := by decide +kernel
theorem dX2_faceBy_52 : decode cX2_faceBy 52 = .ok (.bipush (-9), 2) := by decide +kernel
theorem dX2_faceBy_54 : decode cX2_faceBy 54 = .ok (.ireturn, 1) := by decide +kernel
theorem dX2_isWhole_0 : decode cX2_isWhole 0 = .ok (.aload_n 0, 1) := by decide +kernel
theorem dX2_isWhole_1 : decode cX2_isWhole 1 = .ok (.getfield 15, 3) := by decide +kernel
theorem dX2_isWhole_4 : decode cX2_isWhole 4 = .ok (.iconst 5, 1) := by decide +kernel
theorem dX2_isWhole_5 : decode cX2_isWhole 5 = .ok (.if_icmp .ne 23, 3) := by decide +kernel
theorem dX2_isWhole_8 : decode cX2_isWhole 8 = .ok (.aload_n 0, 1) := by decide +kernel
theorem dX2_isWhole_9 : decode cX2_isWhole 9 = .ok (.getfield 29, 3) := by decide +kernel
theorem dX2_isWhole_12 : decode cX2_isWhole 12 = .ok (.aload_n 0, 1) := by decide +kernel
theorem dX2_isWhole_13 : decode cX2_isWhole 13 = .ok (.getfield 19, 3) := by decide +kernel
theorem dX2_isWhole_16 : decode cX2_isWhole 16 = .ok (.aload_n 0, 1) := by decide +kernel
theorem dX2_isWhole_17 : decode cX2_isWhole 17 = .ok (.getfield 22, 3) := by decide +kernel
theorem dX2_isWhole_20 : decode cX2_isWhole 20 = .ok (.imul, 1) := by decide +kernel
theorem dX2_isWhole_21 : decode cX2_isWhole 21 = .ok (.if_icmp .ne 7, 3) := by decide +kernel
theorem dX2_isWhole_24 : decode cX2_isWhole 24 = .ok (.iconst 1, 1) := by decide +kernel
theorem dX2_isWhole_25 : decode cX2_isWhole 25 = .ok (.goto 4, 3) := by decide +kernel
theorem dX2_isWhole_28 : decode cX2_isWhole 28 = .ok (.iconst 0, 1) := by decide +kernel
theorem dX2_isWhole_29 : decode cX2_isWhole 29 = .ok (.ireturn, 1) := by decide +kernel
theorem dX2_faceAt_0 : decode cX2_faceAt 0 = .ok (.iload_n 1, 1) := by decide +kernel
theorem dX2_faceAt_1 : decode cX2_faceAt 1 = .ok (.ifCond .lt 21, 3) := by decide +kernel
theorem dX2_faceAt_4 : decode cX2_faceAt 4 = .ok (.iload_n 1, 1) := by decide +kernel
theorem dX2_faceAt_5 : decode cX2_faceAt 5 = .ok (.aload_n 0, 1) := by decide +kernel
theorem dX2_faceAt_6 : decode cX2_faceAt 6 = .ok (.getfield 9, 3) := by decide +kernel
theorem dX2_faceAt_9 : decode cX2_faceAt 9 = .ok (.arraylength, 1) := by decide +kernel
theorem dX2_faceAt_10 : decode cX2_faceAt 10 = .ok (.if_icmp .ge 12, 3) := by decide +kernel
theorem dX2_faceAt_13 : decode cX2_faceAt 13 = .ok (.aload_n 0, 1) := by decide +kernel
theorem dX2_faceAt_14 : decode cX2_faceAt 14 = .ok (.getfield 9, 3) := by decide +kernel
theorem dX2_faceAt_17 : decode cX2_faceAt 17 = .ok (.iload_n 1, 1) := by decide +kernel
theorem dX2_faceAt_18 : decode cX2_faceAt 18 = .ok (.iaload, 1) := by decide +kernel
theorem dX2_faceAt_19 : decode cX2_faceAt 19 = .ok (.goto 4, 3) := by decide +kernel
theorem dX2_faceAt_22 : decode cX2_faceAt 22 = .ok (.iconst 0, 1) := by decide +kernel
theorem dX2_faceAt_23 : decode cX2_faceAt 23 = .ok (.ireturn, 1) := by decide +kernel
theorem dX3_init_0 : decode cX3_init 0 = .ok (.aload_n 0, 1) := by decide +kernel
theorem dX3_init_1 : decode cX3_init 1 = .ok (.iload_n 1, 1) := by decide +kernel
theorem dX3_init_2 : decode cX3_init 2 = .ok (.iload_n 2, 1) := by decide +kernel
theorem dX3_init_3 : decode cX3_init 3 = .ok (.iload_n 3, 1) := by decide +kernel
theorem dX3_init_4 : decode cX3_init 4 = .ok (.invokespecial 3, 3) := by decide +kernel
theorem dX3_init_7 : decode cX3_init 7 = .ok (.return_, 1) := by decide +kernel
theorem dX3_kind_0 : decode cX3_kind 0 = .ok (.iconst 1, 1) := by decide +kernel
theorem dX3_kind_1 : decode cX3_kind 1 = .ok (.ireturn, 1) := by decide +kernel
theorem dX3_takes_0 : decode cX3_takes 0 = .ok (.aload_n 0, 1) := by decide +kernel
theorem dX3_takes_1 : decode cX3_takes 1 = .ok (.aload_n 1, 1) := by decide +kernel
theorem dX3_takes_2 : decode cX3_takes 2 = .ok (.iload_n 2, 1) := by decide +kernel
theorem dX3_takes_3 : decode cX3_takes 3 = .ok (.iload_n 3, 1) := by decide +kernel
theorem dX3_takes_4 : decode cX3_takes 4 = .ok (.invokespecial 9, 3) := by decide +kernel
theorem dX3_takes_7 : decode cX3_takes 7 = .ok (.aload_n 1, 1) := by decide +kernel
theorem dX3_takes_8 : decode cX3_takes 8 = .ok (.iconst 4, 1) := by decide +kernel
theorem dX3_takes_9 : decode cX3_takes 9 = .ok (.invokevirtual 13, 3) := by decide +kernel
theorem dX3_takes_12 : decode cX3_takes 12 = .ok (.imul, 1) := by decide +kernel
theorem dX3_takes_13 : decode cX3_takes 13 = .ok (.bipush 9, 2) := by decide +kernel
theorem dX3_takes_15 : decode cX3_takes 15 = .ok (.idiv, 1) := by decide +kernel
theorem dX3_takes_16 : decode cX3_takes 16 = .ok (.ireturn, 1) := by decide +kernel
theorem dX3_takesOwn_0 : decode cX3_takesOwn 0 = .ok (.aload_n 0, 1) := by decide +kernel
theorem dX3_takesOwn_1 : decode cX3_takesOwn 1 = .ok (.aload_n 1, 1) := by decide +kernel
theorem dX3_takesOwn_2 : decode cX3_takesOwn 2 = .ok (.iload_n 2, 1) := by decide +kernel
theorem dX3_takesOwn_3 : decode cX3_takesOwn 3 = .ok (.invokespecial 19, 3) := by decide +kernel
theorem dX3_takesOwn_6 : decode cX3_takesOwn 6 = .ok (.aload_n 1, 1) := by decide +kernel
theorem dX3_takesOwn_7 : decode cX3_takesOwn 7 = .ok (.iconst 4, 1) := by decide +kernel
theorem dX3_takesOwn_8 : decode cX3_takesOwn 8 = .ok (.invokevirtual 13, 3) := by decide +kernel
theorem dX3_takesOwn_11 : decode cX3_takesOwn 11 = .ok (.imul, 1) := by decide +kernel
theorem dX3_takesOwn_12 : decode cX3_takesOwn 12 = .ok (.bipush 9, 2) := by decide +kernel
theorem dX3_takesOwn_14 : decode cX3_takesOwn 14 = .ok (.idiv, 1) := by decide +kernel
theorem dX3_takesOwn_15 : decode cX3_takesOwn 15 = .ok (.ireturn, 1) := by decide +kernel
theorem dX3_tells_0 : decode cX3_tells 0 = .ok (.aload_n 1, 1) := by decide +kernel
theorem dX3_tells_1 : decode cX3_tells 1 = .ok (.iconst 2, 1) := by decide +kernel
theorem dX3_tells_2 : decode cX3_tells 2 = .ok (.invokevirtual 23, 3) := by decide +kernel
theorem dX3_tells_5 : decode cX3_tells 5 = .ok (.aload_n 0, 1) := by decide +kernel
theorem dX3_tells_6 : decode cX3_tells 6 = .ok (.aload_n 1, 1) := by decide +kernel
theorem dX3_tells_7 : decode cX3_tells 7 = .ok (.invokevirtual 27, 3) := by decide +kernel
theorem dX3_tells_10 : decode cX3_tells 10 = .ok (.bipush 100, 2) := by decide +kernel
theorem dX3_tells_12 : decode cX3_tells 12 = .ok (.iadd, 1) := by decide +kernel
theorem dX3_tells_13 : decode cX3_tells 13 = .ok (.ireturn, 1) := by decide +kernel
theorem dX4_init_0 : decode cX4_init 0 = .ok (.aload_n 0, 1) := by decide +kernel
theorem dX4_init_1 : decode cX4_init 1 = .ok (.iload_n 1, 1) := by decide +kernel
theorem dX4_init_2 : decode cX4_init 2 = .ok (.iload_n 2, 1) := by decide +kernel
theorem dX4_init_3 : decode cX4_init 3 = .ok (.iload_n 3, 1) := by decide +kernel
theorem dX4_init_4 : decode cX4_init 4 = .ok (.invokespecial 1, 3) := by decide +kernel
theorem dX4_init_7 : decode cX4_init 7 = .ok (.return_, 1) := by decide +kernel
theorem dX4_kind_0 : decode cX4_kind 0 = .ok (.iconst 2, 1) := by decide +kernel
theorem dX4_kind_1 : decode cX4_kind 1 = .ok (.ireturn, 1) := by decide +kernel
theorem dX4_takes_0 : decode cX4_takes 0 = .ok (.iload_n 3, 1) := by decide +kernel
theorem dX4_takes_1 : decode cX4_takes 1 = .ok (.ifCond .eq 13, 3) := by decide +kernel
theorem dX4_takes_4 : decode cX4_takes 4 = .ok (.aload_n 0, 1) := by decide +kernel
theorem dX4_takes_5 : decode cX4_takes 5 = .ok (.aload_n 1, 1) := by decide +kernel
theorem dX4_takes_6 : decode cX4_takes 6 = .ok (.iload_n 2, 1) := by decide +kernel
theorem dX4_takes_7 : decode cX4_takes 7 = .ok (.iconst 1, 1) := by decide +kernel
theorem dX4_takes_8 : decode cX4_takes 8 = .ok (.invokespecial 7, 3) := by decide +kernel
theorem dX4_takes_11 : decode cX4_takes 11 = .ok (.goto 4, 3) := by decide +kernel
theorem dX4_takes_14 : decode cX4_takes 14 = .ok (.iconst 0, 1) := by decide +kernel
theorem dX4_takes_15 : decode cX4_takes 15 = .ok (.ireturn, 1) := by decide +kernel
theorem dX4_tells_0 : decode cX4_tells 0 = .ok (.aload_n 1, 1) := by decide +kernel
theorem dX4_tells_1 : decode cX4_tells 1 = .ok (.iconst 3, 1) := by decide +kernel
theorem dX4_tells_2 : decode cX4_tells 2 = .ok (.invokevirtual 11, 3) := by decide +kernel
theorem dX4_tells_5 : decode cX4_tells 5 = .ok (.aload_n 0, 1) := by decide +kernel
theorem dX4_tells_6 : decode cX4_tells 6 = .ok (.aload_n 1, 1) := by decide +kernel
theorem dX4_tells_7 : decode cX4_tells 7 = .ok (.invokespecial 17, 3) := by decide +kernel
theorem dX4_tells_10 : decode cX4_tells 10 = .ok (.istore_n 2, 1) := by decide +kernel
theorem dX4_tells_11 : decode cX4_tells 11 = .ok (.iload_n 2, 1) := by decide +kernel
theorem dX4_tells_12 : decode cX4_tells 12 = .ok (.aload_n 0, 1) := by decide +kernel
theorem dX4_tells_13 : decode cX4_tells 13 = .ok (.aload_n 1, 1) := by decide +kernel
theorem dX4_tells_14 : decode cX4_tells 14 = .ok (.invokevirtual 21, 3) := by decide +kernel
theorem dX4_tells_17 : decode cX4_tells 17 = .ok (.iadd, 1) := by decide +kernel
theorem dX4_tells_18 : decode cX4_tells 18 = .ok (.ireturn, 1) := by decide +kernel
theorem dX4_wakes_0 : decode cX4_wakes 0 = .ok (.aload_n 1, 1) := by decide +kernel
theorem dX4_wakes_1 : decode cX4_wakes 1 = .ok (.iconst 5, 1) := by decide +kernel
theorem dX4_wakes_2 : decode cX4_wakes 2 = .ok (.invokevirtual 11, 3) := by decide +kernel
theorem dX4_wakes_5 : decode cX4_wakes 5 = .ok (.bipush 80, 2) := by decide +kernel
theorem dX4_wakes_7 : decode cX4_wakes 7 = .ok (.ireturn, 1) := by decide +kernel
theorem dX5_init_0 : decode cX5_init 0 = .ok (.aload_n 0, 1) := by decide +kernel
theorem dX5_init_1 : decode cX5_init 1 = .ok (.invokespecial 3, 3) := by decide +kernel
theorem dX5_init_4 : decode cX5_init 4 = .ok (.aload_n 0, 1) := by decide +kernel
theorem dX5_init_5 : decode cX5_init 5 = .ok (.bipush 7, 2) := by decide +kernel
theorem dX5_init_7 : decode cX5_init 7 = .ok (.newarray .int, 2) := by decide +kernel
theorem dX5_init_9 : decode cX5_init 9 = .ok (.putfield 9, 3) := by decide +kernel
theorem dX5_init_12 : decode cX5_init 12 = .ok (.iconst 0, 1) := by decide +kernel
theorem dX5_init_13 : decode cX5_init 13 = .ok (.istore_n 2, 1) := by decide +kernel
theorem dX5_init_14 : decode cX5_init 14 = .ok (.iload_n 2, 1) := by decide +kernel
theorem dX5_init_15 : decode cX5_init 15 = .ok (.aload_n 0, 1) := by decide +kernel
theorem dX5_init_16 : decode cX5_init 16 = .ok (.getfield 9, 3) := by decide +kernel
theorem dX5_init_19 : decode cX5_init 19 = .ok (.arraylength, 1) := by decide +kernel
theorem dX5_init_20 : decode cX5_init 20 = .ok (.if_icmp .ge 20, 3) := by decide +kernel
theorem dX5_init_23 : decode cX5_init 23 = .ok (.aload_n 0, 1) := by decide +kernel
theorem dX5_init_24 : decode cX5_init 24 = .ok (.getfield 9, 3) := by decide +kernel
theorem dX5_init_27 : decode cX5_init 27 = .ok (.iload_n 2, 1) := by decide +kernel
theorem dX5_init_28 : decode cX5_init 28 = .ok (.aload_n 1, 1) := by decide +kernel
theorem dX5_init_29 : decode cX5_init 29 = .ok (.iload_n 2, 1) := by decide +kernel
theorem dX5_init_30 : decode cX5_init 30 = .ok (.invokevirtual 15, 3) := by decide +kernel
theorem dX5_init_33 : decode cX5_init 33 = .ok (.iastore, 1) := by decide +kernel
theorem dX5_init_34 : decode cX5_init 34 = .ok (.iinc 2 1, 3) := by decide +kernel
theorem dX5_init_37 : decode cX5_init 37 = .ok (.goto (-23), 3) := by decide +kernel
theorem dX5_init_40 : decode cX5_init 40 = .ok (.return_, 1) := by decide +kernel
theorem dX5_number_0 : decode cX5_number 0 = .ok (.iload_n 1, 1) := by decide +kernel
theorem dX5_number_1 : decode cX5_number 1 = .ok (.ifCond .lt 21, 3) := by decide +kernel
theorem dX5_number_4 : decode cX5_number 4 = .ok (.iload_n 1, 1) := by decide +kernel
theorem dX5_number_5 : decode cX5_number 5 = .ok (.aload_n 0, 1) := by decide +kernel
theorem dX5_number_6 : decode cX5_number 6 = .ok (.getfield 9, 3) := by decide +kernel
theorem dX5_number_9 : decode cX5_number 9 = .ok (.arraylength, 1) := by decide +kernel
theorem dX5_number_10 : decode cX5_number 10 = .ok (.if_icmp .ge 12, 3) := by decide +kernel
theorem dX5_number_13 : decode cX5_number 13 = .ok (.aload_n 0, 1) := by decide +kernel
theorem dX5_number_14 : decode cX5_number 14 = .ok (.getfield 9, 3) := by decide +kernel
theorem dX5_number_17 : decode cX5_number 17 = .ok (.iload_n 1, 1) := by decide +kernel
theorem dX5_number_18 : decode cX5_number 18 = .ok (.iaload, 1) := by decide +kernel
theorem dX5_number_19 : decode cX5_number 19 = .ok (.goto 4, 3) := by decide +kernel
theorem dX5_number_22 : decode cX5_number 22 = .ok (.iconst 0, 1) := by decide +kernel
theorem dX5_number_23 : decode cX5_number 23 = .ok (.ireturn, 1) := by decide +kernel
theorem dX5_allows_0 : decode cX5_allows 0 = .ok (.iload_n 1, 1) := by decide +kernel
theorem dX5_allows_1 : decode cX5_allows 1 = .ok (.aload_n 0, 1) := by decide +kernel
theorem dX5_allows_2 : decode cX5_allows 2 = .ok (.iconst 5, 1) := by decide +kernel
theorem dX5_allows_3 : decode cX5_allows 3 = .ok (.invokevirtual 21, 3) := by decide +kernel
theorem dX5_allows_6 : decode cX5_allows 6 = .ok (.if_icmp .lt 17, 3) := by decide +kernel
theorem dX5_allows_9 : decode cX5_allows 9 = .ok (.iload_n 1, 1) := by decide +kernel
theorem dX5_allows_10 : decode cX5_allows 10 = .ok (.aload_n 0, 1) := by decide +kernel
theorem dX5_allows_11 : decode cX5_allows 11 = .ok (.bipush 6, 2) := by decide +kernel
theorem dX5_allows_13 : decode cX5_allows 13 = .ok (.invokevirtual 21, 3) := by decide +kernel
theorem dX5_allows_16 : decode cX5_allows 16 = .ok (.if_icmp .gt 7, 3) := by decide +kernel
theorem dX5_allows_19 : decode cX5_allows 19 = .ok (.iconst 1, 1) := by decide +kernel
theorem dX5_allows_20 : decode cX5_allows 20 = .ok (.goto 4, 3) := by decide +kernel
theorem dX5_allows_23 : decode cX5_allows 23 = .ok (.iconst 0, 1) := by decide +kernel
theorem dX5_allows_24 : decode cX5_allows 24 = .ok (.ireturn, 1) := by decide +kernel
theorem dX6_init_0 : decode cX6_init 0 = .ok (.aload_n 0, 1) := by decide +kernel
theorem dX6_init_1 : decode cX6_init 1 = .ok (.invokespecial 3, 3) := by decide +kernel
theorem dX6_init_4 : decode cX6_init 4 = .ok (.aload_n 0, 1) := by decide +kernel
theorem dX6_init_5 : decode cX6_init 5 = .ok (.bipush 7, 2) := by decide +kernel
theorem dX6_init_7 : decode cX6_init 7 = .ok (.newarray .int, 2) := by decide +kernel
theorem dX6_init_9 : decode cX6_init 9 = .ok (.putfield 9, 3) := by decide +kernel
theorem dX6_init_12 : decode cX6_init 12 = .ok (.aload_n 0, 1) := by decide +kernel
theorem dX6_init_13 : decode cX6_init 13 = .ok (.bipush 7, 2) := by decide +kernel
theorem dX6_init_15 : decode cX6_init 15 = .ok (.newarray .boolean, 2) := by decide +kernel
theorem dX6_init_17 : decode cX6_init 17 = .ok (.putfield 15, 3) := by decide +kernel
theorem dX6_init_20 : decode cX6_init 20 = .ok (.return_, 1) := by decide +kernel
theorem dX6_begin_0 : decode cX6_begin 0 = .ok (.aload_n 0, 1) := by decide +kernel
theorem dX6_begin_1 : decode cX6_begin 1 = .ok (.iconst 0, 1) := by decide +kernel
theorem dX6_begin_2 : decode cX6_begin 2 = .ok (.putfield 19, 3) := by decide +kernel
theorem dX6_begin_5 : decode cX6_begin 5 = .ok (.aload_n 0, 1) := by decide +kernel
theorem dX6_begin_6 : decode cX6_begin 6 = .ok (.iconst 0, 1) := by decide +kernel
theorem dX6_begin_7 : decode cX6_begin 7 = .ok (.putfield 23, 3) := by decide +kernel
theorem dX6_begin_10 : decode cX6_begin 10 = .ok (.aload_n 0, 1) := by decide +kernel
theorem dX6_begin_11 : decode cX6_begin 11 = .ok (.iconst 0, 1) := by decide +kernel
theorem dX6_begin_12 : decode cX6_begin 12 = .ok (.putfield 26, 3) := by decide +kernel
theorem dX6_begin_15 : decode cX6_begin 15 = .ok (.iconst 0, 1) := by decide +kernel
theorem dX6_begin_16 : decode cX6_begin 16 = .ok (.istore_n 1, 1) := by decide +kernel
theorem dX6_begin_17 : decode cX6_begin 17 = .ok (.iload_n 1, 1) := by decide +kernel
theorem dX6_begin_18 : decode cX6_begin 18 = .ok (.bipush 7, 2) := by decide +kernel
theorem dX6_begin_20 : decode cX6_begin 20 = .ok (.if_icmp .ge 53, 3) := by decide +kernel
theorem dX6_begin_23 : decode cX6_begin 23 = .ok (.iload_n 1, 1) := by decide +kernel
theorem dX6_begin_24 : decode cX6_begin 24 = .ok (.aload_n 0, 1) := by decide +kernel
theorem dX6_begin_25 : decode cX6_begin 25 = .ok (.getfield 9, 3) := by decide +kernel
theorem dX6_begin_28 : decode cX6_begin 28 = .ok (.arraylength, 1) := by decide +kernel
theorem dX6_begin_29 : decode cX6_begin 29 = .ok (.if_icmp .ge 44, 3) := by decide +kernel
theorem dX6_begin_32 : decode cX6_begin 32 = .ok (.iload_n 1, 1) := by decide +kernel
theorem dX6_begin_33 : decode cX6_begin 33 = .ok (.aload_n 0, 1) := by decide +kernel
theorem dX6_begin_34 : decode cX6_begin 34 = .ok (.getfield 15, 3) := by decide +kernel
theorem dX6_begin_37 : decode cX6_begin 37 = .ok (.arraylength, 1) := by decide +kernel
theorem dX6_begin_38 : decode cX6_begin 38 = .ok (.if_icmp .ge 35, 3) := by decide +kernel
theorem dX6_begin_41 : decode cX6_begin 41 = .ok (.iload_n 1, 1) := by decide +kernel
theorem dX6_begin_42 : decode cX6_begin 42 = .ok (.getstatic 29, 3) := by decide +kernel
theorem dX6_begin_45 : decode cX6_begin 45 = .ok (.arraylength, 1) := by decide +kernel
theorem dX6_begin_46 : decode cX6_begin 46 = .ok (.if_icmp .ge 27, 3) := by decide +kernel
theorem dX6_begin_49 : decode cX6_begin 49 = .ok (.aload_n 0, 1) := by decide +kernel
theorem dX6_begin_50 : decode cX6_begin 50 = .ok (.getfield 9, 3) := by decide +kernel
theorem dX6_begin_53 : decode cX6_begin 53 = .ok (.iload_n 1, 1) := by decide +kernel
theorem dX6_begin_54 : decode cX6_begin 54 = .ok (.getstatic 29, 3) := by decide +kernel
theorem dX6_begin_57 : decode cX6_begin 57 = .ok (.iload_n 1, 1) := by decide +kernel
theorem dX6_begin_58 : decode cX6_begin 58 = .ok (.iaload, 1) := by decide +kernel
theorem dX6_begin_59 : decode cX6_begin 59 = .ok (.iastore, 1) := by decide +kernel
theorem dX6_begin_60 : decode cX6_begin 60 = .ok (.aload_n 0, 1) := by decide +kernel
theorem dX6_begin_61 : decode cX6_begin 61 = .ok (.getfield 15, 3) := by decide +kernel
theorem dX6_begin_64 : decode cX6_begin 64 = .ok (.iload_n 1, 1) := by decide +kernel
theorem dX6_begin_65 : decode cX6_begin 65 = .ok (.iconst 0, 1) := by decide +kernel
theorem dX6_begin_66 : decode cX6_begin 66 = .ok (.bastore, 1) := by decide +kernel
theorem dX6_begin_67 : decode cX6_begin 67 = .ok (.iinc 1 1, 3) := by decide +kernel
theorem dX6_begin_70 : decode cX6_begin 70 = .ok (.goto (-53), 3) := by decide +kernel
theorem dX6_begin_73 : decode cX6_begin 73 = .ok (.return_, 1) := by decide +kernel
theorem dX6_takes_0 : decode cX6_takes 0 = .ok (.aload_n 0, 1) := by decide +kernel
theorem dX6_takes_1 : decode cX6_takes 1 = .ok (.getfield 19, 3) := by decide +kernel
theorem dX6_takes_4 : decode cX6_takes 4 = .ok (.lookupswitch 53 #[(0, 28), (1, 42)], 28) := by decide +kernel
theorem dX6_takes_32 : decode cX6_takes 32 = .ok (.aload_n 0, 1) := by decide +kernel
theorem dX6_takes_33 : decode cX6_takes 33 = .ok (.iconst 1, 1) := by decide +kernel
theorem dX6_takes_34 : decode cX6_takes 34 = .ok (.putfield 19, 3) := by decide +kernel
theorem dX6_takes_37 : decode cX6_takes 37 = .ok (.aload_n 0, 1) := by decide +kernel
theorem dX6_takes_38 : decode cX6_takes 38 = .ok (.iload_n 1, 1) := by decide +kernel
theorem dX6_takes_39 : decode cX6_takes 39 = .ok (.invokestatic 32, 3) := by decide +kernel
theorem dX6_takes_42 : decode cX6_takes 42 = .ok (.invokevirtual 36, 3) := by decide +kernel
theorem dX6_takes_45 : decode cX6_takes 45 = .ok (.ireturn, 1) := by decide +kernel
theorem dX6_takes_46 : decode cX6_takes 46 = .ok (.aload_n 0, 1) := by decide +kernel
theorem dX6_takes_47 : decode cX6_takes 47 = .ok (.iconst 2, 1) := by decide +kernel
theorem dX6_takes_48 : decode cX6_takes 48 = .ok (.putfield 19, 3) := by decide +kernel
theorem dX6_takes_51 : decode cX6_takes 51 = .ok (.aload_n 0, 1) := by decide +kernel
theorem dX6_takes_52 : decode cX6_takes 52 = .ok (.iload_n 1, 1) := by decide +kernel
theorem dX6_takes_53 : decode cX6_takes 53 = .ok (.invokevirtual 40, 3) := by decide +kernel
theorem dX6_takes_56 : decode cX6_takes 56 = .ok (.ireturn, 1) := by decide +kernel
theorem dX6_takes_57 : decode cX6_takes 57 = .ok (.aload_n 0, 1) := by decide +kernel
theorem dX6_takes_58 : decode cX6_takes 58 = .ok (.iconst 0, 1) := by decide +kernel
theorem dX6_takes_59 : decode cX6_takes 59 = .ok (.putfield 19, 3) := by decide +kernel
theorem dX6_takes_62 : decode cX6_takes 62 = .ok (.iload_n 1, 1) := by decide +kernel
theorem dX6_takes_63 : decode cX6_takes 63 = .ok (.bipush 59, 2) := by decide +kernel
theorem dX6_takes_65 : decode cX6_takes 65 = .ok (.if_icmp .ne 16, 3) := by decide +kernel
theorem dX6_takes_68 : decode cX6_takes 68 = .ok (.aload_n 0, 1) := by decide +kernel
theorem dX6_takes_69 : decode cX6_takes 69 = .ok (.getfield 26, 3) := by decide +kernel
theorem dX6_takes_72 : decode cX6_takes 72 = .ok (.bipush 7, 2) := by decide +kernel
theorem dX6_takes_74 : decode cX6_takes 74 = .ok (.if_icmp .ge 7, 3) := by decide +kernel
theorem dX6_takes_77 : decode cX6_takes 77 = .ok (.iconst 1, 1) := by decide +kernel
theorem dX6_takes_78 : decode cX6_takes 78 = .ok (.goto 4, 3) := by decide +kernel
theorem dX6_takes_81 : decode cX6_takes 81 = .ok (.iconst 0, 1) := by decide +kernel
theorem dX6_takes_82 : decode cX6_takes 82 = .ok (.ireturn, 1) := by decide +kernel
theorem dX6_takesLetter_0 : decode cX6_takesLetter 0 = .ok (.iload_n 1, 1) := by decide +kernel
theorem dX6_takesLetter_1 : decode cX6_takesLetter 1 = .ok (.ifCond .lt 21, 3) := by decide +kernel
theorem dX6_takesLetter_4 : decode cX6_takesLetter 4 = .ok (.iload_n 1, 1) := by decide +kernel
theorem dX6_takesLetter_5 : decode cX6_takesLetter 5 = .ok (.aload_n 0, 1) := by decide +kernel
theorem dX6_takesLetter_6 : decode cX6_takesLetter 6 = .ok (.getfield 15, 3) := by decide +kernel
theorem dX6_takesLetter_9 : decode cX6_takesLetter 9 = .ok (.arraylength, 1) := by decide +kernel
theorem dX6_takesLetter_10 : decode cX6_takesLetter 10 = .ok (.if_icmp .ge 12, 3) := by decide +kernel
theorem dX6_takesLetter_13 : decode cX6_takesLetter 13 = .ok (.aload_n 0, 1) := by decide +kernel
theorem dX6_takesLetter_14 : decode cX6_takesLetter 14 = .ok (.getfield 15, 3) := by decide +kernel
theorem dX6_takesLetter_17 : decode cX6_takesLetter 17 = .ok (.iload_n 1, 1) := by decide +kernel
theorem dX6_takesLetter_18 : decode cX6_takesLetter 18 = .ok (.baload, 1) := by decide +kernel
theorem dX6_takesLetter_19 : decode cX6_takesLetter 19 = .ok (.ifCond .eq 5, 3) := by decide +kernel
theorem dX6_takesLetter_22 : decode cX6_takesLetter 22 = .ok (.iconst 0, 1) := by decide +kernel
theorem dX6_takesLetter_23 : decode cX6_takesLetter 23 = .ok (.ireturn, 1) := by decide +kernel
theorem dX6_takesLetter_24 : decode cX6_takesLetter 24 = .ok (.aload_n 0, 1) := by decide +kernel
theorem dX6_takesLetter_25 : decode cX6_takesLetter 25 = .ok (.getfield 15, 3) := by decide +kernel
theorem dX6_takesLetter_28 : decode cX6_takesLetter 28 = .ok (.iload_n 1, 1) := by decide +kernel
theorem dX6_takesLetter_29 : decode cX6_takesLetter 29 = .ok (.iconst 1, 1) := by decide +kernel
theorem dX6_takesLetter_30 : decode cX6_takesLetter 30 = .ok (.bastore, 1) := by decide +kernel
theorem dX6_takesLetter_31 : decode cX6_takesLetter 31 = .ok (.aload_n 0, 1) := by decide +kernel
theorem dX6_takesLetter_32 : decode cX6_takesLetter 32 = .ok (.iload_n 1, 1) := by decide +kernel
theorem dX6_takesLetter_33 : decode cX6_takesLetter 33 = .ok (.putfield 23, 3) := by decide +kernel
theorem dX6_takesLetter_36 : decode cX6_takesLetter 36 = .ok (.iconst 1, 1) := by decide +kernel
theorem dX6_takesLetter_37 : decode cX6_takesLetter 37 = .ok (.ireturn, 1) := by decide +kernel
theorem dX6_takesDigit_0 : decode cX6_takesDigit 0 = .ok (.aload_n 0, 1) := by decide +kernel
theorem dX6_takesDigit_1 : decode cX6_takesDigit 1 = .ok (.getfield 23, 3) := by decide +kernel
theorem dX6_takesDigit_4 : decode cX6_takesDigit 4 = .ok (.ifCond .lt 26, 3) := by decide +kernel
theorem dX6_takesDigit_7 : decode cX6_takesDigit 7 = .ok (.aload_n 0, 1) := by decide +kernel
theorem dX6_takesDigit_8 : decode cX6_takesDigit 8 = .ok (.getfield 23, 3) := by decide +kernel
theorem dX6_takesDigit_11 : decode cX6_takesDigit 11 = .ok (.getstatic 43, 3) := by decide +kernel
theorem dX6_takesDigit_14 : decode cX6_takesDigit 14 = .ok (.arraylength, 1) := by decide +kernel
theorem dX6_takesDigit_15 : decode cX6_takesDigit 15 = .ok (.if_icmp .ge 15, 3) := by decide +kernel
theorem dX6_takesDigit_18 : decode cX6_takesDigit 18 = .ok (.aload_n 0, 1) := by decide +kernel
theorem dX6_takesDigit_19 : decode cX6_takesDigit 19 = .ok (.getfield 23, 3) := by decide +kernel
theorem dX6_takesDigit_22 : decode cX6_takesDigit 22 = .ok (.aload_n 0, 1) := by decide +kernel
theorem dX6_takesDigit_23 : decode cX6_takesDigit 23 = .ok (.getfield 9, 3) := by decide +kernel
theorem dX6_takesDigit_26 : decode cX6_takesDigit 26 = .ok (.arraylength, 1) := by decide +kernel
theorem dX6_takesDigit_27 : decode cX6_takesDigit 27 = .ok (.if_icmp .lt 5, 3) := by decide +kernel
theorem dX6_takesDigit_30 : decode cX6_takesDigit 30 = .ok (.iconst 0, 1) := by decide +kernel
theorem dX6_takesDigit_31 : decode cX6_takesDigit 31 = .ok (.ireturn, 1) := by decide +kernel
theorem dX6_takesDigit_32 : decode cX6_takesDigit 32 = .ok (.iload_n 1, 1) := by decide +kernel
theorem dX6_takesDigit_33 : decode cX6_takesDigit 33 = .ok (.bipush 48, 2) := by decide +kernel
theorem dX6_takesDigit_35 : decode cX6_takesDigit 35 = .ok (.getstatic 43, 3) := by decide +kernel
theorem dX6_takesDigit_38 : decode cX6_takesDigit 38 = .ok (.aload_n 0, 1) := by decide +kernel
theorem dX6_takesDigit_39 : decode cX6_takesDigit 39 = .ok (.getfield 23, 3) := by decide +kernel
theorem dX6_takesDigit_42 : decode cX6_takesDigit 42 = .ok (.iaload, 1) := by decide +kernel
theorem dX6_takesDigit_43 : decode cX6_takesDigit 43 = .ok (.iadd, 1) := by decide +kernel
theorem dX6_takesDigit_44 : decode cX6_takesDigit 44 = .ok (.if_icmp .lt 9, 3) := by decide +kernel
theorem dX6_takesDigit_47 : decode cX6_takesDigit 47 = .ok (.iload_n 1, 1) := by decide +kernel
theorem dX6_takesDigit_48 : decode cX6_takesDigit 48 = .ok (.bipush 57, 2) := by decide +kernel
theorem dX6_takesDigit_50 : decode cX6_takesDigit 50 = .ok (.if_icmp .le 5, 3) := by decide +kernel
theorem dX6_takesDigit_53 : decode cX6_takesDigit 53 = .ok (.iconst 0, 1) := by decide +kernel
theorem dX6_takesDigit_54 : decode cX6_takesDigit 54 = .ok (.ireturn, 1) := by decide +kernel
theorem dX6_takesDigit_55 : decode cX6_takesDigit 55 = .ok (.aload_n 0, 1) := by decide +kernel
theorem dX6_takesDigit_56 : decode cX6_takesDigit 56 = .ok (.getfield 9, 3) := by decide +kernel
theorem dX6_takesDigit_59 : decode cX6_takesDigit 59 = .ok (.aload_n 0, 1) := by decide +kernel
theorem dX6_takesDigit_60 : decode cX6_takesDigit 60 = .ok (.getfield 23, 3) := by decide +kernel
theorem dX6_takesDigit_63 : decode cX6_takesDigit 63 = .ok (.iload_n 1, 1) := by decide +kernel
theorem dX6_takesDigit_64 : decode cX6_takesDigit 64 = .ok (.bipush 48, 2) := by decide +kernel
theorem dX6_takesDigit_66 : decode cX6_takesDigit 66 = .ok (.isub, 1) := by decide +kernel
theorem dX6_takesDigit_67 : decode cX6_takesDigit 67 = .ok (.iastore, 1) := by decide +kernel
theorem dX6_takesDigit_68 : decode cX6_takesDigit 68 = .ok (.aload_n 0, 1) := by decide +kernel
theorem dX6_takesDigit_69 : decode cX6_takesDigit 69 = .ok (.dup, 1) := by decide +kernel
theorem dX6_takesDigit_70 : decode cX6_takesDigit 70 = .ok (.getfield 26, 3) := by decide +kernel
theorem dX6_takesDigit_73 : decode cX6_takesDigit 73 = .ok (.iconst 1, 1) := by decide +kernel
theorem dX6_takesDigit_74 : decode cX6_takesDigit 74 = .ok (.iadd, 1) := by decide +kernel
theorem dX6_takesDigit_75 : decode cX6_takesDigit 75 = .ok (.putfield 26, 3) := by decide +kernel
theorem dX6_takesDigit_78 : decode cX6_takesDigit 78 = .ok (.iconst 1, 1) := by decide +kernel
theorem dX6_takesDigit_79 : decode cX6_takesDigit 79 = .ok (.ireturn, 1) := by decide +kernel
theorem dX6_numberBy_0 : decode cX6_numberBy 0 = .ok (.iload_n 0, 1) := by decide +kernel
theorem dX6_numberBy_1 : decode cX6_numberBy 1 = .ok (.tableswitch 114 101 121 #[103, 109, 114, 114, 114, 114, 105, 114, 114, 114, 99, 114, 114, 114, 101, 111, 114, 114, 114, 114, 107], 99) := by decide +kernel
theorem dX6_numberBy_100 : decode cX6_numberBy 100 = .ok (.iconst 0, 1) := by decide +kernel
theorem dX6_numberBy_101 : decode cX6_numberBy 101 = .ok (.ireturn, 1) := by decide +kernel
theorem dX6_numberBy_102 : decode cX6_numberBy 102 = .ok (.iconst 1, 1) := by decide +kernel
theorem dX6_numberBy_103 : decode cX6_numberBy 103 = .ok (.ireturn, 1) := by decide +kernel
theorem dX6_numberBy_104 : decode cX6_numberBy 104 = .ok (.iconst 2, 1) := by decide +kernel
theorem dX6_numberBy_105 : decode cX6_numberBy 105 = .ok (.ireturn, 1) := by decide +kernel
theorem dX6_numberBy_106 : decode cX6_numberBy 106 = .ok (.iconst 3, 1) := by decide +kernel
theorem dX6_numberBy_107 : decode cX6_numberBy 107 = .ok (.ireturn, 1) := by decide +kernel
theorem dX6_numberBy_108 : decode cX6_numberBy 108 = .ok (.iconst 4, 1) := by decide +kernel
theorem dX6_numberBy_109 : decode cX6_numberBy 109 = .ok (.ireturn, 1) := by decide +kernel
theorem dX6_numberBy_110 : decode cX6_numberBy 110 = .ok (.iconst 5, 1) := by decide +kernel
theorem dX6_numberBy_111 : decode cX6_numberBy 111 = .ok (.ireturn, 1) := by decide +kernel
theorem dX6_numberBy_112 : decode cX6_numberBy 112 = .ok (.bipush 6, 2) := by decide +kernel
theorem dX6_numberBy_114 : decode cX6_numberBy 114 = .ok (.ireturn, 1) := by decide +kernel
theorem dX6_numberBy_115 : decode cX6_numberBy 115 = .ok (.bipush (-9), 2) := by decide +kernel
theorem dX6_numberBy_117 : decode cX6_numberBy 117 = .ok (.ireturn, 1) := by decide +kernel
theorem dX6_isWhole_0 : decode cX6_isWhole 0 = .ok (.aload_n 0, 1) := by decide +kernel
theorem dX6_isWhole_1 : decode cX6_isWhole 1 = .ok (.getfield 19, 3) := by decide +kernel
theorem dX6_isWhole_4 : decode cX6_isWhole 4 = .ok (.iconst 2, 1) := by decide +kernel
theorem dX6_isWhole_5 : decode cX6_isWhole 5 = .ok (.if_icmp .ne 7, 3) := by decide +kernel
theorem dX6_isWhole_8 : decode cX6_isWhole 8 = .ok (.iconst 1, 1) := by decide +kernel
theorem dX6_isWhole_9 : decode cX6_isWhole 9 = .ok (.goto 4, 3) := by decide +kernel
theorem dX6_isWhole_12 : decode cX6_isWhole 12 = .ok (.iconst 0, 1) := by decide +kernel
theorem dX6_isWhole_13 : decode cX6_isWhole 13 = .ok (.ireturn, 1) := by decide +kernel
theorem dX6_lawNumber_0 : decode cX6_lawNumber 0 = .ok (.iload_n 1, 1) := by decide +kernel
theorem dX6_lawNumber_1 : decode cX6_lawNumber 1 = .ok (.bipush 6, 2) := by decide +kernel
theorem dX6_lawNumber_3 : decode cX6_lawNumber 3 = .ok (.if_icmp .ne 20, 3) := by decide +kernel
theorem dX6_lawNumber_6 : decode cX6_lawNumber 6 = .ok (.aload_n 0, 1) := by decide +kernel
theorem dX6_lawNumber_7 : decode cX6_lawNumber 7 = .ok (.bipush 6, 2) := by decide +kernel
theorem dX6_lawNumber_9 : decode cX6_lawNumber 9 = .ok (.invokevirtual 46, 3) := by decide +kernel
theorem dX6_lawNumber_12 : decode cX6_lawNumber 12 = .ok (.aload_n 0, 1) := by decide +kernel
theorem dX6_lawNumber_13 : decode cX6_lawNumber 13 = .ok (.iconst 5, 1) := by decide +kernel
theorem dX6_lawNumber_14 : decode cX6_lawNumber 14 = .ok (.invokevirtual 46, 3) := by decide +kernel
theorem dX6_lawNumber_17 : decode cX6_lawNumber 17 = .ok (.invokestatic 49, 3) := by decide +kernel
theorem dX6_lawNumber_20 : decode cX6_lawNumber 20 = .ok (.goto 8, 3) := by decide +kernel
theorem dX6_lawNumber_23 : decode cX6_lawNumber 23 = .ok (.aload_n 0, 1) := by decide +kernel
theorem dX6_lawNumber_24 : decode cX6_lawNumber 24 = .ok (.iload_n 1, 1) := by decide +kernel
theorem dX6_lawNumber_25 : decode cX6_lawNumber 25 = .ok (.invokevirtual 46, 3) := by decide +kernel
theorem dX6_lawNumber_28 : decode cX6_lawNumber 28 = .ok (.ireturn, 1) := by decide +kernel
theorem dX6_readNumber_0 : decode cX6_readNumber 0 = .ok (.iload_n 1, 1) := by decide +kernel
theorem dX6_readNumber_1 : decode cX6_readNumber 1 = .ok (.ifCond .lt 21, 3) := by decide +kernel
theorem dX6_readNumber_4 : decode cX6_readNumber 4 = .ok (.iload_n 1, 1) := by decide +kernel
theorem dX6_readNumber_5 : decode cX6_readNumber 5 = .ok (.aload_n 0, 1) := by decide +kernel
theorem dX6_readNumber_6 : decode cX6_readNumber 6 = .ok (.getfield 9, 3) := by decide +kernel
theorem dX6_readNumber_9 : decode cX6_readNumber 9 = .ok (.arraylength, 1) := by decide +kernel
theorem dX6_readNumber_10 : decode cX6_readNumber 10 = .ok (.if_icmp .ge 12, 3) := by decide +kernel
theorem dX6_readNumber_13 : decode cX6_readNumber 13 = .ok (.aload_n 0, 1) := by decide +kernel
theorem dX6_readNumber_14 : decode cX6_readNumber 14 = .ok (.getfield 9, 3) := by decide +kernel
theorem dX6_readNumber_17 : decode cX6_readNumber 17 = .ok (.iload_n 1, 1) := by decide +kernel
theorem dX6_readNumber_18 : decode cX6_readNumber 18 = .ok (.iaload, 1) := by decide +kernel
theorem dX6_readNumber_19 : decode cX6_readNumber 19 = .ok (.goto 4, 3) := by decide +kernel
theorem dX6_readNumber_22 : decode cX6_readNumber 22 = .ok (.iconst 0, 1) := by decide +kernel
theorem dX6_readNumber_23 : decode cX6_readNumber 23 = .ok (.ireturn, 1) := by decide +kernel
theorem dX7_init_0 : decode cX7_init 0 = .ok (.aload_n 0, 1) := by decide +kernel
theorem dX7_init_1 : decode cX7_init 1 = .ok (.invokespecial 1, 3) := by decide +kernel
theorem dX7_init_4 : decode cX7_init 4 = .ok (.aload_n 0, 1) := by decide +kernel
theorem dX7_init_5 : decode cX7_init 5 = .ok (.iload_n 1, 1) := by decide +kernel
theorem dX7_init_6 : decode cX7_init 6 = .ok (.putfield 7, 3) := by decide +kernel
theorem dX7_init_9 : decode cX7_init 9 = .ok (.aload_n 0, 1) := by decide +kernel
theorem dX7_init_10 : decode cX7_init 10 = .ok (.iload_n 2, 1) := by decide +kernel
theorem dX7_init_11 : decode cX7_init 11 = .ok (.putfield 13, 3) := by decide +kernel
theorem dX7_init_14 : decode cX7_init 14 = .ok (.aload_n 0, 1) := by decide +kernel
theorem dX7_init_15 : decode cX7_init 15 = .ok (.iload_n 3, 1) := by decide +kernel
theorem dX7_init_16 : decode cX7_init 16 = .ok (.putfield 16, 3) := by decide +kernel
theorem dX7_init_19 : decode cX7_init 19 = .ok (.return_, 1) := by decide +kernel
theorem dX7_kind_0 : decode cX7_kind 0 = .ok (.iconst 0, 1) := by decide +kernel
theorem dX7_kind_1 : decode cX7_kind 1 = .ok (.ireturn, 1) := by decide +kernel
theorem dX7_tired_0 : decode cX7_tired 0 = .ok (.bipush 9, 2) := by decide +kernel
theorem dX7_tired_2 : decode cX7_tired 2 = .ok (.aload_n 0, 1) := by decide +kernel
theorem dX7_tired_3 : decode cX7_tired 3 = .ok (.getfield 13, 3) := by decide +kernel
theorem dX7_tired_6 : decode cX7_tired 6 = .ok (.isub, 1) := by decide +kernel
theorem dX7_tired_7 : decode cX7_tired 7 = .ok (.ireturn, 1) := by decide +kernel
theorem dX7_takes_0 : decode cX7_takes 0 = .ok (.iload_n 2, 1) := by decide +kernel
theorem dX7_takes_1 : decode cX7_takes 1 = .ok (.ireturn, 1) := by decide +kernel
theorem dX7_takesOwn_0 : decode cX7_takesOwn 0 = .ok (.iload_n 2, 1) := by decide +kernel
theorem dX7_takesOwn_1 : decode cX7_takesOwn 1 = .ok (.ireturn, 1) := by decide +kernel
theorem dX7_tells_0 : decode cX7_tells 0 = .ok (.aload_n 0, 1) := by decide +kernel
theorem dX7_tells_1 : decode cX7_tells 1 = .ok (.aload_n 1, 1) := by decide +kernel
theorem dX7_tells_2 : decode cX7_tells 2 = .ok (.invokevirtual 19, 3) := by decide +kernel
theorem dX7_tells_5 : decode cX7_tells 5 = .ok (.ireturn, 1) := by decide +kernel
theorem dX7_tellsAsPerson_0 : decode cX7_tellsAsPerson 0 = .ok (.aload_n 1, 1) := by decide +kernel
theorem dX7_tellsAsPerson_1 : decode cX7_tellsAsPerson 1 = .ok (.iconst 1, 1) := by decide +kernel
theorem dX7_tellsAsPerson_2 : decode cX7_tellsAsPerson 2 = .ok (.invokevirtual 23, 3) := by decide +kernel
theorem dX7_tellsAsPerson_5 : decode cX7_tellsAsPerson 5 = .ok (.aload_n 0, 1) := by decide +kernel
theorem dX7_tellsAsPerson_6 : decode cX7_tellsAsPerson 6 = .ok (.invokevirtual 29, 3) := by decide +kernel
theorem dX7_tellsAsPerson_9 : decode cX7_tellsAsPerson 9 = .ok (.ireturn, 1) := by decide +kernel
theorem dX7_wakes_0 : decode cX7_wakes 0 = .ok (.aload_n 1, 1) := by decide +kernel
theorem dX7_wakes_1 : decode cX7_wakes 1 = .ok (.iconst 4, 1) := by decide +kernel
theorem dX7_wakes_2 : decode cX7_wakes 2 = .ok (.invokevirtual 23, 3) := by decide +kernel
theorem dX7_wakes_5 : decode cX7_wakes 5 = .ok (.aload_n 0, 1) := by decide +kernel
theorem dX7_wakes_6 : decode cX7_wakes 6 = .ok (.getfield 7, 3) := by decide +kernel
theorem dX7_wakes_9 : decode cX7_wakes 9 = .ok (.ireturn, 1) := by decide +kernel
theorem dX8_init_0 : decode cX8_init 0 = .ok (.aload_n 0, 1) := by decide +kernel
theorem dX8_init_1 : decode cX8_init 1 = .ok (.invokespecial 3, 3) := by decide +kernel
theorem dX8_init_4 : decode cX8_init 4 = .ok (.aload_n 0, 1) := by decide +kernel
theorem dX8_init_5 : decode cX8_init 5 = .ok (.bipush 60, 2) := by decide +kernel
theorem dX8_init_7 : decode cX8_init 7 = .ok (.newarray .int, 2) := by decide +kernel
theorem dX8_init_9 : decode cX8_init 9 = .ok (.putfield 9, 3) := by decide +kernel
theorem dX8_init_12 : decode cX8_init 12 = .ok (.return_, 1) := by decide +kernel
theorem dX8_renew_0 : decode cX8_renew 0 = .ok (.iconst 0, 1) := by decide +kernel
theorem dX8_renew_1 : decode cX8_renew 1 = .ok (.istore_n 3, 1) := by decide +kernel
theorem dX8_renew_2 : decode cX8_renew 2 = .ok (.iload_n 3, 1) := by decide +kernel
theorem dX8_renew_3 : decode cX8_renew 3 = .ok (.aload_n 0, 1) := by decide +kernel
theorem dX8_renew_4 : decode cX8_renew 4 = .ok (.getfield 9, 3) := by decide +kernel
theorem dX8_renew_7 : decode cX8_renew 7 = .ok (.arraylength, 1) := by decide +kernel
theorem dX8_renew_8 : decode cX8_renew 8 = .ok (.if_icmp .ge 16, 3) := by decide +kernel
theorem dX8_renew_11 : decode cX8_renew 11 = .ok (.aload_n 0, 1) := by decide +kernel
theorem dX8_renew_12 : decode cX8_renew 12 = .ok (.getfield 9, 3) := by decide +kernel
theorem dX8_renew_15 : decode cX8_renew 15 = .ok (.iload_n 3, 1) := by decide +kernel
theorem dX8_renew_16 : decode cX8_renew 16 = .ok (.iconst 0, 1) := by decide +kernel
theorem dX8_renew_17 : decode cX8_renew 17 = .ok (.iastore, 1) := by decide +kernel
theorem dX8_renew_18 : decode cX8_renew 18 = .ok (.iinc 3 1, 3) := by decide +kernel
theorem dX8_renew_21 : decode cX8_renew 21 = .ok (.goto (-19), 3) := by decide +kernel
theorem dX8_renew_24 : decode cX8_renew 24 = .ok (.aload_n 0, 1) := by decide +kernel
theorem dX8_renew_25 : decode cX8_renew 25 = .ok (.iconst 1, 1) := by decide +kernel
theorem dX8_renew_26 : decode cX8_renew 26 = .ok (.putfield 15, 3) := by decide +kernel
theorem dX8_renew_29 : decode cX8_renew 29 = .ok (.aload_n 0, 1) := by decide +kernel
theorem dX8_renew_30 : decode cX8_renew 30 = .ok (.iload_n 1, 1) := by decide +kernel
theorem dX8_renew_31 : decode cX8_renew 31 = .ok (.putfield 19, 3) := by decide +kernel
theorem dX8_renew_34 : decode cX8_renew 34 = .ok (.aload_n 0, 1) := by decide +kernel
theorem dX8_renew_35 : decode cX8_renew 35 = .ok (.iload_n 2, 1) := by decide +kernel
theorem dX8_renew_36 : decode cX8_renew 36 = .ok (.putfield 23, 3) := by decide +kernel
theorem dX8_renew_39 : decode cX8_renew 39 = .ok (.return_, 1) := by decide +kernel
theorem dX8_faultAs_0 : decode cX8_faultAs 0 = .ok (.aload_n 0, 1) := by decide +kernel
theorem dX8_faultAs_1 : decode cX8_faultAs 1 = .ok (.getfield 15, 3) := by decide +kernel
theorem dX8_faultAs_4 : decode cX8_faultAs 4 = .ok (.ifCond .ne 5, 3) := by decide +kernel
theorem dX8_faultAs_7 : decode cX8_faultAs 7 = .ok (.iconst 1, 1) := by decide +kernel
theorem dX8_faultAs_8 : decode cX8_faultAs 8 = .ok (.ireturn, 1) := by decide +kernel
theorem dX8_faultAs_9 : decode cX8_faultAs 9 = .ok (.aload_n 0, 1) := by decide +kernel
theorem dX8_faultAs_10 : decode cX8_faultAs 10 = .ok (.getfield 19, 3) := by decide +kernel
theorem dX8_faultAs_13 : decode cX8_faultAs 13 = .ok (.iload_n 1, 1) := by decide +kernel
theorem dX8_faultAs_14 : decode cX8_faultAs 14 = .ok (.if_icmp .ne 7, 3) := by decide +kernel
theorem dX8_faultAs_17 : decode cX8_faultAs 17 = .ok (.iconst 0, 1) := by decide +kernel
theorem dX8_faultAs_18 : decode cX8_faultAs 18 = .ok (.goto 4, 3) := by decide +kernel
theorem dX8_faultAs_21 : decode cX8_faultAs 21 = .ok (.iconst 2, 1) := by decide +kernel
theorem dX8_faultAs_22 : decode cX8_faultAs 22 = .ok (.ireturn, 1) := by decide +kernel
theorem dX8_hasCell_0 : decode cX8_hasCell 0 = .ok (.iload_n 1, 1) := by decide +kernel
theorem dX8_hasCell_1 : decode cX8_hasCell 1 = .ok (.ifCond .lt 15, 3) := by decide +kernel
theorem dX8_hasCell_4 : decode cX8_hasCell 4 = .ok (.iload_n 1, 1) := by decide +kernel
theorem dX8_hasCell_5 : decode cX8_hasCell 5 = .ok (.aload_n 0, 1) := by decide +kernel
theorem dX8_hasCell_6 : decode cX8_hasCell 6 = .ok (.getfield 23, 3) := by decide +kernel
theorem dX8_hasCell_9 : decode cX8_hasCell 9 = .ok (.if_icmp .ge 7, 3) := by decide +kernel
theorem dX8_hasCell_12 : decode cX8_hasCell 12 = .ok (.iconst 1, 1) := by decide +kernel
theorem dX8_hasCell_13 : decode cX8_hasCell 13 = .ok (.goto 4, 3) := by decide +kernel
theorem dX8_hasCell_16 : decode cX8_hasCell 16 = .ok (.iconst 0, 1) := by decide +kernel
theorem dX8_hasCell_17 : decode cX8_hasCell 17 = .ok (.ireturn, 1) := by decide +kernel
theorem dX8_hasCells_0 : decode cX8_hasCells 0 = .ok (.iload_n 1, 1) := by decide +kernel
theorem dX8_hasCells_1 : decode cX8_hasCells 1 = .ok (.ifCond .lt 29, 3) := by decide +kernel
theorem dX8_hasCells_4 : decode cX8_hasCells 4 = .ok (.iload_n 1, 1) := by decide +kernel
theorem dX8_hasCells_5 : decode cX8_hasCells 5 = .ok (.aload_n 0, 1) := by decide +kernel
theorem dX8_hasCells_6 : decode cX8_hasCells 6 = .ok (.getfield 23, 3) := by decide +kernel
theorem dX8_hasCells_9 : decode cX8_hasCells 9 = .ok (.if_icmp .gt 21, 3) := by decide +kernel
theorem dX8_hasCells_12 : decode cX8_hasCells 12 = .ok (.iload_n 2, 1) := by decide +kernel
theorem dX8_hasCells_13 : decode cX8_hasCells 13 = .ok (.ifCond .lt 17, 3) := by decide +kernel
theorem dX8_hasCells_16 : decode cX8_hasCells 16 = .ok (.iload_n 2, 1) := by decide +kernel
theorem dX8_hasCells_17 : decode cX8_hasCells 17 = .ok (.aload_n 0, 1) := by decide +kernel
theorem dX8_hasCells_18 : decode cX8_hasCells 18 = .ok (.getfield 23, 3) := by decide +kernel
theorem dX8_hasCells_21 : decode cX8_hasCells 21 = .ok (.iload_n 1, 1) := by decide +kernel
theorem dX8_hasCells_22 : decode cX8_hasCells 22 = .ok (.isub, 1) := by decide +kernel
theorem dX8_hasCells_23 : decode cX8_hasCells 23 = .ok (.if_icmp .gt 7, 3) := by decide +kernel
theorem dX8_hasCells_26 : decode cX8_hasCells 26 = .ok (.iconst 1, 1) := by decide +kernel
theorem dX8_hasCells_27 : decode cX8_hasCells 27 = .ok (.goto 4, 3) := by decide +kernel
theorem dX8_hasCells_30 : decode cX8_hasCells 30 = .ok (.iconst 0, 1) := by decide +kernel
theorem dX8_hasCells_31 : decode cX8_hasCells 31 = .ok (.ireturn, 1) := by decide +kernel
theorem dX8_read_0 : decode cX8_read 0 = .ok (.iload_n 1, 1) := by decide +kernel
theorem dX8_read_1 : decode cX8_read 1 = .ok (.ifCond .lt 21, 3) := by decide +kernel
theorem dX8_read_4 : decode cX8_read 4 = .ok (.iload_n 1, 1) := by decide +kernel
theorem dX8_read_5 : decode cX8_read 5 = .ok (.aload_n 0, 1) := by decide +kernel
theorem dX8_read_6 : decode cX8_read 6 = .ok (.getfield 9, 3) := by decide +kernel
theorem dX8_read_9 : decode cX8_read 9 = .ok (.arraylength, 1) := by decide +kernel
theorem dX8_read_10 : decode cX8_read 10 = .ok (.if_icmp .ge 12, 3) := by decide +kernel
theorem dX8_read_13 : decode cX8_read 13 = .ok (.aload_n 0, 1) := by decide +kernel
theorem dX8_read_14 : decode cX8_read 14 = .ok (.getfield 9, 3) := by decide +kernel
theorem dX8_read_17 : decode cX8_read 17 = .ok (.iload_n 1, 1) := by decide +kernel
theorem dX8_read_18 : decode cX8_read 18 = .ok (.iaload, 1) := by decide +kernel
theorem dX8_read_19 : decode cX8_read 19 = .ok (.goto 4, 3) := by decide +kernel
theorem dX8_read_22 : decode cX8_read 22 = .ok (.iconst 0, 1) := by decide +kernel
theorem dX8_read_23 : decode cX8_read 23 = .ok (.ireturn, 1) := by decide +kernel
theorem dX8_write_0 : decode cX8_write 0 = .ok (.iload_n 1, 1) := by decide +kernel
theorem dX8_write_1 : decode cX8_write 1 = .ok (.ifCond .lt 23, 3) := by decide +kernel
theorem dX8_write_4 : decode cX8_write 4 = .ok (.iload_n 1, 1) := by decide +kernel
theorem dX8_write_5 : decode cX8_write 5 = .ok (.aload_n 0, 1) := by decide +kernel
theorem dX8_write_6 : decode cX8_write 6 = .ok (.getfield 9, 3) := by decide +kernel
theorem dX8_write_9 : decode cX8_write 9 = .ok (.arraylength, 1) := by decide +kernel
theorem dX8_write_10 : decode cX8_write 10 = .ok (.if_icmp .ge 14, 3) := by decide +kernel
theorem dX8_write_13 : decode cX8_write 13 = .ok (.aload_n 0, 1) := by decide +kernel
theorem dX8_write_14 : decode cX8_write 14 = .ok (.getfield 9, 3) := by decide +kernel
theorem dX8_write_17 : decode cX8_write 17 = .ok (.iload_n 1, 1) := by decide +kernel
theorem dX8_write_18 : decode cX8_write 18 = .ok (.aload_n 0, 1) := by decide +kernel
theorem dX8_write_19 : decode cX8_write 19 = .ok (.iload_n 2, 1) := by decide +kernel
theorem dX8_write_20 : decode cX8_write 20 = .ok (.invokevirtual 26, 3) := by decide +kernel
theorem dX8_write_23 : decode cX8_write 23 = .ok (.iastore, 1) := by decide +kernel
theorem dX8_write_24 : decode cX8_write 24 = .ok (.return_, 1) := by decide +kernel
theorem dX8_cutToLane_0 : decode cX8_cutToLane 0 = .ok (.aload_n 0, 1) := by decide +kernel
theorem dX8_cutToLane_1 : decode cX8_cutToLane 1 = .ok (.getfield 19, 3) := by decide +kernel
theorem dX8_cutToLane_4 : decode cX8_cutToLane 4 = .ok (.ifCond .ne 6, 3) := by decide +kernel
theorem dX8_cutToLane_7 : decode cX8_cutToLane 7 = .ok (.iload_n 1, 1) := by decide +kernel
theorem dX8_cutToLane_8 : decode cX8_cutToLane 8 = .ok (.i2b, 1) := by decide +kernel
theorem dX8_cutToLane_9 : decode cX8_cutToLane 9 = .ok (.ireturn, 1) := by decide +kernel
theorem dX8_cutToLane_10 : decode cX8_cutToLane 10 = .ok (.aload_n 0, 1) := by decide +kernel
theorem dX8_cutToLane_11 : decode cX8_cutToLane 11 = .ok (.getfield 19, 3) := by decide +kernel
theorem dX8_cutToLane_14 : decode cX8_cutToLane 14 = .ok (.iconst 1, 1) := by decide +kernel
theorem dX8_cutToLane_15 : decode cX8_cutToLane 15 = .ok (.if_icmp .ne 8, 3) := by decide +kernel
theorem dX8_cutToLane_18 : decode cX8_cutToLane 18 = .ok (.iload_n 1, 1) := by decide +kernel
theorem dX8_cutToLane_19 : decode cX8_cutToLane 19 = .ok (.i2s, 1) := by decide +kernel
theorem dX8_cutToLane_20 : decode cX8_cutToLane 20 = .ok (.goto 4, 3) := by decide +kernel
theorem dX8_cutToLane_23 : decode cX8_cutToLane 23 = .ok (.iload_n 1, 1) := by decide +kernel
theorem dX8_cutToLane_24 : decode cX8_cutToLane 24 = .ok (.ireturn, 1) := by decide +kernel
theorem dX8_copyTo_0 : decode cX8_copyTo 0 = .ok (.aload_n 0, 1) := by decide +kernel
theorem dX8_copyTo_1 : decode cX8_copyTo 1 = .ok (.iload_n 1, 1) := by decide +kernel
theorem dX8_copyTo_2 : decode cX8_copyTo 2 = .ok (.iload 4, 2) := by decide +kernel
theorem dX8_copyTo_4 : decode cX8_copyTo 4 = .ok (.invokevirtual 30, 3) := by decide +kernel
theorem dX8_copyTo_7 : decode cX8_copyTo 7 = .ok (.ifCond .eq 28, 3) := by decide +kernel
theorem dX8_copyTo_10 : decode cX8_copyTo 10 = .ok (.aload_n 2, 1) := by decide +kernel
theorem dX8_copyTo_11 : decode cX8_copyTo 11 = .ok (.iload_n 3, 1) := by decide +kernel
theorem dX8_copyTo_12 : decode cX8_copyTo 12 = .ok (.iload 4, 2) := by decide +kernel
theorem dX8_copyTo_14 : decode cX8_copyTo 14 = .ok (.invokevirtual 30, 3) := by decide +kernel
theorem dX8_copyTo_17 : decode cX8_copyTo 17 = .ok (.ifCond .eq 18, 3) := by decide +kernel
theorem dX8_copyTo_20 : decode cX8_copyTo 20 = .ok (.aload_n 0, 1) := by decide +kernel
theorem dX8_copyTo_21 : decode cX8_copyTo 21 = .ok (.getfield 9, 3) := by decide +kernel
theorem dX8_copyTo_24 : decode cX8_copyTo 24 = .ok (.iload_n 1, 1) := by decide +kernel
theorem dX8_copyTo_25 : decode cX8_copyTo 25 = .ok (.aload_n 2, 1) := by decide +kernel
theorem dX8_copyTo_26 : decode cX8_copyTo 26 = .ok (.getfield 9, 3) := by decide +kernel
theorem dX8_copyTo_29 : decode cX8_copyTo 29 = .ok (.iload_n 3, 1) := by decide +kernel
theorem dX8_copyTo_30 : decode cX8_copyTo 30 = .ok (.iload 4, 2) := by decide +kernel
theorem dX8_copyTo_32 : decode cX8_copyTo 32 = .ok (.invokestatic 34, 3) := by decide +kernel
theorem dX8_copyTo_35 : decode cX8_copyTo 35 = .ok (.return_, 1) := by decide +kernel
theorem dX10_init_0 : decode cX10_init 0 = .ok (.aload_n 0, 1) := by decide +kernel
theorem dX10_init_1 : decode cX10_init 1 = .ok (.invokespecial 3, 3) := by decide +kernel
theorem dX10_init_4 : decode cX10_init 4 = .ok (.aload_n 0, 1) := by decide +kernel
theorem dX10_init_5 : decode cX10_init 5 = .ok (.bipush 24, 2) := by decide +kernel
theorem dX10_init_7 : decode cX10_init 7 = .ok (.newarray .int, 2) := by decide +kernel
theorem dX10_init_9 : decode cX10_init 9 = .ok (.putfield 9, 3) := by decide +kernel
theorem dX10_init_12 : decode cX10_init 12 = .ok (.aload_n 0, 1) := by decide +kernel
theorem dX10_init_13 : decode cX10_init 13 = .ok (.bipush 24, 2) := by decide +kernel
theorem dX10_init_15 : decode cX10_init 15 = .ok (.newarray .int, 2) := by decide +kernel
theorem dX10_init_17 : decode cX10_init 17 = .ok (.putfield 15, 3) := by decide +kernel
theorem dX10_init_20 : decode cX10_init 20 = .ok (.return_, 1) := by decide +kernel
theorem dX10_clear_0 : decode cX10_clear 0 = .ok (.aload_n 0, 1) := by decide +kernel
theorem dX10_clear_1 : decode cX10_clear 1 = .ok (.iconst 0, 1) := by decide +kernel
theorem dX10_clear_2 : decode cX10_clear 2 = .ok (.putfield 18, 3) := by decide +kernel
theorem dX10_clear_5 : decode cX10_clear 5 = .ok (.return_, 1) := by decide +kernel
theorem dX10_isFull_0 : decode cX10_isFull 0 = .ok (.aload_n 0, 1) := by decide +kernel
theorem dX10_isFull_1 : decode cX10_isFull 1 = .ok (.getfield 18, 3) := by decide +kernel
theorem dX10_isFull_4 : decode cX10_isFull 4 = .ok (.bipush 24, 2) := by decide +kernel
theorem dX10_isFull_6 : decode cX10_isFull 6 = .ok (.if_icmp .lt 7, 3) := by decide +kernel
theorem dX10_isFull_9 : decode cX10_isFull 9 = .ok (.iconst 1, 1) := by decide +kernel
theorem dX10_isFull_10 : decode cX10_isFull 10 = .ok (.goto 4, 3) := by decide +kernel
theorem dX10_isFull_13 : decode cX10_isFull 13 = .ok (.iconst 0, 1) := by decide +kernel
theorem dX10_isFull_14 : decode cX10_isFull 14 = .ok (.ireturn, 1) := by decide +kernel
theorem dX10_has_0 : decode cX10_has 0 = .ok (.iload_n 1, 1) := by decide +kernel
theorem dX10_has_1 : decode cX10_has 1 = .ok (.ifCond .lt 15, 3) := by decide +kernel
theorem dX10_has_4 : decode cX10_has 4 = .ok (.iload_n 1, 1) := by decide +kernel
theorem dX10_has_5 : decode cX10_has 5 = .ok (.aload_n 0, 1) := by decide +kernel
theorem dX10_has_6 : decode cX10_has 6 = .ok (.getfield 18, 3) := by decide +kernel
theorem dX10_has_9 : decode cX10_has 9 = .ok (.if_icmp .ge 7, 3) := by decide +kernel
theorem dX10_has_12 : decode cX10_has 12 = .ok (.iconst 1, 1) := by decide +kernel
theorem dX10_has_13 : decode cX10_has 13 = .ok (.goto 4, 3) := by decide +kernel
theorem dX10_has_16 : decode cX10_has 16 = .ok (.iconst 0, 1) := by decide +kernel
theorem dX10_has_17 : decode cX10_has 17 = .ok (.ireturn, 1) := by decide +kernel
theorem dX10_add_0 : decode cX10_add 0 = .ok (.aload_n 0, 1) := by decide +kernel
theorem dX10_add_1 : decode cX10_add 1 = .ok (.getfield 18, 3) := by decide +kernel
theorem dX10_add_4 : decode cX10_add 4 = .ok (.ifCond .lt 57, 3) := by decide +kernel
theorem dX10_add_7 : decode cX10_add 7 = .ok (.aload_n 0, 1) := by decide +kernel
theorem dX10_add_8 : decode cX10_add 8 = .ok (.getfield 18, 3) := by decide +kernel
theorem dX10_add_11 : decode cX10_add 11 = .ok (.aload_n 0, 1) := by decide +kernel
theorem dX10_add_12 : decode cX10_add 12 = .ok (.getfield 9, 3) := by decide +kernel
theorem dX10_add_15 : decode cX10_add 15 = .ok (.arraylength, 1) := by decide +kernel
theorem dX10_add_16 : decode cX10_add 16 = .ok (.if_icmp .ge 45, 3) := by decide +kernel
theorem dX10_add_19 : decode cX10_add 19 = .ok (.aload_n 0, 1) := by decide +kernel
theorem dX10_add_20 : decode cX10_add 20 = .ok (.getfield 18, 3) := by decide +kernel
theorem dX10_add_23 : decode cX10_add 23 = .ok (.aload_n 0, 1) := by decide +kernel
theorem dX10_add_24 : decode cX10_add 24 = .ok (.getfield 15, 3) := by decide +kernel
theorem dX10_add_27 : decode cX10_add 27 = .ok (.arraylength, 1) := by decide +kernel
theorem dX10_add_28 : decode cX10_add 28 = .ok (.if_icmp .ge 33, 3) := by decide +kernel
theorem dX10_add_31 : decode cX10_add 31 = .ok (.aload_n 0, 1) := by decide +kernel
theorem dX10_add_32 : decode cX10_add 32 = .ok (.getfield 9, 3) := by decide +kernel
theorem dX10_add_35 : decode cX10_add 35 = .ok (.aload_n 0, 1) := by decide +kernel
theorem dX10_add_36 : decode cX10_add 36 = .ok (.getfield 18, 3) := by decide +kernel
theorem dX10_add_39 : decode cX10_add 39 = .ok (.iload_n 1, 1) := by decide +kernel
theorem dX10_add_40 : decode cX10_add 40 = .ok (.iastore, 1) := by decide +kernel
theorem dX10_add_41 : decode cX10_add 41 = .ok (.aload_n 0, 1) := by decide +kernel
theorem dX10_add_42 : decode cX10_add 42 = .ok (.getfield 15, 3) := by decide +kernel
theorem dX10_add_45 : decode cX10_add 45 = .ok (.aload_n 0, 1) := by decide +kernel
theorem dX10_add_46 : decode cX10_add 46 = .ok (.getfield 18, 3) := by decide +kernel
theorem dX10_add_49 : decode cX10_add 49 = .ok (.iload_n 2, 1) := by decide +kernel
theorem dX10_add_50 : decode cX10_add 50 = .ok (.iastore, 1) := by decide +kernel
theorem dX10_add_51 : decode cX10_add 51 = .ok (.aload_n 0, 1) := by decide +kernel
theorem dX10_add_52 : decode cX10_add 52 = .ok (.dup, 1) := by decide +kernel
theorem dX10_add_53 : decode cX10_add 53 = .ok (.getfield 18, 3) := by decide +kernel
theorem dX10_add_56 : decode cX10_add 56 = .ok (.iconst 1, 1) := by decide +kernel
theorem dX10_add_57 : decode cX10_add 57 = .ok (.iadd, 1) := by decide +kernel
theorem dX10_add_58 : decode cX10_add 58 = .ok (.putfield 18, 3) := by decide +kernel
theorem dX10_add_61 : decode cX10_add 61 = .ok (.return_, 1) := by decide +kernel
theorem dX10_minuteOf_0 : decode cX10_minuteOf 0 = .ok (.iload_n 1, 1) := by decide +kernel
theorem dX10_minuteOf_1 : decode cX10_minuteOf 1 = .ok (.ifCond .lt 21, 3) := by decide +kernel
theorem dX10_minuteOf_4 : decode cX10_minuteOf 4 = .ok (.iload_n 1, 1) := by decide +kernel
theorem dX10_minuteOf_5 : decode cX10_minuteOf 5 = .ok (.aload_n 0, 1) := by decide +kernel
theorem dX10_minuteOf_6 : decode cX10_minuteOf 6 = .ok (.getfield 9, 3) := by decide +kernel
theorem dX10_minuteOf_9 : decode cX10_minuteOf 9 = .ok (.arraylength, 1) := by decide +kernel
theorem dX10_minuteOf_10 : decode cX10_minuteOf 10 = .ok (.if_icmp .ge 12, 3) := by decide +kernel
theorem dX10_minuteOf_13 : decode cX10_minuteOf 13 = .ok (.aload_n 0, 1) := by decide +kernel
theorem dX10_minuteOf_14 : decode cX10_minuteOf 14 = .ok (.getfield 9, 3) := by decide +kernel
theorem dX10_minuteOf_17 : decode cX10_minuteOf 17 = .ok (.iload_n 1, 1) := by decide +kernel
theorem dX10_minuteOf_18 : decode cX10_minuteOf 18 = .ok (.iaload, 1) := by decide +kernel
theorem dX10_minuteOf_19 : decode cX10_minuteOf 19 = .ok (.goto 4, 3) := by decide +kernel
theorem dX10_minuteOf_22 : decode cX10_minuteOf 22 = .ok (.iconst 0, 1) := by decide +kernel
theorem dX10_minuteOf_23 : decode cX10_minuteOf 23 = .ok (.ireturn, 1) := by decide +kernel
theorem dX10_whoOf_0 : decode cX10_whoOf 0 = .ok (.iload_n 1, 1) := by decide +kernel
theorem dX10_whoOf_1 : decode cX10_whoOf 1 = .ok (.ifCond .lt 21, 3) := by decide +kernel
theorem dX10_whoOf_4 : decode cX10_whoOf 4 = .ok (.iload_n 1, 1) := by decide +kernel
theorem dX10_whoOf_5 : decode cX10_whoOf 5 = .ok (.aload_n 0, 1) := by decide +kernel
theorem dX10_whoOf_6 : decode cX10_whoOf 6 = .ok (.getfield 15, 3) := by decide +kernel
theorem dX10_whoOf_9 : decode cX10_whoOf 9 = .ok (.arraylength, 1) := by decide +kernel
theorem dX10_whoOf_10 : decode cX10_whoOf 10 = .ok (.if_icmp .ge 12, 3) := by decide +kernel
theorem dX10_whoOf_13 : decode cX10_whoOf 13 = .ok (.aload_n 0, 1) := by decide +kernel
theorem dX10_whoOf_14 : decode cX10_whoOf 14 = .ok (.getfield 15, 3) := by decide +kernel
theorem dX10_whoOf_17 : decode cX10_whoOf 17 = .ok (.iload_n 1, 1) := by decide +kernel
theorem dX10_whoOf_18 : decode cX10_whoOf 18 = .ok (.iaload, 1) := by decide +kernel
theorem dX10_whoOf_19 : decode cX10_whoOf 19 = .ok (.goto 5, 3) := by decide +kernel
theorem dX10_whoOf_22 : decode cX10_whoOf 22 = .ok (.bipush (-9), 2) := by decide +kernel
theorem dX10_whoOf_24 : decode cX10_whoOf 24 = .ok (.ireturn, 1) := by decide +kernel
theorem dX10_lastMinute_0 : decode cX10_lastMinute 0 = .ok (.aload_n 0, 1) := by decide +kernel
theorem dX10_lastMinute_1 : decode cX10_lastMinute 1 = .ok (.aload_n 0, 1) := by decide +kernel
theorem dX10_lastMinute_2 : decode cX10_lastMinute 2 = .ok (.getfield 18, 3) := by decide +kernel
theorem dX10_lastMinute_5 : decode cX10_lastMinute 5 = .ok (.iconst 1, 1) := by decide +kernel
theorem dX10_lastMinute_6 : decode cX10_lastMinute 6 = .ok (.isub, 1) := by decide +kernel
theorem dX10_lastMinute_7 : decode cX10_lastMinute 7 = .ok (.invokevirtual 22, 3) := by decide +kernel
theorem dX10_lastMinute_10 : decode cX10_lastMinute 10 = .ok (.ireturn, 1) := by decide +kernel
theorem dX10_howOften_0 : decode cX10_howOften 0 = .ok (.iconst 0, 1) := by decide +kernel
theorem dX10_howOften_1 : decode cX10_howOften 1 = .ok (.istore_n 2, 1) := by decide +kernel
theorem dX10_howOften_2 : decode cX10_howOften 2 = .ok (.iconst 0, 1) := by decide +kernel
theorem dX10_howOften_3 : decode cX10_howOften 3 = .ok (.istore_n 3, 1) := by decide +kernel
theorem dX10_howOften_4 : decode cX10_howOften 4 = .ok (.iload_n 3, 1) := by decide +kernel
theorem dX10_howOften_5 : decode cX10_howOften 5 = .ok (.aload_n 0, 1) := by decide +kernel
theorem dX10_howOften_6 : decode cX10_howOften 6 = .ok (.getfield 18, 3) := by decide +kernel
theorem dX10_howOften_9 : decode cX10_howOften 9 = .ok (.if_icmp .ge 21, 3) := by decide +kernel
theorem dX10_howOften_12 : decode cX10_howOften 12 = .ok (.aload_n 0, 1) := by decide +kernel
theorem dX10_howOften_13 : decode cX10_howOften 13 = .ok (.iload_n 3, 1) := by decide +kernel
theorem dX10_howOften_14 : decode cX10_howOften 14 = .ok (.invokevirtual 26, 3) := by decide +kernel
theorem dX10_howOften_17 : decode cX10_howOften 17 = .ok (.iload_n 1, 1) := by decide +kernel
theorem dX10_howOften_18 : decode cX10_howOften 18 = .ok (.if_icmp .ne 6, 3) := by decide +kernel
theorem dX10_howOften_21 : decode cX10_howOften 21 = .ok (.iinc 2 1, 3) := by decide +kernel
theorem dX10_howOften_24 : decode cX10_howOften 24 = .ok (.iinc 3 1, 3) := by decide +kernel
theorem dX10_howOften_27 : decode cX10_howOften 27 = .ok (.goto (-23), 3) := by decide +kernel
theorem dX10_howOften_30 : decode cX10_howOften 30 = .ok (.iload_n 2, 1) := by decide +kernel
theorem dX10_howOften_31 : decode cX10_howOften 31 = .ok (.ireturn, 1) := by decide +kernel
