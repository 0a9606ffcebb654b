theorem dX11_init_0 : decode cX11_init 0 = .ok (.aload_n 0, 1) := by decide +kernel
theorem dX11_init_1 : decode cX11_init 1 = .ok (.invokespecial 3, 3) := by decide +kernel
theorem dX11_init_4 : decode cX11_init 4 = .ok (.aload_n 0, 1) := by decide +kernel
theorem dX11_init_5 : decode cX11_init 5 = .ok (.iconst 4, 1) := by decide +kernel
theorem dX11_init_6 : decode cX11_init 6 = .ok (.anewarray 11, 3) := by decide +kernel
theorem dX11_init_9 : decode cX11_init 9 = .ok (.putfield 13, 3) := by decide +kernel
theorem dX11_init_12 : decode cX11_init 12 = .ok (.aload_n 0, 1) := by decide +kernel
theorem dX11_init_13 : decode cX11_init 13 = .ok (.new 17, 3) := by decide +kernel
theorem dX11_init_16 : decode cX11_init 16 = .ok (.dup, 1) := by decide +kernel
theorem dX11_init_17 : decode cX11_init 17 = .ok (.invokespecial 19, 3) := by decide +kernel
theorem dX11_init_20 : decode cX11_init 20 = .ok (.putfield 20, 3) := by decide +kernel
theorem dX11_init_23 : decode cX11_init 23 = .ok (.aload_n 0, 1) := by decide +kernel
theorem dX11_init_24 : decode cX11_init 24 = .ok (.new 24, 3) := by decide +kernel
theorem dX11_init_27 : decode cX11_init 27 = .ok (.dup, 1) := by decide +kernel
theorem dX11_init_28 : decode cX11_init 28 = .ok (.invokespecial 26, 3) := by decide +kernel
theorem dX11_init_31 : decode cX11_init 31 = .ok (.putfield 27, 3) := by decide +kernel
theorem dX11_init_34 : decode cX11_init 34 = .ok (.aload_n 0, 1) := by decide +kernel
theorem dX11_init_35 : decode cX11_init 35 = .ok (.new 31, 3) := by decide +kernel
theorem dX11_init_38 : decode cX11_init 38 = .ok (.dup, 1) := by decide +kernel
theorem dX11_init_39 : decode cX11_init 39 = .ok (.invokespecial 33, 3) := by decide +kernel
theorem dX11_init_42 : decode cX11_init 42 = .ok (.putfield 34, 3) := by decide +kernel
theorem dX11_init_45 : decode cX11_init 45 = .ok (.aload_n 0, 1) := by decide +kernel
theorem dX11_init_46 : decode cX11_init 46 = .ok (.bipush 12, 2) := by decide +kernel
theorem dX11_init_48 : decode cX11_init 48 = .ok (.anewarray 38, 3) := by decide +kernel
theorem dX11_init_51 : decode cX11_init 51 = .ok (.putfield 40, 3) := by decide +kernel
theorem dX11_init_54 : decode cX11_init 54 = .ok (.aload_n 0, 1) := by decide +kernel
theorem dX11_init_55 : decode cX11_init 55 = .ok (.bipush 6, 2) := by decide +kernel
theorem dX11_init_57 : decode cX11_init 57 = .ok (.anewarray 44, 3) := by decide +kernel
theorem dX11_init_60 : decode cX11_init 60 = .ok (.putfield 46, 3) := by decide +kernel
theorem dX11_init_63 : decode cX11_init 63 = .ok (.aload_n 0, 1) := by decide +kernel
theorem dX11_init_64 : decode cX11_init 64 = .ok (.new 50, 3) := by decide +kernel
theorem dX11_init_67 : decode cX11_init 67 = .ok (.dup, 1) := by decide +kernel
theorem dX11_init_68 : decode cX11_init 68 = .ok (.invokespecial 52, 3) := by decide +kernel
theorem dX11_init_71 : decode cX11_init 71 = .ok (.putfield 53, 3) := by decide +kernel
theorem dX11_init_74 : decode cX11_init 74 = .ok (.aload_n 0, 1) := by decide +kernel
theorem dX11_init_75 : decode cX11_init 75 = .ok (.new 57, 3) := by decide +kernel
theorem dX11_init_78 : decode cX11_init 78 = .ok (.dup, 1) := by decide +kernel
theorem dX11_init_79 : decode cX11_init 79 = .ok (.invokespecial 59, 3) := by decide +kernel
theorem dX11_init_82 : decode cX11_init 82 = .ok (.putfield 60, 3) := by decide +kernel
theorem dX11_init_85 : decode cX11_init 85 = .ok (.aload_n 0, 1) := by decide +kernel
theorem dX11_init_86 : decode cX11_init 86 = .ok (.bipush 12, 2) := by decide +kernel
theorem dX11_init_88 : decode cX11_init 88 = .ok (.newarray .int, 2) := by decide +kernel
theorem dX11_init_90 : decode cX11_init 90 = .ok (.putfield 64, 3) := by decide +kernel
theorem dX11_init_93 : decode cX11_init 93 = .ok (.aload_n 0, 1) := by decide +kernel
theorem dX11_init_94 : decode cX11_init 94 = .ok (.sipush 144, 3) := by decide +kernel
theorem dX11_init_97 : decode cX11_init 97 = .ok (.newarray .int, 2) := by decide +kernel
theorem dX11_init_99 : decode cX11_init 99 = .ok (.putfield 68, 3) := by decide +kernel
theorem dX11_init_102 : decode cX11_init 102 = .ok (.aload_n 0, 1) := by decide +kernel
theorem dX11_init_103 : decode cX11_init 103 = .ok (.bipush 12, 2) := by decide +kernel
theorem dX11_init_105 : decode cX11_init 105 = .ok (.newarray .int, 2) := by decide +kernel
theorem dX11_init_107 : decode cX11_init 107 = .ok (.putfield 71, 3) := by decide +kernel
theorem dX11_init_110 : decode cX11_init 110 = .ok (.aload_n 0, 1) := by decide +kernel
theorem dX11_init_111 : decode cX11_init 111 = .ok (.bipush 24, 2) := by decide +kernel
theorem dX11_init_113 : decode cX11_init 113 = .ok (.newarray .int, 2) := by decide +kernel
theorem dX11_init_115 : decode cX11_init 115 = .ok (.putfield 74, 3) := by decide +kernel
theorem dX11_init_118 : decode cX11_init 118 = .ok (.aload_n 0, 1) := by decide +kernel
theorem dX11_init_119 : decode cX11_init 119 = .ok (.bipush 24, 2) := by decide +kernel
theorem dX11_init_121 : decode cX11_init 121 = .ok (.newarray .boolean, 2) := by decide +kernel
theorem dX11_init_123 : decode cX11_init 123 = .ok (.putfield 77, 3) := by decide +kernel
theorem dX11_init_126 : decode cX11_init 126 = .ok (.iconst 0, 1) := by decide +kernel
theorem dX11_init_127 : decode cX11_init 127 = .ok (.istore_n 1, 1) := by decide +kernel
theorem dX11_init_128 : decode cX11_init 128 = .ok (.iload_n 1, 1) := by decide +kernel
theorem dX11_init_129 : decode cX11_init 129 = .ok (.aload_n 0, 1) := by decide +kernel
theorem dX11_init_130 : decode cX11_init 130 = .ok (.getfield 13, 3) := by decide +kernel
theorem dX11_init_133 : decode cX11_init 133 = .ok (.arraylength, 1) := by decide +kernel
theorem dX11_init_134 : decode cX11_init 134 = .ok (.if_icmp .ge 22, 3) := by decide +kernel
theorem dX11_init_137 : decode cX11_init 137 = .ok (.aload_n 0, 1) := by decide +kernel
theorem dX11_init_138 : decode cX11_init 138 = .ok (.getfield 13, 3) := by decide +kernel
theorem dX11_init_141 : decode cX11_init 141 = .ok (.iload_n 1, 1) := by decide +kernel
theorem dX11_init_142 : decode cX11_init 142 = .ok (.new 11, 3) := by decide +kernel
theorem dX11_init_145 : decode cX11_init 145 = .ok (.dup, 1) := by decide +kernel
theorem dX11_init_146 : decode cX11_init 146 = .ok (.invokespecial 81, 3) := by decide +kernel
theorem dX11_init_149 : decode cX11_init 149 = .ok (.aastore, 1) := by decide +kernel
theorem dX11_init_150 : decode cX11_init 150 = .ok (.iinc 1 1, 3) := by decide +kernel
theorem dX11_init_153 : decode cX11_init 153 = .ok (.goto (-25), 3) := by decide +kernel
theorem dX11_init_156 : decode cX11_init 156 = .ok (.return_, 1) := by decide +kernel
theorem dX11_carriage_0 : decode cX11_carriage 0 = .ok (.aload_n 0, 1) := by decide +kernel
theorem dX11_carriage_1 : decode cX11_carriage 1 = .ok (.iload_n 1, 1) := by decide +kernel
theorem dX11_carriage_2 : decode cX11_carriage 2 = .ok (.iload_n 2, 1) := by decide +kernel
theorem dX11_carriage_3 : decode cX11_carriage 3 = .ok (.iload_n 3, 1) := by decide +kernel
theorem dX11_carriage_4 : decode cX11_carriage 4 = .ok (.iload 4, 2) := by decide +kernel
theorem dX11_carriage_6 : decode cX11_carriage 6 = .ok (.invokevirtual 82, 3) := by decide +kernel
theorem dX11_carriage_9 : decode cX11_carriage 9 = .ok (.istore 5, 2) := by decide +kernel
theorem dX11_carriage_11 : decode cX11_carriage 11 = .ok (.iload 5, 2) := by decide +kernel
theorem dX11_carriage_13 : decode cX11_carriage 13 = .ok (.ifCond .eq 6, 3) := by decide +kernel
theorem dX11_carriage_16 : decode cX11_carriage 16 = .ok (.iload 5, 2) := by decide +kernel
theorem dX11_carriage_18 : decode cX11_carriage 18 = .ok (.ireturn, 1) := by decide +kernel
theorem dX11_carriage_19 : decode cX11_carriage 19 = .ok (.aload_n 0, 1) := by decide +kernel
theorem dX11_carriage_20 : decode cX11_carriage 20 = .ok (.getfield 20, 3) := by decide +kernel
theorem dX11_carriage_23 : decode cX11_carriage 23 = .ok (.aload_n 0, 1) := by decide +kernel
theorem dX11_carriage_24 : decode cX11_carriage 24 = .ok (.iload_n 1, 1) := by decide +kernel
theorem dX11_carriage_25 : decode cX11_carriage 25 = .ok (.invokevirtual 86, 3) := by decide +kernel
theorem dX11_carriage_28 : decode cX11_carriage 28 = .ok (.iload_n 3, 1) := by decide +kernel
theorem dX11_carriage_29 : decode cX11_carriage 29 = .ok (.iload 4, 2) := by decide +kernel
theorem dX11_carriage_31 : decode cX11_carriage 31 = .ok (.invokevirtual 90, 3) := by decide +kernel
theorem dX11_carriage_34 : decode cX11_carriage 34 = .ok (.istore 6, 2) := by decide +kernel
theorem dX11_carriage_36 : decode cX11_carriage 36 = .ok (.iload 6, 2) := by decide +kernel
theorem dX11_carriage_38 : decode cX11_carriage 38 = .ok (.ifCond .lt 9, 3) := by decide +kernel
theorem dX11_carriage_41 : decode cX11_carriage 41 = .ok (.bipush (-100), 2) := by decide +kernel
theorem dX11_carriage_43 : decode cX11_carriage 43 = .ok (.iload 6, 2) := by decide +kernel
theorem dX11_carriage_45 : decode cX11_carriage 45 = .ok (.isub, 1) := by decide +kernel
theorem dX11_carriage_46 : decode cX11_carriage 46 = .ok (.ireturn, 1) := by decide +kernel
theorem dX11_carriage_47 : decode cX11_carriage 47 = .ok (.aload_n 0, 1) := by decide +kernel
theorem dX11_carriage_48 : decode cX11_carriage 48 = .ok (.getfield 34, 3) := by decide +kernel
theorem dX11_carriage_51 : decode cX11_carriage 51 = .ok (.aload_n 0, 1) := by decide +kernel
theorem dX11_carriage_52 : decode cX11_carriage 52 = .ok (.getfield 20, 3) := by decide +kernel
theorem dX11_carriage_55 : decode cX11_carriage 55 = .ok (.invokevirtual 94, 3) := by decide +kernel
theorem dX11_carriage_58 : decode cX11_carriage 58 = .ok (.aload_n 0, 1) := by decide +kernel
theorem dX11_carriage_59 : decode cX11_carriage 59 = .ok (.iconst 0, 1) := by decide +kernel
theorem dX11_carriage_60 : decode cX11_carriage 60 = .ok (.putfield 98, 3) := by decide +kernel
theorem dX11_carriage_63 : decode cX11_carriage 63 = .ok (.aload_n 0, 1) := by decide +kernel
theorem dX11_carriage_64 : decode cX11_carriage 64 = .ok (.getfield 53, 3) := by decide +kernel
theorem dX11_carriage_67 : decode cX11_carriage 67 = .ok (.invokevirtual 102, 3) := by decide +kernel
theorem dX11_carriage_70 : decode cX11_carriage 70 = .ok (.aload_n 0, 1) := by decide +kernel
theorem dX11_carriage_71 : decode cX11_carriage 71 = .ok (.getfield 34, 3) := by decide +kernel
theorem dX11_carriage_74 : decode cX11_carriage 74 = .ok (.getfield 105, 3) := by decide +kernel
theorem dX11_carriage_77 : decode cX11_carriage 77 = .ok (.ireturn, 1) := by decide +kernel
theorem dX11_ofSeat_0 : decode cX11_ofSeat 0 = .ok (.aload_n 0, 1) := by decide +kernel
theorem dX11_ofSeat_1 : decode cX11_ofSeat 1 = .ok (.getfield 34, 3) := by decide +kernel
theorem dX11_ofSeat_4 : decode cX11_ofSeat 4 = .ok (.iload_n 1, 1) := by decide +kernel
theorem dX11_ofSeat_5 : decode cX11_ofSeat 5 = .ok (.invokevirtual 108, 3) := by decide +kernel
theorem dX11_ofSeat_8 : decode cX11_ofSeat 8 = .ok (.ifCond .ne 5, 3) := by decide +kernel
theorem dX11_ofSeat_11 : decode cX11_ofSeat 11 = .ok (.iconst (-1), 1) := by decide +kernel
theorem dX11_ofSeat_12 : decode cX11_ofSeat 12 = .ok (.ireturn, 1) := by decide +kernel
theorem dX11_ofSeat_13 : decode cX11_ofSeat 13 = .ok (.iload_n 2, 1) := by decide +kernel
theorem dX11_ofSeat_14 : decode cX11_ofSeat 14 = .ok (.tableswitch 56 0 2 #[26, 35, 44], 26) := by decide +kernel
theorem dX11_ofSeat_40 : decode cX11_ofSeat 40 = .ok (.aload_n 0, 1) := by decide +kernel
theorem dX11_ofSeat_41 : decode cX11_ofSeat 41 = .ok (.getfield 34, 3) := by decide +kernel
theorem dX11_ofSeat_44 : decode cX11_ofSeat 44 = .ok (.iload_n 1, 1) := by decide +kernel
theorem dX11_ofSeat_45 : decode cX11_ofSeat 45 = .ok (.invokevirtual 112, 3) := by decide +kernel
theorem dX11_ofSeat_48 : decode cX11_ofSeat 48 = .ok (.ireturn, 1) := by decide +kernel
theorem dX11_ofSeat_49 : decode cX11_ofSeat 49 = .ok (.aload_n 0, 1) := by decide +kernel
theorem dX11_ofSeat_50 : decode cX11_ofSeat 50 = .ok (.getfield 34, 3) := by decide +kernel
theorem dX11_ofSeat_53 : decode cX11_ofSeat 53 = .ok (.iload_n 1, 1) := by decide +kernel
theorem dX11_ofSeat_54 : decode cX11_ofSeat 54 = .ok (.invokevirtual 116, 3) := by decide +kernel
theorem dX11_ofSeat_57 : decode cX11_ofSeat 57 = .ok (.ireturn, 1) := by decide +kernel
theorem dX11_ofSeat_58 : decode cX11_ofSeat 58 = .ok (.aload_n 0, 1) := by decide +kernel
theorem dX11_ofSeat_59 : decode cX11_ofSeat 59 = .ok (.getfield 34, 3) := by decide +kernel
theorem dX11_ofSeat_62 : decode cX11_ofSeat 62 = .ok (.iload_n 1, 1) := by decide +kernel
theorem dX11_ofSeat_63 : decode cX11_ofSeat 63 = .ok (.invokevirtual 119, 3) := by decide +kernel
theorem dX11_ofSeat_66 : decode cX11_ofSeat 66 = .ok (.ldc 122, 2) := by decide +kernel
theorem dX11_ofSeat_68 : decode cX11_ofSeat 68 = .ok (.iand, 1) := by decide +kernel
theorem dX11_ofSeat_69 : decode cX11_ofSeat 69 = .ok (.ireturn, 1) := by decide +kernel
theorem dX11_ofSeat_70 : decode cX11_ofSeat 70 = .ok (.bipush (-2), 2) := by decide +kernel
theorem dX11_ofSeat_72 : decode cX11_ofSeat 72 = .ok (.ireturn, 1) := by decide +kernel
theorem dX11_line_0 : decode cX11_line 0 = .ok (.aload_n 0, 1) := by decide +kernel
theorem dX11_line_1 : decode cX11_line 1 = .ok (.getfield 34, 3) := by decide +kernel
theorem dX11_line_4 : decode cX11_line 4 = .ok (.iload_n 1, 1) := by decide +kernel
theorem dX11_line_5 : decode cX11_line 5 = .ok (.invokevirtual 108, 3) := by decide +kernel
theorem dX11_line_8 : decode cX11_line 8 = .ok (.ifCond .eq 14, 3) := by decide +kernel
theorem dX11_line_11 : decode cX11_line 11 = .ok (.aload_n 0, 1) := by decide +kernel
theorem dX11_line_12 : decode cX11_line 12 = .ok (.getfield 34, 3) := by decide +kernel
theorem dX11_line_15 : decode cX11_line 15 = .ok (.iload_n 2, 1) := by decide +kernel
theorem dX11_line_16 : decode cX11_line 16 = .ok (.invokevirtual 108, 3) := by decide +kernel
theorem dX11_line_19 : decode cX11_line 19 = .ok (.ifCond .ne 5, 3) := by decide +kernel
theorem dX11_line_22 : decode cX11_line 22 = .ok (.iconst (-1), 1) := by decide +kernel
theorem dX11_line_23 : decode cX11_line 23 = .ok (.ireturn, 1) := by decide +kernel
theorem dX11_line_24 : decode cX11_line 24 = .ok (.aload_n 0, 1) := by decide +kernel
theorem dX11_line_25 : decode cX11_line 25 = .ok (.getfield 34, 3) := by decide +kernel
theorem dX11_line_28 : decode cX11_line 28 = .ok (.iload_n 1, 1) := by decide +kernel
theorem dX11_line_29 : decode cX11_line 29 = .ok (.iload_n 2, 1) := by decide +kernel
theorem dX11_line_30 : decode cX11_line 30 = .ok (.invokevirtual 123, 3) := by decide +kernel
theorem dX11_line_33 : decode cX11_line 33 = .ok (.ifCond .eq 7, 3) := by decide +kernel
theorem dX11_line_36 : decode cX11_line 36 = .ok (.iconst 1, 1) := by decide +kernel
theorem dX11_line_37 : decode cX11_line 37 = .ok (.goto 4, 3) := by decide +kernel
theorem dX11_line_40 : decode cX11_line 40 = .ok (.iconst 0, 1) := by decide +kernel
theorem dX11_line_41 : decode cX11_line 41 = .ok (.ireturn, 1) := by decide +kernel
theorem dX11_blind_0 : decode cX11_blind 0 = .ok (.aload_n 0, 1) := by decide +kernel
theorem dX11_blind_1 : decode cX11_blind 1 = .ok (.getfield 34, 3) := by decide +kernel
theorem dX11_blind_4 : decode cX11_blind 4 = .ok (.iload_n 1, 1) := by decide +kernel
theorem dX11_blind_5 : decode cX11_blind 5 = .ok (.invokevirtual 108, 3) := by decide +kernel
theorem dX11_blind_8 : decode cX11_blind 8 = .ok (.ifCond .eq 14, 3) := by decide +kernel
theorem dX11_blind_11 : decode cX11_blind 11 = .ok (.aload_n 0, 1) := by decide +kernel
theorem dX11_blind_12 : decode cX11_blind 12 = .ok (.getfield 34, 3) := by decide +kernel
theorem dX11_blind_15 : decode cX11_blind 15 = .ok (.iload_n 2, 1) := by decide +kernel
theorem dX11_blind_16 : decode cX11_blind 16 = .ok (.invokevirtual 108, 3) := by decide +kernel
theorem dX11_blind_19 : decode cX11_blind 19 = .ok (.ifCond .ne 5, 3) := by decide +kernel
theorem dX11_blind_22 : decode cX11_blind 22 = .ok (.iconst (-1), 1) := by decide +kernel
theorem dX11_blind_23 : decode cX11_blind 23 = .ok (.ireturn, 1) := by decide +kernel
theorem dX11_blind_24 : decode cX11_blind 24 = .ok (.aload_n 0, 1) := by decide +kernel
theorem dX11_blind_25 : decode cX11_blind 25 = .ok (.getfield 34, 3) := by decide +kernel
theorem dX11_blind_28 : decode cX11_blind 28 = .ok (.iload_n 1, 1) := by decide +kernel
theorem dX11_blind_29 : decode cX11_blind 29 = .ok (.iload_n 2, 1) := by decide +kernel
theorem dX11_blind_30 : decode cX11_blind 30 = .ok (.invokevirtual 127, 3) := by decide +kernel
theorem dX11_blind_33 : decode cX11_blind 33 = .ok (.istore 4, 2) := by decide +kernel
theorem dX11_blind_35 : decode cX11_blind 35 = .ok (.iload 4, 2) := by decide +kernel
theorem dX11_blind_37 : decode cX11_blind 37 = .ok (.ifCond .ge 6, 3) := by decide +kernel
theorem dX11_blind_40 : decode cX11_blind 40 = .ok (.bipush (-2), 2) := by decide +kernel
theorem dX11_blind_42 : decode cX11_blind 42 = .ok (.ireturn, 1) := by decide +kernel
theorem dX11_blind_43 : decode cX11_blind 43 = .ok (.aload_n 0, 1) := by decide +kernel
theorem dX11_blind_44 : decode cX11_blind 44 = .ok (.getfield 34, 3) := by decide +kernel
theorem dX11_blind_47 : decode cX11_blind 47 = .ok (.iload 4, 2) := by decide +kernel
theorem dX11_blind_49 : decode cX11_blind 49 = .ok (.iload_n 3, 1) := by decide +kernel
theorem dX11_blind_50 : decode cX11_blind 50 = .ok (.invokevirtual 131, 3) := by decide +kernel
theorem dX11_blind_53 : decode cX11_blind 53 = .ok (.ifCond .eq 7, 3) := by decide +kernel
theorem dX11_blind_56 : decode cX11_blind 56 = .ok (.iconst 1, 1) := by decide +kernel
theorem dX11_blind_57 : decode cX11_blind 57 = .ok (.goto 4, 3) := by decide +kernel
theorem dX11_blind_60 : decode cX11_blind 60 = .ok (.iconst 0, 1) := by decide +kernel
theorem dX11_blind_61 : decode cX11_blind 61 = .ok (.ireturn, 1) := by decide +kernel
theorem dX11_one_0 : decode cX11_one 0 = .ok (.aload_n 0, 1) := by decide +kernel
theorem dX11_one_1 : decode cX11_one 1 = .ok (.getfield 34, 3) := by decide +kernel
theorem dX11_one_4 : decode cX11_one 4 = .ok (.iload_n 2, 1) := by decide +kernel
theorem dX11_one_5 : decode cX11_one 5 = .ok (.invokevirtual 108, 3) := by decide +kernel
theorem dX11_one_8 : decode cX11_one 8 = .ok (.ifCond .ne 5, 3) := by decide +kernel
theorem dX11_one_11 : decode cX11_one 11 = .ok (.iconst (-1), 1) := by decide +kernel
theorem dX11_one_12 : decode cX11_one 12 = .ok (.ireturn, 1) := by decide +kernel
theorem dX11_one_13 : decode cX11_one 13 = .ok (.iload_n 1, 1) := by decide +kernel
theorem dX11_one_14 : decode cX11_one 14 = .ok (.invokestatic 135, 3) := by decide +kernel
theorem dX11_one_17 : decode cX11_one 17 = .ok (.ifCond .eq 18, 3) := by decide +kernel
theorem dX11_one_20 : decode cX11_one 20 = .ok (.iload_n 3, 1) := by decide +kernel
theorem dX11_one_21 : decode cX11_one 21 = .ok (.invokestatic 138, 3) := by decide +kernel
theorem dX11_one_24 : decode cX11_one 24 = .ok (.ifCond .eq 11, 3) := by decide +kernel
theorem dX11_one_27 : decode cX11_one 27 = .ok (.iload 4, 2) := by decide +kernel
theorem dX11_one_29 : decode cX11_one 29 = .ok (.invokestatic 138, 3) := by decide +kernel
theorem dX11_one_32 : decode cX11_one 32 = .ok (.ifCond .ne 6, 3) := by decide +kernel
theorem dX11_one_35 : decode cX11_one 35 = .ok (.bipush (-2), 2) := by decide +kernel
theorem dX11_one_37 : decode cX11_one 37 = .ok (.ireturn, 1) := by decide +kernel
theorem dX11_one_38 : decode cX11_one 38 = .ok (.aload_n 0, 1) := by decide +kernel
theorem dX11_one_39 : decode cX11_one 39 = .ok (.getfield 34, 3) := by decide +kernel
theorem dX11_one_42 : decode cX11_one 42 = .ok (.iload_n 2, 1) := by decide +kernel
theorem dX11_one_43 : decode cX11_one 43 = .ok (.invokevirtual 116, 3) := by decide +kernel
theorem dX11_one_46 : decode cX11_one 46 = .ok (.bipush (-9), 2) := by decide +kernel
theorem dX11_one_48 : decode cX11_one 48 = .ok (.if_icmp .eq 6, 3) := by decide +kernel
theorem dX11_one_51 : decode cX11_one 51 = .ok (.bipush (-3), 2) := by decide +kernel
theorem dX11_one_53 : decode cX11_one 53 = .ok (.ireturn, 1) := by decide +kernel
theorem dX11_one_54 : decode cX11_one 54 = .ok (.aload_n 0, 1) := by decide +kernel
theorem dX11_one_55 : decode cX11_one 55 = .ok (.getfield 98, 3) := by decide +kernel
theorem dX11_one_58 : decode cX11_one 58 = .ok (.istore 5, 2) := by decide +kernel
theorem dX11_one_60 : decode cX11_one 60 = .ok (.iload 5, 2) := by decide +kernel
theorem dX11_one_62 : decode cX11_one 62 = .ok (.ifCond .lt 13, 3) := by decide +kernel
theorem dX11_one_65 : decode cX11_one 65 = .ok (.iload 5, 2) := by decide +kernel
theorem dX11_one_67 : decode cX11_one 67 = .ok (.aload_n 0, 1) := by decide +kernel
theorem dX11_one_68 : decode cX11_one 68 = .ok (.getfield 40, 3) := by decide +kernel
theorem dX11_one_71 : decode cX11_one 71 = .ok (.arraylength, 1) := by decide +kernel
theorem dX11_one_72 : decode cX11_one 72 = .ok (.if_icmp .lt 6, 3) := by decide +kernel
theorem dX11_one_75 : decode cX11_one 75 = .ok (.bipush (-4), 2) := by decide +kernel
theorem dX11_one_77 : decode cX11_one 77 = .ok (.ireturn, 1) := by decide +kernel
theorem dX11_one_78 : decode cX11_one 78 = .ok (.iload_n 1, 1) := by decide +kernel
theorem dX11_one_79 : decode cX11_one 79 = .ok (.iload 5, 2) := by decide +kernel
theorem dX11_one_81 : decode cX11_one 81 = .ok (.iload_n 3, 1) := by decide +kernel
theorem dX11_one_82 : decode cX11_one 82 = .ok (.iload 4, 2) := by decide +kernel
theorem dX11_one_84 : decode cX11_one 84 = .ok (.invokestatic 141, 3) := by decide +kernel
theorem dX11_one_87 : decode cX11_one 87 = .ok (.astore 6, 2) := by decide +kernel
theorem dX11_one_89 : decode cX11_one 89 = .ok (.aload 6, 2) := by decide +kernel
theorem dX11_one_91 : decode cX11_one 91 = .ok (.iload_n 2, 1) := by decide +kernel
theorem dX11_one_92 : decode cX11_one 92 = .ok (.putfield 145, 3) := by decide +kernel
theorem dX11_one_95 : decode cX11_one 95 = .ok (.aload_n 0, 1) := by decide +kernel
theorem dX11_one_96 : decode cX11_one 96 = .ok (.getfield 40, 3) := by decide +kernel
theorem dX11_one_99 : decode cX11_one 99 = .ok (.iload 5, 2) := by decide +kernel
theorem dX11_one_101 : decode cX11_one 101 = .ok (.aload 6, 2) := by decide +kernel
theorem dX11_one_103 : decode cX11_one 103 = .ok (.aastore, 1) := by decide +kernel
theorem dX11_one_104 : decode cX11_one 104 = .ok (.aload_n 0, 1) := by decide +kernel
theorem dX11_one_105 : decode cX11_one 105 = .ok (.getfield 34, 3) := by decide +kernel
theorem dX11_one_108 : decode cX11_one 108 = .ok (.iload_n 2, 1) := by decide +kernel
theorem dX11_one_109 : decode cX11_one 109 = .ok (.iload 5, 2) := by decide +kernel
theorem dX11_one_111 : decode cX11_one 111 = .ok (.invokevirtual 148, 3) := by decide +kernel
theorem dX11_one_114 : decode cX11_one 114 = .ok (.aload_n 0, 1) := by decide +kernel
theorem dX11_one_115 : decode cX11_one 115 = .ok (.iload 5, 2) := by decide +kernel
theorem dX11_one_117 : decode cX11_one 117 = .ok (.iconst 1, 1) := by decide +kernel
theorem dX11_one_118 : decode cX11_one 118 = .ok (.iadd, 1) := by decide +kernel
theorem dX11_one_119 : decode cX11_one 119 = .ok (.putfield 98, 3) := by decide +kernel
theorem dX11_one_122 : decode cX11_one 122 = .ok (.iload 5, 2) := by decide +kernel
theorem dX11_one_124 : decode cX11_one 124 = .ok (.ireturn, 1) := by decide +kernel
theorem dX11_ofOne_0 : decode cX11_ofOne 0 = .ok (.aload_n 0, 1) := by decide +kernel
theorem dX11_ofOne_1 : decode cX11_ofOne 1 = .ok (.iload_n 1, 1) := by decide +kernel
theorem dX11_ofOne_2 : decode cX11_ofOne 2 = .ok (.invokevirtual 152, 3) := by decide +kernel
theorem dX11_ofOne_5 : decode cX11_ofOne 5 = .ok (.astore_n 3, 1) := by decide +kernel
theorem dX11_ofOne_6 : decode cX11_ofOne 6 = .ok (.aload_n 3, 1) := by decide +kernel
theorem dX11_ofOne_7 : decode cX11_ofOne 7 = .ok (.ifnonnull 5, 3) := by decide +kernel
theorem dX11_ofOne_10 : decode cX11_ofOne 10 = .ok (.iconst (-1), 1) := by decide +kernel
theorem dX11_ofOne_11 : decode cX11_ofOne 11 = .ok (.ireturn, 1) := by decide +kernel
theorem dX11_ofOne_12 : decode cX11_ofOne 12 = .ok (.iload_n 2, 1) := by decide +kernel
theorem dX11_ofOne_13 : decode cX11_ofOne 13 = .ok (.tableswitch 71 0 5 #[39, 44, 49, 54, 59, 65], 39) := by decide +kernel
theorem dX11_ofOne_52 : decode cX11_ofOne 52 = .ok (.aload_n 3, 1) := by decide +kernel
theorem dX11_ofOne_53 : decode cX11_ofOne 53 = .ok (.invokevirtual 156, 3) := by decide +kernel
theorem dX11_ofOne_56 : decode cX11_ofOne 56 = .ok (.ireturn, 1) := by decide +kernel
theorem dX11_ofOne_57 : decode cX11_ofOne 57 = .ok (.aload_n 3, 1) := by decide +kernel
theorem dX11_ofOne_58 : decode cX11_ofOne 58 = .ok (.getfield 145, 3) := by decide +kernel
theorem dX11_ofOne_61 : decode cX11_ofOne 61 = .ok (.ireturn, 1) := by decide +kernel
theorem dX11_ofOne_62 : decode cX11_ofOne 62 = .ok (.aload_n 3, 1) := by decide +kernel
theorem dX11_ofOne_63 : decode cX11_ofOne 63 = .ok (.getfield 160, 3) := by decide +kernel
theorem dX11_ofOne_66 : decode cX11_ofOne 66 = .ok (.ireturn, 1) := by decide +kernel
theorem dX11_ofOne_67 : decode cX11_ofOne 67 = .ok (.aload_n 3, 1) := by decide +kernel
theorem dX11_ofOne_68 : decode cX11_ofOne 68 = .ok (.getfield 163, 3) := by decide +kernel
theorem dX11_ofOne_71 : decode cX11_ofOne 71 = .ok (.ireturn, 1) := by decide +kernel
theorem dX11_ofOne_72 : decode cX11_ofOne 72 = .ok (.aload_n 0, 1) := by decide +kernel
theorem dX11_ofOne_73 : decode cX11_ofOne 73 = .ok (.aload_n 3, 1) := by decide +kernel
theorem dX11_ofOne_74 : decode cX11_ofOne 74 = .ok (.invokevirtual 166, 3) := by decide +kernel
theorem dX11_ofOne_77 : decode cX11_ofOne 77 = .ok (.ireturn, 1) := by decide +kernel
theorem dX11_ofOne_78 : decode cX11_ofOne 78 = .ok (.aload_n 0, 1) := by decide +kernel
theorem dX11_ofOne_79 : decode cX11_ofOne 79 = .ok (.aload_n 3, 1) := by decide +kernel
theorem dX11_ofOne_80 : decode cX11_ofOne 80 = .ok (.invokevirtual 170, 3) := by decide +kernel
theorem dX11_ofOne_83 : decode cX11_ofOne 83 = .ok (.ireturn, 1) := by decide +kernel
theorem dX11_ofOne_84 : decode cX11_ofOne 84 = .ok (.bipush (-2), 2) := by decide +kernel
theorem dX11_ofOne_86 : decode cX11_ofOne 86 = .ok (.ireturn, 1) := by decide +kernel
theorem dX11_move_0 : decode cX11_move 0 = .ok (.aload_n 0, 1) := by decide +kernel
theorem dX11_move_1 : decode cX11_move 1 = .ok (.iload_n 1, 1) := by decide +kernel
theorem dX11_move_2 : decode cX11_move 2 = .ok (.invokevirtual 152, 3) := by decide +kernel
theorem dX11_move_5 : decode cX11_move 5 = .ok (.astore_n 3, 1) := by decide +kernel
theorem dX11_move_6 : decode cX11_move 6 = .ok (.aload_n 3, 1) := by decide +kernel
theorem dX11_move_7 : decode cX11_move 7 = .ok (.ifnull 14, 3) := by decide +kernel
theorem dX11_move_10 : decode cX11_move 10 = .ok (.aload_n 0, 1) := by decide +kernel
theorem dX11_move_11 : decode cX11_move 11 = .ok (.getfield 34, 3) := by decide +kernel
theorem dX11_move_14 : decode cX11_move 14 = .ok (.iload_n 2, 1) := by decide +kernel
theorem dX11_move_15 : decode cX11_move 15 = .ok (.invokevirtual 108, 3) := by decide +kernel
theorem dX11_move_18 : decode cX11_move 18 = .ok (.ifCond .ne 5, 3) := by decide +kernel
theorem dX11_move_21 : decode cX11_move 21 = .ok (.iconst (-1), 1) := by decide +kernel
theorem dX11_move_22 : decode cX11_move 22 = .ok (.ireturn, 1) := by decide +kernel
theorem dX11_move_23 : decode cX11_move 23 = .ok (.aload_n 0, 1) := by decide +kernel
theorem dX11_move_24 : decode cX11_move 24 = .ok (.getfield 34, 3) := by decide +kernel
theorem dX11_move_27 : decode cX11_move 27 = .ok (.iload_n 2, 1) := by decide +kernel
theorem dX11_move_28 : decode cX11_move 28 = .ok (.invokevirtual 116, 3) := by decide +kernel
theorem dX11_move_31 : decode cX11_move 31 = .ok (.bipush (-9), 2) := by decide +kernel
theorem dX11_move_33 : decode cX11_move 33 = .ok (.if_icmp .eq 6, 3) := by decide +kernel
theorem dX11_move_36 : decode cX11_move 36 = .ok (.bipush (-3), 2) := by decide +kernel
theorem dX11_move_38 : decode cX11_move 38 = .ok (.ireturn, 1) := by decide +kernel
theorem dX11_move_39 : decode cX11_move 39 = .ok (.aload_n 3, 1) := by decide +kernel
theorem dX11_move_40 : decode cX11_move 40 = .ok (.getfield 145, 3) := by decide +kernel
theorem dX11_move_43 : decode cX11_move 43 = .ok (.istore 4, 2) := by decide +kernel
theorem dX11_move_45 : decode cX11_move 45 = .ok (.aload_n 0, 1) := by decide +kernel
theorem dX11_move_46 : decode cX11_move 46 = .ok (.getfield 34, 3) := by decide +kernel
theorem dX11_move_49 : decode cX11_move 49 = .ok (.iload 4, 2) := by decide +kernel
theorem dX11_move_51 : decode cX11_move 51 = .ok (.bipush (-9), 2) := by decide +kernel
theorem dX11_move_53 : decode cX11_move 53 = .ok (.invokevirtual 148, 3) := by decide +kernel
theorem dX11_move_56 : decode cX11_move 56 = .ok (.aload_n 0, 1) := by decide +kernel
theorem dX11_move_57 : decode cX11_move 57 = .ok (.getfield 34, 3) := by decide +kernel
theorem dX11_move_60 : decode cX11_move 60 = .ok (.iload_n 2, 1) := by decide +kernel
theorem dX11_move_61 : decode cX11_move 61 = .ok (.iload_n 1, 1) := by decide +kernel
theorem dX11_move_62 : decode cX11_move 62 = .ok (.invokevirtual 148, 3) := by decide +kernel
theorem dX11_move_65 : decode cX11_move 65 = .ok (.aload_n 3, 1) := by decide +kernel
theorem dX11_move_66 : decode cX11_move 66 = .ok (.iload_n 2, 1) := by decide +kernel
theorem dX11_move_67 : decode cX11_move 67 = .ok (.putfield 145, 3) := by decide +kernel
theorem dX11_move_70 : decode cX11_move 70 = .ok (.iload 4, 2) := by decide +kernel
theorem dX11_move_72 : decode cX11_move 72 = .ok (.ireturn, 1) := by decide +kernel
theorem dX11_law_0 : decode cX11_law 0 = .ok (.aload_n 0, 1) := by decide +kernel
theorem dX11_law_1 : decode cX11_law 1 = .ok (.iload_n 1, 1) := by decide +kernel
theorem dX11_law_2 : decode cX11_law 2 = .ok (.iload_n 2, 1) := by decide +kernel
theorem dX11_law_3 : decode cX11_law 3 = .ok (.iload_n 3, 1) := by decide +kernel
theorem dX11_law_4 : decode cX11_law 4 = .ok (.iload 4, 2) := by decide +kernel
theorem dX11_law_6 : decode cX11_law 6 = .ok (.invokevirtual 82, 3) := by decide +kernel
theorem dX11_law_9 : decode cX11_law 9 = .ok (.istore 5, 2) := by decide +kernel
theorem dX11_law_11 : decode cX11_law 11 = .ok (.iload 5, 2) := by decide +kernel
theorem dX11_law_13 : decode cX11_law 13 = .ok (.ifCond .eq 6, 3) := by decide +kernel
theorem dX11_law_16 : decode cX11_law 16 = .ok (.iload 5, 2) := by decide +kernel
theorem dX11_law_18 : decode cX11_law 18 = .ok (.ireturn, 1) := by decide +kernel
theorem dX11_law_19 : decode cX11_law 19 = .ok (.aload_n 0, 1) := by decide +kernel
theorem dX11_law_20 : decode cX11_law 20 = .ok (.getfield 27, 3) := by decide +kernel
theorem dX11_law_23 : decode cX11_law 23 = .ok (.aload_n 0, 1) := by decide +kernel
theorem dX11_law_24 : decode cX11_law 24 = .ok (.iload_n 1, 1) := by decide +kernel
theorem dX11_law_25 : decode cX11_law 25 = .ok (.invokevirtual 86, 3) := by decide +kernel
theorem dX11_law_28 : decode cX11_law 28 = .ok (.iload_n 3, 1) := by decide +kernel
theorem dX11_law_29 : decode cX11_law 29 = .ok (.iload 4, 2) := by decide +kernel
theorem dX11_law_31 : decode cX11_law 31 = .ok (.invokevirtual 173, 3) := by decide +kernel
theorem dX11_law_34 : decode cX11_law 34 = .ok (.istore 6, 2) := by decide +kernel
theorem dX11_law_36 : decode cX11_law 36 = .ok (.iload 6, 2) := by decide +kernel
theorem dX11_law_38 : decode cX11_law 38 = .ok (.ifCond .lt 9, 3) := by decide +kernel
theorem dX11_law_41 : decode cX11_law 41 = .ok (.bipush (-100), 2) := by decide +kernel
theorem dX11_law_43 : decode cX11_law 43 = .ok (.iload 6, 2) := by decide +kernel
theorem dX11_law_45 : decode cX11_law 45 = .ok (.isub, 1) := by decide +kernel
theorem dX11_law_46 : decode cX11_law 46 = .ok (.ireturn, 1) := by decide +kernel
theorem dX11_law_47 : decode cX11_law 47 = .ok (.aload_n 0, 1) := by decide +kernel
theorem dX11_law_48 : decode cX11_law 48 = .ok (.getfield 174, 3) := by decide +kernel
theorem dX11_law_51 : decode cX11_law 51 = .ok (.istore 7, 2) := by decide +kernel
theorem dX11_law_53 : decode cX11_law 53 = .ok (.iload 7, 2) := by decide +kernel
theorem dX11_law_55 : decode cX11_law 55 = .ok (.ifCond .lt 13, 3) := by decide +kernel
theorem dX11_law_58 : decode cX11_law 58 = .ok (.iload 7, 2) := by decide +kernel
theorem dX11_law_60 : decode cX11_law 60 = .ok (.aload_n 0, 1) := by decide +kernel
theorem dX11_law_61 : decode cX11_law 61 = .ok (.getfield 46, 3) := by decide +kernel
theorem dX11_law_64 : decode cX11_law 64 = .ok (.arraylength, 1) := by decide +kernel
theorem dX11_law_65 : decode cX11_law 65 = .ok (.if_icmp .lt 6, 3) := by decide +kernel
theorem dX11_law_68 : decode cX11_law 68 = .ok (.bipush (-4), 2) := by decide +kernel
theorem dX11_law_70 : decode cX11_law 70 = .ok (.ireturn, 1) := by decide +kernel
theorem dX11_law_71 : decode cX11_law 71 = .ok (.aload_n 0, 1) := by decide +kernel
theorem dX11_law_72 : decode cX11_law 72 = .ok (.getfield 46, 3) := by decide +kernel
theorem dX11_law_75 : decode cX11_law 75 = .ok (.iload 7, 2) := by decide +kernel
theorem dX11_law_77 : decode cX11_law 77 = .ok (.new 44, 3) := by decide +kernel
theorem dX11_law_80 : decode cX11_law 80 = .ok (.dup, 1) := by decide +kernel
theorem dX11_law_81 : decode cX11_law 81 = .ok (.aload_n 0, 1) := by decide +kernel
theorem dX11_law_82 : decode cX11_law 82 = .ok (.getfield 27, 3) := by decide +kernel
theorem dX11_law_85 : decode cX11_law 85 = .ok (.invokespecial 177, 3) := by decide +kernel
theorem dX11_law_88 : decode cX11_law 88 = .ok (.aastore, 1) := by decide +kernel
theorem dX11_law_89 : decode cX11_law 89 = .ok (.aload_n 0, 1) := by decide +kernel
theorem dX11_law_90 : decode cX11_law 90 = .ok (.iload 7, 2) := by decide +kernel
theorem dX11_law_92 : decode cX11_law 92 = .ok (.iconst 1, 1) := by decide +kernel
theorem dX11_law_93 : decode cX11_law 93 = .ok (.iadd, 1) := by decide +kernel
theorem dX11_law_94 : decode cX11_law 94 = .ok (.putfield 174, 3) := by decide +kernel
theorem dX11_law_97 : decode cX11_law 97 = .ok (.iload 7, 2) := by decide +kernel
theorem dX11_law_99 : decode cX11_law 99 = .ok (.ireturn, 1) := by decide +kernel
theorem dX11_ofLaw_0 : decode cX11_ofLaw 0 = .ok (.aload_n 0, 1) := by decide +kernel
theorem dX11_ofLaw_1 : decode cX11_ofLaw 1 = .ok (.iload_n 1, 1) := by decide +kernel
theorem dX11_ofLaw_2 : decode cX11_ofLaw 2 = .ok (.invokevirtual 180, 3) := by decide +kernel
theorem dX11_ofLaw_5 : decode cX11_ofLaw 5 = .ok (.astore_n 3, 1) := by decide +kernel
theorem dX11_ofLaw_6 : decode cX11_ofLaw 6 = .ok (.aload_n 3, 1) := by decide +kernel
theorem dX11_ofLaw_7 : decode cX11_ofLaw 7 = .ok (.ifnull 13, 3) := by decide +kernel
theorem dX11_ofLaw_10 : decode cX11_ofLaw 10 = .ok (.iload_n 2, 1) := by decide +kernel
theorem dX11_ofLaw_11 : decode cX11_ofLaw 11 = .ok (.ifCond .lt 9, 3) := by decide +kernel
theorem dX11_ofLaw_14 : decode cX11_ofLaw 14 = .ok (.iload_n 2, 1) := by decide +kernel
theorem dX11_ofLaw_15 : decode cX11_ofLaw 15 = .ok (.bipush 7, 2) := by decide +kernel
theorem dX11_ofLaw_17 : decode cX11_ofLaw 17 = .ok (.if_icmp .lt 5, 3) := by decide +kernel
theorem dX11_ofLaw_20 : decode cX11_ofLaw 20 = .ok (.iconst (-1), 1) := by decide +kernel
theorem dX11_ofLaw_21 : decode cX11_ofLaw 21 = .ok (.ireturn, 1) := by decide +kernel
theorem dX11_ofLaw_22 : decode cX11_ofLaw 22 = .ok (.aload_n 3, 1) := by decide +kernel
theorem dX11_ofLaw_23 : decode cX11_ofLaw 23 = .ok (.iload_n 2, 1) := by decide +kernel
theorem dX11_ofLaw_24 : decode cX11_ofLaw 24 = .ok (.invokevirtual 184, 3) := by decide +kernel
theorem dX11_ofLaw_27 : decode cX11_ofLaw 27 = .ok (.ireturn, 1) := by decide +kernel
theorem dX11_might_0 : decode cX11_might 0 = .ok (.aload_n 0, 1) := by decide +kernel
theorem dX11_might_1 : decode cX11_might 1 = .ok (.iload_n 1, 1) := by decide +kernel
theorem dX11_might_2 : decode cX11_might 2 = .ok (.invokevirtual 180, 3) := by decide +kernel
theorem dX11_might_5 : decode cX11_might 5 = .ok (.astore 4, 2) := by decide +kernel
theorem dX11_might_7 : decode cX11_might 7 = .ok (.aload_n 0, 1) := by decide +kernel
theorem dX11_might_8 : decode cX11_might 8 = .ok (.iload_n 2, 1) := by decide +kernel
theorem dX11_might_9 : decode cX11_might 9 = .ok (.invokevirtual 152, 3) := by decide +kernel
theorem dX11_might_12 : decode cX11_might 12 = .ok (.astore 5, 2) := by decide +kernel
theorem dX11_might_14 : decode cX11_might 14 = .ok (.aload 4, 2) := by decide +kernel
theorem dX11_might_16 : decode cX11_might 16 = .ok (.ifnull 8, 3) := by decide +kernel
theorem dX11_might_19 : decode cX11_might 19 = .ok (.aload 5, 2) := by decide +kernel
theorem dX11_might_21 : decode cX11_might 21 = .ok (.ifnonnull 5, 3) := by decide +kernel
theorem dX11_might_24 : decode cX11_might 24 = .ok (.iconst (-1), 1) := by decide +kernel
theorem dX11_might_25 : decode cX11_might 25 = .ok (.ireturn, 1) := by decide +kernel
theorem dX11_might_26 : decode cX11_might 26 = .ok (.iload_n 3, 1) := by decide +kernel
theorem dX11_might_27 : decode cX11_might 27 = .ok (.bipush (-9), 2) := by decide +kernel
theorem dX11_might_29 : decode cX11_might 29 = .ok (.if_icmp .ne 12, 3) := by decide +kernel
theorem dX11_might_32 : decode cX11_might 32 = .ok (.aload_n 0, 1) := by decide +kernel
theorem dX11_might_33 : decode cX11_might 33 = .ok (.aload 4, 2) := by decide +kernel
theorem dX11_might_35 : decode cX11_might 35 = .ok (.aload 5, 2) := by decide +kernel
theorem dX11_might_37 : decode cX11_might 37 = .ok (.invokevirtual 187, 3) := by decide +kernel
theorem dX11_might_40 : decode cX11_might 40 = .ok (.ireturn, 1) := by decide +kernel
theorem dX11_might_41 : decode cX11_might 41 = .ok (.aload_n 0, 1) := by decide +kernel
theorem dX11_might_42 : decode cX11_might 42 = .ok (.iload_n 3, 1) := by decide +kernel
theorem dX11_might_43 : decode cX11_might 43 = .ok (.invokevirtual 152, 3) := by decide +kernel
theorem dX11_might_46 : decode cX11_might 46 = .ok (.astore 6, 2) := by decide +kernel
theorem dX11_might_48 : decode cX11_might 48 = .ok (.aload 6, 2) := by decide +kernel
theorem dX11_might_50 : decode cX11_might 50 = .ok (.ifnonnull 5, 3) := by decide +kernel
theorem dX11_might_53 : decode cX11_might 53 = .ok (.iconst (-1), 1) := by decide +kernel
theorem dX11_might_54 : decode cX11_might 54 = .ok (.ireturn, 1) := by decide +kernel
theorem dX11_might_55 : decode cX11_might 55 = .ok (.iload_n 2, 1) := by decide +kernel
theorem dX11_might_56 : decode cX11_might 56 = .ok (.iload_n 3, 1) := by decide +kernel
theorem dX11_might_57 : decode cX11_might 57 = .ok (.if_icmp .ne 8, 3) := by decide +kernel
theorem dX11_might_60 : decode cX11_might 60 = .ok (.bipush (-2), 2) := by decide +kernel
theorem dX11_might_62 : decode cX11_might 62 = .ok (.goto 13, 3) := by decide +kernel
theorem dX11_might_65 : decode cX11_might 65 = .ok (.aload_n 0, 1) := by decide +kernel
theorem dX11_might_66 : decode cX11_might 66 = .ok (.aload 4, 2) := by decide +kernel
theorem dX11_might_68 : decode cX11_might 68 = .ok (.aload 5, 2) := by decide +kernel
theorem dX11_might_70 : decode cX11_might 70 = .ok (.aload 6, 2) := by decide +kernel
theorem dX11_might_72 : decode cX11_might 72 = .ok (.invokevirtual 191, 3) := by decide +kernel
theorem dX11_might_75 : decode cX11_might 75 = .ok (.ireturn, 1) := by decide +kernel
theorem dX11_yawn_0 : decode cX11_yawn 0 = .ok (.aload_n 0, 1) := by decide +kernel
theorem dX11_yawn_1 : decode cX11_yawn 1 = .ok (.iload_n 2, 1) := by decide +kernel
theorem dX11_yawn_2 : decode cX11_yawn 2 = .ok (.invokevirtual 152, 3) := by decide +kernel
theorem dX11_yawn_5 : decode cX11_yawn 5 = .ok (.ifnonnull 5, 3) := by decide +kernel
theorem dX11_yawn_8 : decode cX11_yawn 8 = .ok (.iconst (-1), 1) := by decide +kernel
theorem dX11_yawn_9 : decode cX11_yawn 9 = .ok (.ireturn, 1) := by decide +kernel
theorem dX11_yawn_10 : decode cX11_yawn 10 = .ok (.iload_n 1, 1) := by decide +kernel
theorem dX11_yawn_11 : decode cX11_yawn 11 = .ok (.ifCond .lt 10, 3) := by decide +kernel
theorem dX11_yawn_14 : decode cX11_yawn 14 = .ok (.iload_n 1, 1) := by decide +kernel
theorem dX11_yawn_15 : decode cX11_yawn 15 = .ok (.sipush 599, 3) := by decide +kernel
theorem dX11_yawn_18 : decode cX11_yawn 18 = .ok (.if_icmp .le 6, 3) := by decide +kernel
theorem dX11_yawn_21 : decode cX11_yawn 21 = .ok (.bipush (-2), 2) := by decide +kernel
theorem dX11_yawn_23 : decode cX11_yawn 23 = .ok (.ireturn, 1) := by decide +kernel
theorem dX11_yawn_24 : decode cX11_yawn 24 = .ok (.aload_n 0, 1) := by decide +kernel
theorem dX11_yawn_25 : decode cX11_yawn 25 = .ok (.getfield 53, 3) := by decide +kernel
theorem dX11_yawn_28 : decode cX11_yawn 28 = .ok (.getfield 195, 3) := by decide +kernel
theorem dX11_yawn_31 : decode cX11_yawn 31 = .ok (.ifCond .le 17, 3) := by decide +kernel
theorem dX11_yawn_34 : decode cX11_yawn 34 = .ok (.iload_n 1, 1) := by decide +kernel
theorem dX11_yawn_35 : decode cX11_yawn 35 = .ok (.aload_n 0, 1) := by decide +kernel
theorem dX11_yawn_36 : decode cX11_yawn 36 = .ok (.getfield 53, 3) := by decide +kernel
theorem dX11_yawn_39 : decode cX11_yawn 39 = .ok (.invokevirtual 198, 3) := by decide +kernel
theorem dX11_yawn_42 : decode cX11_yawn 42 = .ok (.if_icmp .ge 6, 3) := by decide +kernel
theorem dX11_yawn_45 : decode cX11_yawn 45 = .ok (.bipush (-3), 2) := by decide +kernel
theorem dX11_yawn_47 : decode cX11_yawn 47 = .ok (.ireturn, 1) := by decide +kernel
theorem dX11_yawn_48 : decode cX11_yawn 48 = .ok (.aload_n 0, 1) := by decide +kernel
theorem dX11_yawn_49 : decode cX11_yawn 49 = .ok (.getfield 53, 3) := by decide +kernel
theorem dX11_yawn_52 : decode cX11_yawn 52 = .ok (.invokevirtual 201, 3) := by decide +kernel
theorem dX11_yawn_55 : decode cX11_yawn 55 = .ok (.ifCond .eq 6, 3) := by decide +kernel
theorem dX11_yawn_58 : decode cX11_yawn 58 = .ok (.bipush (-4), 2) := by decide +kernel
theorem dX11_yawn_60 : decode cX11_yawn 60 = .ok (.ireturn, 1) := by decide +kernel
theorem dX11_yawn_61 : decode cX11_yawn 61 = .ok (.aload_n 0, 1) := by decide +kernel
theorem dX11_yawn_62 : decode cX11_yawn 62 = .ok (.getfield 53, 3) := by decide +kernel
theorem dX11_yawn_65 : decode cX11_yawn 65 = .ok (.iload_n 1, 1) := by decide +kernel
theorem dX11_yawn_66 : decode cX11_yawn 66 = .ok (.iload_n 2, 1) := by decide +kernel
theorem dX11_yawn_67 : decode cX11_yawn 67 = .ok (.invokevirtual 205, 3) := by decide +kernel
theorem dX11_yawn_70 : decode cX11_yawn 70 = .ok (.aload_n 0, 1) := by decide +kernel
theorem dX11_yawn_71 : decode cX11_yawn 71 = .ok (.getfield 53, 3) := by decide +kernel
theorem dX11_yawn_74 : decode cX11_yawn 74 = .ok (.getfield 195, 3) := by decide +kernel
theorem dX11_yawn_77 : decode cX11_yawn 77 = .ok (.iconst 1, 1) := by decide +kernel
theorem dX11_yawn_78 : decode cX11_yawn 78 = .ok (.isub, 1) := by decide +kernel
theorem dX11_yawn_79 : decode cX11_yawn 79 = .ok (.ireturn, 1) := by decide +kernel
theorem dX11_ofYawn_0 : decode cX11_ofYawn 0 = .ok (.aload_n 0, 1) := by decide +kernel
theorem dX11_ofYawn_1 : decode cX11_ofYawn 1 = .ok (.getfield 53, 3) := by decide +kernel
theorem dX11_ofYawn_4 : decode cX11_ofYawn 4 = .ok (.iload_n 1, 1) := by decide +kernel
theorem dX11_ofYawn_5 : decode cX11_ofYawn 5 = .ok (.invokevirtual 208, 3) := by decide +kernel
theorem dX11_ofYawn_8 : decode cX11_ofYawn 8 = .ok (.ifCond .ne 5, 3) := by decide +kernel
theorem dX11_ofYawn_11 : decode cX11_ofYawn 11 = .ok (.iconst (-1), 1) := by decide +kernel
theorem dX11_ofYawn_12 : decode cX11_ofYawn 12 = .ok (.ireturn, 1) := by decide +kernel
theorem dX11_ofYawn_13 : decode cX11_ofYawn 13 = .ok (.iload_n 2, 1) := by decide +kernel
theorem dX11_ofYawn_14 : decode cX11_ofYawn 14 = .ok (.lookupswitch 44 #[(0, 26), (1, 35)], 26) := by decide +kernel
theorem dX11_ofYawn_40 : decode cX11_ofYawn 40 = .ok (.aload_n 0, 1) := by decide +kernel
theorem dX11_ofYawn_41 : decode cX11_ofYawn 41 = .ok (.getfield 53, 3) := by decide +kernel
theorem dX11_ofYawn_44 : decode cX11_ofYawn 44 = .ok (.iload_n 1, 1) := by decide +kernel
theorem dX11_ofYawn_45 : decode cX11_ofYawn 45 = .ok (.invokevirtual 211, 3) := by decide +kernel
theorem dX11_ofYawn_48 : decode cX11_ofYawn 48 = .ok (.ireturn, 1) := by decide +kernel
theorem dX11_ofYawn_49 : decode cX11_ofYawn 49 = .ok (.aload_n 0, 1) := by decide +kernel
theorem dX11_ofYawn_50 : decode cX11_ofYawn 50 = .ok (.getfield 53, 3) := by decide +kernel
theorem dX11_ofYawn_53 : decode cX11_ofYawn 53 = .ok (.iload_n 1, 1) := by decide +kernel
theorem dX11_ofYawn_54 : decode cX11_ofYawn 54 = .ok (.invokevirtual 214, 3) := by decide +kernel
theorem dX11_ofYawn_57 : decode cX11_ofYawn 57 = .ok (.ireturn, 1) := by decide +kernel
theorem dX11_ofYawn_58 : decode cX11_ofYawn 58 = .ok (.bipush (-2), 2) := by decide +kernel
theorem dX11_ofYawn_60 : decode cX11_ofYawn 60 = .ok (.ireturn, 1) := by decide +kernel
theorem dX11_back_0 : decode cX11_back 0 = .ok (.iload_n 1, 1) := by decide +kernel
theorem dX11_back_1 : decode cX11_back 1 = .ok (.ifCond .lt 14, 3) := by decide +kernel
theorem dX11_back_4 : decode cX11_back 4 = .ok (.iload_n 1, 1) := by decide +kernel
theorem dX11_back_5 : decode cX11_back 5 = .ok (.aload_n 0, 1) := by decide +kernel
theorem dX11_back_6 : decode cX11_back 6 = .ok (.getfield 53, 3) := by decide +kernel
theorem dX11_back_9 : decode cX11_back 9 = .ok (.getfield 195, 3) := by decide +kernel
theorem dX11_back_12 : decode cX11_back 12 = .ok (.if_icmp .le 6, 3) := by decide +kernel
theorem dX11_back_15 : decode cX11_back 15 = .ok (.bipush (-2), 2) := by decide +kernel
theorem dX11_back_17 : decode cX11_back 17 = .ok (.ireturn, 1) := by decide +kernel
theorem dX11_back_18 : decode cX11_back 18 = .ok (.aload_n 0, 1) := by decide +kernel
theorem dX11_back_19 : decode cX11_back 19 = .ok (.getfield 53, 3) := by decide +kernel
theorem dX11_back_22 : decode cX11_back 22 = .ok (.dup, 1) := by decide +kernel
theorem dX11_back_23 : decode cX11_back 23 = .ok (.getfield 195, 3) := by decide +kernel
theorem dX11_back_26 : decode cX11_back 26 = .ok (.iload_n 1, 1) := by decide +kernel
theorem dX11_back_27 : decode cX11_back 27 = .ok (.isub, 1) := by decide +kernel
theorem dX11_back_28 : decode cX11_back 28 = .ok (.putfield 195, 3) := by decide +kernel
theorem dX11_back_31 : decode cX11_back 31 = .ok (.aload_n 0, 1) := by decide +kernel
theorem dX11_back_32 : decode cX11_back 32 = .ok (.getfield 53, 3) := by decide +kernel
theorem dX11_back_35 : decode cX11_back 35 = .ok (.getfield 195, 3) := by decide +kernel
theorem dX11_back_38 : decode cX11_back 38 = .ok (.ireturn, 1) := by decide +kernel
theorem dX11_could_0 : decode cX11_could 0 = .ok (.aload_n 0, 1) := by decide +kernel
theorem dX11_could_1 : decode cX11_could 1 = .ok (.iload_n 1, 1) := by decide +kernel
theorem dX11_could_2 : decode cX11_could 2 = .ok (.invokevirtual 217, 3) := by decide +kernel
theorem dX11_could_5 : decode cX11_could 5 = .ok (.astore_n 3, 1) := by decide +kernel
theorem dX11_could_6 : decode cX11_could 6 = .ok (.aload_n 3, 1) := by decide +kernel
theorem dX11_could_7 : decode cX11_could 7 = .ok (.ifnull 14, 3) := by decide +kernel
theorem dX11_could_10 : decode cX11_could 10 = .ok (.aload_n 0, 1) := by decide +kernel
theorem dX11_could_11 : decode cX11_could 11 = .ok (.getfield 53, 3) := by decide +kernel
theorem dX11_could_14 : decode cX11_could 14 = .ok (.iload_n 2, 1) := by decide +kernel
theorem dX11_could_15 : decode cX11_could 15 = .ok (.invokevirtual 208, 3) := by decide +kernel
theorem dX11_could_18 : decode cX11_could 18 = .ok (.ifCond .ne 5, 3) := by decide +kernel
theorem dX11_could_21 : decode cX11_could 21 = .ok (.iconst (-1), 1) := by decide +kernel
theorem dX11_could_22 : decode cX11_could 22 = .ok (.ireturn, 1) := by decide +kernel
theorem dX11_could_23 : decode cX11_could 23 = .ok (.iconst 0, 1) := by decide +kernel
theorem dX11_could_24 : decode cX11_could 24 = .ok (.istore 4, 2) := by decide +kernel
theorem dX11_could_26 : decode cX11_could 26 = .ok (.iconst 0, 1) := by decide +kernel
theorem dX11_could_27 : decode cX11_could 27 = .ok (.istore 5, 2) := by decide +kernel
theorem dX11_could_29 : decode cX11_could 29 = .ok (.iload 5, 2) := by decide +kernel
theorem dX11_could_31 : decode cX11_could 31 = .ok (.aload_n 0, 1) := by decide +kernel
theorem dX11_could_32 : decode cX11_could 32 = .ok (.getfield 53, 3) := by decide +kernel
theorem dX11_could_35 : decode cX11_could 35 = .ok (.getfield 195, 3) := by decide +kernel
theorem dX11_could_38 : decode cX11_could 38 = .ok (.if_icmp .ge 29, 3) := by decide +kernel
theorem dX11_could_41 : decode cX11_could 41 = .ok (.aload_n 0, 1) := by decide +kernel
theorem dX11_could_42 : decode cX11_could 42 = .ok (.aload_n 3, 1) := by decide +kernel
theorem dX11_could_43 : decode cX11_could 43 = .ok (.iload_n 2, 1) := by decide +kernel
theorem dX11_could_44 : decode cX11_could 44 = .ok (.iload 5, 2) := by decide +kernel
theorem dX11_could_46 : decode cX11_could 46 = .ok (.invokevirtual 220, 3) := by decide +kernel
theorem dX11_could_49 : decode cX11_could 49 = .ok (.ifCond .le 12, 3) := by decide +kernel
theorem dX11_could_52 : decode cX11_could 52 = .ok (.iload 4, 2) := by decide +kernel
theorem dX11_could_54 : decode cX11_could 54 = .ok (.iconst 1, 1) := by decide +kernel
theorem dX11_could_55 : decode cX11_could 55 = .ok (.iload 5, 2) := by decide +kernel
theorem dX11_could_57 : decode cX11_could 57 = .ok (.ishl, 1) := by decide +kernel
theorem dX11_could_58 : decode cX11_could 58 = .ok (.ior, 1) := by decide +kernel
theorem dX11_could_59 : decode cX11_could 59 = .ok (.istore 4, 2) := by decide +kernel
theorem dX11_could_61 : decode cX11_could 61 = .ok (.iinc 5 1, 3) := by decide +kernel
theorem dX11_could_64 : decode cX11_could 64 = .ok (.goto (-35), 3) := by decide +kernel
theorem dX11_could_67 : decode cX11_could 67 = .ok (.iload 4, 2) := by decide +kernel
theorem dX11_could_69 : decode cX11_could 69 = .ok (.ireturn, 1) := by decide +kernel
theorem dX11_share_0 : decode cX11_share 0 = .ok (.aload_n 0, 1) := by decide +kernel
theorem dX11_share_1 : decode cX11_share 1 = .ok (.iload_n 1, 1) := by decide +kernel
theorem dX11_share_2 : decode cX11_share 2 = .ok (.invokevirtual 217, 3) := by decide +kernel
theorem dX11_share_5 : decode cX11_share 5 = .ok (.astore 5, 2) := by decide +kernel
theorem dX11_share_7 : decode cX11_share 7 = .ok (.aload 5, 2) := by decide +kernel
theorem dX11_share_9 : decode cX11_share 9 = .ok (.ifnull 31, 3) := by decide +kernel
theorem dX11_share_12 : decode cX11_share 12 = .ok (.aload_n 0, 1) := by decide +kernel
theorem dX11_share_13 : decode cX11_share 13 = .ok (.getfield 53, 3) := by decide +kernel
theorem dX11_share_16 : decode cX11_share 16 = .ok (.iload_n 2, 1) := by decide +kernel
theorem dX11_share_17 : decode cX11_share 17 = .ok (.invokevirtual 208, 3) := by decide +kernel
theorem dX11_share_20 : decode cX11_share 20 = .ok (.ifCond .eq 20, 3) := by decide +kernel
theorem dX11_share_23 : decode cX11_share 23 = .ok (.iload_n 3, 1) := by decide +kernel
theorem dX11_share_24 : decode cX11_share 24 = .ok (.bipush (-9), 2) := by decide +kernel
theorem dX11_share_26 : decode cX11_share 26 = .ok (.if_icmp .eq 18, 3) := by decide +kernel
theorem dX11_share_29 : decode cX11_share 29 = .ok (.aload_n 0, 1) := by decide +kernel
theorem dX11_share_30 : decode cX11_share 30 = .ok (.getfield 53, 3) := by decide +kernel
theorem dX11_share_33 : decode cX11_share 33 = .ok (.iload_n 3, 1) := by decide +kernel
theorem dX11_share_34 : decode cX11_share 34 = .ok (.invokevirtual 208, 3) := by decide +kernel
theorem dX11_share_37 : decode cX11_share 37 = .ok (.ifCond .ne 7, 3) := by decide +kernel
theorem dX11_share_40 : decode cX11_share 40 = .ok (.ldc2_w 224, 3) := by decide +kernel
theorem dX11_share_43 : decode cX11_share 43 = .ok (.lreturn, 1) := by decide +kernel
theorem dX11_share_44 : decode cX11_share 44 = .ok (.iload 4, 2) := by decide +kernel
theorem dX11_share_46 : decode cX11_share 46 = .ok (.ifCond .eq 13, 3) := by decide +kernel
theorem dX11_share_49 : decode cX11_share 49 = .ok (.iload 4, 2) := by decide +kernel
theorem dX11_share_51 : decode cX11_share 51 = .ok (.iconst 1, 1) := by decide +kernel
theorem dX11_share_52 : decode cX11_share 52 = .ok (.if_icmp .eq 7, 3) := by decide +kernel
theorem dX11_share_55 : decode cX11_share 55 = .ok (.ldc2_w 224, 3) := by decide +kernel
theorem dX11_share_58 : decode cX11_share 58 = .ok (.lreturn, 1) := by decide +kernel
theorem dX11_share_59 : decode cX11_share 59 = .ok (.aload_n 0, 1) := by decide +kernel
theorem dX11_share_60 : decode cX11_share 60 = .ok (.aload 5, 2) := by decide +kernel
theorem dX11_share_62 : decode cX11_share 62 = .ok (.iload_n 2, 1) := by decide +kernel
theorem dX11_share_63 : decode cX11_share 63 = .ok (.invokevirtual 226, 3) := by decide +kernel
theorem dX11_share_66 : decode cX11_share 66 = .ok (.istore 6, 2) := by decide +kernel
theorem dX11_share_68 : decode cX11_share 68 = .ok (.iload 6, 2) := by decide +kernel
theorem dX11_share_70 : decode cX11_share 70 = .ok (.ifCond .gt 7, 3) := by decide +kernel
theorem dX11_share_73 : decode cX11_share 73 = .ok (.ldc2_w 224, 3) := by decide +kernel
theorem dX11_share_76 : decode cX11_share 76 = .ok (.lreturn, 1) := by decide +kernel
theorem dX11_share_77 : decode cX11_share 77 = .ok (.iload_n 3, 1) := by decide +kernel
theorem dX11_share_78 : decode cX11_share 78 = .ok (.bipush (-9), 2) := by decide +kernel
theorem dX11_share_80 : decode cX11_share 80 = .ok (.if_icmp .ne 18, 3) := by decide +kernel
theorem dX11_share_83 : decode cX11_share 83 = .ok (.aload_n 0, 1) := by decide +kernel
theorem dX11_share_84 : decode cX11_share 84 = .ok (.aload_n 0, 1) := by decide +kernel
theorem dX11_share_85 : decode cX11_share 85 = .ok (.getfield 53, 3) := by decide +kernel
theorem dX11_share_88 : decode cX11_share 88 = .ok (.iload_n 2, 1) := by decide +kernel
theorem dX11_share_89 : decode cX11_share 89 = .ok (.invokevirtual 214, 3) := by decide +kernel
theorem dX11_share_92 : decode cX11_share 92 = .ok (.invokevirtual 230, 3) := by decide +kernel
theorem dX11_share_95 : decode cX11_share 95 = .ok (.goto 11, 3) := by decide +kernel
theorem dX11_share_98 : decode cX11_share 98 = .ok (.aload_n 0, 1) := by decide +kernel
theorem dX11_share_99 : decode cX11_share 99 = .ok (.aload 5, 2) := by decide +kernel
theorem dX11_share_101 : decode cX11_share 101 = .ok (.iload_n 2, 1) := by decide +kernel
theorem dX11_share_102 : decode cX11_share 102 = .ok (.iload_n 3, 1) := by decide +kernel
theorem dX11_share_103 : decode cX11_share 103 = .ok (.invokevirtual 220, 3) := by decide +kernel
theorem dX11_share_106 : decode cX11_share 106 = .ok (.istore 7, 2) := by decide +kernel
theorem dX11_share_108 : decode cX11_share 108 = .ok (.iload 7, 2) := by decide +kernel
theorem dX11_share_110 : decode cX11_share 110 = .ok (.iload 6, 2) := by decide +kernel
theorem dX11_share_112 : decode cX11_share 112 = .ok (.iload 4, 2) := by decide +kernel
theorem dX11_share_114 : decode cX11_share 114 = .ok (.invokestatic 233, 3) := by decide +kernel
theorem dX11_share_117 : decode cX11_share 117 = .ok (.lreturn, 1) := by decide +kernel
theorem dX11_barred_0 : decode cX11_barred 0 = .ok (.aload_n 0, 1) := by decide +kernel
theorem dX11_barred_1 : decode cX11_barred 1 = .ok (.iload_n 1, 1) := by decide +kernel
theorem dX11_barred_2 : decode cX11_barred 2 = .ok (.invokevirtual 217, 3) := by decide +kernel
theorem dX11_barred_5 : decode cX11_barred 5 = .ok (.astore_n 2, 1) := by decide +kernel
theorem dX11_barred_6 : decode cX11_barred 6 = .ok (.aload_n 2, 1) := by decide +kernel
theorem dX11_barred_7 : decode cX11_barred 7 = .ok (.ifnonnull 7, 3) := by decide +kernel
theorem dX11_barred_10 : decode cX11_barred 10 = .ok (.iconst (-1), 1) := by decide +kernel
theorem dX11_barred_11 : decode cX11_barred 11 = .ok (.goto 8, 3) := by decide +kernel
theorem dX11_barred_14 : decode cX11_barred 14 = .ok (.aload_n 0, 1) := by decide +kernel
theorem dX11_barred_15 : decode cX11_barred 15 = .ok (.aload_n 2, 1) := by decide +kernel
theorem dX11_barred_16 : decode cX11_barred 16 = .ok (.invokevirtual 237, 3) := by decide +kernel
theorem dX11_barred_19 : decode cX11_barred 19 = .ok (.ireturn, 1) := by decide +kernel
theorem dX11_trees_0 : decode cX11_trees 0 = .ok (.aload_n 0, 1) := by decide +kernel
theorem dX11_trees_1 : decode cX11_trees 1 = .ok (.iload_n 1, 1) := by decide +kernel
theorem dX11_trees_2 : decode cX11_trees 2 = .ok (.invokevirtual 217, 3) := by decide +kernel
theorem dX11_trees_5 : decode cX11_trees 5 = .ok (.astore_n 2, 1) := by decide +kernel
theorem dX11_trees_6 : decode cX11_trees 6 = .ok (.aload_n 2, 1) := by decide +kernel
theorem dX11_trees_7 : decode cX11_trees 7 = .ok (.ifnonnull 5, 3) := by decide +kernel
theorem dX11_trees_10 : decode cX11_trees 10 = .ok (.iconst (-1), 1) := by decide +kernel
theorem dX11_trees_11 : decode cX11_trees 11 = .ok (.ireturn, 1) := by decide +kernel
theorem dX11_trees_12 : decode cX11_trees 12 = .ok (.lconst 1, 1) := by decide +kernel
theorem dX11_trees_13 : decode cX11_trees 13 = .ok (.lstore_n 3, 1) := by decide +kernel
theorem dX11_trees_14 : decode cX11_trees 14 = .ok (.iconst 0, 1) := by decide +kernel
theorem dX11_trees_15 : decode cX11_trees 15 = .ok (.istore 5, 2) := by decide +kernel
theorem dX11_trees_17 : decode cX11_trees 17 = .ok (.iload 5, 2) := by decide +kernel
theorem dX11_trees_19 : decode cX11_trees 19 = .ok (.aload_n 0, 1) := by decide +kernel
theorem dX11_trees_20 : decode cX11_trees 20 = .ok (.getfield 53, 3) := by decide +kernel
theorem dX11_trees_23 : decode cX11_trees 23 = .ok (.getfield 195, 3) := by decide +kernel
theorem dX11_trees_26 : decode cX11_trees 26 = .ok (.if_icmp .ge 24, 3) := by decide +kernel
theorem dX11_trees_29 : decode cX11_trees 29 = .ok (.lload_n 3, 1) := by decide +kernel
theorem dX11_trees_30 : decode cX11_trees 30 = .ok (.aload_n 0, 1) := by decide +kernel
theorem dX11_trees_31 : decode cX11_trees 31 = .ok (.aload_n 2, 1) := by decide +kernel
theorem dX11_trees_32 : decode cX11_trees 32 = .ok (.iload 5, 2) := by decide +kernel
theorem dX11_trees_34 : decode cX11_trees 34 = .ok (.invokevirtual 241, 3) := by decide +kernel
theorem dX11_trees_37 : decode cX11_trees 37 = .ok (.i2l, 1) := by decide +kernel
theorem dX11_trees_38 : decode cX11_trees 38 = .ok (.lmul, 1) := by decide +kernel
theorem dX11_trees_39 : decode cX11_trees 39 = .ok (.ldc2_w 244, 3) := by decide +kernel
theorem dX11_trees_42 : decode cX11_trees 42 = .ok (.lrem, 1) := by decide +kernel
theorem dX11_trees_43 : decode cX11_trees 43 = .ok (.lstore_n 3, 1) := by decide +kernel
theorem dX11_trees_44 : decode cX11_trees 44 = .ok (.iinc 5 1, 3) := by decide +kernel
theorem dX11_trees_47 : decode cX11_trees 47 = .ok (.goto (-30), 3) := by decide +kernel
theorem dX11_trees_50 : decode cX11_trees 50 = .ok (.lload_n 3, 1) := by decide +kernel
theorem dX11_trees_51 : decode cX11_trees 51 = .ok (.l2i, 1) := by decide +kernel
theorem dX11_trees_52 : decode cX11_trees 52 = .ok (.ireturn, 1) := by decide +kernel
theorem dX11_causes_0 : decode cX11_causes 0 = .ok (.aload_n 0, 1) := by decide +kernel
theorem dX11_causes_1 : decode cX11_causes 1 = .ok (.iload_n 1, 1) := by decide +kernel
theorem dX11_causes_2 : decode cX11_causes 2 = .ok (.invokevirtual 217, 3) := by decide +kernel
theorem dX11_causes_5 : decode cX11_causes 5 = .ok (.astore_n 3, 1) := by decide +kernel
theorem dX11_causes_6 : decode cX11_causes 6 = .ok (.aload_n 3, 1) := by decide +kernel
theorem dX11_causes_7 : decode cX11_causes 7 = .ok (.ifnull 11, 3) := by decide +kernel
theorem dX11_causes_10 : decode cX11_causes 10 = .ok (.aload_n 0, 1) := by decide +kernel
theorem dX11_causes_11 : decode cX11_causes 11 = .ok (.iload_n 2, 1) := by decide +kernel
theorem dX11_causes_12 : decode cX11_causes 12 = .ok (.invokevirtual 152, 3) := by decide +kernel
theorem dX11_causes_15 : decode cX11_causes 15 = .ok (.ifnonnull 5, 3) := by decide +kernel
theorem dX11_causes_18 : decode cX11_causes 18 = .ok (.iconst (-1), 1) := by decide +kernel
theorem dX11_causes_19 : decode cX11_causes 19 = .ok (.ireturn, 1) := by decide +kernel
theorem dX11_causes_20 : decode cX11_causes 20 = .ok (.aload_n 0, 1) := by decide +kernel
theorem dX11_causes_21 : decode cX11_causes 21 = .ok (.aload_n 3, 1) := by decide +kernel
theorem dX11_causes_22 : decode cX11_causes 22 = .ok (.invokevirtual 246, 3) := by decide +kernel
theorem dX11_causes_25 : decode cX11_causes 25 = .ok (.ifCond .eq 11, 3) := by decide +kernel
theorem dX11_causes_28 : decode cX11_causes 28 = .ok (.aload_n 0, 1) := by decide +kernel
theorem dX11_causes_29 : decode cX11_causes 29 = .ok (.iload_n 2, 1) := by decide +kernel
theorem dX11_causes_30 : decode cX11_causes 30 = .ok (.invokevirtual 250, 3) := by decide +kernel
theorem dX11_causes_33 : decode cX11_causes 33 = .ok (.goto 5, 3) := by decide +kernel
theorem dX11_causes_36 : decode cX11_causes 36 = .ok (.bipush (-3), 2) := by decide +kernel
theorem dX11_causes_38 : decode cX11_causes 38 = .ok (.ireturn, 1) := by decide +kernel
theorem dX11_most_0 : decode cX11_most 0 = .ok (.aload_n 0, 1) := by decide +kernel
theorem dX11_most_1 : decode cX11_most 1 = .ok (.iload_n 1, 1) := by decide +kernel
theorem dX11_most_2 : decode cX11_most 2 = .ok (.invokevirtual 217, 3) := by decide +kernel
theorem dX11_most_5 : decode cX11_most 5 = .ok (.astore_n 2, 1) := by decide +kernel
theorem dX11_most_6 : decode cX11_most 6 = .ok (.aload_n 2, 1) := by decide +kernel
theorem dX11_most_7 : decode cX11_most 7 = .ok (.ifnonnull 5, 3) := by decide +kernel
theorem dX11_most_10 : decode cX11_most 10 = .ok (.iconst (-1), 1) := by decide +kernel
theorem dX11_most_11 : decode cX11_most 11 = .ok (.ireturn, 1) := by decide +kernel
theorem dX11_most_12 : decode cX11_most 12 = .ok (.aload_n 0, 1) := by decide +kernel
theorem dX11_most_13 : decode cX11_most 13 = .ok (.aload_n 2, 1) := by decide +kernel
theorem dX11_most_14 : decode cX11_most 14 = .ok (.invokevirtual 246, 3) := by decide +kernel
theorem dX11_most_17 : decode cX11_most 17 = .ok (.ifCond .ne 6, 3) := by decide +kernel
theorem dX11_most_20 : decode cX11_most 20 = .ok (.bipush (-3), 2) := by decide +kernel
theorem dX11_most_22 : decode cX11_most 22 = .ok (.ireturn, 1) := by decide +kernel
theorem dX11_most_23 : decode cX11_most 23 = .ok (.bipush (-9), 2) := by decide +kernel
theorem dX11_most_25 : decode cX11_most 25 = .ok (.istore_n 3, 1) := by decide +kernel
theorem dX11_most_26 : decode cX11_most 26 = .ok (.iconst 0, 1) := by decide +kernel
theorem dX11_most_27 : decode cX11_most 27 = .ok (.istore 4, 2) := by decide +kernel
theorem dX11_most_29 : decode cX11_most 29 = .ok (.iload 4, 2) := by decide +kernel
theorem dX11_most_31 : decode cX11_most 31 = .ok (.aload_n 0, 1) := by decide +kernel
theorem dX11_most_32 : decode cX11_most 32 = .ok (.getfield 98, 3) := by decide +kernel
theorem dX11_most_35 : decode cX11_most 35 = .ok (.if_icmp .ge 32, 3) := by decide +kernel
theorem dX11_most_38 : decode cX11_most 38 = .ok (.iload_n 3, 1) := by decide +kernel
theorem dX11_most_39 : decode cX11_most 39 = .ok (.bipush (-9), 2) := by decide +kernel
theorem dX11_most_41 : decode cX11_most 41 = .ok (.if_icmp .eq 17, 3) := by decide +kernel
theorem dX11_most_44 : decode cX11_most 44 = .ok (.aload_n 0, 1) := by decide +kernel
theorem dX11_most_45 : decode cX11_most 45 = .ok (.iload 4, 2) := by decide +kernel
theorem dX11_most_47 : decode cX11_most 47 = .ok (.invokevirtual 250, 3) := by decide +kernel
theorem dX11_most_50 : decode cX11_most 50 = .ok (.aload_n 0, 1) := by decide +kernel
theorem dX11_most_51 : decode cX11_most 51 = .ok (.iload_n 3, 1) := by decide +kernel
theorem dX11_most_52 : decode cX11_most 52 = .ok (.invokevirtual 250, 3) := by decide +kernel
theorem dX11_most_55 : decode cX11_most 55 = .ok (.if_icmp .le 6, 3) := by decide +kernel
theorem dX11_most_58 : decode cX11_most 58 = .ok (.iload 4, 2) := by decide +kernel
theorem dX11_most_60 : decode cX11_most 60 = .ok (.istore_n 3, 1) := by decide +kernel
theorem dX11_most_61 : decode cX11_most 61 = .ok (.iinc 4 1, 3) := by decide +kernel
theorem dX11_most_64 : decode cX11_most 64 = .ok (.goto (-35), 3) := by decide +kernel
theorem dX11_most_67 : decode cX11_most 67 = .ok (.iload_n 3, 1) := by decide +kernel
theorem dX11_most_68 : decode cX11_most 68 = .ok (.ireturn, 1) := by decide +kernel
theorem dX11_goesOn_0 : decode cX11_goesOn 0 = .ok (.aload_n 0, 1) := by decide +kernel
theorem dX11_goesOn_1 : decode cX11_goesOn 1 = .ok (.iload_n 1, 1) := by decide +kernel
theorem dX11_goesOn_2 : decode cX11_goesOn 2 = .ok (.invokevirtual 217, 3) := by decide +kernel
theorem dX11_goesOn_5 : decode cX11_goesOn 5 = .ok (.astore_n 2, 1) := by decide +kernel
theorem dX11_goesOn_6 : decode cX11_goesOn 6 = .ok (.aload_n 2, 1) := by decide +kernel
theorem dX11_goesOn_7 : decode cX11_goesOn 7 = .ok (.ifnonnull 5, 3) := by decide +kernel
theorem dX11_goesOn_10 : decode cX11_goesOn 10 = .ok (.iconst (-1), 1) := by decide +kernel
theorem dX11_goesOn_11 : decode cX11_goesOn 11 = .ok (.ireturn, 1) := by decide +kernel
theorem dX11_goesOn_12 : decode cX11_goesOn 12 = .ok (.aload_n 0, 1) := by decide +kernel
theorem dX11_goesOn_13 : decode cX11_goesOn 13 = .ok (.aload_n 2, 1) := by decide +kernel
theorem dX11_goesOn_14 : decode cX11_goesOn 14 = .ok (.invokevirtual 246, 3) := by decide +kernel
theorem dX11_goesOn_17 : decode cX11_goesOn 17 = .ok (.ifCond .ne 6, 3) := by decide +kernel
theorem dX11_goesOn_20 : decode cX11_goesOn 20 = .ok (.bipush (-3), 2) := by decide +kernel
theorem dX11_goesOn_22 : decode cX11_goesOn 22 = .ok (.ireturn, 1) := by decide +kernel
theorem dX11_goesOn_23 : decode cX11_goesOn 23 = .ok (.iconst 0, 1) := by decide +kernel
theorem dX11_goesOn_24 : decode cX11_goesOn 24 = .ok (.istore_n 3, 1) := by decide +kernel
theorem dX11_goesOn_25 : decode cX11_goesOn 25 = .ok (.iload_n 3, 1) := by decide +kernel
theorem dX11_goesOn_26 : decode cX11_goesOn 26 = .ok (.aload_n 0, 1) := by decide +kernel
theorem dX11_goesOn_27 : decode cX11_goesOn 27 = .ok (.getfield 98, 3) := by decide +kernel
theorem dX11_goesOn_30 : decode cX11_goesOn 30 = .ok (.if_icmp .ge 30, 3) := by decide +kernel
theorem dX11_goesOn_33 : decode cX11_goesOn 33 = .ok (.aload_n 0, 1) := by decide +kernel
theorem dX11_goesOn_34 : decode cX11_goesOn 34 = .ok (.iload_n 3, 1) := by decide +kernel
theorem dX11_goesOn_35 : decode cX11_goesOn 35 = .ok (.invokevirtual 250, 3) := by decide +kernel
theorem dX11_goesOn_38 : decode cX11_goesOn 38 = .ok (.ldc 253, 2) := by decide +kernel
theorem dX11_goesOn_40 : decode cX11_goesOn 40 = .ok (.aload_n 0, 1) := by decide +kernel
theorem dX11_goesOn_41 : decode cX11_goesOn 41 = .ok (.getfield 53, 3) := by decide +kernel
theorem dX11_goesOn_44 : decode cX11_goesOn 44 = .ok (.iload_n 3, 1) := by decide +kernel
theorem dX11_goesOn_45 : decode cX11_goesOn 45 = .ok (.invokevirtual 254, 3) := by decide +kernel
theorem dX11_goesOn_48 : decode cX11_goesOn 48 = .ok (.imul, 1) := by decide +kernel
theorem dX11_goesOn_49 : decode cX11_goesOn 49 = .ok (.if_icmp .le 5, 3) := by decide +kernel
theorem dX11_goesOn_52 : decode cX11_goesOn 52 = .ok (.iconst 1, 1) := by decide +kernel
theorem dX11_goesOn_53 : decode cX11_goesOn 53 = .ok (.ireturn, 1) := by decide +kernel
theorem dX11_goesOn_54 : decode cX11_goesOn 54 = .ok (.iinc 3 1, 3) := by decide +kernel
theorem dX11_goesOn_57 : decode cX11_goesOn 57 = .ok (.goto (-32), 3) := by decide +kernel
theorem dX11_goesOn_60 : decode cX11_goesOn 60 = .ok (.iconst 0, 1) := by decide +kernel
theorem dX11_goesOn_61 : decode cX11_goesOn 61 = .ok (.ireturn, 1) := by decide +kernel
theorem dX11_chain_0 : decode cX11_chain 0 = .ok (.aload_n 0, 1) := by decide +kernel
theorem dX11_chain_1 : decode cX11_chain 1 = .ok (.iload_n 1, 1) := by decide +kernel
theorem dX11_chain_2 : decode cX11_chain 2 = .ok (.invokevirtual 217, 3) := by decide +kernel
theorem dX11_chain_5 : decode cX11_chain 5 = .ok (.astore_n 2, 1) := by decide +kernel
theorem dX11_chain_6 : decode cX11_chain 6 = .ok (.aload_n 2, 1) := by decide +kernel
theorem dX11_chain_7 : decode cX11_chain 7 = .ok (.ifnonnull 5, 3) := by decide +kernel
theorem dX11_chain_10 : decode cX11_chain 10 = .ok (.iconst (-1), 1) := by decide +kernel
theorem dX11_chain_11 : decode cX11_chain 11 = .ok (.ireturn, 1) := by decide +kernel
theorem dX11_chain_12 : decode cX11_chain 12 = .ok (.iconst 0, 1) := by decide +kernel
theorem dX11_chain_13 : decode cX11_chain 13 = .ok (.istore_n 3, 1) := by decide +kernel
theorem dX11_chain_14 : decode cX11_chain 14 = .ok (.iconst 0, 1) := by decide +kernel
theorem dX11_chain_15 : decode cX11_chain 15 = .ok (.istore 4, 2) := by decide +kernel
theorem dX11_chain_17 : decode cX11_chain 17 = .ok (.iload 4, 2) := by decide +kernel
theorem dX11_chain_19 : decode cX11_chain 19 = .ok (.aload_n 0, 1) := by decide +kernel
theorem dX11_chain_20 : decode cX11_chain 20 = .ok (.getfield 53, 3) := by decide +kernel
theorem dX11_chain_23 : decode cX11_chain 23 = .ok (.getfield 195, 3) := by decide +kernel
theorem dX11_chain_26 : decode cX11_chain 26 = .ok (.if_icmp .ge 94, 3) := by decide +kernel
theorem dX11_chain_29 : decode cX11_chain 29 = .ok (.iload 4, 2) := by decide +kernel
theorem dX11_chain_31 : decode cX11_chain 31 = .ok (.aload_n 0, 1) := by decide +kernel
theorem dX11_chain_32 : decode cX11_chain 32 = .ok (.getfield 74, 3) := by decide +kernel
theorem dX11_chain_35 : decode cX11_chain 35 = .ok (.arraylength, 1) := by decide +kernel
theorem dX11_chain_36 : decode cX11_chain 36 = .ok (.if_icmp .ge 84, 3) := by decide +kernel
theorem dX11_chain_39 : decode cX11_chain 39 = .ok (.iconst 0, 1) := by decide +kernel
theorem dX11_chain_40 : decode cX11_chain 40 = .ok (.istore 5, 2) := by decide +kernel
theorem dX11_chain_42 : decode cX11_chain 42 = .ok (.iconst 0, 1) := by decide +kernel
theorem dX11_chain_43 : decode cX11_chain 43 = .ok (.istore 6, 2) := by decide +kernel
theorem dX11_chain_45 : decode cX11_chain 45 = .ok (.iload 6, 2) := by decide +kernel
theorem dX11_chain_47 : decode cX11_chain 47 = .ok (.iload 4, 2) := by decide +kernel
theorem dX11_chain_49 : decode cX11_chain 49 = .ok (.if_icmp .ge 42, 3) := by decide +kernel
theorem dX11_chain_52 : decode cX11_chain 52 = .ok (.aload_n 0, 1) := by decide +kernel
theorem dX11_chain_53 : decode cX11_chain 53 = .ok (.getfield 74, 3) := by decide +kernel
theorem dX11_chain_56 : decode cX11_chain 56 = .ok (.iload 6, 2) := by decide +kernel
theorem dX11_chain_58 : decode cX11_chain 58 = .ok (.iaload, 1) := by decide +kernel
theorem dX11_chain_59 : decode cX11_chain 59 = .ok (.iload 5, 2) := by decide +kernel
theorem dX11_chain_61 : decode cX11_chain 61 = .ok (.if_icmp .le 24, 3) := by decide +kernel
theorem dX11_chain_64 : decode cX11_chain 64 = .ok (.aload_n 0, 1) := by decide +kernel
theorem dX11_chain_65 : decode cX11_chain 65 = .ok (.aload_n 2, 1) := by decide +kernel
theorem dX11_chain_66 : decode cX11_chain 66 = .ok (.iload 4, 2) := by decide +kernel
theorem dX11_chain_68 : decode cX11_chain 68 = .ok (.iload 6, 2) := by decide +kernel
theorem dX11_chain_70 : decode cX11_chain 70 = .ok (.invokevirtual 220, 3) := by decide +kernel
theorem dX11_chain_73 : decode cX11_chain 73 = .ok (.ifCond .le 12, 3) := by decide +kernel
theorem dX11_chain_76 : decode cX11_chain 76 = .ok (.aload_n 0, 1) := by decide +kernel
theorem dX11_chain_77 : decode cX11_chain 77 = .ok (.getfield 74, 3) := by decide +kernel
theorem dX11_chain_80 : decode cX11_chain 80 = .ok (.iload 6, 2) := by decide +kernel
theorem dX11_chain_82 : decode cX11_chain 82 = .ok (.iaload, 1) := by decide +kernel
theorem dX11_chain_83 : decode cX11_chain 83 = .ok (.istore 5, 2) := by decide +kernel
theorem dX11_chain_85 : decode cX11_chain 85 = .ok (.iinc 6 1, 3) := by decide +kernel
theorem dX11_chain_88 : decode cX11_chain 88 = .ok (.goto (-43), 3) := by decide +kernel
theorem dX11_chain_91 : decode cX11_chain 91 = .ok (.aload_n 0, 1) := by decide +kernel
theorem dX11_chain_92 : decode cX11_chain 92 = .ok (.getfield 74, 3) := by decide +kernel
theorem dX11_chain_95 : decode cX11_chain 95 = .ok (.iload 4, 2) := by decide +kernel
theorem dX11_chain_97 : decode cX11_chain 97 = .ok (.iload 5, 2) := by decide +kernel
theorem dX11_chain_99 : decode cX11_chain 99 = .ok (.iconst 1, 1) := by decide +kernel
theorem dX11_chain_100 : decode cX11_chain 100 = .ok (.iadd, 1) := by decide +kernel
theorem dX11_chain_101 : decode cX11_chain 101 = .ok (.iastore, 1) := by decide +kernel
theorem dX11_chain_102 : decode cX11_chain 102 = .ok (.iload_n 3, 1) := by decide +kernel
theorem dX11_chain_103 : decode cX11_chain 103 = .ok (.aload_n 0, 1) := by decide +kernel
theorem dX11_chain_104 : decode cX11_chain 104 = .ok (.getfield 74, 3) := by decide +kernel
theorem dX11_chain_107 : decode cX11_chain 107 = .ok (.iload 4, 2) := by decide +kernel
theorem dX11_chain_109 : decode cX11_chain 109 = .ok (.iaload, 1) := by decide +kernel
theorem dX11_chain_110 : decode cX11_chain 110 = .ok (.invokestatic 257, 3) := by decide +kernel
theorem dX11_chain_113 : decode cX11_chain 113 = .ok (.istore_n 3, 1) := by decide +kernel
theorem dX11_chain_114 : decode cX11_chain 114 = .ok (.iinc 4 1, 3) := by decide +kernel
theorem dX11_chain_117 : decode cX11_chain 117 = .ok (.goto (-100), 3) := by decide +kernel
theorem dX11_chain_120 : decode cX11_chain 120 = .ok (.iload_n 3, 1) := by decide +kernel
theorem dX11_chain_121 : decode cX11_chain 121 = .ok (.ireturn, 1) := by decide +kernel
theorem dX11_missed_0 : decode cX11_missed 0 = .ok (.aload_n 0, 1) := by decide +kernel
theorem dX11_missed_1 : decode cX11_missed 1 = .ok (.iload_n 1, 1) := by decide +kernel
theorem dX11_missed_2 : decode cX11_missed 2 = .ok (.invokevirtual 217, 3) := by decide +kernel
theorem dX11_missed_5 : decode cX11_missed 5 = .ok (.astore_n 3, 1) := by decide +kernel
theorem dX11_missed_6 : decode cX11_missed 6 = .ok (.aload_n 3, 1) := by decide +kernel
theorem dX11_missed_7 : decode cX11_missed 7 = .ok (.ifnonnull 5, 3) := by decide +kernel
theorem dX11_missed_10 : decode cX11_missed 10 = .ok (.iconst (-1), 1) := by decide +kernel
theorem dX11_missed_11 : decode cX11_missed 11 = .ok (.ireturn, 1) := by decide +kernel
theorem dX11_missed_12 : decode cX11_missed 12 = .ok (.iload_n 2, 1) := by decide +kernel
theorem dX11_missed_13 : decode cX11_missed 13 = .ok (.ifCond .lt 8, 3) := by decide +kernel
theorem dX11_missed_16 : decode cX11_missed 16 = .ok (.iload_n 2, 1) := by decide +kernel
theorem dX11_missed_17 : decode cX11_missed 17 = .ok (.iconst 2, 1) := by decide +kernel
theorem dX11_missed_18 : decode cX11_missed 18 = .ok (.if_icmp .le 6, 3) := by decide +kernel
theorem dX11_missed_21 : decode cX11_missed 21 = .ok (.bipush (-2), 2) := by decide +kernel
theorem dX11_missed_23 : decode cX11_missed 23 = .ok (.ireturn, 1) := by decide +kernel
theorem dX11_missed_24 : decode cX11_missed 24 = .ok (.aload_n 0, 1) := by decide +kernel
theorem dX11_missed_25 : decode cX11_missed 25 = .ok (.aload_n 3, 1) := by decide +kernel
theorem dX11_missed_26 : decode cX11_missed 26 = .ok (.invokevirtual 262, 3) := by decide +kernel
theorem dX11_missed_29 : decode cX11_missed 29 = .ok (.istore 4, 2) := by decide +kernel
theorem dX11_missed_31 : decode cX11_missed 31 = .ok (.iload 4, 2) := by decide +kernel
theorem dX11_missed_33 : decode cX11_missed 33 = .ok (.bipush (-9), 2) := by decide +kernel
theorem dX11_missed_35 : decode cX11_missed 35 = .ok (.if_icmp .ne 6, 3) := by decide +kernel
theorem dX11_missed_38 : decode cX11_missed 38 = .ok (.bipush (-3), 2) := by decide +kernel
theorem dX11_missed_40 : decode cX11_missed 40 = .ok (.ireturn, 1) := by decide +kernel
theorem dX11_missed_41 : decode cX11_missed 41 = .ok (.aload_n 0, 1) := by decide +kernel
theorem dX11_missed_42 : decode cX11_missed 42 = .ok (.aload_n 3, 1) := by decide +kernel
theorem dX11_missed_43 : decode cX11_missed 43 = .ok (.aload_n 0, 1) := by decide +kernel
theorem dX11_missed_44 : decode cX11_missed 44 = .ok (.getfield 53, 3) := by decide +kernel
theorem dX11_missed_47 : decode cX11_missed 47 = .ok (.iload 4, 2) := by decide +kernel
theorem dX11_missed_49 : decode cX11_missed 49 = .ok (.invokevirtual 211, 3) := by decide +kernel
theorem dX11_missed_52 : decode cX11_missed 52 = .ok (.iload_n 2, 1) := by decide +kernel
theorem dX11_missed_53 : decode cX11_missed 53 = .ok (.invokevirtual 265, 3) := by decide +kernel
theorem dX11_missed_56 : decode cX11_missed 56 = .ok (.ireturn, 1) := by decide +kernel
theorem dX11_night_0 : decode cX11_night 0 = .ok (.aload_n 0, 1) := by decide +kernel
theorem dX11_night_1 : decode cX11_night 1 = .ok (.iconst 0, 1) := by decide +kernel
theorem dX11_night_2 : decode cX11_night 2 = .ok (.putfield 268, 3) := by decide +kernel
theorem dX11_night_5 : decode cX11_night 5 = .ok (.aload_n 0, 1) := by decide +kernel
theorem dX11_night_6 : decode cX11_night 6 = .ok (.iload_n 1, 1) := by decide +kernel
theorem dX11_night_7 : decode cX11_night 7 = .ok (.invokevirtual 217, 3) := by decide +kernel
theorem dX11_night_10 : decode cX11_night 10 = .ok (.astore 6, 2) := by decide +kernel
theorem dX11_night_12 : decode cX11_night 12 = .ok (.aload 6, 2) := by decide +kernel
theorem dX11_night_14 : decode cX11_night 14 = .ok (.ifnonnull 5, 3) := by decide +kernel
theorem dX11_night_17 : decode cX11_night 17 = .ok (.iconst (-1), 1) := by decide +kernel
theorem dX11_night_18 : decode cX11_night 18 = .ok (.ireturn, 1) := by decide +kernel
theorem dX11_night_19 : decode cX11_night 19 = .ok (.aload_n 0, 1) := by decide +kernel
theorem dX11_night_20 : decode cX11_night 20 = .ok (.iload_n 2, 1) := by decide +kernel
theorem dX11_night_21 : decode cX11_night 21 = .ok (.iload_n 3, 1) := by decide +kernel
theorem dX11_night_22 : decode cX11_night 22 = .ok (.iload 4, 2) := by decide +kernel
theorem dX11_night_24 : decode cX11_night 24 = .ok (.iload 5, 2) := by decide +kernel
theorem dX11_night_26 : decode cX11_night 26 = .ok (.invokevirtual 82, 3) := by decide +kernel
theorem dX11_night_29 : decode cX11_night 29 = .ok (.istore 7, 2) := by decide +kernel
theorem dX11_night_31 : decode cX11_night 31 = .ok (.iload 7, 2) := by decide +kernel
theorem dX11_night_33 : decode cX11_night 33 = .ok (.ifCond .eq 6, 3) := by decide +kernel
theorem dX11_night_36 : decode cX11_night 36 = .ok (.iload 7, 2) := by decide +kernel
theorem dX11_night_38 : decode cX11_night 38 = .ok (.ireturn, 1) := by decide +kernel
theorem dX11_night_39 : decode cX11_night 39 = .ok (.aload_n 0, 1) := by decide +kernel
theorem dX11_night_40 : decode cX11_night 40 = .ok (.iload_n 2, 1) := by decide +kernel
theorem dX11_night_41 : decode cX11_night 41 = .ok (.invokevirtual 86, 3) := by decide +kernel
theorem dX11_night_44 : decode cX11_night 44 = .ok (.astore 8, 2) := by decide +kernel
theorem dX11_night_46 : decode cX11_night 46 = .ok (.aload 8, 2) := by decide +kernel
theorem dX11_night_48 : decode cX11_night 48 = .ok (.ifnull 10, 3) := by decide +kernel
theorem dX11_night_51 : decode cX11_night 51 = .ok (.aload_n 0, 1) := by decide +kernel
theorem dX11_night_52 : decode cX11_night 52 = .ok (.getfield 98, 3) := by decide +kernel
theorem dX11_night_55 : decode cX11_night 55 = .ok (.ifCond .gt 6, 3) := by decide +kernel
theorem dX11_night_58 : decode cX11_night 58 = .ok (.bipush (-3), 2) := by decide +kernel
theorem dX11_night_60 : decode cX11_night 60 = .ok (.ireturn, 1) := by decide +kernel
theorem dX11_night_61 : decode cX11_night 61 = .ok (.iload 5, 2) := by decide +kernel
theorem dX11_night_63 : decode cX11_night 63 = .ok (.aload_n 0, 1) := by decide +kernel
theorem dX11_night_64 : decode cX11_night 64 = .ok (.getfield 98, 3) := by decide +kernel
theorem dX11_night_67 : decode cX11_night 67 = .ok (.idiv, 1) := by decide +kernel
theorem dX11_night_68 : decode cX11_night 68 = .ok (.istore 9, 2) := by decide +kernel
theorem dX11_night_70 : decode cX11_night 70 = .ok (.aload 8, 2) := by decide +kernel
theorem dX11_night_72 : decode cX11_night 72 = .ok (.iload 4, 2) := by decide +kernel
theorem dX11_night_74 : decode cX11_night 74 = .ok (.iload 9, 2) := by decide +kernel
theorem dX11_night_76 : decode cX11_night 76 = .ok (.aload_n 0, 1) := by decide +kernel
theorem dX11_night_77 : decode cX11_night 77 = .ok (.getfield 98, 3) := by decide +kernel
theorem dX11_night_80 : decode cX11_night 80 = .ok (.imul, 1) := by decide +kernel
theorem dX11_night_81 : decode cX11_night 81 = .ok (.invokestatic 271, 3) := by decide +kernel
theorem dX11_night_84 : decode cX11_night 84 = .ok (.ifCond .ne 6, 3) := by decide +kernel
theorem dX11_night_87 : decode cX11_night 87 = .ok (.bipush (-2), 2) := by decide +kernel
theorem dX11_night_89 : decode cX11_night 89 = .ok (.ireturn, 1) := by decide +kernel
theorem dX11_night_90 : decode cX11_night 90 = .ok (.aload_n 0, 1) := by decide +kernel
theorem dX11_night_91 : decode cX11_night 91 = .ok (.aload 6, 2) := by decide +kernel
theorem dX11_night_93 : decode cX11_night 93 = .ok (.aload 8, 2) := by decide +kernel
theorem dX11_night_95 : decode cX11_night 95 = .ok (.iload 4, 2) := by decide +kernel
theorem dX11_night_97 : decode cX11_night 97 = .ok (.iload 9, 2) := by decide +kernel
theorem dX11_night_99 : decode cX11_night 99 = .ok (.invokevirtual 275, 3) := by decide +kernel
theorem dX11_night_102 : decode cX11_night 102 = .ok (.ireturn, 1) := by decide +kernel
theorem dX11_spread_0 : decode cX11_spread 0 = .ok (.aload_n 0, 1) := by decide +kernel
theorem dX11_spread_1 : decode cX11_spread 1 = .ok (.iload_n 1, 1) := by decide +kernel
theorem dX11_spread_2 : decode cX11_spread 2 = .ok (.invokevirtual 217, 3) := by decide +kernel
theorem dX11_spread_5 : decode cX11_spread 5 = .ok (.astore_n 2, 1) := by decide +kernel
theorem dX11_spread_6 : decode cX11_spread 6 = .ok (.aload_n 2, 1) := by decide +kernel
theorem dX11_spread_7 : decode cX11_spread 7 = .ok (.ifnonnull 7, 3) := by decide +kernel
theorem dX11_spread_10 : decode cX11_spread 10 = .ok (.iconst (-1), 1) := by decide +kernel
theorem dX11_spread_11 : decode cX11_spread 11 = .ok (.goto 7, 3) := by decide +kernel
theorem dX11_spread_14 : decode cX11_spread 14 = .ok (.aload_n 0, 1) := by decide +kernel
theorem dX11_spread_15 : decode cX11_spread 15 = .ok (.invokevirtual 279, 3) := by decide +kernel
theorem dX11_spread_18 : decode cX11_spread 18 = .ok (.ireturn, 1) := by decide +kernel
theorem dX11_blinds_0 : decode cX11_blinds 0 = .ok (.aload_n 0, 1) := by decide +kernel
theorem dX11_blinds_1 : decode cX11_blinds 1 = .ok (.iload_n 1, 1) := by decide +kernel
theorem dX11_blinds_2 : decode cX11_blinds 2 = .ok (.invokevirtual 217, 3) := by decide +kernel
theorem dX11_blinds_5 : decode cX11_blinds 5 = .ok (.astore 4, 2) := by decide +kernel
theorem dX11_blinds_7 : decode cX11_blinds 7 = .ok (.aload 4, 2) := by decide +kernel
theorem dX11_blinds_9 : decode cX11_blinds 9 = .ok (.ifnonnull 5, 3) := by decide +kernel
theorem dX11_blinds_12 : decode cX11_blinds 12 = .ok (.iconst (-1), 1) := by decide +kernel
theorem dX11_blinds_13 : decode cX11_blinds 13 = .ok (.ireturn, 1) := by decide +kernel
theorem dX11_blinds_14 : decode cX11_blinds 14 = .ok (.iload_n 2, 1) := by decide +kernel
theorem dX11_blinds_15 : decode cX11_blinds 15 = .ok (.iconst 1, 1) := by decide +kernel
theorem dX11_blinds_16 : decode cX11_blinds 16 = .ok (.if_icmp .lt 8, 3) := by decide +kernel
theorem dX11_blinds_19 : decode cX11_blinds 19 = .ok (.iload_n 2, 1) := by decide +kernel
theorem dX11_blinds_20 : decode cX11_blinds 20 = .ok (.iconst 3, 1) := by decide +kernel
theorem dX11_blinds_21 : decode cX11_blinds 21 = .ok (.if_icmp .le 6, 3) := by decide +kernel
theorem dX11_blinds_24 : decode cX11_blinds 24 = .ok (.bipush (-2), 2) := by decide +kernel
theorem dX11_blinds_26 : decode cX11_blinds 26 = .ok (.ireturn, 1) := by decide +kernel
theorem dX11_blinds_27 : decode cX11_blinds 27 = .ok (.iload_n 3, 1) := by decide +kernel
theorem dX11_blinds_28 : decode cX11_blinds 28 = .ok (.iconst (-1), 1) := by decide +kernel
theorem dX11_blinds_29 : decode cX11_blinds 29 = .ok (.if_icmp .lt 8, 3) := by decide +kernel
theorem dX11_blinds_32 : decode cX11_blinds 32 = .ok (.iload_n 3, 1) := by decide +kernel
theorem dX11_blinds_33 : decode cX11_blinds 33 = .ok (.iconst 2, 1) := by decide +kernel
theorem dX11_blinds_34 : decode cX11_blinds 34 = .ok (.if_icmp .le 5, 3) := by decide +kernel
theorem dX11_blinds_37 : decode cX11_blinds 37 = .ok (.iconst (-1), 1) := by decide +kernel
theorem dX11_blinds_38 : decode cX11_blinds 38 = .ok (.ireturn, 1) := by decide +kernel
theorem dX11_blinds_39 : decode cX11_blinds 39 = .ok (.aload_n 0, 1) := by decide +kernel
theorem dX11_blinds_40 : decode cX11_blinds 40 = .ok (.getfield 60, 3) := by decide +kernel
theorem dX11_blinds_43 : decode cX11_blinds 43 = .ok (.aload_n 0, 1) := by decide +kernel
theorem dX11_blinds_44 : decode cX11_blinds 44 = .ok (.getfield 34, 3) := by decide +kernel
theorem dX11_blinds_47 : decode cX11_blinds 47 = .ok (.invokevirtual 282, 3) := by decide +kernel
theorem dX11_blinds_50 : decode cX11_blinds 50 = .ok (.aload_n 0, 1) := by decide +kernel
theorem dX11_blinds_51 : decode cX11_blinds 51 = .ok (.getfield 60, 3) := by decide +kernel
theorem dX11_blinds_54 : decode cX11_blinds 54 = .ok (.getfield 286, 3) := by decide +kernel
theorem dX11_blinds_57 : decode cX11_blinds 57 = .ok (.ifCond .ne 6, 3) := by decide +kernel
theorem dX11_blinds_60 : decode cX11_blinds 60 = .ok (.bipush (-3), 2) := by decide +kernel
theorem dX11_blinds_62 : decode cX11_blinds 62 = .ok (.ireturn, 1) := by decide +kernel
theorem dX11_blinds_63 : decode cX11_blinds 63 = .ok (.aload_n 0, 1) := by decide +kernel
theorem dX11_blinds_64 : decode cX11_blinds 64 = .ok (.aload 4, 2) := by decide +kernel
theorem dX11_blinds_66 : decode cX11_blinds 66 = .ok (.invokevirtual 289, 3) := by decide +kernel
theorem dX11_blinds_69 : decode cX11_blinds 69 = .ok (.aload_n 0, 1) := by decide +kernel
theorem dX11_blinds_70 : decode cX11_blinds 70 = .ok (.getfield 60, 3) := by decide +kernel
theorem dX11_blinds_73 : decode cX11_blinds 73 = .ok (.iload_n 2, 1) := by decide +kernel
theorem dX11_blinds_74 : decode cX11_blinds 74 = .ok (.aload_n 0, 1) := by decide +kernel
theorem dX11_blinds_75 : decode cX11_blinds 75 = .ok (.getfield 60, 3) := by decide +kernel
theorem dX11_blinds_78 : decode cX11_blinds 78 = .ok (.getfield 286, 3) := by decide +kernel
theorem dX11_blinds_81 : decode cX11_blinds 81 = .ok (.invokestatic 293, 3) := by decide +kernel
theorem dX11_blinds_84 : decode cX11_blinds 84 = .ok (.invokevirtual 296, 3) := by decide +kernel
theorem dX11_blinds_87 : decode cX11_blinds 87 = .ok (.iload_n 3, 1) := by decide +kernel
theorem dX11_blinds_88 : decode cX11_blinds 88 = .ok (.iconst (-1), 1) := by decide +kernel
theorem dX11_blinds_89 : decode cX11_blinds 89 = .ok (.if_icmp .ne 18, 3) := by decide +kernel
theorem dX11_blinds_92 : decode cX11_blinds 92 = .ok (.aload_n 0, 1) := by decide +kernel
theorem dX11_blinds_93 : decode cX11_blinds 93 = .ok (.invokevirtual 279, 3) := by decide +kernel
theorem dX11_blinds_96 : decode cX11_blinds 96 = .ok (.aload_n 0, 1) := by decide +kernel
theorem dX11_blinds_97 : decode cX11_blinds 97 = .ok (.getfield 60, 3) := by decide +kernel
theorem dX11_blinds_100 : decode cX11_blinds 100 = .ok (.getfield 300, 3) := by decide +kernel
theorem dX11_blinds_103 : decode cX11_blinds 103 = .ok (.isub, 1) := by decide +kernel
theorem dX11_blinds_104 : decode cX11_blinds 104 = .ok (.goto 15, 3) := by decide +kernel
theorem dX11_blinds_107 : decode cX11_blinds 107 = .ok (.aload_n 0, 1) := by decide +kernel
theorem dX11_blinds_108 : decode cX11_blinds 108 = .ok (.getfield 60, 3) := by decide +kernel
theorem dX11_blinds_111 : decode cX11_blinds 111 = .ok (.aload_n 0, 1) := by decide +kernel
theorem dX11_blinds_112 : decode cX11_blinds 112 = .ok (.getfield 34, 3) := by decide +kernel
theorem dX11_blinds_115 : decode cX11_blinds 115 = .ok (.iload_n 3, 1) := by decide +kernel
theorem dX11_blinds_116 : decode cX11_blinds 116 = .ok (.invokevirtual 303, 3) := by decide +kernel
theorem dX11_blinds_119 : decode cX11_blinds 119 = .ok (.ireturn, 1) := by decide +kernel
theorem dX11_parts_0 : decode cX11_parts 0 = .ok (.aload_n 0, 1) := by decide +kernel
theorem dX11_parts_1 : decode cX11_parts 1 = .ok (.iload_n 1, 1) := by decide +kernel
theorem dX11_parts_2 : decode cX11_parts 2 = .ok (.invokevirtual 180, 3) := by decide +kernel
theorem dX11_parts_5 : decode cX11_parts 5 = .ok (.astore 4, 2) := by decide +kernel
theorem dX11_parts_7 : decode cX11_parts 7 = .ok (.aload_n 0, 1) := by decide +kernel
theorem dX11_parts_8 : decode cX11_parts 8 = .ok (.iload_n 2, 1) := by decide +kernel
theorem dX11_parts_9 : decode cX11_parts 9 = .ok (.invokevirtual 180, 3) := by decide +kernel
theorem dX11_parts_12 : decode cX11_parts 12 = .ok (.astore 5, 2) := by decide +kernel
theorem dX11_parts_14 : decode cX11_parts 14 = .ok (.aload 4, 2) := by decide +kernel
theorem dX11_parts_16 : decode cX11_parts 16 = .ok (.ifnull 8, 3) := by decide +kernel
theorem dX11_parts_19 : decode cX11_parts 19 = .ok (.aload 5, 2) := by decide +kernel
theorem dX11_parts_21 : decode cX11_parts 21 = .ok (.ifnonnull 5, 3) := by decide +kernel
theorem dX11_parts_24 : decode cX11_parts 24 = .ok (.iconst (-1), 1) := by decide +kernel
theorem dX11_parts_25 : decode cX11_parts 25 = .ok (.ireturn, 1) := by decide +kernel
theorem dX11_parts_26 : decode cX11_parts 26 = .ok (.iload_n 3, 1) := by decide +kernel
theorem dX11_parts_27 : decode cX11_parts 27 = .ok (.ifCond .eq 11, 3) := by decide +kernel
theorem dX11_parts_30 : decode cX11_parts 30 = .ok (.iload_n 3, 1) := by decide +kernel
theorem dX11_parts_31 : decode cX11_parts 31 = .ok (.iconst 1, 1) := by decide +kernel
theorem dX11_parts_32 : decode cX11_parts 32 = .ok (.if_icmp .eq 6, 3) := by decide +kernel
theorem dX11_parts_35 : decode cX11_parts 35 = .ok (.bipush (-2), 2) := by decide +kernel
theorem dX11_parts_37 : decode cX11_parts 37 = .ok (.ireturn, 1) := by decide +kernel
theorem dX11_parts_38 : decode cX11_parts 38 = .ok (.aload_n 0, 1) := by decide +kernel
theorem dX11_parts_39 : decode cX11_parts 39 = .ok (.getfield 98, 3) := by decide +kernel
theorem dX11_parts_42 : decode cX11_parts 42 = .ok (.iconst 2, 1) := by decide +kernel
theorem dX11_parts_43 : decode cX11_parts 43 = .ok (.if_icmp .ge 8, 3) := by decide +kernel
theorem dX11_parts_46 : decode cX11_parts 46 = .ok (.bipush (-3), 2) := by decide +kernel
theorem dX11_parts_48 : decode cX11_parts 48 = .ok (.goto 12, 3) := by decide +kernel
theorem dX11_parts_51 : decode cX11_parts 51 = .ok (.aload_n 0, 1) := by decide +kernel
theorem dX11_parts_52 : decode cX11_parts 52 = .ok (.aload 4, 2) := by decide +kernel
theorem dX11_parts_54 : decode cX11_parts 54 = .ok (.aload 5, 2) := by decide +kernel
theorem dX11_parts_56 : decode cX11_parts 56 = .ok (.iload_n 3, 1) := by decide +kernel
theorem dX11_parts_57 : decode cX11_parts 57 = .ok (.invokevirtual 307, 3) := by decide +kernel
theorem dX11_parts_60 : decode cX11_parts 60 = .ok (.ireturn, 1) := by decide +kernel
theorem dX11_film_0 : decode cX11_film 0 = .ok (.aload_n 0, 1) := by decide +kernel
theorem dX11_film_1 : decode cX11_film 1 = .ok (.iload_n 1, 1) := by decide +kernel
theorem dX11_film_2 : decode cX11_film 2 = .ok (.invokevirtual 180, 3) := by decide +kernel
theorem dX11_film_5 : decode cX11_film 5 = .ok (.astore 6, 2) := by decide +kernel
theorem dX11_film_7 : decode cX11_film 7 = .ok (.aload_n 0, 1) := by decide +kernel
theorem dX11_film_8 : decode cX11_film 8 = .ok (.iload_n 2, 1) := by decide +kernel
theorem dX11_film_9 : decode cX11_film 9 = .ok (.invokevirtual 180, 3) := by decide +kernel
theorem dX11_film_12 : decode cX11_film 12 = .ok (.astore 7, 2) := by decide +kernel
theorem dX11_film_14 : decode cX11_film 14 = .ok (.aload_n 0, 1) := by decide +kernel
theorem dX11_film_15 : decode cX11_film 15 = .ok (.iload_n 3, 1) := by decide +kernel
theorem dX11_film_16 : decode cX11_film 16 = .ok (.invokevirtual 152, 3) := by decide +kernel
theorem dX11_film_19 : decode cX11_film 19 = .ok (.astore 8, 2) := by decide +kernel
theorem dX11_film_21 : decode cX11_film 21 = .ok (.aload_n 0, 1) := by decide +kernel
theorem dX11_film_22 : decode cX11_film 22 = .ok (.iload 4, 2) := by decide +kernel
theorem dX11_film_24 : decode cX11_film 24 = .ok (.invokevirtual 152, 3) := by decide +kernel
theorem dX11_film_27 : decode cX11_film 27 = .ok (.astore 9, 2) := by decide +kernel
theorem dX11_film_29 : decode cX11_film 29 = .ok (.aload 6, 2) := by decide +kernel
theorem dX11_film_31 : decode cX11_film 31 = .ok (.ifnull 18, 3) := by decide +kernel
theorem dX11_film_34 : decode cX11_film 34 = .ok (.aload 7, 2) := by decide +kernel
theorem dX11_film_36 : decode cX11_film 36 = .ok (.ifnull 13, 3) := by decide +kernel
theorem dX11_film_39 : decode cX11_film 39 = .ok (.aload 8, 2) := by decide +kernel
theorem dX11_film_41 : decode cX11_film 41 = .ok (.ifnull 8, 3) := by decide +kernel
theorem dX11_film_44 : decode cX11_film 44 = .ok (.aload 9, 2) := by decide +kernel
theorem dX11_film_46 : decode cX11_film 46 = .ok (.ifnonnull 7, 3) := by decide +kernel
theorem dX11_film_49 : decode cX11_film 49 = .ok (.ldc2_w 224, 3) := by decide +kernel
theorem dX11_film_52 : decode cX11_film 52 = .ok (.lreturn, 1) := by decide +kernel
theorem dX11_film_53 : decode cX11_film 53 = .ok (.iload 4, 2) := by decide +kernel
theorem dX11_film_55 : decode cX11_film 55 = .ok (.iload_n 3, 1) := by decide +kernel
theorem dX11_film_56 : decode cX11_film 56 = .ok (.if_icmp .eq 14, 3) := by decide +kernel
theorem dX11_film_59 : decode cX11_film 59 = .ok (.iload 5, 2) := by decide +kernel
theorem dX11_film_61 : decode cX11_film 61 = .ok (.ifCond .eq 13, 3) := by decide +kernel
theorem dX11_film_64 : decode cX11_film 64 = .ok (.iload 5, 2) := by decide +kernel
theorem dX11_film_66 : decode cX11_film 66 = .ok (.iconst 1, 1) := by decide +kernel
theorem dX11_film_67 : decode cX11_film 67 = .ok (.if_icmp .eq 7, 3) := by decide +kernel
theorem dX11_film_70 : decode cX11_film 70 = .ok (.ldc2_w 224, 3) := by decide +kernel
theorem dX11_film_73 : decode cX11_film 73 = .ok (.lreturn, 1) := by decide +kernel
theorem dX11_film_74 : decode cX11_film 74 = .ok (.aload 6, 2) := by decide +kernel
theorem dX11_film_76 : decode cX11_film 76 = .ok (.aload 9, 2) := by decide +kernel
theorem dX11_film_78 : decode cX11_film 78 = .ok (.aload 8, 2) := by decide +kernel
theorem dX11_film_80 : decode cX11_film 80 = .ok (.invokestatic 311, 3) := by decide +kernel
theorem dX11_film_83 : decode cX11_film 83 = .ok (.istore 10, 2) := by decide +kernel
theorem dX11_film_85 : decode cX11_film 85 = .ok (.aload 7, 2) := by decide +kernel
theorem dX11_film_87 : decode cX11_film 87 = .ok (.aload 9, 2) := by decide +kernel
theorem dX11_film_89 : decode cX11_film 89 = .ok (.aload 8, 2) := by decide +kernel
theorem dX11_film_91 : decode cX11_film 91 = .ok (.invokestatic 311, 3) := by decide +kernel
theorem dX11_film_94 : decode cX11_film 94 = .ok (.istore 11, 2) := by decide +kernel
theorem dX11_film_96 : decode cX11_film 96 = .ok (.iload 10, 2) := by decide +kernel
theorem dX11_film_98 : decode cX11_film 98 = .ok (.iload 11, 2) := by decide +kernel
theorem dX11_film_100 : decode cX11_film 100 = .ok (.invokestatic 314, 3) := by decide +kernel
theorem dX11_film_103 : decode cX11_film 103 = .ok (.iload 10, 2) := by decide +kernel
theorem dX11_film_105 : decode cX11_film 105 = .ok (.iload 11, 2) := by decide +kernel
theorem dX11_film_107 : decode cX11_film 107 = .ok (.invokestatic 317, 3) := by decide +kernel
theorem dX11_film_110 : decode cX11_film 110 = .ok (.iload 5, 2) := by decide +kernel
theorem dX11_film_112 : decode cX11_film 112 = .ok (.invokestatic 233, 3) := by decide +kernel
theorem dX11_film_115 : decode cX11_film 115 = .ok (.lreturn, 1) := by decide +kernel
theorem dX11_sheet_0 : decode cX11_sheet 0 = .ok (.aload_n 0, 1) := by decide +kernel
theorem dX11_sheet_1 : decode cX11_sheet 1 = .ok (.iconst 0, 1) := by decide +kernel
theorem dX11_sheet_2 : decode cX11_sheet 2 = .ok (.putfield 268, 3) := by decide +kernel
theorem dX11_sheet_5 : decode cX11_sheet 5 = .ok (.aload_n 0, 1) := by decide +kernel
theorem dX11_sheet_6 : decode cX11_sheet 6 = .ok (.iload_n 1, 1) := by decide +kernel
theorem dX11_sheet_7 : decode cX11_sheet 7 = .ok (.invokevirtual 86, 3) := by decide +kernel
theorem dX11_sheet_10 : decode cX11_sheet 10 = .ok (.astore 4, 2) := by decide +kernel
theorem dX11_sheet_12 : decode cX11_sheet 12 = .ok (.aload 4, 2) := by decide +kernel
theorem dX11_sheet_14 : decode cX11_sheet 14 = .ok (.ifnonnull 5, 3) := by decide +kernel
theorem dX11_sheet_17 : decode cX11_sheet 17 = .ok (.iconst (-1), 1) := by decide +kernel
theorem dX11_sheet_18 : decode cX11_sheet 18 = .ok (.ireturn, 1) := by decide +kernel
theorem dX11_sheet_19 : decode cX11_sheet 19 = .ok (.iload_n 2, 1) := by decide +kernel
theorem dX11_sheet_20 : decode cX11_sheet 20 = .ok (.invokestatic 320, 3) := by decide +kernel
theorem dX11_sheet_23 : decode cX11_sheet 23 = .ok (.ifCond .eq 9, 3) := by decide +kernel
theorem dX11_sheet_26 : decode cX11_sheet 26 = .ok (.iload_n 3, 1) := by decide +kernel
theorem dX11_sheet_27 : decode cX11_sheet 27 = .ok (.bipush 60, 2) := by decide +kernel
theorem dX11_sheet_29 : decode cX11_sheet 29 = .ok (.if_icmp .le 6, 3) := by decide +kernel
theorem dX11_sheet_32 : decode cX11_sheet 32 = .ok (.bipush (-2), 2) := by decide +kernel
theorem dX11_sheet_34 : decode cX11_sheet 34 = .ok (.ireturn, 1) := by decide +kernel
theorem dX11_sheet_35 : decode cX11_sheet 35 = .ok (.iload_n 3, 1) := by decide +kernel
theorem dX11_sheet_36 : decode cX11_sheet 36 = .ok (.ifCond .ge 9, 3) := by decide +kernel
theorem dX11_sheet_39 : decode cX11_sheet 39 = .ok (.aload_n 0, 1) := by decide +kernel
theorem dX11_sheet_40 : decode cX11_sheet 40 = .ok (.iconst 4, 1) := by decide +kernel
theorem dX11_sheet_41 : decode cX11_sheet 41 = .ok (.invokevirtual 323, 3) := by decide +kernel
theorem dX11_sheet_44 : decode cX11_sheet 44 = .ok (.ireturn, 1) := by decide +kernel
theorem dX11_sheet_45 : decode cX11_sheet 45 = .ok (.aload 4, 2) := by decide +kernel
theorem dX11_sheet_47 : decode cX11_sheet 47 = .ok (.iload_n 2, 1) := by decide +kernel
theorem dX11_sheet_48 : decode cX11_sheet 48 = .ok (.iload_n 3, 1) := by decide +kernel
theorem dX11_sheet_49 : decode cX11_sheet 49 = .ok (.invokevirtual 326, 3) := by decide +kernel
theorem dX11_sheet_52 : decode cX11_sheet 52 = .ok (.iconst 1, 1) := by decide +kernel
theorem dX11_sheet_53 : decode cX11_sheet 53 = .ok (.ireturn, 1) := by decide +kernel
theorem dX11_lose_0 : decode cX11_lose 0 = .ok (.aload_n 0, 1) := by decide +kernel
theorem dX11_lose_1 : decode cX11_lose 1 = .ok (.iload_n 1, 1) := by decide +kernel
theorem dX11_lose_2 : decode cX11_lose 2 = .ok (.invokevirtual 86, 3) := by decide +kernel
theorem dX11_lose_5 : decode cX11_lose 5 = .ok (.astore_n 2, 1) := by decide +kernel
theorem dX11_lose_6 : decode cX11_lose 6 = .ok (.aload_n 2, 1) := by decide +kernel
theorem dX11_lose_7 : decode cX11_lose 7 = .ok (.ifnonnull 5, 3) := by decide +kernel
theorem dX11_lose_10 : decode cX11_lose 10 = .ok (.iconst (-1), 1) := by decide +kernel
theorem dX11_lose_11 : decode cX11_lose 11 = .ok (.ireturn, 1) := by decide +kernel
theorem dX11_lose_12 : decode cX11_lose 12 = .ok (.aload_n 2, 1) := by decide +kernel
theorem dX11_lose_13 : decode cX11_lose 13 = .ok (.getfield 329, 3) := by decide +kernel
theorem dX11_lose_16 : decode cX11_lose 16 = .ok (.ifCond .eq 7, 3) := by decide +kernel
theorem dX11_lose_19 : decode cX11_lose 19 = .ok (.iconst 1, 1) := by decide +kernel
theorem dX11_lose_20 : decode cX11_lose 20 = .ok (.goto 4, 3) := by decide +kernel
theorem dX11_lose_23 : decode cX11_lose 23 = .ok (.iconst 0, 1) := by decide +kernel
theorem dX11_lose_24 : decode cX11_lose 24 = .ok (.istore_n 3, 1) := by decide +kernel
theorem dX11_lose_25 : decode cX11_lose 25 = .ok (.aload_n 2, 1) := by decide +kernel
theorem dX11_lose_26 : decode cX11_lose 26 = .ok (.iconst 0, 1) := by decide +kernel
theorem dX11_lose_27 : decode cX11_lose 27 = .ok (.putfield 329, 3) := by decide +kernel
theorem dX11_lose_30 : decode cX11_lose 30 = .ok (.iload_n 3, 1) := by decide +kernel
theorem dX11_lose_31 : decode cX11_lose 31 = .ok (.ireturn, 1) := by decide +kernel
theorem dX11_put_0 : decode cX11_put 0 = .ok (.aload_n 0, 1) := by decide +kernel
theorem dX11_put_1 : decode cX11_put 1 = .ok (.iconst 0, 1) := by decide +kernel
theorem dX11_put_2 : decode cX11_put 2 = .ok (.putfield 268, 3) := by decide +kernel
theorem dX11_put_5 : decode cX11_put 5 = .ok (.aload_n 0, 1) := by decide +kernel
theorem dX11_put_6 : decode cX11_put 6 = .ok (.iload_n 1, 1) := by decide +kernel
theorem dX11_put_7 : decode cX11_put 7 = .ok (.invokevirtual 86, 3) := by decide +kernel
theorem dX11_put_10 : decode cX11_put 10 = .ok (.astore 4, 2) := by decide +kernel
theorem dX11_put_12 : decode cX11_put 12 = .ok (.aload 4, 2) := by decide +kernel
theorem dX11_put_14 : decode cX11_put 14 = .ok (.ifnonnull 5, 3) := by decide +kernel
theorem dX11_put_17 : decode cX11_put 17 = .ok (.iconst (-1), 1) := by decide +kernel
theorem dX11_put_18 : decode cX11_put 18 = .ok (.ireturn, 1) := by decide +kernel
theorem dX11_put_19 : decode cX11_put 19 = .ok (.aload 4, 2) := by decide +kernel
theorem dX11_put_21 : decode cX11_put 21 = .ok (.getfield 329, 3) := by decide +kernel
theorem dX11_put_24 : decode cX11_put 24 = .ok (.ifCond .ne 9, 3) := by decide +kernel
theorem dX11_put_27 : decode cX11_put 27 = .ok (.aload_n 0, 1) := by decide +kernel
theorem dX11_put_28 : decode cX11_put 28 = .ok (.iconst 1, 1) := by decide +kernel
theorem dX11_put_29 : decode cX11_put 29 = .ok (.invokevirtual 323, 3) := by decide +kernel
theorem dX11_put_32 : decode cX11_put 32 = .ok (.ireturn, 1) := by decide +kernel
theorem dX11_put_33 : decode cX11_put 33 = .ok (.aload 4, 2) := by decide +kernel
theorem dX11_put_35 : decode cX11_put 35 = .ok (.iload_n 2, 1) := by decide +kernel
theorem dX11_put_36 : decode cX11_put 36 = .ok (.invokevirtual 333, 3) := by decide +kernel
theorem dX11_put_39 : decode cX11_put 39 = .ok (.ifCond .ne 9, 3) := by decide +kernel
theorem dX11_put_42 : decode cX11_put 42 = .ok (.aload_n 0, 1) := by decide +kernel
theorem dX11_put_43 : decode cX11_put 43 = .ok (.iconst 3, 1) := by decide +kernel
theorem dX11_put_44 : decode cX11_put 44 = .ok (.invokevirtual 323, 3) := by decide +kernel
theorem dX11_put_47 : decode cX11_put 47 = .ok (.ireturn, 1) := by decide +kernel
theorem dX11_put_48 : decode cX11_put 48 = .ok (.aload 4, 2) := by decide +kernel
theorem dX11_put_50 : decode cX11_put 50 = .ok (.iload_n 2, 1) := by decide +kernel
theorem dX11_put_51 : decode cX11_put 51 = .ok (.iload_n 3, 1) := by decide +kernel
theorem dX11_put_52 : decode cX11_put 52 = .ok (.invokevirtual 336, 3) := by decide +kernel
theorem dX11_put_55 : decode cX11_put 55 = .ok (.iconst 1, 1) := by decide +kernel
theorem dX11_put_56 : decode cX11_put 56 = .ok (.ireturn, 1) := by decide +kernel
theorem dX11_cell_0 : decode cX11_cell 0 = .ok (.aload_n 0, 1) := by decide +kernel
theorem dX11_cell_1 : decode cX11_cell 1 = .ok (.iconst 0, 1) := by decide +kernel
theorem dX11_cell_2 : decode cX11_cell 2 = .ok (.putfield 268, 3) := by decide +kernel
theorem dX11_cell_5 : decode cX11_cell 5 = .ok (.aload_n 0, 1) := by decide +kernel
theorem dX11_cell_6 : decode cX11_cell 6 = .ok (.iload_n 1, 1) := by decide +kernel
theorem dX11_cell_7 : decode cX11_cell 7 = .ok (.invokevirtual 86, 3) := by decide +kernel
theorem dX11_cell_10 : decode cX11_cell 10 = .ok (.astore 4, 2) := by decide +kernel
theorem dX11_cell_12 : decode cX11_cell 12 = .ok (.aload 4, 2) := by decide +kernel
theorem dX11_cell_14 : decode cX11_cell 14 = .ok (.ifnull 10, 3) := by decide +kernel
theorem dX11_cell_17 : decode cX11_cell 17 = .ok (.iload_n 3, 1) := by decide +kernel
theorem dX11_cell_18 : decode cX11_cell 18 = .ok (.invokestatic 320, 3) := by decide +kernel
theorem dX11_cell_21 : decode cX11_cell 21 = .ok (.ifCond .ne 7, 3) := by decide +kernel
theorem dX11_cell_24 : decode cX11_cell 24 = .ok (.ldc2_w 224, 3) := by decide +kernel
theorem dX11_cell_27 : decode cX11_cell 27 = .ok (.lreturn, 1) := by decide +kernel
theorem dX11_cell_28 : decode cX11_cell 28 = .ok (.aload_n 0, 1) := by decide +kernel
theorem dX11_cell_29 : decode cX11_cell 29 = .ok (.aload 4, 2) := by decide +kernel
theorem dX11_cell_31 : decode cX11_cell 31 = .ok (.iload_n 3, 1) := by decide +kernel
theorem dX11_cell_32 : decode cX11_cell 32 = .ok (.invokevirtual 339, 3) := by decide +kernel
theorem dX11_cell_35 : decode cX11_cell 35 = .ok (.putfield 268, 3) := by decide +kernel
theorem dX11_cell_38 : decode cX11_cell 38 = .ok (.aload_n 0, 1) := by decide +kernel
theorem dX11_cell_39 : decode cX11_cell 39 = .ok (.getfield 268, 3) := by decide +kernel
theorem dX11_cell_42 : decode cX11_cell 42 = .ok (.ifCond .ne 17, 3) := by decide +kernel
theorem dX11_cell_45 : decode cX11_cell 45 = .ok (.aload 4, 2) := by decide +kernel
theorem dX11_cell_47 : decode cX11_cell 47 = .ok (.iload_n 2, 1) := by decide +kernel
theorem dX11_cell_48 : decode cX11_cell 48 = .ok (.invokevirtual 333, 3) := by decide +kernel
theorem dX11_cell_51 : decode cX11_cell 51 = .ok (.ifCond .ne 8, 3) := by decide +kernel
theorem dX11_cell_54 : decode cX11_cell 54 = .ok (.aload_n 0, 1) := by decide +kernel
theorem dX11_cell_55 : decode cX11_cell 55 = .ok (.iconst 3, 1) := by decide +kernel
theorem dX11_cell_56 : decode cX11_cell 56 = .ok (.putfield 268, 3) := by decide +kernel
theorem dX11_cell_59 : decode cX11_cell 59 = .ok (.aload_n 0, 1) := by decide +kernel
theorem dX11_cell_60 : decode cX11_cell 60 = .ok (.getfield 268, 3) := by decide +kernel
theorem dX11_cell_63 : decode cX11_cell 63 = .ok (.ifCond .ne 13, 3) := by decide +kernel
theorem dX11_cell_66 : decode cX11_cell 66 = .ok (.aload 4, 2) := by decide +kernel
theorem dX11_cell_68 : decode cX11_cell 68 = .ok (.iload_n 2, 1) := by decide +kernel
theorem dX11_cell_69 : decode cX11_cell 69 = .ok (.invokevirtual 342, 3) := by decide +kernel
theorem dX11_cell_72 : decode cX11_cell 72 = .ok (.i2l, 1) := by decide +kernel
theorem dX11_cell_73 : decode cX11_cell 73 = .ok (.goto 6, 3) := by decide +kernel
theorem dX11_cell_76 : decode cX11_cell 76 = .ok (.ldc2_w 224, 3) := by decide +kernel
theorem dX11_cell_79 : decode cX11_cell 79 = .ok (.lreturn, 1) := by decide +kernel
theorem dX11_copy_0 : decode cX11_copy 0 = .ok (.aload_n 0, 1) := by decide +kernel
theorem dX11_copy_1 : decode cX11_copy 1 = .ok (.iconst 0, 1) := by decide +kernel
theorem dX11_copy_2 : decode cX11_copy 2 = .ok (.putfield 268, 3) := by decide +kernel
theorem dX11_copy_5 : decode cX11_copy 5 = .ok (.aload_n 0, 1) := by decide +kernel
theorem dX11_copy_6 : decode cX11_copy 6 = .ok (.iload_n 1, 1) := by decide +kernel
theorem dX11_copy_7 : decode cX11_copy 7 = .ok (.invokevirtual 86, 3) := by decide +kernel
theorem dX11_copy_10 : decode cX11_copy 10 = .ok (.astore 6, 2) := by decide +kernel
theorem dX11_copy_12 : decode cX11_copy 12 = .ok (.aload_n 0, 1) := by decide +kernel
theorem dX11_copy_13 : decode cX11_copy 13 = .ok (.iload_n 3, 1) := by decide +kernel
theorem dX11_copy_14 : decode cX11_copy 14 = .ok (.invokevirtual 86, 3) := by decide +kernel
theorem dX11_copy_17 : decode cX11_copy 17 = .ok (.astore 7, 2) := by decide +kernel
theorem dX11_copy_19 : decode cX11_copy 19 = .ok (.aload 6, 2) := by decide +kernel
theorem dX11_copy_21 : decode cX11_copy 21 = .ok (.ifnull 8, 3) := by decide +kernel
theorem dX11_copy_24 : decode cX11_copy 24 = .ok (.aload 7, 2) := by decide +kernel
theorem dX11_copy_26 : decode cX11_copy 26 = .ok (.ifnonnull 5, 3) := by decide +kernel
theorem dX11_copy_29 : decode cX11_copy 29 = .ok (.iconst (-1), 1) := by decide +kernel
theorem dX11_copy_30 : decode cX11_copy 30 = .ok (.ireturn, 1) := by decide +kernel
theorem dX11_copy_31 : decode cX11_copy 31 = .ok (.aload 6, 2) := by decide +kernel
theorem dX11_copy_33 : decode cX11_copy 33 = .ok (.getfield 329, 3) := by decide +kernel
theorem dX11_copy_36 : decode cX11_copy 36 = .ok (.ifCond .eq 11, 3) := by decide +kernel
theorem dX11_copy_39 : decode cX11_copy 39 = .ok (.aload 7, 2) := by decide +kernel
theorem dX11_copy_41 : decode cX11_copy 41 = .ok (.getfield 329, 3) := by decide +kernel
theorem dX11_copy_44 : decode cX11_copy 44 = .ok (.ifCond .ne 9, 3) := by decide +kernel
theorem dX11_copy_47 : decode cX11_copy 47 = .ok (.aload_n 0, 1) := by decide +kernel
theorem dX11_copy_48 : decode cX11_copy 48 = .ok (.iconst 1, 1) := by decide +kernel
theorem dX11_copy_49 : decode cX11_copy 49 = .ok (.invokevirtual 323, 3) := by decide +kernel
theorem dX11_copy_52 : decode cX11_copy 52 = .ok (.ireturn, 1) := by decide +kernel
theorem dX11_copy_53 : decode cX11_copy 53 = .ok (.aload 6, 2) := by decide +kernel
theorem dX11_copy_55 : decode cX11_copy 55 = .ok (.getfield 345, 3) := by decide +kernel
theorem dX11_copy_58 : decode cX11_copy 58 = .ok (.aload 7, 2) := by decide +kernel
theorem dX11_copy_60 : decode cX11_copy 60 = .ok (.getfield 345, 3) := by decide +kernel
theorem dX11_copy_63 : decode cX11_copy 63 = .ok (.if_icmp .eq 9, 3) := by decide +kernel
theorem dX11_copy_66 : decode cX11_copy 66 = .ok (.aload_n 0, 1) := by decide +kernel
theorem dX11_copy_67 : decode cX11_copy 67 = .ok (.iconst 2, 1) := by decide +kernel
theorem dX11_copy_68 : decode cX11_copy 68 = .ok (.invokevirtual 323, 3) := by decide +kernel
theorem dX11_copy_71 : decode cX11_copy 71 = .ok (.ireturn, 1) := by decide +kernel
theorem dX11_copy_72 : decode cX11_copy 72 = .ok (.aload 6, 2) := by decide +kernel
theorem dX11_copy_74 : decode cX11_copy 74 = .ok (.iload_n 2, 1) := by decide +kernel
theorem dX11_copy_75 : decode cX11_copy 75 = .ok (.iload 5, 2) := by decide +kernel
theorem dX11_copy_77 : decode cX11_copy 77 = .ok (.invokevirtual 348, 3) := by decide +kernel
theorem dX11_copy_80 : decode cX11_copy 80 = .ok (.ifCond .eq 15, 3) := by decide +kernel
theorem dX11_copy_83 : decode cX11_copy 83 = .ok (.aload 7, 2) := by decide +kernel
theorem dX11_copy_85 : decode cX11_copy 85 = .ok (.iload 4, 2) := by decide +kernel
theorem dX11_copy_87 : decode cX11_copy 87 = .ok (.iload 5, 2) := by decide +kernel
theorem dX11_copy_89 : decode cX11_copy 89 = .ok (.invokevirtual 348, 3) := by decide +kernel
theorem dX11_copy_92 : decode cX11_copy 92 = .ok (.ifCond .ne 9, 3) := by decide +kernel
theorem dX11_copy_95 : decode cX11_copy 95 = .ok (.aload_n 0, 1) := by decide +kernel
theorem dX11_copy_96 : decode cX11_copy 96 = .ok (.iconst 3, 1) := by decide +kernel
theorem dX11_copy_97 : decode cX11_copy 97 = .ok (.invokevirtual 323, 3) := by decide +kernel
theorem dX11_copy_100 : decode cX11_copy 100 = .ok (.ireturn, 1) := by decide +kernel
theorem dX11_copy_101 : decode cX11_copy 101 = .ok (.aload 6, 2) := by decide +kernel
theorem dX11_copy_103 : decode cX11_copy 103 = .ok (.iload_n 2, 1) := by decide +kernel
theorem dX11_copy_104 : decode cX11_copy 104 = .ok (.aload 7, 2) := by decide +kernel
theorem dX11_copy_106 : decode cX11_copy 106 = .ok (.iload 4, 2) := by decide +kernel
theorem dX11_copy_108 : decode cX11_copy 108 = .ok (.iload 5, 2) := by decide +kernel
theorem dX11_copy_110 : decode cX11_copy 110 = .ok (.invokevirtual 351, 3) := by decide +kernel
theorem dX11_copy_113 : decode cX11_copy 113 = .ok (.iload 5, 2) := by decide +kernel
theorem dX11_copy_115 : decode cX11_copy 115 = .ok (.ireturn, 1) := by decide +kernel
theorem dX11_tell_0 : decode cX11_tell 0 = .ok (.aload_n 0, 1) := by decide +kernel
theorem dX11_tell_1 : decode cX11_tell 1 = .ok (.iload_n 1, 1) := by decide +kernel
theorem dX11_tell_2 : decode cX11_tell 2 = .ok (.invokevirtual 152, 3) := by decide +kernel
theorem dX11_tell_5 : decode cX11_tell 5 = .ok (.astore_n 2, 1) := by decide +kernel
theorem dX11_tell_6 : decode cX11_tell 6 = .ok (.aload_n 2, 1) := by decide +kernel
theorem dX11_tell_7 : decode cX11_tell 7 = .ok (.ifnonnull 7, 3) := by decide +kernel
theorem dX11_tell_10 : decode cX11_tell 10 = .ok (.iconst (-1), 1) := by decide +kernel
theorem dX11_tell_11 : decode cX11_tell 11 = .ok (.goto 8, 3) := by decide +kernel
theorem dX11_tell_14 : decode cX11_tell 14 = .ok (.aload_n 2, 1) := by decide +kernel
theorem dX11_tell_15 : decode cX11_tell 15 = .ok (.aload_n 0, 1) := by decide +kernel
theorem dX11_tell_16 : decode cX11_tell 16 = .ok (.invokevirtual 355, 3) := by decide +kernel
theorem dX11_tell_19 : decode cX11_tell 19 = .ok (.ireturn, 1) := by decide +kernel
theorem dX11_wake_0 : decode cX11_wake 0 = .ok (.aload_n 0, 1) := by decide +kernel
theorem dX11_wake_1 : decode cX11_wake 1 = .ok (.iload_n 1, 1) := by decide +kernel
theorem dX11_wake_2 : decode cX11_wake 2 = .ok (.invokevirtual 152, 3) := by decide +kernel
theorem dX11_wake_5 : decode cX11_wake 5 = .ok (.astore_n 2, 1) := by decide +kernel
theorem dX11_wake_6 : decode cX11_wake 6 = .ok (.aload_n 2, 1) := by decide +kernel
theorem dX11_wake_7 : decode cX11_wake 7 = .ok (.ifnonnull 7, 3) := by decide +kernel
theorem dX11_wake_10 : decode cX11_wake 10 = .ok (.iconst (-1), 1) := by decide +kernel
theorem dX11_wake_11 : decode cX11_wake 11 = .ok (.goto 8, 3) := by decide +kernel
theorem dX11_wake_14 : decode cX11_wake 14 = .ok (.aload_n 2, 1) := by decide +kernel
theorem dX11_wake_15 : decode cX11_wake 15 = .ok (.aload_n 0, 1) := by decide +kernel
theorem dX11_wake_16 : decode cX11_wake 16 = .ok (.invokevirtual 359, 3) := by decide +kernel
theorem dX11_wake_19 : decode cX11_wake 19 = .ok (.ireturn, 1) := by decide +kernel
theorem dX11_as_0 : decode cX11_as 0 = .ok (.aload_n 0, 1) := by decide +kernel
theorem dX11_as_1 : decode cX11_as 1 = .ok (.iconst 0, 1) := by decide +kernel
theorem dX11_as_2 : decode cX11_as 2 = .ok (.putfield 268, 3) := by decide +kernel
theorem dX11_as_5 : decode cX11_as 5 = .ok (.aload_n 0, 1) := by decide +kernel
theorem dX11_as_6 : decode cX11_as 6 = .ok (.iload_n 1, 1) := by decide +kernel
theorem dX11_as_7 : decode cX11_as 7 = .ok (.invokevirtual 152, 3) := by decide +kernel
theorem dX11_as_10 : decode cX11_as 10 = .ok (.astore_n 3, 1) := by decide +kernel
theorem dX11_as_11 : decode cX11_as 11 = .ok (.aload_n 3, 1) := by decide +kernel
theorem dX11_as_12 : decode cX11_as 12 = .ok (.ifnonnull 5, 3) := by decide +kernel
theorem dX11_as_15 : decode cX11_as 15 = .ok (.iconst (-1), 1) := by decide +kernel
theorem dX11_as_16 : decode cX11_as 16 = .ok (.ireturn, 1) := by decide +kernel
theorem dX11_as_17 : decode cX11_as 17 = .ok (.iload_n 2, 1) := by decide +kernel
theorem dX11_as_18 : decode cX11_as 18 = .ok (.invokestatic 135, 3) := by decide +kernel
theorem dX11_as_21 : decode cX11_as 21 = .ok (.ifCond .ne 6, 3) := by decide +kernel
theorem dX11_as_24 : decode cX11_as 24 = .ok (.bipush (-2), 2) := by decide +kernel
theorem dX11_as_26 : decode cX11_as 26 = .ok (.ireturn, 1) := by decide +kernel
theorem dX11_as_27 : decode cX11_as 27 = .ok (.aload_n 3, 1) := by decide +kernel
theorem dX11_as_28 : decode cX11_as 28 = .ok (.invokevirtual 156, 3) := by decide +kernel
theorem dX11_as_31 : decode cX11_as 31 = .ok (.iload_n 2, 1) := by decide +kernel
theorem dX11_as_32 : decode cX11_as 32 = .ok (.if_icmp .ge 11, 3) := by decide +kernel
theorem dX11_as_35 : decode cX11_as 35 = .ok (.aload_n 0, 1) := by decide +kernel
theorem dX11_as_36 : decode cX11_as 36 = .ok (.iconst 2, 1) := by decide +kernel
theorem dX11_as_37 : decode cX11_as 37 = .ok (.invokevirtual 323, 3) := by decide +kernel
theorem dX11_as_40 : decode cX11_as 40 = .ok (.goto 4, 3) := by decide +kernel
theorem dX11_as_43 : decode cX11_as 43 = .ok (.iconst 1, 1) := by decide +kernel
theorem dX11_as_44 : decode cX11_as 44 = .ok (.ireturn, 1) := by decide +kernel
theorem dX11_trace_0 : decode cX11_trace 0 = .ok (.aload_n 0, 1) := by decide +kernel
theorem dX11_trace_1 : decode cX11_trace 1 = .ok (.getfield 362, 3) := by decide +kernel
theorem dX11_trace_4 : decode cX11_trace 4 = .ok (.ireturn, 1) := by decide +kernel
theorem dX11_fault_0 : decode cX11_fault 0 = .ok (.aload_n 0, 1) := by decide +kernel
theorem dX11_fault_1 : decode cX11_fault 1 = .ok (.getfield 268, 3) := by decide +kernel
theorem dX11_fault_4 : decode cX11_fault 4 = .ok (.ireturn, 1) := by decide +kernel
theorem dX11_many_0 : decode cX11_many 0 = .ok (.iload_n 1, 1) := by decide +kernel
theorem dX11_many_1 : decode cX11_many 1 = .ok (.tableswitch 69 0 4 #[35, 43, 48, 53, 61], 35) := by decide +kernel
theorem dX11_many_36 : decode cX11_many 36 = .ok (.aload_n 0, 1) := by decide +kernel
theorem dX11_many_37 : decode cX11_many 37 = .ok (.getfield 34, 3) := by decide +kernel
theorem dX11_many_40 : decode cX11_many 40 = .ok (.getfield 105, 3) := by decide +kernel
theorem dX11_many_43 : decode cX11_many 43 = .ok (.ireturn, 1) := by decide +kernel
theorem dX11_many_44 : decode cX11_many 44 = .ok (.aload_n 0, 1) := by decide +kernel
theorem dX11_many_45 : decode cX11_many 45 = .ok (.getfield 98, 3) := by decide +kernel
theorem dX11_many_48 : decode cX11_many 48 = .ok (.ireturn, 1) := by decide +kernel
theorem dX11_many_49 : decode cX11_many 49 = .ok (.aload_n 0, 1) := by decide +kernel
theorem dX11_many_50 : decode cX11_many 50 = .ok (.getfield 174, 3) := by decide +kernel
theorem dX11_many_53 : decode cX11_many 53 = .ok (.ireturn, 1) := by decide +kernel
theorem dX11_many_54 : decode cX11_many 54 = .ok (.aload_n 0, 1) := by decide +kernel
theorem dX11_many_55 : decode cX11_many 55 = .ok (.getfield 53, 3) := by decide +kernel
theorem dX11_many_58 : decode cX11_many 58 = .ok (.getfield 195, 3) := by decide +kernel
theorem dX11_many_61 : decode cX11_many 61 = .ok (.ireturn, 1) := by decide +kernel
theorem dX11_many_62 : decode cX11_many 62 = .ok (.aload_n 0, 1) := by decide +kernel
theorem dX11_many_63 : decode cX11_many 63 = .ok (.getfield 34, 3) := by decide +kernel
theorem dX11_many_66 : decode cX11_many 66 = .ok (.getfield 365, 3) := by decide +kernel
theorem dX11_many_69 : decode cX11_many 69 = .ok (.ireturn, 1) := by decide +kernel
theorem dX11_many_70 : decode cX11_many 70 = .ok (.bipush (-2), 2) := by decide +kernel
theorem dX11_many_72 : decode cX11_many 72 = .ok (.ireturn, 1) := by decide +kernel
theorem dX11_sheetAt_0 : decode cX11_sheetAt 0 = .ok (.iload_n 1, 1) := by decide +kernel
theorem dX11_sheetAt_1 : decode cX11_sheetAt 1 = .ok (.ifCond .lt 21, 3) := by decide +kernel
theorem dX11_sheetAt_4 : decode cX11_sheetAt 4 = .ok (.iload_n 1, 1) := by decide +kernel
theorem dX11_sheetAt_5 : decode cX11_sheetAt 5 = .ok (.aload_n 0, 1) := by decide +kernel
theorem dX11_sheetAt_6 : decode cX11_sheetAt 6 = .ok (.getfield 13, 3) := by decide +kernel
theorem dX11_sheetAt_9 : decode cX11_sheetAt 9 = .ok (.arraylength, 1) := by decide +kernel
theorem dX11_sheetAt_10 : decode cX11_sheetAt 10 = .ok (.if_icmp .ge 12, 3) := by decide +kernel
theorem dX11_sheetAt_13 : decode cX11_sheetAt 13 = .ok (.aload_n 0, 1) := by decide +kernel
theorem dX11_sheetAt_14 : decode cX11_sheetAt 14 = .ok (.getfield 13, 3) := by decide +kernel
theorem dX11_sheetAt_17 : decode cX11_sheetAt 17 = .ok (.iload_n 1, 1) := by decide +kernel
theorem dX11_sheetAt_18 : decode cX11_sheetAt 18 = .ok (.aaload, 1) := by decide +kernel
theorem dX11_sheetAt_19 : decode cX11_sheetAt 19 = .ok (.goto 4, 3) := by decide +kernel
theorem dX11_sheetAt_22 : decode cX11_sheetAt 22 = .ok (.aconst_null, 1) := by decide +kernel
theorem dX11_sheetAt_23 : decode cX11_sheetAt 23 = .ok (.areturn, 1) := by decide +kernel
theorem dX11_personAt_0 : decode cX11_personAt 0 = .ok (.iload_n 1, 1) := by decide +kernel
theorem dX11_personAt_1 : decode cX11_personAt 1 = .ok (.ifCond .lt 29, 3) := by decide +kernel
theorem dX11_personAt_4 : decode cX11_personAt 4 = .ok (.iload_n 1, 1) := by decide +kernel
theorem dX11_personAt_5 : decode cX11_personAt 5 = .ok (.aload_n 0, 1) := by decide +kernel
theorem dX11_personAt_6 : decode cX11_personAt 6 = .ok (.getfield 98, 3) := by decide +kernel
theorem dX11_personAt_9 : decode cX11_personAt 9 = .ok (.if_icmp .ge 21, 3) := by decide +kernel
theorem dX11_personAt_12 : decode cX11_personAt 12 = .ok (.iload_n 1, 1) := by decide +kernel
theorem dX11_personAt_13 : decode cX11_personAt 13 = .ok (.aload_n 0, 1) := by decide +kernel
theorem dX11_personAt_14 : decode cX11_personAt 14 = .ok (.getfield 40, 3) := by decide +kernel
theorem dX11_personAt_17 : decode cX11_personAt 17 = .ok (.arraylength, 1) := by decide +kernel
theorem dX11_personAt_18 : decode cX11_personAt 18 = .ok (.if_icmp .ge 12, 3) := by decide +kernel
theorem dX11_personAt_21 : decode cX11_personAt 21 = .ok (.aload_n 0, 1) := by decide +kernel
theorem dX11_personAt_22 : decode cX11_personAt 22 = .ok (.getfield 40, 3) := by decide +kernel
theorem dX11_personAt_25 : decode cX11_personAt 25 = .ok (.iload_n 1, 1) := by decide +kernel
theorem dX11_personAt_26 : decode cX11_personAt 26 = .ok (.aaload, 1) := by decide +kernel
theorem dX11_personAt_27 : decode cX11_personAt 27 = .ok (.goto 4, 3) := by decide +kernel
theorem dX11_personAt_30 : decode cX11_personAt 30 = .ok (.aconst_null, 1) := by decide +kernel
theorem dX11_personAt_31 : decode cX11_personAt 31 = .ok (.areturn, 1) := by decide +kernel
theorem dX11_lawAt_0 : decode cX11_lawAt 0 = .ok (.iload_n 1, 1) := by decide +kernel
theorem dX11_lawAt_1 : decode cX11_lawAt 1 = .ok (.ifCond .lt 29, 3) := by decide +kernel
theorem dX11_lawAt_4 : decode cX11_lawAt 4 = .ok (.iload_n 1, 1) := by decide +kernel
theorem dX11_lawAt_5 : decode cX11_lawAt 5 = .ok (.aload_n 0, 1) := by decide +kernel
theorem dX11_lawAt_6 : decode cX11_lawAt 6 = .ok (.getfield 174, 3) := by decide +kernel
theorem dX11_lawAt_9 : decode cX11_lawAt 9 = .ok (.if_icmp .ge 21, 3) := by decide +kernel
theorem dX11_lawAt_12 : decode cX11_lawAt 12 = .ok (.iload_n 1, 1) := by decide +kernel
theorem dX11_lawAt_13 : decode cX11_lawAt 13 = .ok (.aload_n 0, 1) := by decide +kernel
theorem dX11_lawAt_14 : decode cX11_lawAt 14 = .ok (.getfield 46, 3) := by decide +kernel
theorem dX11_lawAt_17 : decode cX11_lawAt 17 = .ok (.arraylength, 1) := by decide +kernel
theorem dX11_lawAt_18 : decode cX11_lawAt 18 = .ok (.if_icmp .ge 12, 3) := by decide +kernel
theorem dX11_lawAt_21 : decode cX11_lawAt 21 = .ok (.aload_n 0, 1) := by decide +kernel
theorem dX11_lawAt_22 : decode cX11_lawAt 22 = .ok (.getfield 46, 3) := by decide +kernel
theorem dX11_lawAt_25 : decode cX11_lawAt 25 = .ok (.iload_n 1, 1) := by decide +kernel
theorem dX11_lawAt_26 : decode cX11_lawAt 26 = .ok (.aaload, 1) := by decide +kernel
theorem dX11_lawAt_27 : decode cX11_lawAt 27 = .ok (.goto 4, 3) := by decide +kernel
theorem dX11_lawAt_30 : decode cX11_lawAt 30 = .ok (.aconst_null, 1) := by decide +kernel
theorem dX11_lawAt_31 : decode cX11_lawAt 31 = .ok (.areturn, 1) := by decide +kernel
theorem dX11_isLane_0 : decode cX11_isLane 0 = .ok (.iload_n 0, 1) := by decide +kernel
theorem dX11_isLane_1 : decode cX11_isLane 1 = .ok (.ifCond .lt 12, 3) := by decide +kernel
theorem dX11_isLane_4 : decode cX11_isLane 4 = .ok (.iload_n 0, 1) := by decide +kernel
theorem dX11_isLane_5 : decode cX11_isLane 5 = .ok (.iconst 2, 1) := by decide +kernel
theorem dX11_isLane_6 : decode cX11_isLane 6 = .ok (.if_icmp .gt 7, 3) := by decide +kernel
theorem dX11_isLane_9 : decode cX11_isLane 9 = .ok (.iconst 1, 1) := by decide +kernel
theorem dX11_isLane_10 : decode cX11_isLane 10 = .ok (.goto 4, 3) := by decide +kernel
theorem dX11_isLane_13 : decode cX11_isLane 13 = .ok (.iconst 0, 1) := by decide +kernel
theorem dX11_isLane_14 : decode cX11_isLane 14 = .ok (.ireturn, 1) := by decide +kernel
theorem dX11_isKind_0 : decode cX11_isKind 0 = .ok (.iload_n 0, 1) := by decide +kernel
theorem dX11_isKind_1 : decode cX11_isKind 1 = .ok (.ifCond .lt 12, 3) := by decide +kernel
theorem dX11_isKind_4 : decode cX11_isKind 4 = .ok (.iload_n 0, 1) := by decide +kernel
theorem dX11_isKind_5 : decode cX11_isKind 5 = .ok (.iconst 2, 1) := by decide +kernel
theorem dX11_isKind_6 : decode cX11_isKind 6 = .ok (.if_icmp .gt 7, 3) := by decide +kernel
theorem dX11_isKind_9 : decode cX11_isKind 9 = .ok (.iconst 1, 1) := by decide +kernel
theorem dX11_isKind_10 : decode cX11_isKind 10 = .ok (.goto 4, 3) := by decide +kernel
theorem dX11_isKind_13 : decode cX11_isKind 13 = .ok (.iconst 0, 1) := by decide +kernel
theorem dX11_isKind_14 : decode cX11_isKind 14 = .ok (.ireturn, 1) := by decide +kernel
theorem dX11_isDigit_0 : decode cX11_isDigit 0 = .ok (.iload_n 0, 1) := by decide +kernel
theorem dX11_isDigit_1 : decode cX11_isDigit 1 = .ok (.ifCond .lt 13, 3) := by decide +kernel
theorem dX11_isDigit_4 : decode cX11_isDigit 4 = .ok (.iload_n 0, 1) := by decide +kernel
theorem dX11_isDigit_5 : decode cX11_isDigit 5 = .ok (.bipush 9, 2) := by decide +kernel
theorem dX11_isDigit_7 : decode cX11_isDigit 7 = .ok (.if_icmp .gt 7, 3) := by decide +kernel
theorem dX11_isDigit_10 : decode cX11_isDigit 10 = .ok (.iconst 1, 1) := by decide +kernel
theorem dX11_isDigit_11 : decode cX11_isDigit 11 = .ok (.goto 4, 3) := by decide +kernel
theorem dX11_isDigit_14 : decode cX11_isDigit 14 = .ok (.iconst 0, 1) := by decide +kernel
theorem dX11_isDigit_15 : decode cX11_isDigit 15 = .ok (.ireturn, 1) := by decide +kernel
theorem dX11_leave_0 : decode cX11_leave 0 = .ok (.aload_n 0, 1) := by decide +kernel
theorem dX11_leave_1 : decode cX11_leave 1 = .ok (.bipush 31, 2) := by decide +kernel
theorem dX11_leave_3 : decode cX11_leave 3 = .ok (.aload_n 0, 1) := by decide +kernel
theorem dX11_leave_4 : decode cX11_leave 4 = .ok (.getfield 362, 3) := by decide +kernel
theorem dX11_leave_7 : decode cX11_leave 7 = .ok (.imul, 1) := by decide +kernel
theorem dX11_leave_8 : decode cX11_leave 8 = .ok (.iload_n 1, 1) := by decide +kernel
theorem dX11_leave_9 : decode cX11_leave 9 = .ok (.iadd, 1) := by decide +kernel
theorem dX11_leave_10 : decode cX11_leave 10 = .ok (.putfield 362, 3) := by decide +kernel
theorem dX11_leave_13 : decode cX11_leave 13 = .ok (.return_, 1) := by decide +kernel
theorem dX11_faulted_0 : decode cX11_faulted 0 = .ok (.aload_n 0, 1) := by decide +kernel
theorem dX11_faulted_1 : decode cX11_faulted 1 = .ok (.iload_n 1, 1) := by decide +kernel
theorem dX11_faulted_2 : decode cX11_faulted 2 = .ok (.putfield 268, 3) := by decide +kernel
theorem dX11_faulted_5 : decode cX11_faulted 5 = .ok (.bipush (-10), 2) := by decide +kernel
theorem dX11_faulted_7 : decode cX11_faulted 7 = .ok (.iload_n 1, 1) := by decide +kernel
theorem dX11_faulted_8 : decode cX11_faulted 8 = .ok (.isub, 1) := by decide +kernel
theorem dX11_faulted_9 : decode cX11_faulted 9 = .ok (.ireturn, 1) := by decide +kernel
theorem dX11_refusalOfCells_0 : decode cX11_refusalOfCells 0 = .ok (.aload_n 0, 1) := by decide +kernel
theorem dX11_refusalOfCells_1 : decode cX11_refusalOfCells 1 = .ok (.iconst 0, 1) := by decide +kernel
theorem dX11_refusalOfCells_2 : decode cX11_refusalOfCells 2 = .ok (.putfield 268, 3) := by decide +kernel
theorem dX11_refusalOfCells_5 : decode cX11_refusalOfCells 5 = .ok (.aload_n 0, 1) := by decide +kernel
theorem dX11_refusalOfCells_6 : decode cX11_refusalOfCells 6 = .ok (.iload_n 1, 1) := by decide +kernel
theorem dX11_refusalOfCells_7 : decode cX11_refusalOfCells 7 = .ok (.invokevirtual 86, 3) := by decide +kernel
theorem dX11_refusalOfCells_10 : decode cX11_refusalOfCells 10 = .ok (.astore 5, 2) := by decide +kernel
theorem dX11_refusalOfCells_12 : decode cX11_refusalOfCells 12 = .ok (.aload 5, 2) := by decide +kernel
theorem dX11_refusalOfCells_14 : decode cX11_refusalOfCells 14 = .ok (.ifnonnull 5, 3) := by decide +kernel
theorem dX11_refusalOfCells_17 : decode cX11_refusalOfCells 17 = .ok (.iconst (-1), 1) := by decide +kernel
theorem dX11_refusalOfCells_18 : decode cX11_refusalOfCells 18 = .ok (.ireturn, 1) := by decide +kernel
theorem dX11_refusalOfCells_19 : decode cX11_refusalOfCells 19 = .ok (.iload_n 2, 1) := by decide +kernel
theorem dX11_refusalOfCells_20 : decode cX11_refusalOfCells 20 = .ok (.invokestatic 320, 3) := by decide +kernel
theorem dX11_refusalOfCells_23 : decode cX11_refusalOfCells 23 = .ok (.ifCond .ne 6, 3) := by decide +kernel
theorem dX11_refusalOfCells_26 : decode cX11_refusalOfCells 26 = .ok (.bipush (-2), 2) := by decide +kernel
theorem dX11_refusalOfCells_28 : decode cX11_refusalOfCells 28 = .ok (.ireturn, 1) := by decide +kernel
theorem dX11_refusalOfCells_29 : decode cX11_refusalOfCells 29 = .ok (.aload 5, 2) := by decide +kernel
theorem dX11_refusalOfCells_31 : decode cX11_refusalOfCells 31 = .ok (.iload_n 2, 1) := by decide +kernel
theorem dX11_refusalOfCells_32 : decode cX11_refusalOfCells 32 = .ok (.invokevirtual 339, 3) := by decide +kernel
theorem dX11_refusalOfCells_35 : decode cX11_refusalOfCells 35 = .ok (.istore 6, 2) := by decide +kernel
theorem dX11_refusalOfCells_37 : decode cX11_refusalOfCells 37 = .ok (.iload 6, 2) := by decide +kernel
theorem dX11_refusalOfCells_39 : decode cX11_refusalOfCells 39 = .ok (.ifCond .eq 10, 3) := by decide +kernel
theorem dX11_refusalOfCells_42 : decode cX11_refusalOfCells 42 = .ok (.aload_n 0, 1) := by decide +kernel
theorem dX11_refusalOfCells_43 : decode cX11_refusalOfCells 43 = .ok (.iload 6, 2) := by decide +kernel
theorem dX11_refusalOfCells_45 : decode cX11_refusalOfCells 45 = .ok (.invokevirtual 323, 3) := by decide +kernel
theorem dX11_refusalOfCells_48 : decode cX11_refusalOfCells 48 = .ok (.ireturn, 1) := by decide +kernel
theorem dX11_refusalOfCells_49 : decode cX11_refusalOfCells 49 = .ok (.iload 4, 2) := by decide +kernel
theorem dX11_refusalOfCells_51 : decode cX11_refusalOfCells 51 = .ok (.ifCond .ge 9, 3) := by decide +kernel
theorem dX11_refusalOfCells_54 : decode cX11_refusalOfCells 54 = .ok (.aload_n 0, 1) := by decide +kernel
theorem dX11_refusalOfCells_55 : decode cX11_refusalOfCells 55 = .ok (.iconst 4, 1) := by decide +kernel
theorem dX11_refusalOfCells_56 : decode cX11_refusalOfCells 56 = .ok (.invokevirtual 323, 3) := by decide +kernel
theorem dX11_refusalOfCells_59 : decode cX11_refusalOfCells 59 = .ok (.ireturn, 1) := by decide +kernel
theorem dX11_refusalOfCells_60 : decode cX11_refusalOfCells 60 = .ok (.aload 5, 2) := by decide +kernel
theorem dX11_refusalOfCells_62 : decode cX11_refusalOfCells 62 = .ok (.iload_n 3, 1) := by decide +kernel
theorem dX11_refusalOfCells_63 : decode cX11_refusalOfCells 63 = .ok (.iload 4, 2) := by decide +kernel
theorem dX11_refusalOfCells_65 : decode cX11_refusalOfCells 65 = .ok (.invokevirtual 348, 3) := by decide +kernel
theorem dX11_refusalOfCells_68 : decode cX11_refusalOfCells 68 = .ok (.ifCond .eq 7, 3) := by decide +kernel
theorem dX11_refusalOfCells_71 : decode cX11_refusalOfCells 71 = .ok (.iconst 0, 1) := by decide +kernel
theorem dX11_refusalOfCells_72 : decode cX11_refusalOfCells 72 = .ok (.goto 8, 3) := by decide +kernel
theorem dX11_refusalOfCells_75 : decode cX11_refusalOfCells 75 = .ok (.aload_n 0, 1) := by decide +kernel
theorem dX11_refusalOfCells_76 : decode cX11_refusalOfCells 76 = .ok (.iconst 3, 1) := by decide +kernel
theorem dX11_refusalOfCells_77 : decode cX11_refusalOfCells 77 = .ok (.invokevirtual 323, 3) := by decide +kernel
theorem dX11_refusalOfCells_80 : decode cX11_refusalOfCells 80 = .ok (.ireturn, 1) := by decide +kernel
theorem dX11_newcomer_0 : decode cX11_newcomer 0 = .ok (.iload_n 0, 1) := by decide +kernel
theorem dX11_newcomer_1 : decode cX11_newcomer 1 = .ok (.ifCond .ne 14, 3) := by decide +kernel
theorem dX11_newcomer_4 : decode cX11_newcomer 4 = .ok (.new 38, 3) := by decide +kernel
theorem dX11_newcomer_7 : decode cX11_newcomer 7 = .ok (.dup, 1) := by decide +kernel
theorem dX11_newcomer_8 : decode cX11_newcomer 8 = .ok (.iload_n 1, 1) := by decide +kernel
theorem dX11_newcomer_9 : decode cX11_newcomer 9 = .ok (.iload_n 2, 1) := by decide +kernel
theorem dX11_newcomer_10 : decode cX11_newcomer 10 = .ok (.iload_n 3, 1) := by decide +kernel
theorem dX11_newcomer_11 : decode cX11_newcomer 11 = .ok (.invokespecial 368, 3) := by decide +kernel
theorem dX11_newcomer_14 : decode cX11_newcomer 14 = .ok (.areturn, 1) := by decide +kernel
theorem dX11_newcomer_15 : decode cX11_newcomer 15 = .ok (.iload_n 0, 1) := by decide +kernel
theorem dX11_newcomer_16 : decode cX11_newcomer 16 = .ok (.iconst 1, 1) := by decide +kernel
theorem dX11_newcomer_17 : decode cX11_newcomer 17 = .ok (.if_icmp .ne 16, 3) := by decide +kernel
theorem dX11_newcomer_20 : decode cX11_newcomer 20 = .ok (.new 371, 3) := by decide +kernel
theorem dX11_newcomer_23 : decode cX11_newcomer 23 = .ok (.dup, 1) := by decide +kernel
theorem dX11_newcomer_24 : decode cX11_newcomer 24 = .ok (.iload_n 1, 1) := by decide +kernel
theorem dX11_newcomer_25 : decode cX11_newcomer 25 = .ok (.iload_n 2, 1) := by decide +kernel
theorem dX11_newcomer_26 : decode cX11_newcomer 26 = .ok (.iload_n 3, 1) := by decide +kernel
theorem dX11_newcomer_27 : decode cX11_newcomer 27 = .ok (.invokespecial 373, 3) := by decide +kernel
theorem dX11_newcomer_30 : decode cX11_newcomer 30 = .ok (.goto 13, 3) := by decide +kernel
theorem dX11_newcomer_33 : decode cX11_newcomer 33 = .ok (.new 374, 3) := by decide +kernel
theorem dX11_newcomer_36 : decode cX11_newcomer 36 = .ok (.dup, 1) := by decide +kernel
theorem dX11_newcomer_37 : decode cX11_newcomer 37 = .ok (.iload_n 1, 1) := by decide +kernel
theorem dX11_newcomer_38 : decode cX11_newcomer 38 = .ok (.iload_n 2, 1) := by decide +kernel
theorem dX11_newcomer_39 : decode cX11_newcomer 39 = .ok (.iload_n 3, 1) := by decide +kernel
theorem dX11_newcomer_40 : decode cX11_newcomer 40 = .ok (.invokespecial 376, 3) := by decide +kernel
theorem dX11_newcomer_43 : decode cX11_newcomer 43 = .ok (.areturn, 1) := by decide +kernel
theorem dX11_sees_0 : decode cX11_sees 0 = .ok (.aload_n 1, 1) := by decide +kernel
theorem dX11_sees_1 : decode cX11_sees 1 = .ok (.aload_n 2, 1) := by decide +kernel
theorem dX11_sees_2 : decode cX11_sees 2 = .ok (.if_acmp .eq 25, 3) := by decide +kernel
theorem dX11_sees_5 : decode cX11_sees 5 = .ok (.aload_n 0, 1) := by decide +kernel
theorem dX11_sees_6 : decode cX11_sees 6 = .ok (.getfield 34, 3) := by decide +kernel
theorem dX11_sees_9 : decode cX11_sees 9 = .ok (.aload_n 1, 1) := by decide +kernel
theorem dX11_sees_10 : decode cX11_sees 10 = .ok (.getfield 145, 3) := by decide +kernel
theorem dX11_sees_13 : decode cX11_sees 13 = .ok (.aload_n 2, 1) := by decide +kernel
theorem dX11_sees_14 : decode cX11_sees 14 = .ok (.getfield 145, 3) := by decide +kernel
theorem dX11_sees_17 : decode cX11_sees 17 = .ok (.invokevirtual 123, 3) := by decide +kernel
theorem dX11_sees_20 : decode cX11_sees 20 = .ok (.ifCond .eq 7, 3) := by decide +kernel
theorem dX11_sees_23 : decode cX11_sees 23 = .ok (.iconst 1, 1) := by decide +kernel
theorem dX11_sees_24 : decode cX11_sees 24 = .ok (.goto 4, 3) := by decide +kernel
theorem dX11_sees_27 : decode cX11_sees 27 = .ok (.iconst 0, 1) := by decide +kernel
theorem dX11_sees_28 : decode cX11_sees 28 = .ok (.ireturn, 1) := by decide +kernel
theorem dX11_hears_0 : decode cX11_hears 0 = .ok (.aload_n 0, 1) := by decide +kernel
theorem dX11_hears_1 : decode cX11_hears 1 = .ok (.getfield 34, 3) := by decide +kernel
theorem dX11_hears_4 : decode cX11_hears 4 = .ok (.aload_n 1, 1) := by decide +kernel
theorem dX11_hears_5 : decode cX11_hears 5 = .ok (.getfield 145, 3) := by decide +kernel
theorem dX11_hears_8 : decode cX11_hears 8 = .ok (.aload_n 2, 1) := by decide +kernel
theorem dX11_hears_9 : decode cX11_hears 9 = .ok (.getfield 145, 3) := by decide +kernel
theorem dX11_hears_12 : decode cX11_hears 12 = .ok (.invokevirtual 127, 3) := by decide +kernel
theorem dX11_hears_15 : decode cX11_hears 15 = .ok (.ifCond .lt 7, 3) := by decide +kernel
theorem dX11_hears_18 : decode cX11_hears 18 = .ok (.iconst 1, 1) := by decide +kernel
theorem dX11_hears_19 : decode cX11_hears 19 = .ok (.goto 4, 3) := by decide +kernel
theorem dX11_hears_22 : decode cX11_hears 22 = .ok (.iconst 0, 1) := by decide +kernel
theorem dX11_hears_23 : decode cX11_hears 23 = .ok (.ireturn, 1) := by decide +kernel
theorem dX11_seenBy_0 : decode cX11_seenBy 0 = .ok (.iconst 0, 1) := by decide +kernel
theorem dX11_seenBy_1 : decode cX11_seenBy 1 = .ok (.istore_n 2, 1) := by decide +kernel
theorem dX11_seenBy_2 : decode cX11_seenBy 2 = .ok (.iconst 0, 1) := by decide +kernel
theorem dX11_seenBy_3 : decode cX11_seenBy 3 = .ok (.istore_n 3, 1) := by decide +kernel
theorem dX11_seenBy_4 : decode cX11_seenBy 4 = .ok (.iload_n 3, 1) := by decide +kernel
theorem dX11_seenBy_5 : decode cX11_seenBy 5 = .ok (.aload_n 0, 1) := by decide +kernel
theorem dX11_seenBy_6 : decode cX11_seenBy 6 = .ok (.getfield 98, 3) := by decide +kernel
theorem dX11_seenBy_9 : decode cX11_seenBy 9 = .ok (.if_icmp .ge 37, 3) := by decide +kernel
theorem dX11_seenBy_12 : decode cX11_seenBy 12 = .ok (.aload_n 0, 1) := by decide +kernel
theorem dX11_seenBy_13 : decode cX11_seenBy 13 = .ok (.iload_n 3, 1) := by decide +kernel
theorem dX11_seenBy_14 : decode cX11_seenBy 14 = .ok (.invokevirtual 152, 3) := by decide +kernel
theorem dX11_seenBy_17 : decode cX11_seenBy 17 = .ok (.astore 4, 2) := by decide +kernel
theorem dX11_seenBy_19 : decode cX11_seenBy 19 = .ok (.aload 4, 2) := by decide +kernel
theorem dX11_seenBy_21 : decode cX11_seenBy 21 = .ok (.ifnull 19, 3) := by decide +kernel
theorem dX11_seenBy_24 : decode cX11_seenBy 24 = .ok (.aload_n 0, 1) := by decide +kernel
theorem dX11_seenBy_25 : decode cX11_seenBy 25 = .ok (.aload_n 1, 1) := by decide +kernel
theorem dX11_seenBy_26 : decode cX11_seenBy 26 = .ok (.aload 4, 2) := by decide +kernel
theorem dX11_seenBy_28 : decode cX11_seenBy 28 = .ok (.invokevirtual 377, 3) := by decide +kernel
theorem dX11_seenBy_31 : decode cX11_seenBy 31 = .ok (.ifCond .eq 9, 3) := by decide +kernel
theorem dX11_seenBy_34 : decode cX11_seenBy 34 = .ok (.iload_n 2, 1) := by decide +kernel
theorem dX11_seenBy_35 : decode cX11_seenBy 35 = .ok (.iconst 1, 1) := by decide +kernel
theorem dX11_seenBy_36 : decode cX11_seenBy 36 = .ok (.iload_n 3, 1) := by decide +kernel
theorem dX11_seenBy_37 : decode cX11_seenBy 37 = .ok (.ishl, 1) := by decide +kernel
theorem dX11_seenBy_38 : decode cX11_seenBy 38 = .ok (.ior, 1) := by decide +kernel
theorem dX11_seenBy_39 : decode cX11_seenBy 39 = .ok (.istore_n 2, 1) := by decide +kernel
theorem dX11_seenBy_40 : decode cX11_seenBy 40 = .ok (.iinc 3 1, 3) := by decide +kernel
theorem dX11_seenBy_43 : decode cX11_seenBy 43 = .ok (.goto (-39), 3) := by decide +kernel
theorem dX11_seenBy_46 : decode cX11_seenBy 46 = .ok (.iload_n 2, 1) := by decide +kernel
theorem dX11_seenBy_47 : decode cX11_seenBy 47 = .ok (.ireturn, 1) := by decide +kernel
theorem dX11_heardBy_0 : decode cX11_heardBy 0 = .ok (.iconst 0, 1) := by decide +kernel
theorem dX11_heardBy_1 : decode cX11_heardBy 1 = .ok (.istore_n 2, 1) := by decide +kernel
theorem dX11_heardBy_2 : decode cX11_heardBy 2 = .ok (.iconst 0, 1) := by decide +kernel
theorem dX11_heardBy_3 : decode cX11_heardBy 3 = .ok (.istore_n 3, 1) := by decide +kernel
theorem dX11_heardBy_4 : decode cX11_heardBy 4 = .ok (.iload_n 3, 1) := by decide +kernel
theorem dX11_heardBy_5 : decode cX11_heardBy 5 = .ok (.aload_n 0, 1) := by decide +kernel
theorem dX11_heardBy_6 : decode cX11_heardBy 6 = .ok (.getfield 98, 3) := by decide +kernel
theorem dX11_heardBy_9 : decode cX11_heardBy 9 = .ok (.if_icmp .ge 37, 3) := by decide +kernel
theorem dX11_heardBy_12 : decode cX11_heardBy 12 = .ok (.aload_n 0, 1) := by decide +kernel
theorem dX11_heardBy_13 : decode cX11_heardBy 13 = .ok (.iload_n 3, 1) := by decide +kernel
theorem dX11_heardBy_14 : decode cX11_heardBy 14 = .ok (.invokevirtual 152, 3) := by decide +kernel
theorem dX11_heardBy_17 : decode cX11_heardBy 17 = .ok (.astore 4, 2) := by decide +kernel
theorem dX11_heardBy_19 : decode cX11_heardBy 19 = .ok (.aload 4, 2) := by decide +kernel
theorem dX11_heardBy_21 : decode cX11_heardBy 21 = .ok (.ifnull 19, 3) := by decide +kernel
theorem dX11_heardBy_24 : decode cX11_heardBy 24 = .ok (.aload_n 0, 1) := by decide +kernel
theorem dX11_heardBy_25 : decode cX11_heardBy 25 = .ok (.aload_n 1, 1) := by decide +kernel
theorem dX11_heardBy_26 : decode cX11_heardBy 26 = .ok (.aload 4, 2) := by decide +kernel
theorem dX11_heardBy_28 : decode cX11_heardBy 28 = .ok (.invokevirtual 381, 3) := by decide +kernel
theorem dX11_heardBy_31 : decode cX11_heardBy 31 = .ok (.ifCond .eq 9, 3) := by decide +kernel
theorem dX11_heardBy_34 : decode cX11_heardBy 34 = .ok (.iload_n 2, 1) := by decide +kernel
theorem dX11_heardBy_35 : decode cX11_heardBy 35 = .ok (.iconst 1, 1) := by decide +kernel
theorem dX11_heardBy_36 : decode cX11_heardBy 36 = .ok (.iload_n 3, 1) := by decide +kernel
theorem dX11_heardBy_37 : decode cX11_heardBy 37 = .ok (.ishl, 1) := by decide +kernel
theorem dX11_heardBy_38 : decode cX11_heardBy 38 = .ok (.ior, 1) := by decide +kernel
theorem dX11_heardBy_39 : decode cX11_heardBy 39 = .ok (.istore_n 2, 1) := by decide +kernel
theorem dX11_heardBy_40 : decode cX11_heardBy 40 = .ok (.iinc 3 1, 3) := by decide +kernel
theorem dX11_heardBy_43 : decode cX11_heardBy 43 = .ok (.goto (-39), 3) := by decide +kernel
theorem dX11_heardBy_46 : decode cX11_heardBy 46 = .ok (.iload_n 2, 1) := by decide +kernel
theorem dX11_heardBy_47 : decode cX11_heardBy 47 = .ok (.ireturn, 1) := by decide +kernel
theorem dX11_ownMight_0 : decode cX11_ownMight 0 = .ok (.aload_n 2, 1) := by decide +kernel
theorem dX11_ownMight_1 : decode cX11_ownMight 1 = .ok (.ifnonnull 7, 3) := by decide +kernel
theorem dX11_ownMight_4 : decode cX11_ownMight 4 = .ok (.iconst 0, 1) := by decide +kernel
theorem dX11_ownMight_5 : decode cX11_ownMight 5 = .ok (.goto 20, 3) := by decide +kernel
theorem dX11_ownMight_8 : decode cX11_ownMight 8 = .ok (.aload_n 2, 1) := by decide +kernel
theorem dX11_ownMight_9 : decode cX11_ownMight 9 = .ok (.aload_n 1, 1) := by decide +kernel
theorem dX11_ownMight_10 : decode cX11_ownMight 10 = .ok (.aload_n 1, 1) := by decide +kernel
theorem dX11_ownMight_11 : decode cX11_ownMight 11 = .ok (.iconst 0, 1) := by decide +kernel
theorem dX11_ownMight_12 : decode cX11_ownMight 12 = .ok (.invokevirtual 184, 3) := by decide +kernel
theorem dX11_ownMight_15 : decode cX11_ownMight 15 = .ok (.aload_n 2, 1) := by decide +kernel
theorem dX11_ownMight_16 : decode cX11_ownMight 16 = .ok (.invokevirtual 384, 3) := by decide +kernel
theorem dX11_ownMight_19 : decode cX11_ownMight 19 = .ok (.iconst 1, 1) := by decide +kernel
theorem dX11_ownMight_20 : decode cX11_ownMight 20 = .ok (.iadd, 1) := by decide +kernel
theorem dX11_ownMight_21 : decode cX11_ownMight 21 = .ok (.imul, 1) := by decide +kernel
theorem dX11_ownMight_22 : decode cX11_ownMight 22 = .ok (.invokevirtual 387, 3) := by decide +kernel
theorem dX11_ownMight_25 : decode cX11_ownMight 25 = .ok (.ireturn, 1) := by decide +kernel
theorem dX11_catchMight_0 : decode cX11_catchMight 0 = .ok (.aload_n 0, 1) := by decide +kernel
theorem dX11_catchMight_1 : decode cX11_catchMight 1 = .ok (.aload_n 2, 1) := by decide +kernel
theorem dX11_catchMight_2 : decode cX11_catchMight 2 = .ok (.aload_n 3, 1) := by decide +kernel
theorem dX11_catchMight_3 : decode cX11_catchMight 3 = .ok (.invokevirtual 377, 3) := by decide +kernel
theorem dX11_catchMight_6 : decode cX11_catchMight 6 = .ok (.ifCond .eq 11, 3) := by decide +kernel
theorem dX11_catchMight_9 : decode cX11_catchMight 9 = .ok (.aload_n 1, 1) := by decide +kernel
theorem dX11_catchMight_10 : decode cX11_catchMight 10 = .ok (.iconst 1, 1) := by decide +kernel
theorem dX11_catchMight_11 : decode cX11_catchMight 11 = .ok (.invokevirtual 184, 3) := by decide +kernel
theorem dX11_catchMight_14 : decode cX11_catchMight 14 = .ok (.goto 10, 3) := by decide +kernel
theorem dX11_catchMight_17 : decode cX11_catchMight 17 = .ok (.aload_n 0, 1) := by decide +kernel
theorem dX11_catchMight_18 : decode cX11_catchMight 18 = .ok (.aload_n 1, 1) := by decide +kernel
theorem dX11_catchMight_19 : decode cX11_catchMight 19 = .ok (.aload_n 2, 1) := by decide +kernel
theorem dX11_catchMight_20 : decode cX11_catchMight 20 = .ok (.aload_n 3, 1) := by decide +kernel
theorem dX11_catchMight_21 : decode cX11_catchMight 21 = .ok (.invokevirtual 390, 3) := by decide +kernel
theorem dX11_catchMight_24 : decode cX11_catchMight 24 = .ok (.istore 4, 2) := by decide +kernel
theorem dX11_catchMight_26 : decode cX11_catchMight 26 = .ok (.aload_n 1, 1) := by decide +kernel
theorem dX11_catchMight_27 : decode cX11_catchMight 27 = .ok (.aload_n 2, 1) := by decide +kernel
theorem dX11_catchMight_28 : decode cX11_catchMight 28 = .ok (.aload_n 3, 1) := by decide +kernel
theorem dX11_catchMight_29 : decode cX11_catchMight 29 = .ok (.iload 4, 2) := by decide +kernel
theorem dX11_catchMight_31 : decode cX11_catchMight 31 = .ok (.invokestatic 393, 3) := by decide +kernel
theorem dX11_catchMight_34 : decode cX11_catchMight 34 = .ok (.ireturn, 1) := by decide +kernel
theorem dX11_unseenStrength_0 : decode cX11_unseenStrength 0 = .ok (.aload_n 0, 1) := by decide +kernel
theorem dX11_unseenStrength_1 : decode cX11_unseenStrength 1 = .ok (.aload_n 2, 1) := by decide +kernel
theorem dX11_unseenStrength_2 : decode cX11_unseenStrength 2 = .ok (.aload_n 3, 1) := by decide +kernel
theorem dX11_unseenStrength_3 : decode cX11_unseenStrength 3 = .ok (.invokevirtual 381, 3) := by decide +kernel
theorem dX11_unseenStrength_6 : decode cX11_unseenStrength 6 = .ok (.ifCond .eq 11, 3) := by decide +kernel
theorem dX11_unseenStrength_9 : decode cX11_unseenStrength 9 = .ok (.aload_n 1, 1) := by decide +kernel
theorem dX11_unseenStrength_10 : decode cX11_unseenStrength 10 = .ok (.iconst 2, 1) := by decide +kernel
theorem dX11_unseenStrength_11 : decode cX11_unseenStrength 11 = .ok (.invokevirtual 184, 3) := by decide +kernel
theorem dX11_unseenStrength_14 : decode cX11_unseenStrength 14 = .ok (.goto 4, 3) := by decide +kernel
theorem dX11_unseenStrength_17 : decode cX11_unseenStrength 17 = .ok (.iconst 0, 1) := by decide +kernel
theorem dX11_unseenStrength_18 : decode cX11_unseenStrength 18 = .ok (.ireturn, 1) := by decide +kernel
theorem dX11_filmMight_0 : decode cX11_filmMight 0 = .ok (.aload_n 0, 1) := by decide +kernel
theorem dX11_filmMight_1 : decode cX11_filmMight 1 = .ok (.aload_n 1, 1) := by decide +kernel
theorem dX11_filmMight_2 : decode cX11_filmMight 2 = .ok (.aload_n 2, 1) := by decide +kernel
theorem dX11_filmMight_3 : decode cX11_filmMight 3 = .ok (.aload_n 0, 1) := by decide +kernel
theorem dX11_filmMight_4 : decode cX11_filmMight 4 = .ok (.iconst 1, 1) := by decide +kernel
theorem dX11_filmMight_5 : decode cX11_filmMight 5 = .ok (.invokevirtual 184, 3) := by decide +kernel
theorem dX11_filmMight_8 : decode cX11_filmMight 8 = .ok (.invokestatic 393, 3) := by decide +kernel
theorem dX11_filmMight_11 : decode cX11_filmMight 11 = .ok (.ireturn, 1) := by decide +kernel
theorem dX11_takenMight_0 : decode cX11_takenMight 0 = .ok (.aload_n 1, 1) := by decide +kernel
theorem dX11_takenMight_1 : decode cX11_takenMight 1 = .ok (.getfield 163, 3) := by decide +kernel
theorem dX11_takenMight_4 : decode cX11_takenMight 4 = .ok (.aload_n 2, 1) := by decide +kernel
theorem dX11_takenMight_5 : decode cX11_takenMight 5 = .ok (.getfield 163, 3) := by decide +kernel
theorem dX11_takenMight_8 : decode cX11_takenMight 8 = .ok (.if_icmp .ne 7, 3) := by decide +kernel
theorem dX11_takenMight_11 : decode cX11_takenMight 11 = .ok (.iconst 1, 1) := by decide +kernel
theorem dX11_takenMight_12 : decode cX11_takenMight 12 = .ok (.goto 4, 3) := by decide +kernel
theorem dX11_takenMight_15 : decode cX11_takenMight 15 = .ok (.iconst 0, 1) := by decide +kernel
theorem dX11_takenMight_16 : decode cX11_takenMight 16 = .ok (.istore 4, 2) := by decide +kernel
theorem dX11_takenMight_18 : decode cX11_takenMight 18 = .ok (.aload_n 1, 1) := by decide +kernel
theorem dX11_takenMight_19 : decode cX11_takenMight 19 = .ok (.aload_n 0, 1) := by decide +kernel
theorem dX11_takenMight_20 : decode cX11_takenMight 20 = .ok (.iload 4, 2) := by decide +kernel
theorem dX11_takenMight_22 : decode cX11_takenMight 22 = .ok (.ifCond .eq 13, 3) := by decide +kernel
theorem dX11_takenMight_25 : decode cX11_takenMight 25 = .ok (.iload_n 3, 1) := by decide +kernel
theorem dX11_takenMight_26 : decode cX11_takenMight 26 = .ok (.aload_n 0, 1) := by decide +kernel
theorem dX11_takenMight_27 : decode cX11_takenMight 27 = .ok (.iconst 3, 1) := by decide +kernel
theorem dX11_takenMight_28 : decode cX11_takenMight 28 = .ok (.invokevirtual 184, 3) := by decide +kernel
theorem dX11_takenMight_31 : decode cX11_takenMight 31 = .ok (.imul, 1) := by decide +kernel
theorem dX11_takenMight_32 : decode cX11_takenMight 32 = .ok (.goto 4, 3) := by decide +kernel
theorem dX11_takenMight_35 : decode cX11_takenMight 35 = .ok (.iload_n 3, 1) := by decide +kernel
theorem dX11_takenMight_36 : decode cX11_takenMight 36 = .ok (.iload 4, 2) := by decide +kernel
theorem dX11_takenMight_38 : decode cX11_takenMight 38 = .ok (.invokevirtual 397, 3) := by decide +kernel
theorem dX11_takenMight_41 : decode cX11_takenMight 41 = .ok (.ireturn, 1) := by decide +kernel
theorem dX11_weighedLaw_0 : decode cX11_weighedLaw 0 = .ok (.aload_n 0, 1) := by decide +kernel
theorem dX11_weighedLaw_1 : decode cX11_weighedLaw 1 = .ok (.iload_n 1, 1) := by decide +kernel
theorem dX11_weighedLaw_2 : decode cX11_weighedLaw 2 = .ok (.invokevirtual 180, 3) := by decide +kernel
theorem dX11_weighedLaw_5 : decode cX11_weighedLaw 5 = .ok (.astore_n 2, 1) := by decide +kernel
theorem dX11_weighedLaw_6 : decode cX11_weighedLaw 6 = .ok (.aload_n 2, 1) := by decide +kernel
theorem dX11_weighedLaw_7 : decode cX11_weighedLaw 7 = .ok (.ifnonnull 5, 3) := by decide +kernel
theorem dX11_weighedLaw_10 : decode cX11_weighedLaw 10 = .ok (.aconst_null, 1) := by decide +kernel
theorem dX11_weighedLaw_11 : decode cX11_weighedLaw 11 = .ok (.areturn, 1) := by decide +kernel
theorem dX11_weighedLaw_12 : decode cX11_weighedLaw 12 = .ok (.iconst 0, 1) := by decide +kernel
theorem dX11_weighedLaw_13 : decode cX11_weighedLaw 13 = .ok (.istore_n 3, 1) := by decide +kernel
theorem dX11_weighedLaw_14 : decode cX11_weighedLaw 14 = .ok (.iload_n 3, 1) := by decide +kernel
theorem dX11_weighedLaw_15 : decode cX11_weighedLaw 15 = .ok (.aload_n 0, 1) := by decide +kernel
theorem dX11_weighedLaw_16 : decode cX11_weighedLaw 16 = .ok (.getfield 98, 3) := by decide +kernel
theorem dX11_weighedLaw_19 : decode cX11_weighedLaw 19 = .ok (.if_icmp .ge 119, 3) := by decide +kernel
theorem dX11_weighedLaw_22 : decode cX11_weighedLaw 22 = .ok (.iload_n 3, 1) := by decide +kernel
theorem dX11_weighedLaw_23 : decode cX11_weighedLaw 23 = .ok (.aload_n 0, 1) := by decide +kernel
theorem dX11_weighedLaw_24 : decode cX11_weighedLaw 24 = .ok (.getfield 64, 3) := by decide +kernel
theorem dX11_weighedLaw_27 : decode cX11_weighedLaw 27 = .ok (.arraylength, 1) := by decide +kernel
theorem dX11_weighedLaw_28 : decode cX11_weighedLaw 28 = .ok (.if_icmp .ge 110, 3) := by decide +kernel
theorem dX11_weighedLaw_31 : decode cX11_weighedLaw 31 = .ok (.aload_n 0, 1) := by decide +kernel
theorem dX11_weighedLaw_32 : decode cX11_weighedLaw 32 = .ok (.iload_n 3, 1) := by decide +kernel
theorem dX11_weighedLaw_33 : decode cX11_weighedLaw 33 = .ok (.invokevirtual 152, 3) := by decide +kernel
theorem dX11_weighedLaw_36 : decode cX11_weighedLaw 36 = .ok (.astore 4, 2) := by decide +kernel
theorem dX11_weighedLaw_38 : decode cX11_weighedLaw 38 = .ok (.aload_n 0, 1) := by decide +kernel
theorem dX11_weighedLaw_39 : decode cX11_weighedLaw 39 = .ok (.getfield 64, 3) := by decide +kernel
theorem dX11_weighedLaw_42 : decode cX11_weighedLaw 42 = .ok (.iload_n 3, 1) := by decide +kernel
theorem dX11_weighedLaw_43 : decode cX11_weighedLaw 43 = .ok (.aload_n 0, 1) := by decide +kernel
theorem dX11_weighedLaw_44 : decode cX11_weighedLaw 44 = .ok (.aload_n 2, 1) := by decide +kernel
theorem dX11_weighedLaw_45 : decode cX11_weighedLaw 45 = .ok (.aload 4, 2) := by decide +kernel
theorem dX11_weighedLaw_47 : decode cX11_weighedLaw 47 = .ok (.invokevirtual 187, 3) := by decide +kernel
theorem dX11_weighedLaw_50 : decode cX11_weighedLaw 50 = .ok (.iastore, 1) := by decide +kernel
theorem dX11_weighedLaw_51 : decode cX11_weighedLaw 51 = .ok (.iconst 0, 1) := by decide +kernel
theorem dX11_weighedLaw_52 : decode cX11_weighedLaw 52 = .ok (.istore 5, 2) := by decide +kernel
theorem dX11_weighedLaw_54 : decode cX11_weighedLaw 54 = .ok (.iload 5, 2) := by decide +kernel
theorem dX11_weighedLaw_56 : decode cX11_weighedLaw 56 = .ok (.aload_n 0, 1) := by decide +kernel
theorem dX11_weighedLaw_57 : decode cX11_weighedLaw 57 = .ok (.getfield 98, 3) := by decide +kernel
theorem dX11_weighedLaw_60 : decode cX11_weighedLaw 60 = .ok (.if_icmp .ge 72, 3) := by decide +kernel
theorem dX11_weighedLaw_63 : decode cX11_weighedLaw 63 = .ok (.aload_n 0, 1) := by decide +kernel
theorem dX11_weighedLaw_64 : decode cX11_weighedLaw 64 = .ok (.iload 5, 2) := by decide +kernel
theorem dX11_weighedLaw_66 : decode cX11_weighedLaw 66 = .ok (.invokevirtual 152, 3) := by decide +kernel
theorem dX11_weighedLaw_69 : decode cX11_weighedLaw 69 = .ok (.astore 6, 2) := by decide +kernel
theorem dX11_weighedLaw_71 : decode cX11_weighedLaw 71 = .ok (.iload_n 3, 1) := by decide +kernel
theorem dX11_weighedLaw_72 : decode cX11_weighedLaw 72 = .ok (.bipush 12, 2) := by decide +kernel
theorem dX11_weighedLaw_74 : decode cX11_weighedLaw 74 = .ok (.imul, 1) := by decide +kernel
theorem dX11_weighedLaw_75 : decode cX11_weighedLaw 75 = .ok (.iload 5, 2) := by decide +kernel
theorem dX11_weighedLaw_77 : decode cX11_weighedLaw 77 = .ok (.iadd, 1) := by decide +kernel
theorem dX11_weighedLaw_78 : decode cX11_weighedLaw 78 = .ok (.istore 7, 2) := by decide +kernel
theorem dX11_weighedLaw_80 : decode cX11_weighedLaw 80 = .ok (.aload 4, 2) := by decide +kernel
theorem dX11_weighedLaw_82 : decode cX11_weighedLaw 82 = .ok (.ifnull 44, 3) := by decide +kernel
theorem dX11_weighedLaw_85 : decode cX11_weighedLaw 85 = .ok (.aload 6, 2) := by decide +kernel
theorem dX11_weighedLaw_87 : decode cX11_weighedLaw 87 = .ok (.ifnull 39, 3) := by decide +kernel
theorem dX11_weighedLaw_90 : decode cX11_weighedLaw 90 = .ok (.iload 7, 2) := by decide +kernel
theorem dX11_weighedLaw_92 : decode cX11_weighedLaw 92 = .ok (.aload_n 0, 1) := by decide +kernel
theorem dX11_weighedLaw_93 : decode cX11_weighedLaw 93 = .ok (.getfield 68, 3) := by decide +kernel
theorem dX11_weighedLaw_96 : decode cX11_weighedLaw 96 = .ok (.arraylength, 1) := by decide +kernel
theorem dX11_weighedLaw_97 : decode cX11_weighedLaw 97 = .ok (.if_icmp .ge 29, 3) := by decide +kernel
theorem dX11_weighedLaw_100 : decode cX11_weighedLaw 100 = .ok (.aload_n 0, 1) := by decide +kernel
theorem dX11_weighedLaw_101 : decode cX11_weighedLaw 101 = .ok (.getfield 68, 3) := by decide +kernel
theorem dX11_weighedLaw_104 : decode cX11_weighedLaw 104 = .ok (.iload 7, 2) := by decide +kernel
theorem dX11_weighedLaw_106 : decode cX11_weighedLaw 106 = .ok (.iload_n 3, 1) := by decide +kernel
theorem dX11_weighedLaw_107 : decode cX11_weighedLaw 107 = .ok (.iload 5, 2) := by decide +kernel
theorem dX11_weighedLaw_109 : decode cX11_weighedLaw 109 = .ok (.if_icmp .ne 7, 3) := by decide +kernel
theorem dX11_weighedLaw_112 : decode cX11_weighedLaw 112 = .ok (.iconst 0, 1) := by decide +kernel
theorem dX11_weighedLaw_113 : decode cX11_weighedLaw 113 = .ok (.goto 12, 3) := by decide +kernel
theorem dX11_weighedLaw_116 : decode cX11_weighedLaw 116 = .ok (.aload_n 0, 1) := by decide +kernel
theorem dX11_weighedLaw_117 : decode cX11_weighedLaw 117 = .ok (.aload_n 2, 1) := by decide +kernel
theorem dX11_weighedLaw_118 : decode cX11_weighedLaw 118 = .ok (.aload 4, 2) := by decide +kernel
theorem dX11_weighedLaw_120 : decode cX11_weighedLaw 120 = .ok (.aload 6, 2) := by decide +kernel
theorem dX11_weighedLaw_122 : decode cX11_weighedLaw 122 = .ok (.invokevirtual 191, 3) := by decide +kernel
theorem dX11_weighedLaw_125 : decode cX11_weighedLaw 125 = .ok (.iastore, 1) := by decide +kernel
theorem dX11_weighedLaw_126 : decode cX11_weighedLaw 126 = .ok (.iinc 5 1, 3) := by decide +kernel
theorem dX11_weighedLaw_129 : decode cX11_weighedLaw 129 = .ok (.goto (-75), 3) := by decide +kernel
theorem dX11_weighedLaw_132 : decode cX11_weighedLaw 132 = .ok (.iinc 3 1, 3) := by decide +kernel
theorem dX11_weighedLaw_135 : decode cX11_weighedLaw 135 = .ok (.goto (-121), 3) := by decide +kernel
theorem dX11_weighedLaw_138 : decode cX11_weighedLaw 138 = .ok (.aload_n 2, 1) := by decide +kernel
theorem dX11_weighedLaw_139 : decode cX11_weighedLaw 139 = .ok (.areturn, 1) := by decide +kernel
theorem dX11_weighedOwn_0 : decode cX11_weighedOwn 0 = .ok (.iload_n 1, 1) := by decide +kernel
theorem dX11_weighedOwn_1 : decode cX11_weighedOwn 1 = .ok (.ifCond .lt 21, 3) := by decide +kernel
theorem dX11_weighedOwn_4 : decode cX11_weighedOwn 4 = .ok (.iload_n 1, 1) := by decide +kernel
theorem dX11_weighedOwn_5 : decode cX11_weighedOwn 5 = .ok (.aload_n 0, 1) := by decide +kernel
theorem dX11_weighedOwn_6 : decode cX11_weighedOwn 6 = .ok (.getfield 64, 3) := by decide +kernel
theorem dX11_weighedOwn_9 : decode cX11_weighedOwn 9 = .ok (.arraylength, 1) := by decide +kernel
theorem dX11_weighedOwn_10 : decode cX11_weighedOwn 10 = .ok (.if_icmp .ge 12, 3) := by decide +kernel
theorem dX11_weighedOwn_13 : decode cX11_weighedOwn 13 = .ok (.aload_n 0, 1) := by decide +kernel
theorem dX11_weighedOwn_14 : decode cX11_weighedOwn 14 = .ok (.getfield 64, 3) := by decide +kernel
theorem dX11_weighedOwn_17 : decode cX11_weighedOwn 17 = .ok (.iload_n 1, 1) := by decide +kernel
theorem dX11_weighedOwn_18 : decode cX11_weighedOwn 18 = .ok (.iaload, 1) := by decide +kernel
theorem dX11_weighedOwn_19 : decode cX11_weighedOwn 19 = .ok (.goto 4, 3) := by decide +kernel
theorem dX11_weighedOwn_22 : decode cX11_weighedOwn 22 = .ok (.iconst 0, 1) := by decide +kernel
theorem dX11_weighedOwn_23 : decode cX11_weighedOwn 23 = .ok (.ireturn, 1) := by decide +kernel
theorem dX11_weighed_0 : decode cX11_weighed 0 = .ok (.iload_n 1, 1) := by decide +kernel
theorem dX11_weighed_1 : decode cX11_weighed 1 = .ok (.bipush 12, 2) := by decide +kernel
theorem dX11_weighed_3 : decode cX11_weighed 3 = .ok (.imul, 1) := by decide +kernel
theorem dX11_weighed_4 : decode cX11_weighed 4 = .ok (.iload_n 2, 1) := by decide +kernel
theorem dX11_weighed_5 : decode cX11_weighed 5 = .ok (.iadd, 1) := by decide +kernel
theorem dX11_weighed_6 : decode cX11_weighed 6 = .ok (.istore_n 3, 1) := by decide +kernel
theorem dX11_weighed_7 : decode cX11_weighed 7 = .ok (.iload_n 3, 1) := by decide +kernel
theorem dX11_weighed_8 : decode cX11_weighed 8 = .ok (.ifCond .lt 21, 3) := by decide +kernel
theorem dX11_weighed_11 : decode cX11_weighed 11 = .ok (.iload_n 3, 1) := by decide +kernel
theorem dX11_weighed_12 : decode cX11_weighed 12 = .ok (.aload_n 0, 1) := by decide +kernel
theorem dX11_weighed_13 : decode cX11_weighed 13 = .ok (.getfield 68, 3) := by decide +kernel
theorem dX11_weighed_16 : decode cX11_weighed 16 = .ok (.arraylength, 1) := by decide +kernel
theorem dX11_weighed_17 : decode cX11_weighed 17 = .ok (.if_icmp .ge 12, 3) := by decide +kernel
theorem dX11_weighed_20 : decode cX11_weighed 20 = .ok (.aload_n 0, 1) := by decide +kernel
theorem dX11_weighed_21 : decode cX11_weighed 21 = .ok (.getfield 68, 3) := by decide +kernel
theorem dX11_weighed_24 : decode cX11_weighed 24 = .ok (.iload_n 3, 1) := by decide +kernel
theorem dX11_weighed_25 : decode cX11_weighed 25 = .ok (.iaload, 1) := by decide +kernel
theorem dX11_weighed_26 : decode cX11_weighed 26 = .ok (.goto 4, 3) := by decide +kernel
theorem dX11_weighed_29 : decode cX11_weighed 29 = .ok (.iconst 0, 1) := by decide +kernel
theorem dX11_weighed_30 : decode cX11_weighed 30 = .ok (.ireturn, 1) := by decide +kernel
theorem dX11_mightFromYawn_0 : decode cX11_mightFromYawn 0 = .ok (.iload_n 3, 1) := by decide +kernel
theorem dX11_mightFromYawn_1 : decode cX11_mightFromYawn 1 = .ok (.aload_n 0, 1) := by decide +kernel
theorem dX11_mightFromYawn_2 : decode cX11_mightFromYawn 2 = .ok (.getfield 53, 3) := by decide +kernel
theorem dX11_mightFromYawn_5 : decode cX11_mightFromYawn 5 = .ok (.iload 4, 2) := by decide +kernel
theorem dX11_mightFromYawn_7 : decode cX11_mightFromYawn 7 = .ok (.invokevirtual 211, 3) := by decide +kernel
theorem dX11_mightFromYawn_10 : decode cX11_mightFromYawn 10 = .ok (.isub, 1) := by decide +kernel
theorem dX11_mightFromYawn_11 : decode cX11_mightFromYawn 11 = .ok (.istore 5, 2) := by decide +kernel
theorem dX11_mightFromYawn_13 : decode cX11_mightFromYawn 13 = .ok (.aload_n 1, 1) := by decide +kernel
theorem dX11_mightFromYawn_14 : decode cX11_mightFromYawn 14 = .ok (.iload 5, 2) := by decide +kernel
theorem dX11_mightFromYawn_16 : decode cX11_mightFromYawn 16 = .ok (.invokevirtual 401, 3) := by decide +kernel
theorem dX11_mightFromYawn_19 : decode cX11_mightFromYawn 19 = .ok (.ifCond .eq 20, 3) := by decide +kernel
theorem dX11_mightFromYawn_22 : decode cX11_mightFromYawn 22 = .ok (.aload_n 0, 1) := by decide +kernel
theorem dX11_mightFromYawn_23 : decode cX11_mightFromYawn 23 = .ok (.iload_n 2, 1) := by decide +kernel
theorem dX11_mightFromYawn_24 : decode cX11_mightFromYawn 24 = .ok (.aload_n 0, 1) := by decide +kernel
theorem dX11_mightFromYawn_25 : decode cX11_mightFromYawn 25 = .ok (.getfield 53, 3) := by decide +kernel
theorem dX11_mightFromYawn_28 : decode cX11_mightFromYawn 28 = .ok (.iload 4, 2) := by decide +kernel
theorem dX11_mightFromYawn_30 : decode cX11_mightFromYawn 30 = .ok (.invokevirtual 214, 3) := by decide +kernel
theorem dX11_mightFromYawn_33 : decode cX11_mightFromYawn 33 = .ok (.invokevirtual 404, 3) := by decide +kernel
theorem dX11_mightFromYawn_36 : decode cX11_mightFromYawn 36 = .ok (.goto 4, 3) := by decide +kernel
theorem dX11_mightFromYawn_39 : decode cX11_mightFromYawn 39 = .ok (.iconst 0, 1) := by decide +kernel
theorem dX11_mightFromYawn_40 : decode cX11_mightFromYawn 40 = .ok (.ireturn, 1) := by decide +kernel
theorem dX11_sourceMight_0 : decode cX11_sourceMight 0 = .ok (.aload_n 0, 1) := by decide +kernel
theorem dX11_sourceMight_1 : decode cX11_sourceMight 1 = .ok (.aload_n 1, 1) := by decide +kernel
theorem dX11_sourceMight_2 : decode cX11_sourceMight 2 = .ok (.aload_n 0, 1) := by decide +kernel
theorem dX11_sourceMight_3 : decode cX11_sourceMight 3 = .ok (.getfield 53, 3) := by decide +kernel
theorem dX11_sourceMight_6 : decode cX11_sourceMight 6 = .ok (.iload_n 2, 1) := by decide +kernel
theorem dX11_sourceMight_7 : decode cX11_sourceMight 7 = .ok (.invokevirtual 214, 3) := by decide +kernel
theorem dX11_sourceMight_10 : decode cX11_sourceMight 10 = .ok (.aload_n 0, 1) := by decide +kernel
theorem dX11_sourceMight_11 : decode cX11_sourceMight 11 = .ok (.getfield 53, 3) := by decide +kernel
theorem dX11_sourceMight_14 : decode cX11_sourceMight 14 = .ok (.iload_n 2, 1) := by decide +kernel
theorem dX11_sourceMight_15 : decode cX11_sourceMight 15 = .ok (.invokevirtual 211, 3) := by decide +kernel
theorem dX11_sourceMight_18 : decode cX11_sourceMight 18 = .ok (.iload_n 3, 1) := by decide +kernel
theorem dX11_sourceMight_19 : decode cX11_sourceMight 19 = .ok (.invokevirtual 407, 3) := by decide +kernel
theorem dX11_sourceMight_22 : decode cX11_sourceMight 22 = .ok (.ireturn, 1) := by decide +kernel
theorem dX11_mightAt_0 : decode cX11_mightAt 0 = .ok (.aload_n 0, 1) := by decide +kernel
theorem dX11_mightAt_1 : decode cX11_mightAt 1 = .ok (.iload_n 2, 1) := by decide +kernel
theorem dX11_mightAt_2 : decode cX11_mightAt 2 = .ok (.invokevirtual 230, 3) := by decide +kernel
theorem dX11_mightAt_5 : decode cX11_mightAt 5 = .ok (.istore 4, 2) := by decide +kernel
theorem dX11_mightAt_7 : decode cX11_mightAt 7 = .ok (.iconst 0, 1) := by decide +kernel
theorem dX11_mightAt_8 : decode cX11_mightAt 8 = .ok (.istore 5, 2) := by decide +kernel
theorem dX11_mightAt_10 : decode cX11_mightAt 10 = .ok (.iload 5, 2) := by decide +kernel
theorem dX11_mightAt_12 : decode cX11_mightAt 12 = .ok (.aload_n 0, 1) := by decide +kernel
theorem dX11_mightAt_13 : decode cX11_mightAt 13 = .ok (.getfield 53, 3) := by decide +kernel
theorem dX11_mightAt_16 : decode cX11_mightAt 16 = .ok (.getfield 195, 3) := by decide +kernel
theorem dX11_mightAt_19 : decode cX11_mightAt 19 = .ok (.if_icmp .ge 23, 3) := by decide +kernel
theorem dX11_mightAt_22 : decode cX11_mightAt 22 = .ok (.iload 4, 2) := by decide +kernel
theorem dX11_mightAt_24 : decode cX11_mightAt 24 = .ok (.aload_n 0, 1) := by decide +kernel
theorem dX11_mightAt_25 : decode cX11_mightAt 25 = .ok (.aload_n 1, 1) := by decide +kernel
theorem dX11_mightAt_26 : decode cX11_mightAt 26 = .ok (.iload_n 2, 1) := by decide +kernel
theorem dX11_mightAt_27 : decode cX11_mightAt 27 = .ok (.iload_n 3, 1) := by decide +kernel
theorem dX11_mightAt_28 : decode cX11_mightAt 28 = .ok (.iload 5, 2) := by decide +kernel
theorem dX11_mightAt_30 : decode cX11_mightAt 30 = .ok (.invokevirtual 407, 3) := by decide +kernel
theorem dX11_mightAt_33 : decode cX11_mightAt 33 = .ok (.iadd, 1) := by decide +kernel
theorem dX11_mightAt_34 : decode cX11_mightAt 34 = .ok (.istore 4, 2) := by decide +kernel
theorem dX11_mightAt_36 : decode cX11_mightAt 36 = .ok (.iinc 5 1, 3) := by decide +kernel
theorem dX11_mightAt_39 : decode cX11_mightAt 39 = .ok (.goto (-29), 3) := by decide +kernel
theorem dX11_mightAt_42 : decode cX11_mightAt 42 = .ok (.iload 4, 2) := by decide +kernel
theorem dX11_mightAt_44 : decode cX11_mightAt 44 = .ok (.ireturn, 1) := by decide +kernel
theorem dX11_wholeMight_0 : decode cX11_wholeMight 0 = .ok (.aload_n 0, 1) := by decide +kernel
theorem dX11_wholeMight_1 : decode cX11_wholeMight 1 = .ok (.aload_n 1, 1) := by decide +kernel
theorem dX11_wholeMight_2 : decode cX11_wholeMight 2 = .ok (.aload_n 0, 1) := by decide +kernel
theorem dX11_wholeMight_3 : decode cX11_wholeMight 3 = .ok (.getfield 53, 3) := by decide +kernel
theorem dX11_wholeMight_6 : decode cX11_wholeMight 6 = .ok (.iload_n 2, 1) := by decide +kernel
theorem dX11_wholeMight_7 : decode cX11_wholeMight 7 = .ok (.invokevirtual 214, 3) := by decide +kernel
theorem dX11_wholeMight_10 : decode cX11_wholeMight 10 = .ok (.aload_n 0, 1) := by decide +kernel
theorem dX11_wholeMight_11 : decode cX11_wholeMight 11 = .ok (.getfield 53, 3) := by decide +kernel
theorem dX11_wholeMight_14 : decode cX11_wholeMight 14 = .ok (.iload_n 2, 1) := by decide +kernel
theorem dX11_wholeMight_15 : decode cX11_wholeMight 15 = .ok (.invokevirtual 211, 3) := by decide +kernel
theorem dX11_wholeMight_18 : decode cX11_wholeMight 18 = .ok (.invokevirtual 411, 3) := by decide +kernel
theorem dX11_wholeMight_21 : decode cX11_wholeMight 21 = .ok (.ireturn, 1) := by decide +kernel
theorem dX11_sourceCount_0 : decode cX11_sourceCount 0 = .ok (.aload_n 0, 1) := by decide +kernel
theorem dX11_sourceCount_1 : decode cX11_sourceCount 1 = .ok (.aload_n 0, 1) := by decide +kernel
theorem dX11_sourceCount_2 : decode cX11_sourceCount 2 = .ok (.getfield 53, 3) := by decide +kernel
theorem dX11_sourceCount_5 : decode cX11_sourceCount 5 = .ok (.iload_n 2, 1) := by decide +kernel
theorem dX11_sourceCount_6 : decode cX11_sourceCount 6 = .ok (.invokevirtual 214, 3) := by decide +kernel
theorem dX11_sourceCount_9 : decode cX11_sourceCount 9 = .ok (.invokevirtual 230, 3) := by decide +kernel
theorem dX11_sourceCount_12 : decode cX11_sourceCount 12 = .ok (.ifCond .le 7, 3) := by decide +kernel
theorem dX11_sourceCount_15 : decode cX11_sourceCount 15 = .ok (.iconst 1, 1) := by decide +kernel
theorem dX11_sourceCount_16 : decode cX11_sourceCount 16 = .ok (.goto 4, 3) := by decide +kernel
theorem dX11_sourceCount_19 : decode cX11_sourceCount 19 = .ok (.iconst 0, 1) := by decide +kernel
theorem dX11_sourceCount_20 : decode cX11_sourceCount 20 = .ok (.istore_n 3, 1) := by decide +kernel
theorem dX11_sourceCount_21 : decode cX11_sourceCount 21 = .ok (.iconst 0, 1) := by decide +kernel
theorem dX11_sourceCount_22 : decode cX11_sourceCount 22 = .ok (.istore 4, 2) := by decide +kernel
theorem dX11_sourceCount_24 : decode cX11_sourceCount 24 = .ok (.iload 4, 2) := by decide +kernel
theorem dX11_sourceCount_26 : decode cX11_sourceCount 26 = .ok (.aload_n 0, 1) := by decide +kernel
theorem dX11_sourceCount_27 : decode cX11_sourceCount 27 = .ok (.getfield 53, 3) := by decide +kernel
theorem dX11_sourceCount_30 : decode cX11_sourceCount 30 = .ok (.getfield 195, 3) := by decide +kernel
theorem dX11_sourceCount_33 : decode cX11_sourceCount 33 = .ok (.if_icmp .ge 23, 3) := by decide +kernel
theorem dX11_sourceCount_36 : decode cX11_sourceCount 36 = .ok (.aload_n 0, 1) := by decide +kernel
theorem dX11_sourceCount_37 : decode cX11_sourceCount 37 = .ok (.aload_n 1, 1) := by decide +kernel
theorem dX11_sourceCount_38 : decode cX11_sourceCount 38 = .ok (.iload_n 2, 1) := by decide +kernel
theorem dX11_sourceCount_39 : decode cX11_sourceCount 39 = .ok (.iload 4, 2) := by decide +kernel
theorem dX11_sourceCount_41 : decode cX11_sourceCount 41 = .ok (.invokevirtual 220, 3) := by decide +kernel
theorem dX11_sourceCount_44 : decode cX11_sourceCount 44 = .ok (.ifCond .le 6, 3) := by decide +kernel
theorem dX11_sourceCount_47 : decode cX11_sourceCount 47 = .ok (.iinc 3 1, 3) := by decide +kernel
theorem dX11_sourceCount_50 : decode cX11_sourceCount 50 = .ok (.iinc 4 1, 3) := by decide +kernel
theorem dX11_sourceCount_53 : decode cX11_sourceCount 53 = .ok (.goto (-29), 3) := by decide +kernel
theorem dX11_sourceCount_56 : decode cX11_sourceCount 56 = .ok (.iload_n 3, 1) := by decide +kernel
theorem dX11_sourceCount_57 : decode cX11_sourceCount 57 = .ok (.ireturn, 1) := by decide +kernel
theorem dX11_firstBare_0 : decode cX11_firstBare 0 = .ok (.iconst 0, 1) := by decide +kernel
theorem dX11_firstBare_1 : decode cX11_firstBare 1 = .ok (.istore_n 2, 1) := by decide +kernel
theorem dX11_firstBare_2 : decode cX11_firstBare 2 = .ok (.iload_n 2, 1) := by decide +kernel
theorem dX11_firstBare_3 : decode cX11_firstBare 3 = .ok (.aload_n 0, 1) := by decide +kernel
theorem dX11_firstBare_4 : decode cX11_firstBare 4 = .ok (.getfield 53, 3) := by decide +kernel
theorem dX11_firstBare_7 : decode cX11_firstBare 7 = .ok (.getfield 195, 3) := by decide +kernel
theorem dX11_firstBare_10 : decode cX11_firstBare 10 = .ok (.if_icmp .ge 20, 3) := by decide +kernel
theorem dX11_firstBare_13 : decode cX11_firstBare 13 = .ok (.aload_n 0, 1) := by decide +kernel
theorem dX11_firstBare_14 : decode cX11_firstBare 14 = .ok (.aload_n 1, 1) := by decide +kernel
theorem dX11_firstBare_15 : decode cX11_firstBare 15 = .ok (.iload_n 2, 1) := by decide +kernel
theorem dX11_firstBare_16 : decode cX11_firstBare 16 = .ok (.invokevirtual 226, 3) := by decide +kernel
theorem dX11_firstBare_19 : decode cX11_firstBare 19 = .ok (.ifCond .gt 5, 3) := by decide +kernel
theorem dX11_firstBare_22 : decode cX11_firstBare 22 = .ok (.iload_n 2, 1) := by decide +kernel
theorem dX11_firstBare_23 : decode cX11_firstBare 23 = .ok (.ireturn, 1) := by decide +kernel
theorem dX11_firstBare_24 : decode cX11_firstBare 24 = .ok (.iinc 2 1, 3) := by decide +kernel
theorem dX11_firstBare_27 : decode cX11_firstBare 27 = .ok (.goto (-25), 3) := by decide +kernel
theorem dX11_firstBare_30 : decode cX11_firstBare 30 = .ok (.bipush (-9), 2) := by decide +kernel
theorem dX11_firstBare_32 : decode cX11_firstBare 32 = .ok (.ireturn, 1) := by decide +kernel
theorem dX11_sumCauses_0 : decode cX11_sumCauses 0 = .ok (.iconst 0, 1) := by decide +kernel
theorem dX11_sumCauses_1 : decode cX11_sumCauses 1 = .ok (.istore_n 2, 1) := by decide +kernel
theorem dX11_sumCauses_2 : decode cX11_sumCauses 2 = .ok (.iload_n 2, 1) := by decide +kernel
theorem dX11_sumCauses_3 : decode cX11_sumCauses 3 = .ok (.aload_n 0, 1) := by decide +kernel
theorem dX11_sumCauses_4 : decode cX11_sumCauses 4 = .ok (.getfield 71, 3) := by decide +kernel
theorem dX11_sumCauses_7 : decode cX11_sumCauses 7 = .ok (.arraylength, 1) := by decide +kernel
theorem dX11_sumCauses_8 : decode cX11_sumCauses 8 = .ok (.if_icmp .ge 16, 3) := by decide +kernel
theorem dX11_sumCauses_11 : decode cX11_sumCauses 11 = .ok (.aload_n 0, 1) := by decide +kernel
theorem dX11_sumCauses_12 : decode cX11_sumCauses 12 = .ok (.getfield 71, 3) := by decide +kernel
theorem dX11_sumCauses_15 : decode cX11_sumCauses 15 = .ok (.iload_n 2, 1) := by decide +kernel
theorem dX11_sumCauses_16 : decode cX11_sumCauses 16 = .ok (.iconst 0, 1) := by decide +kernel
theorem dX11_sumCauses_17 : decode cX11_sumCauses 17 = .ok (.iastore, 1) := by decide +kernel
theorem dX11_sumCauses_18 : decode cX11_sumCauses 18 = .ok (.iinc 2 1, 3) := by decide +kernel
theorem dX11_sumCauses_21 : decode cX11_sumCauses 21 = .ok (.goto (-19), 3) := by decide +kernel
theorem dX11_sumCauses_24 : decode cX11_sumCauses 24 = .ok (.iconst 0, 1) := by decide +kernel
theorem dX11_sumCauses_25 : decode cX11_sumCauses 25 = .ok (.istore_n 2, 1) := by decide +kernel
theorem dX11_sumCauses_26 : decode cX11_sumCauses 26 = .ok (.iload_n 2, 1) := by decide +kernel
theorem dX11_sumCauses_27 : decode cX11_sumCauses 27 = .ok (.aload_n 0, 1) := by decide +kernel
theorem dX11_sumCauses_28 : decode cX11_sumCauses 28 = .ok (.getfield 53, 3) := by decide +kernel
theorem dX11_sumCauses_31 : decode cX11_sumCauses 31 = .ok (.getfield 195, 3) := by decide +kernel
theorem dX11_sumCauses_34 : decode cX11_sumCauses 34 = .ok (.if_icmp .ge 69, 3) := by decide +kernel
theorem dX11_sumCauses_37 : decode cX11_sumCauses 37 = .ok (.aload_n 0, 1) := by decide +kernel
theorem dX11_sumCauses_38 : decode cX11_sumCauses 38 = .ok (.aload_n 1, 1) := by decide +kernel
theorem dX11_sumCauses_39 : decode cX11_sumCauses 39 = .ok (.iload_n 2, 1) := by decide +kernel
theorem dX11_sumCauses_40 : decode cX11_sumCauses 40 = .ok (.invokevirtual 226, 3) := by decide +kernel
theorem dX11_sumCauses_43 : decode cX11_sumCauses 43 = .ok (.istore_n 3, 1) := by decide +kernel
theorem dX11_sumCauses_44 : decode cX11_sumCauses 44 = .ok (.iload_n 3, 1) := by decide +kernel
theorem dX11_sumCauses_45 : decode cX11_sumCauses 45 = .ok (.ifCond .gt 5, 3) := by decide +kernel
theorem dX11_sumCauses_48 : decode cX11_sumCauses 48 = .ok (.iconst 0, 1) := by decide +kernel
theorem dX11_sumCauses_49 : decode cX11_sumCauses 49 = .ok (.ireturn, 1) := by decide +kernel
theorem dX11_sumCauses_50 : decode cX11_sumCauses 50 = .ok (.iconst 0, 1) := by decide +kernel
theorem dX11_sumCauses_51 : decode cX11_sumCauses 51 = .ok (.istore 4, 2) := by decide +kernel
theorem dX11_sumCauses_53 : decode cX11_sumCauses 53 = .ok (.iload 4, 2) := by decide +kernel
theorem dX11_sumCauses_55 : decode cX11_sumCauses 55 = .ok (.aload_n 0, 1) := by decide +kernel
theorem dX11_sumCauses_56 : decode cX11_sumCauses 56 = .ok (.getfield 53, 3) := by decide +kernel
theorem dX11_sumCauses_59 : decode cX11_sumCauses 59 = .ok (.getfield 195, 3) := by decide +kernel
theorem dX11_sumCauses_62 : decode cX11_sumCauses 62 = .ok (.if_icmp .ge 35, 3) := by decide +kernel
theorem dX11_sumCauses_65 : decode cX11_sumCauses 65 = .ok (.aload_n 0, 1) := by decide +kernel
theorem dX11_sumCauses_66 : decode cX11_sumCauses 66 = .ok (.aload_n 0, 1) := by decide +kernel
theorem dX11_sumCauses_67 : decode cX11_sumCauses 67 = .ok (.getfield 53, 3) := by decide +kernel
theorem dX11_sumCauses_70 : decode cX11_sumCauses 70 = .ok (.iload 4, 2) := by decide +kernel
theorem dX11_sumCauses_72 : decode cX11_sumCauses 72 = .ok (.invokevirtual 214, 3) := by decide +kernel
theorem dX11_sumCauses_75 : decode cX11_sumCauses 75 = .ok (.ldc 253, 2) := by decide +kernel
theorem dX11_sumCauses_77 : decode cX11_sumCauses 77 = .ok (.aload_n 0, 1) := by decide +kernel
theorem dX11_sumCauses_78 : decode cX11_sumCauses 78 = .ok (.aload_n 1, 1) := by decide +kernel
theorem dX11_sumCauses_79 : decode cX11_sumCauses 79 = .ok (.iload_n 2, 1) := by decide +kernel
theorem dX11_sumCauses_80 : decode cX11_sumCauses 80 = .ok (.iload 4, 2) := by decide +kernel
theorem dX11_sumCauses_82 : decode cX11_sumCauses 82 = .ok (.invokevirtual 220, 3) := by decide +kernel
theorem dX11_sumCauses_85 : decode cX11_sumCauses 85 = .ok (.imul, 1) := by decide +kernel
theorem dX11_sumCauses_86 : decode cX11_sumCauses 86 = .ok (.iload_n 3, 1) := by decide +kernel
theorem dX11_sumCauses_87 : decode cX11_sumCauses 87 = .ok (.idiv, 1) := by decide +kernel
theorem dX11_sumCauses_88 : decode cX11_sumCauses 88 = .ok (.invokevirtual 414, 3) := by decide +kernel
theorem dX11_sumCauses_91 : decode cX11_sumCauses 91 = .ok (.iinc 4 1, 3) := by decide +kernel
theorem dX11_sumCauses_94 : decode cX11_sumCauses 94 = .ok (.goto (-41), 3) := by decide +kernel
theorem dX11_sumCauses_97 : decode cX11_sumCauses 97 = .ok (.iinc 2 1, 3) := by decide +kernel
theorem dX11_sumCauses_100 : decode cX11_sumCauses 100 = .ok (.goto (-74), 3) := by decide +kernel
theorem dX11_sumCauses_103 : decode cX11_sumCauses 103 = .ok (.iconst 1, 1) := by decide +kernel
theorem dX11_sumCauses_104 : decode cX11_sumCauses 104 = .ok (.ireturn, 1) := by decide +kernel
theorem dX11_addCause_0 : decode cX11_addCause 0 = .ok (.iload_n 1, 1) := by decide +kernel
theorem dX11_addCause_1 : decode cX11_addCause 1 = .ok (.ifCond .lt 22, 3) := by decide +kernel
theorem dX11_addCause_4 : decode cX11_addCause 4 = .ok (.iload_n 1, 1) := by decide +kernel
theorem dX11_addCause_5 : decode cX11_addCause 5 = .ok (.aload_n 0, 1) := by decide +kernel
theorem dX11_addCause_6 : decode cX11_addCause 6 = .ok (.getfield 71, 3) := by decide +kernel
theorem dX11_addCause_9 : decode cX11_addCause 9 = .ok (.arraylength, 1) := by decide +kernel
theorem dX11_addCause_10 : decode cX11_addCause 10 = .ok (.if_icmp .ge 13, 3) := by decide +kernel
theorem dX11_addCause_13 : decode cX11_addCause 13 = .ok (.aload_n 0, 1) := by decide +kernel
theorem dX11_addCause_14 : decode cX11_addCause 14 = .ok (.getfield 71, 3) := by decide +kernel
theorem dX11_addCause_17 : decode cX11_addCause 17 = .ok (.iload_n 1, 1) := by decide +kernel
theorem dX11_addCause_18 : decode cX11_addCause 18 = .ok (.dup2, 1) := by decide +kernel
theorem dX11_addCause_19 : decode cX11_addCause 19 = .ok (.iaload, 1) := by decide +kernel
theorem dX11_addCause_20 : decode cX11_addCause 20 = .ok (.iload_n 2, 1) := by decide +kernel
theorem dX11_addCause_21 : decode cX11_addCause 21 = .ok (.iadd, 1) := by decide +kernel
theorem dX11_addCause_22 : decode cX11_addCause 22 = .ok (.iastore, 1) := by decide +kernel
theorem dX11_addCause_23 : decode cX11_addCause 23 = .ok (.return_, 1) := by decide +kernel
theorem dX11_causedBy_0 : decode cX11_causedBy 0 = .ok (.iload_n 1, 1) := by decide +kernel
theorem dX11_causedBy_1 : decode cX11_causedBy 1 = .ok (.ifCond .lt 21, 3) := by decide +kernel
theorem dX11_causedBy_4 : decode cX11_causedBy 4 = .ok (.iload_n 1, 1) := by decide +kernel
theorem dX11_causedBy_5 : decode cX11_causedBy 5 = .ok (.aload_n 0, 1) := by decide +kernel
theorem dX11_causedBy_6 : decode cX11_causedBy 6 = .ok (.getfield 71, 3) := by decide +kernel
theorem dX11_causedBy_9 : decode cX11_causedBy 9 = .ok (.arraylength, 1) := by decide +kernel
theorem dX11_causedBy_10 : decode cX11_causedBy 10 = .ok (.if_icmp .ge 12, 3) := by decide +kernel
theorem dX11_causedBy_13 : decode cX11_causedBy 13 = .ok (.aload_n 0, 1) := by decide +kernel
theorem dX11_causedBy_14 : decode cX11_causedBy 14 = .ok (.getfield 71, 3) := by decide +kernel
theorem dX11_causedBy_17 : decode cX11_causedBy 17 = .ok (.iload_n 1, 1) := by decide +kernel
theorem dX11_causedBy_18 : decode cX11_causedBy 18 = .ok (.iaload, 1) := by decide +kernel
theorem dX11_causedBy_19 : decode cX11_causedBy 19 = .ok (.goto 4, 3) := by decide +kernel
theorem dX11_causedBy_22 : decode cX11_causedBy 22 = .ok (.iconst 0, 1) := by decide +kernel
theorem dX11_causedBy_23 : decode cX11_causedBy 23 = .ok (.ireturn, 1) := by decide +kernel
theorem dX11_markBare_0 : decode cX11_markBare 0 = .ok (.bipush (-9), 2) := by decide +kernel
theorem dX11_markBare_2 : decode cX11_markBare 2 = .ok (.istore_n 2, 1) := by decide +kernel
theorem dX11_markBare_3 : decode cX11_markBare 3 = .ok (.iconst 0, 1) := by decide +kernel
theorem dX11_markBare_4 : decode cX11_markBare 4 = .ok (.istore_n 3, 1) := by decide +kernel
theorem dX11_markBare_5 : decode cX11_markBare 5 = .ok (.iload_n 3, 1) := by decide +kernel
theorem dX11_markBare_6 : decode cX11_markBare 6 = .ok (.aload_n 0, 1) := by decide +kernel
theorem dX11_markBare_7 : decode cX11_markBare 7 = .ok (.getfield 53, 3) := by decide +kernel
theorem dX11_markBare_10 : decode cX11_markBare 10 = .ok (.getfield 195, 3) := by decide +kernel
theorem dX11_markBare_13 : decode cX11_markBare 13 = .ok (.if_icmp .ge 55, 3) := by decide +kernel
theorem dX11_markBare_16 : decode cX11_markBare 16 = .ok (.iload_n 3, 1) := by decide +kernel
theorem dX11_markBare_17 : decode cX11_markBare 17 = .ok (.aload_n 0, 1) := by decide +kernel
theorem dX11_markBare_18 : decode cX11_markBare 18 = .ok (.getfield 77, 3) := by decide +kernel
theorem dX11_markBare_21 : decode cX11_markBare 21 = .ok (.arraylength, 1) := by decide +kernel
theorem dX11_markBare_22 : decode cX11_markBare 22 = .ok (.if_icmp .ge 46, 3) := by decide +kernel
theorem dX11_markBare_25 : decode cX11_markBare 25 = .ok (.aload_n 0, 1) := by decide +kernel
theorem dX11_markBare_26 : decode cX11_markBare 26 = .ok (.getfield 77, 3) := by decide +kernel
theorem dX11_markBare_29 : decode cX11_markBare 29 = .ok (.iload_n 3, 1) := by decide +kernel
theorem dX11_markBare_30 : decode cX11_markBare 30 = .ok (.aload_n 0, 1) := by decide +kernel
theorem dX11_markBare_31 : decode cX11_markBare 31 = .ok (.aload_n 1, 1) := by decide +kernel
theorem dX11_markBare_32 : decode cX11_markBare 32 = .ok (.iload_n 3, 1) := by decide +kernel
theorem dX11_markBare_33 : decode cX11_markBare 33 = .ok (.invokevirtual 226, 3) := by decide +kernel
theorem dX11_markBare_36 : decode cX11_markBare 36 = .ok (.ifCond .gt 7, 3) := by decide +kernel
theorem dX11_markBare_39 : decode cX11_markBare 39 = .ok (.iconst 1, 1) := by decide +kernel
theorem dX11_markBare_40 : decode cX11_markBare 40 = .ok (.goto 4, 3) := by decide +kernel
theorem dX11_markBare_43 : decode cX11_markBare 43 = .ok (.iconst 0, 1) := by decide +kernel
theorem dX11_markBare_44 : decode cX11_markBare 44 = .ok (.bastore, 1) := by decide +kernel
theorem dX11_markBare_45 : decode cX11_markBare 45 = .ok (.aload_n 0, 1) := by decide +kernel
theorem dX11_markBare_46 : decode cX11_markBare 46 = .ok (.getfield 77, 3) := by decide +kernel
theorem dX11_markBare_49 : decode cX11_markBare 49 = .ok (.iload_n 3, 1) := by decide +kernel
theorem dX11_markBare_50 : decode cX11_markBare 50 = .ok (.baload, 1) := by decide +kernel
theorem dX11_markBare_51 : decode cX11_markBare 51 = .ok (.ifCond .eq 11, 3) := by decide +kernel
theorem dX11_markBare_54 : decode cX11_markBare 54 = .ok (.iload_n 2, 1) := by decide +kernel
theorem dX11_markBare_55 : decode cX11_markBare 55 = .ok (.bipush (-9), 2) := by decide +kernel
theorem dX11_markBare_57 : decode cX11_markBare 57 = .ok (.if_icmp .ne 5, 3) := by decide +kernel
theorem dX11_markBare_60 : decode cX11_markBare 60 = .ok (.iload_n 3, 1) := by decide +kernel
theorem dX11_markBare_61 : decode cX11_markBare 61 = .ok (.istore_n 2, 1) := by decide +kernel
theorem dX11_markBare_62 : decode cX11_markBare 62 = .ok (.iinc 3 1, 3) := by decide +kernel
theorem dX11_markBare_65 : decode cX11_markBare 65 = .ok (.goto (-60), 3) := by decide +kernel
theorem dX11_markBare_68 : decode cX11_markBare 68 = .ok (.iload_n 2, 1) := by decide +kernel
theorem dX11_markBare_69 : decode cX11_markBare 69 = .ok (.ireturn, 1) := by decide +kernel
theorem dX11_findMissed_0 : decode cX11_findMissed 0 = .ok (.iconst 0, 1) := by decide +kernel
theorem dX11_findMissed_1 : decode cX11_findMissed 1 = .ok (.istore 4, 2) := by decide +kernel
theorem dX11_findMissed_3 : decode cX11_findMissed 3 = .ok (.bipush (-9), 2) := by decide +kernel
theorem dX11_findMissed_5 : decode cX11_findMissed 5 = .ok (.istore 5, 2) := by decide +kernel
theorem dX11_findMissed_7 : decode cX11_findMissed 7 = .ok (.bipush (-9), 2) := by decide +kernel
theorem dX11_findMissed_9 : decode cX11_findMissed 9 = .ok (.istore 6, 2) := by decide +kernel
theorem dX11_findMissed_11 : decode cX11_findMissed 11 = .ok (.iload_n 2, 1) := by decide +kernel
theorem dX11_findMissed_12 : decode cX11_findMissed 12 = .ok (.aload_n 1, 1) := by decide +kernel
theorem dX11_findMissed_13 : decode cX11_findMissed 13 = .ok (.iconst 5, 1) := by decide +kernel
theorem dX11_findMissed_14 : decode cX11_findMissed 14 = .ok (.invokevirtual 184, 3) := by decide +kernel
theorem dX11_findMissed_17 : decode cX11_findMissed 17 = .ok (.isub, 1) := by decide +kernel
theorem dX11_findMissed_18 : decode cX11_findMissed 18 = .ok (.istore 7, 2) := by decide +kernel
theorem dX11_findMissed_20 : decode cX11_findMissed 20 = .ok (.iconst 0, 1) := by decide +kernel
theorem dX11_findMissed_21 : decode cX11_findMissed 21 = .ok (.iload_n 2, 1) := by decide +kernel
theorem dX11_findMissed_22 : decode cX11_findMissed 22 = .ok (.aload_n 1, 1) := by decide +kernel
theorem dX11_findMissed_23 : decode cX11_findMissed 23 = .ok (.bipush 6, 2) := by decide +kernel
theorem dX11_findMissed_25 : decode cX11_findMissed 25 = .ok (.invokevirtual 184, 3) := by decide +kernel
theorem dX11_findMissed_28 : decode cX11_findMissed 28 = .ok (.isub, 1) := by decide +kernel
theorem dX11_findMissed_29 : decode cX11_findMissed 29 = .ok (.invokestatic 257, 3) := by decide +kernel
theorem dX11_findMissed_32 : decode cX11_findMissed 32 = .ok (.istore 8, 2) := by decide +kernel
theorem dX11_findMissed_34 : decode cX11_findMissed 34 = .ok (.iload 8, 2) := by decide +kernel
theorem dX11_findMissed_36 : decode cX11_findMissed 36 = .ok (.iload 7, 2) := by decide +kernel
theorem dX11_findMissed_38 : decode cX11_findMissed 38 = .ok (.if_icmp .gt 55, 3) := by decide +kernel
theorem dX11_findMissed_41 : decode cX11_findMissed 41 = .ok (.iconst 0, 1) := by decide +kernel
theorem dX11_findMissed_42 : decode cX11_findMissed 42 = .ok (.istore 9, 2) := by decide +kernel
theorem dX11_findMissed_44 : decode cX11_findMissed 44 = .ok (.iload 9, 2) := by decide +kernel
theorem dX11_findMissed_46 : decode cX11_findMissed 46 = .ok (.aload_n 0, 1) := by decide +kernel
theorem dX11_findMissed_47 : decode cX11_findMissed 47 = .ok (.getfield 98, 3) := by decide +kernel
theorem dX11_findMissed_50 : decode cX11_findMissed 50 = .ok (.if_icmp .ge 37, 3) := by decide +kernel
theorem dX11_findMissed_53 : decode cX11_findMissed 53 = .ok (.aload_n 0, 1) := by decide +kernel
theorem dX11_findMissed_54 : decode cX11_findMissed 54 = .ok (.aload_n 1, 1) := by decide +kernel
theorem dX11_findMissed_55 : decode cX11_findMissed 55 = .ok (.iload 8, 2) := by decide +kernel
theorem dX11_findMissed_57 : decode cX11_findMissed 57 = .ok (.iload 9, 2) := by decide +kernel
theorem dX11_findMissed_59 : decode cX11_findMissed 59 = .ok (.invokevirtual 417, 3) := by decide +kernel
theorem dX11_findMissed_62 : decode cX11_findMissed 62 = .ok (.ifCond .eq 19, 3) := by decide +kernel
theorem dX11_findMissed_65 : decode cX11_findMissed 65 = .ok (.iload 4, 2) := by decide +kernel
theorem dX11_findMissed_67 : decode cX11_findMissed 67 = .ok (.ifCond .ne 11, 3) := by decide +kernel
theorem dX11_findMissed_70 : decode cX11_findMissed 70 = .ok (.iload 8, 2) := by decide +kernel
theorem dX11_findMissed_72 : decode cX11_findMissed 72 = .ok (.istore 5, 2) := by decide +kernel
theorem dX11_findMissed_74 : decode cX11_findMissed 74 = .ok (.iload 9, 2) := by decide +kernel
theorem dX11_findMissed_76 : decode cX11_findMissed 76 = .ok (.istore 6, 2) := by decide +kernel
theorem dX11_findMissed_78 : decode cX11_findMissed 78 = .ok (.iinc 4 1, 3) := by decide +kernel
theorem dX11_findMissed_81 : decode cX11_findMissed 81 = .ok (.iinc 9 1, 3) := by decide +kernel
theorem dX11_findMissed_84 : decode cX11_findMissed 84 = .ok (.goto (-40), 3) := by decide +kernel
theorem dX11_findMissed_87 : decode cX11_findMissed 87 = .ok (.iinc 8 1, 3) := by decide +kernel
theorem dX11_findMissed_90 : decode cX11_findMissed 90 = .ok (.goto (-56), 3) := by decide +kernel
theorem dX11_findMissed_93 : decode cX11_findMissed 93 = .ok (.iload_n 3, 1) := by decide +kernel
theorem dX11_findMissed_94 : decode cX11_findMissed 94 = .ok (.ifCond .ne 6, 3) := by decide +kernel
theorem dX11_findMissed_97 : decode cX11_findMissed 97 = .ok (.iload 4, 2) := by decide +kernel
theorem dX11_findMissed_99 : decode cX11_findMissed 99 = .ok (.ireturn, 1) := by decide +kernel
theorem dX11_findMissed_100 : decode cX11_findMissed 100 = .ok (.iload_n 3, 1) := by decide +kernel
theorem dX11_findMissed_101 : decode cX11_findMissed 101 = .ok (.iconst 1, 1) := by decide +kernel
theorem dX11_findMissed_102 : decode cX11_findMissed 102 = .ok (.if_icmp .ne 8, 3) := by decide +kernel
theorem dX11_findMissed_105 : decode cX11_findMissed 105 = .ok (.iload 5, 2) := by decide +kernel
theorem dX11_findMissed_107 : decode cX11_findMissed 107 = .ok (.goto 5, 3) := by decide +kernel
theorem dX11_findMissed_110 : decode cX11_findMissed 110 = .ok (.iload 6, 2) := by decide +kernel
theorem dX11_findMissed_112 : decode cX11_findMissed 112 = .ok (.ireturn, 1) := by decide +kernel
theorem dX11_mends_0 : decode cX11_mends 0 = .ok (.iconst 0, 1) := by decide +kernel
theorem dX11_mends_1 : decode cX11_mends 1 = .ok (.istore 4, 2) := by decide +kernel
theorem dX11_mends_3 : decode cX11_mends 3 = .ok (.iload 4, 2) := by decide +kernel
theorem dX11_mends_5 : decode cX11_mends 5 = .ok (.aload_n 0, 1) := by decide +kernel
theorem dX11_mends_6 : decode cX11_mends 6 = .ok (.getfield 53, 3) := by decide +kernel
theorem dX11_mends_9 : decode cX11_mends 9 = .ok (.getfield 195, 3) := by decide +kernel
theorem dX11_mends_12 : decode cX11_mends 12 = .ok (.if_icmp .ge 70, 3) := by decide +kernel
theorem dX11_mends_15 : decode cX11_mends 15 = .ok (.iload 4, 2) := by decide +kernel
theorem dX11_mends_17 : decode cX11_mends 17 = .ok (.aload_n 0, 1) := by decide +kernel
theorem dX11_mends_18 : decode cX11_mends 18 = .ok (.getfield 77, 3) := by decide +kernel
theorem dX11_mends_21 : decode cX11_mends 21 = .ok (.arraylength, 1) := by decide +kernel
theorem dX11_mends_22 : decode cX11_mends 22 = .ok (.if_icmp .ge 60, 3) := by decide +kernel
theorem dX11_mends_25 : decode cX11_mends 25 = .ok (.aload_n 0, 1) := by decide +kernel
theorem dX11_mends_26 : decode cX11_mends 26 = .ok (.getfield 77, 3) := by decide +kernel
theorem dX11_mends_29 : decode cX11_mends 29 = .ok (.iload 4, 2) := by decide +kernel
theorem dX11_mends_31 : decode cX11_mends 31 = .ok (.baload, 1) := by decide +kernel
theorem dX11_mends_32 : decode cX11_mends 32 = .ok (.ifCond .eq 44, 3) := by decide +kernel
theorem dX11_mends_35 : decode cX11_mends 35 = .ok (.aload_n 0, 1) := by decide +kernel
theorem dX11_mends_36 : decode cX11_mends 36 = .ok (.getfield 53, 3) := by decide +kernel
theorem dX11_mends_39 : decode cX11_mends 39 = .ok (.iload 4, 2) := by decide +kernel
theorem dX11_mends_41 : decode cX11_mends 41 = .ok (.invokevirtual 211, 3) := by decide +kernel
theorem dX11_mends_44 : decode cX11_mends 44 = .ok (.iload_n 2, 1) := by decide +kernel
theorem dX11_mends_45 : decode cX11_mends 45 = .ok (.isub, 1) := by decide +kernel
theorem dX11_mends_46 : decode cX11_mends 46 = .ok (.istore 5, 2) := by decide +kernel
theorem dX11_mends_48 : decode cX11_mends 48 = .ok (.aload_n 1, 1) := by decide +kernel
theorem dX11_mends_49 : decode cX11_mends 49 = .ok (.iload 5, 2) := by decide +kernel
theorem dX11_mends_51 : decode cX11_mends 51 = .ok (.invokevirtual 401, 3) := by decide +kernel
theorem dX11_mends_54 : decode cX11_mends 54 = .ok (.ifCond .eq 20, 3) := by decide +kernel
theorem dX11_mends_57 : decode cX11_mends 57 = .ok (.aload_n 0, 1) := by decide +kernel
theorem dX11_mends_58 : decode cX11_mends 58 = .ok (.aload_n 0, 1) := by decide +kernel
theorem dX11_mends_59 : decode cX11_mends 59 = .ok (.getfield 53, 3) := by decide +kernel
theorem dX11_mends_62 : decode cX11_mends 62 = .ok (.iload 4, 2) := by decide +kernel
theorem dX11_mends_64 : decode cX11_mends 64 = .ok (.invokevirtual 214, 3) := by decide +kernel
theorem dX11_mends_67 : decode cX11_mends 67 = .ok (.iload_n 3, 1) := by decide +kernel
theorem dX11_mends_68 : decode cX11_mends 68 = .ok (.invokevirtual 404, 3) := by decide +kernel
theorem dX11_mends_71 : decode cX11_mends 71 = .ok (.ifCond .gt 5, 3) := by decide +kernel
theorem dX11_mends_74 : decode cX11_mends 74 = .ok (.iconst 0, 1) := by decide +kernel
theorem dX11_mends_75 : decode cX11_mends 75 = .ok (.ireturn, 1) := by decide +kernel
theorem dX11_mends_76 : decode cX11_mends 76 = .ok (.iinc 4 1, 3) := by decide +kernel
theorem dX11_mends_79 : decode cX11_mends 79 = .ok (.goto (-76), 3) := by decide +kernel
theorem dX11_mends_82 : decode cX11_mends 82 = .ok (.iconst 1, 1) := by decide +kernel
theorem dX11_mends_83 : decode cX11_mends 83 = .ok (.ireturn, 1) := by decide +kernel
theorem dX11_areDraws_0 : decode cX11_areDraws 0 = .ok (.iconst 0, 1) := by decide +kernel
theorem dX11_areDraws_1 : decode cX11_areDraws 1 = .ok (.istore_n 3, 1) := by decide +kernel
theorem dX11_areDraws_2 : decode cX11_areDraws 2 = .ok (.iload_n 3, 1) := by decide +kernel
theorem dX11_areDraws_3 : decode cX11_areDraws 3 = .ok (.iload_n 2, 1) := by decide +kernel
theorem dX11_areDraws_4 : decode cX11_areDraws 4 = .ok (.if_icmp .ge 33, 3) := by decide +kernel
theorem dX11_areDraws_7 : decode cX11_areDraws 7 = .ok (.aload_n 0, 1) := by decide +kernel
theorem dX11_areDraws_8 : decode cX11_areDraws 8 = .ok (.iload_n 1, 1) := by decide +kernel
theorem dX11_areDraws_9 : decode cX11_areDraws 9 = .ok (.iload_n 3, 1) := by decide +kernel
theorem dX11_areDraws_10 : decode cX11_areDraws 10 = .ok (.iadd, 1) := by decide +kernel
theorem dX11_areDraws_11 : decode cX11_areDraws 11 = .ok (.invokevirtual 342, 3) := by decide +kernel
theorem dX11_areDraws_14 : decode cX11_areDraws 14 = .ok (.istore 4, 2) := by decide +kernel
theorem dX11_areDraws_16 : decode cX11_areDraws 16 = .ok (.iload 4, 2) := by decide +kernel
theorem dX11_areDraws_18 : decode cX11_areDraws 18 = .ok (.ifCond .lt 11, 3) := by decide +kernel
theorem dX11_areDraws_21 : decode cX11_areDraws 21 = .ok (.iload 4, 2) := by decide +kernel
theorem dX11_areDraws_23 : decode cX11_areDraws 23 = .ok (.sipush 999, 3) := by decide +kernel
theorem dX11_areDraws_26 : decode cX11_areDraws 26 = .ok (.if_icmp .le 5, 3) := by decide +kernel
theorem dX11_areDraws_29 : decode cX11_areDraws 29 = .ok (.iconst 0, 1) := by decide +kernel
theorem dX11_areDraws_30 : decode cX11_areDraws 30 = .ok (.ireturn, 1) := by decide +kernel
theorem dX11_areDraws_31 : decode cX11_areDraws 31 = .ok (.iinc 3 1, 3) := by decide +kernel
theorem dX11_areDraws_34 : decode cX11_areDraws 34 = .ok (.goto (-32), 3) := by decide +kernel
theorem dX11_areDraws_37 : decode cX11_areDraws 37 = .ok (.iconst 1, 1) := by decide +kernel
theorem dX11_areDraws_38 : decode cX11_areDraws 38 = .ok (.ireturn, 1) := by decide +kernel
theorem dX11_goOn_0 : decode cX11_goOn 0 = .ok (.iconst 0, 1) := by decide +kernel
theorem dX11_goOn_1 : decode cX11_goOn 1 = .ok (.istore 5, 2) := by decide +kernel
theorem dX11_goOn_3 : decode cX11_goOn 3 = .ok (.iload_n 3, 1) := by decide +kernel
theorem dX11_goOn_4 : decode cX11_goOn 4 = .ok (.istore 6, 2) := by decide +kernel
theorem dX11_goOn_6 : decode cX11_goOn 6 = .ok (.aload_n 0, 1) := by decide +kernel
theorem dX11_goOn_7 : decode cX11_goOn 7 = .ok (.getfield 53, 3) := by decide +kernel
theorem dX11_goOn_10 : decode cX11_goOn 10 = .ok (.getfield 195, 3) := by decide +kernel
theorem dX11_goOn_13 : decode cX11_goOn 13 = .ok (.ifCond .le 15, 3) := by decide +kernel
theorem dX11_goOn_16 : decode cX11_goOn 16 = .ok (.aload_n 0, 1) := by decide +kernel
theorem dX11_goOn_17 : decode cX11_goOn 17 = .ok (.getfield 53, 3) := by decide +kernel
theorem dX11_goOn_20 : decode cX11_goOn 20 = .ok (.invokevirtual 198, 3) := by decide +kernel
theorem dX11_goOn_23 : decode cX11_goOn 23 = .ok (.iconst 1, 1) := by decide +kernel
theorem dX11_goOn_24 : decode cX11_goOn 24 = .ok (.iadd, 1) := by decide +kernel
theorem dX11_goOn_25 : decode cX11_goOn 25 = .ok (.goto 4, 3) := by decide +kernel
theorem dX11_goOn_28 : decode cX11_goOn 28 = .ok (.iconst 1, 1) := by decide +kernel
theorem dX11_goOn_29 : decode cX11_goOn 29 = .ok (.istore 7, 2) := by decide +kernel
theorem dX11_goOn_31 : decode cX11_goOn 31 = .ok (.iconst 0, 1) := by decide +kernel
theorem dX11_goOn_32 : decode cX11_goOn 32 = .ok (.istore 8, 2) := by decide +kernel
theorem dX11_goOn_34 : decode cX11_goOn 34 = .ok (.iload 8, 2) := by decide +kernel
theorem dX11_goOn_36 : decode cX11_goOn 36 = .ok (.iload 4, 2) := by decide +kernel
theorem dX11_goOn_38 : decode cX11_goOn 38 = .ok (.if_icmp .ge 68, 3) := by decide +kernel
theorem dX11_goOn_41 : decode cX11_goOn 41 = .ok (.iconst 0, 1) := by decide +kernel
theorem dX11_goOn_42 : decode cX11_goOn 42 = .ok (.istore 9, 2) := by decide +kernel
theorem dX11_goOn_44 : decode cX11_goOn 44 = .ok (.iload 9, 2) := by decide +kernel
theorem dX11_goOn_46 : decode cX11_goOn 46 = .ok (.aload_n 0, 1) := by decide +kernel
theorem dX11_goOn_47 : decode cX11_goOn 47 = .ok (.getfield 98, 3) := by decide +kernel
theorem dX11_goOn_50 : decode cX11_goOn 50 = .ok (.if_icmp .ge 50, 3) := by decide +kernel
theorem dX11_goOn_53 : decode cX11_goOn 53 = .ok (.aload_n 0, 1) := by decide +kernel
theorem dX11_goOn_54 : decode cX11_goOn 54 = .ok (.aload_n 1, 1) := by decide +kernel
theorem dX11_goOn_55 : decode cX11_goOn 55 = .ok (.aload_n 2, 1) := by decide +kernel
theorem dX11_goOn_56 : decode cX11_goOn 56 = .ok (.iload 6, 2) := by decide +kernel
theorem dX11_goOn_58 : decode cX11_goOn 58 = .ok (.invokevirtual 342, 3) := by decide +kernel
theorem dX11_goOn_61 : decode cX11_goOn 61 = .ok (.iload 7, 2) := by decide +kernel
theorem dX11_goOn_63 : decode cX11_goOn 63 = .ok (.iload 8, 2) := by decide +kernel
theorem dX11_goOn_65 : decode cX11_goOn 65 = .ok (.iadd, 1) := by decide +kernel
theorem dX11_goOn_66 : decode cX11_goOn 66 = .ok (.iload 9, 2) := by decide +kernel
theorem dX11_goOn_68 : decode cX11_goOn 68 = .ok (.invokevirtual 421, 3) := by decide +kernel
theorem dX11_goOn_71 : decode cX11_goOn 71 = .ok (.ifCond .eq 20, 3) := by decide +kernel
theorem dX11_goOn_74 : decode cX11_goOn 74 = .ok (.aload_n 0, 1) := by decide +kernel
theorem dX11_goOn_75 : decode cX11_goOn 75 = .ok (.getfield 53, 3) := by decide +kernel
theorem dX11_goOn_78 : decode cX11_goOn 78 = .ok (.iload 7, 2) := by decide +kernel
theorem dX11_goOn_80 : decode cX11_goOn 80 = .ok (.iload 8, 2) := by decide +kernel
theorem dX11_goOn_82 : decode cX11_goOn 82 = .ok (.iadd, 1) := by decide +kernel
theorem dX11_goOn_83 : decode cX11_goOn 83 = .ok (.iload 9, 2) := by decide +kernel
theorem dX11_goOn_85 : decode cX11_goOn 85 = .ok (.invokevirtual 205, 3) := by decide +kernel
theorem dX11_goOn_88 : decode cX11_goOn 88 = .ok (.iinc 5 1, 3) := by decide +kernel
theorem dX11_goOn_91 : decode cX11_goOn 91 = .ok (.iinc 6 1, 3) := by decide +kernel
theorem dX11_goOn_94 : decode cX11_goOn 94 = .ok (.iinc 9 1, 3) := by decide +kernel
theorem dX11_goOn_97 : decode cX11_goOn 97 = .ok (.goto (-53), 3) := by decide +kernel
theorem dX11_goOn_100 : decode cX11_goOn 100 = .ok (.iinc 8 1, 3) := by decide +kernel
theorem dX11_goOn_103 : decode cX11_goOn 103 = .ok (.goto (-69), 3) := by decide +kernel
theorem dX11_goOn_106 : decode cX11_goOn 106 = .ok (.iload 5, 2) := by decide +kernel
theorem dX11_goOn_108 : decode cX11_goOn 108 = .ok (.ireturn, 1) := by decide +kernel
theorem dX11_yawnsAtDraw_0 : decode cX11_yawnsAtDraw 0 = .ok (.iload_n 3, 1) := by decide +kernel
theorem dX11_yawnsAtDraw_1 : decode cX11_yawnsAtDraw 1 = .ok (.sipush 599, 3) := by decide +kernel
theorem dX11_yawnsAtDraw_4 : decode cX11_yawnsAtDraw 4 = .ok (.if_icmp .gt 29, 3) := by decide +kernel
theorem dX11_yawnsAtDraw_7 : decode cX11_yawnsAtDraw 7 = .ok (.aload_n 0, 1) := by decide +kernel
theorem dX11_yawnsAtDraw_8 : decode cX11_yawnsAtDraw 8 = .ok (.getfield 53, 3) := by decide +kernel
theorem dX11_yawnsAtDraw_11 : decode cX11_yawnsAtDraw 11 = .ok (.invokevirtual 201, 3) := by decide +kernel
theorem dX11_yawnsAtDraw_14 : decode cX11_yawnsAtDraw 14 = .ok (.ifCond .ne 19, 3) := by decide +kernel
theorem dX11_yawnsAtDraw_17 : decode cX11_yawnsAtDraw 17 = .ok (.iload_n 2, 1) := by decide +kernel
theorem dX11_yawnsAtDraw_18 : decode cX11_yawnsAtDraw 18 = .ok (.aload_n 0, 1) := by decide +kernel
theorem dX11_yawnsAtDraw_19 : decode cX11_yawnsAtDraw 19 = .ok (.aload_n 1, 1) := by decide +kernel
theorem dX11_yawnsAtDraw_20 : decode cX11_yawnsAtDraw 20 = .ok (.iload 4, 2) := by decide +kernel
theorem dX11_yawnsAtDraw_22 : decode cX11_yawnsAtDraw 22 = .ok (.iload_n 3, 1) := by decide +kernel
theorem dX11_yawnsAtDraw_23 : decode cX11_yawnsAtDraw 23 = .ok (.invokevirtual 411, 3) := by decide +kernel
theorem dX11_yawnsAtDraw_26 : decode cX11_yawnsAtDraw 26 = .ok (.if_icmp .ge 7, 3) := by decide +kernel
theorem dX11_yawnsAtDraw_29 : decode cX11_yawnsAtDraw 29 = .ok (.iconst 1, 1) := by decide +kernel
theorem dX11_yawnsAtDraw_30 : decode cX11_yawnsAtDraw 30 = .ok (.goto 4, 3) := by decide +kernel
theorem dX11_yawnsAtDraw_33 : decode cX11_yawnsAtDraw 33 = .ok (.iconst 0, 1) := by decide +kernel
theorem dX11_yawnsAtDraw_34 : decode cX11_yawnsAtDraw 34 = .ok (.ireturn, 1) := by decide +kernel
theorem dX11_weighedSpread_0 : decode cX11_weighedSpread 0 = .ok (.iconst 0, 1) := by decide +kernel
theorem dX11_weighedSpread_1 : decode cX11_weighedSpread 1 = .ok (.istore_n 1, 1) := by decide +kernel
theorem dX11_weighedSpread_2 : decode cX11_weighedSpread 2 = .ok (.iconst 0, 1) := by decide +kernel
theorem dX11_weighedSpread_3 : decode cX11_weighedSpread 3 = .ok (.istore_n 2, 1) := by decide +kernel
theorem dX11_weighedSpread_4 : decode cX11_weighedSpread 4 = .ok (.iload_n 2, 1) := by decide +kernel
theorem dX11_weighedSpread_5 : decode cX11_weighedSpread 5 = .ok (.aload_n 0, 1) := by decide +kernel
theorem dX11_weighedSpread_6 : decode cX11_weighedSpread 6 = .ok (.getfield 98, 3) := by decide +kernel
theorem dX11_weighedSpread_9 : decode cX11_weighedSpread 9 = .ok (.if_icmp .ge 34, 3) := by decide +kernel
theorem dX11_weighedSpread_12 : decode cX11_weighedSpread 12 = .ok (.iconst 0, 1) := by decide +kernel
theorem dX11_weighedSpread_13 : decode cX11_weighedSpread 13 = .ok (.istore_n 3, 1) := by decide +kernel
theorem dX11_weighedSpread_14 : decode cX11_weighedSpread 14 = .ok (.iload_n 3, 1) := by decide +kernel
theorem dX11_weighedSpread_15 : decode cX11_weighedSpread 15 = .ok (.aload_n 0, 1) := by decide +kernel
theorem dX11_weighedSpread_16 : decode cX11_weighedSpread 16 = .ok (.getfield 98, 3) := by decide +kernel
theorem dX11_weighedSpread_19 : decode cX11_weighedSpread 19 = .ok (.if_icmp .ge 18, 3) := by decide +kernel
theorem dX11_weighedSpread_22 : decode cX11_weighedSpread 22 = .ok (.iload_n 1, 1) := by decide +kernel
theorem dX11_weighedSpread_23 : decode cX11_weighedSpread 23 = .ok (.aload_n 0, 1) := by decide +kernel
theorem dX11_weighedSpread_24 : decode cX11_weighedSpread 24 = .ok (.iload_n 2, 1) := by decide +kernel
theorem dX11_weighedSpread_25 : decode cX11_weighedSpread 25 = .ok (.iload_n 3, 1) := by decide +kernel
theorem dX11_weighedSpread_26 : decode cX11_weighedSpread 26 = .ok (.invokevirtual 404, 3) := by decide +kernel
theorem dX11_weighedSpread_29 : decode cX11_weighedSpread 29 = .ok (.iadd, 1) := by decide +kernel
theorem dX11_weighedSpread_30 : decode cX11_weighedSpread 30 = .ok (.istore_n 1, 1) := by decide +kernel
theorem dX11_weighedSpread_31 : decode cX11_weighedSpread 31 = .ok (.iinc 3 1, 3) := by decide +kernel
theorem dX11_weighedSpread_34 : decode cX11_weighedSpread 34 = .ok (.goto (-20), 3) := by decide +kernel
theorem dX11_weighedSpread_37 : decode cX11_weighedSpread 37 = .ok (.iinc 2 1, 3) := by decide +kernel
theorem dX11_weighedSpread_40 : decode cX11_weighedSpread 40 = .ok (.goto (-36), 3) := by decide +kernel
theorem dX11_weighedSpread_43 : decode cX11_weighedSpread 43 = .ok (.iload_n 1, 1) := by decide +kernel
theorem dX11_weighedSpread_44 : decode cX11_weighedSpread 44 = .ok (.ireturn, 1) := by decide +kernel
theorem dX11_fillPlan_0 : decode cX11_fillPlan 0 = .ok (.iconst 0, 1) := by decide +kernel
theorem dX11_fillPlan_1 : decode cX11_fillPlan 1 = .ok (.istore_n 2, 1) := by decide +kernel
theorem dX11_fillPlan_2 : decode cX11_fillPlan 2 = .ok (.iload_n 2, 1) := by decide +kernel
theorem dX11_fillPlan_3 : decode cX11_fillPlan 3 = .ok (.aload_n 0, 1) := by decide +kernel
theorem dX11_fillPlan_4 : decode cX11_fillPlan 4 = .ok (.getfield 98, 3) := by decide +kernel
theorem dX11_fillPlan_7 : decode cX11_fillPlan 7 = .ok (.if_icmp .ge 109, 3) := by decide +kernel
theorem dX11_fillPlan_10 : decode cX11_fillPlan 10 = .ok (.iconst 0, 1) := by decide +kernel
theorem dX11_fillPlan_11 : decode cX11_fillPlan 11 = .ok (.istore_n 3, 1) := by decide +kernel
theorem dX11_fillPlan_12 : decode cX11_fillPlan 12 = .ok (.iload_n 3, 1) := by decide +kernel
theorem dX11_fillPlan_13 : decode cX11_fillPlan 13 = .ok (.aload_n 0, 1) := by decide +kernel
theorem dX11_fillPlan_14 : decode cX11_fillPlan 14 = .ok (.getfield 98, 3) := by decide +kernel
theorem dX11_fillPlan_17 : decode cX11_fillPlan 17 = .ok (.if_icmp .ge 93, 3) := by decide +kernel
theorem dX11_fillPlan_20 : decode cX11_fillPlan 20 = .ok (.aload_n 0, 1) := by decide +kernel
theorem dX11_fillPlan_21 : decode cX11_fillPlan 21 = .ok (.iload_n 2, 1) := by decide +kernel
theorem dX11_fillPlan_22 : decode cX11_fillPlan 22 = .ok (.invokevirtual 152, 3) := by decide +kernel
theorem dX11_fillPlan_25 : decode cX11_fillPlan 25 = .ok (.astore 4, 2) := by decide +kernel
theorem dX11_fillPlan_27 : decode cX11_fillPlan 27 = .ok (.aload_n 0, 1) := by decide +kernel
theorem dX11_fillPlan_28 : decode cX11_fillPlan 28 = .ok (.iload_n 3, 1) := by decide +kernel
theorem dX11_fillPlan_29 : decode cX11_fillPlan 29 = .ok (.invokevirtual 152, 3) := by decide +kernel
theorem dX11_fillPlan_32 : decode cX11_fillPlan 32 = .ok (.astore 5, 2) := by decide +kernel
theorem dX11_fillPlan_34 : decode cX11_fillPlan 34 = .ok (.aload 4, 2) := by decide +kernel
theorem dX11_fillPlan_36 : decode cX11_fillPlan 36 = .ok (.ifnull 68, 3) := by decide +kernel
theorem dX11_fillPlan_39 : decode cX11_fillPlan 39 = .ok (.aload 5, 2) := by decide +kernel
theorem dX11_fillPlan_41 : decode cX11_fillPlan 41 = .ok (.ifnull 63, 3) := by decide +kernel
theorem dX11_fillPlan_44 : decode cX11_fillPlan 44 = .ok (.aload_n 0, 1) := by decide +kernel
theorem dX11_fillPlan_45 : decode cX11_fillPlan 45 = .ok (.aload 4, 2) := by decide +kernel
theorem dX11_fillPlan_47 : decode cX11_fillPlan 47 = .ok (.aload 5, 2) := by decide +kernel
theorem dX11_fillPlan_49 : decode cX11_fillPlan 49 = .ok (.invokevirtual 377, 3) := by decide +kernel
theorem dX11_fillPlan_52 : decode cX11_fillPlan 52 = .ok (.ifCond .eq 52, 3) := by decide +kernel
theorem dX11_fillPlan_55 : decode cX11_fillPlan 55 = .ok (.aload_n 1, 1) := by decide +kernel
theorem dX11_fillPlan_56 : decode cX11_fillPlan 56 = .ok (.aload 4, 2) := by decide +kernel
theorem dX11_fillPlan_58 : decode cX11_fillPlan 58 = .ok (.aload 5, 2) := by decide +kernel
theorem dX11_fillPlan_60 : decode cX11_fillPlan 60 = .ok (.aload_n 0, 1) := by decide +kernel
theorem dX11_fillPlan_61 : decode cX11_fillPlan 61 = .ok (.aload_n 1, 1) := by decide +kernel
theorem dX11_fillPlan_62 : decode cX11_fillPlan 62 = .ok (.aload 4, 2) := by decide +kernel
theorem dX11_fillPlan_64 : decode cX11_fillPlan 64 = .ok (.aload 5, 2) := by decide +kernel
theorem dX11_fillPlan_66 : decode cX11_fillPlan 66 = .ok (.invokevirtual 390, 3) := by decide +kernel
theorem dX11_fillPlan_69 : decode cX11_fillPlan 69 = .ok (.invokestatic 393, 3) := by decide +kernel
theorem dX11_fillPlan_72 : decode cX11_fillPlan 72 = .ok (.istore 6, 2) := by decide +kernel
theorem dX11_fillPlan_74 : decode cX11_fillPlan 74 = .ok (.aload_n 0, 1) := by decide +kernel
theorem dX11_fillPlan_75 : decode cX11_fillPlan 75 = .ok (.getfield 60, 3) := by decide +kernel
theorem dX11_fillPlan_78 : decode cX11_fillPlan 78 = .ok (.aload_n 0, 1) := by decide +kernel
theorem dX11_fillPlan_79 : decode cX11_fillPlan 79 = .ok (.getfield 34, 3) := by decide +kernel
theorem dX11_fillPlan_82 : decode cX11_fillPlan 82 = .ok (.aload 4, 2) := by decide +kernel
theorem dX11_fillPlan_84 : decode cX11_fillPlan 84 = .ok (.getfield 145, 3) := by decide +kernel
theorem dX11_fillPlan_87 : decode cX11_fillPlan 87 = .ok (.aload 5, 2) := by decide +kernel
theorem dX11_fillPlan_89 : decode cX11_fillPlan 89 = .ok (.getfield 145, 3) := by decide +kernel
theorem dX11_fillPlan_92 : decode cX11_fillPlan 92 = .ok (.aload_n 0, 1) := by decide +kernel
theorem dX11_fillPlan_93 : decode cX11_fillPlan 93 = .ok (.iload_n 2, 1) := by decide +kernel
theorem dX11_fillPlan_94 : decode cX11_fillPlan 94 = .ok (.iload_n 3, 1) := by decide +kernel
theorem dX11_fillPlan_95 : decode cX11_fillPlan 95 = .ok (.invokevirtual 404, 3) := by decide +kernel
theorem dX11_fillPlan_98 : decode cX11_fillPlan 98 = .ok (.iload 6, 2) := by decide +kernel
theorem dX11_fillPlan_100 : decode cX11_fillPlan 100 = .ok (.isub, 1) := by decide +kernel
theorem dX11_fillPlan_101 : decode cX11_fillPlan 101 = .ok (.invokevirtual 425, 3) := by decide +kernel
theorem dX11_fillPlan_104 : decode cX11_fillPlan 104 = .ok (.iinc 3 1, 3) := by decide +kernel
theorem dX11_fillPlan_107 : decode cX11_fillPlan 107 = .ok (.goto (-95), 3) := by decide +kernel
theorem dX11_fillPlan_110 : decode cX11_fillPlan 110 = .ok (.iinc 2 1, 3) := by decide +kernel
theorem dX11_fillPlan_113 : decode cX11_fillPlan 113 = .ok (.goto (-111), 3) := by decide +kernel
theorem dX11_fillPlan_116 : decode cX11_fillPlan 116 = .ok (.return_, 1) := by decide +kernel
theorem dX11_oddsUpper_0 : decode cX11_oddsUpper 0 = .ok (.bipush 20, 2) := by decide +kernel
theorem dX11_oddsUpper_2 : decode cX11_oddsUpper 2 = .ok (.iload_n 0, 1) := by decide +kernel
theorem dX11_oddsUpper_3 : decode cX11_oddsUpper 3 = .ok (.iload_n 1, 1) := by decide +kernel
theorem dX11_oddsUpper_4 : decode cX11_oddsUpper 4 = .ok (.isub, 1) := by decide +kernel
theorem dX11_oddsUpper_5 : decode cX11_oddsUpper 5 = .ok (.invokestatic 429, 3) := by decide +kernel
theorem dX11_oddsUpper_8 : decode cX11_oddsUpper 8 = .ok (.imul, 1) := by decide +kernel
theorem dX11_oddsUpper_9 : decode cX11_oddsUpper 9 = .ok (.ireturn, 1) := by decide +kernel
theorem dX11_oddsLower_0 : decode cX11_oddsLower 0 = .ok (.iload_n 0, 1) := by decide +kernel
theorem dX11_oddsLower_1 : decode cX11_oddsLower 1 = .ok (.bipush 20, 2) := by decide +kernel
theorem dX11_oddsLower_3 : decode cX11_oddsLower 3 = .ok (.iadd, 1) := by decide +kernel
theorem dX11_oddsLower_4 : decode cX11_oddsLower 4 = .ok (.iload_n 1, 1) := by decide +kernel
theorem dX11_oddsLower_5 : decode cX11_oddsLower 5 = .ok (.bipush 20, 2) := by decide +kernel
theorem dX11_oddsLower_7 : decode cX11_oddsLower 7 = .ok (.iadd, 1) := by decide +kernel
theorem dX11_oddsLower_8 : decode cX11_oddsLower 8 = .ok (.imul, 1) := by decide +kernel
theorem dX11_oddsLower_9 : decode cX11_oddsLower 9 = .ok (.ireturn, 1) := by decide +kernel
theorem dX11_mostParting_0 : decode cX11_mostParting 0 = .ok (.bipush (-9), 2) := by decide +kernel
theorem dX11_mostParting_2 : decode cX11_mostParting 2 = .ok (.istore 4, 2) := by decide +kernel
theorem dX11_mostParting_4 : decode cX11_mostParting 4 = .ok (.ldc2_w 432, 3) := by decide +kernel
theorem dX11_mostParting_7 : decode cX11_mostParting 7 = .ok (.lstore 5, 2) := by decide +kernel
theorem dX11_mostParting_9 : decode cX11_mostParting 9 = .ok (.lconst 1, 1) := by decide +kernel
theorem dX11_mostParting_10 : decode cX11_mostParting 10 = .ok (.lstore 7, 2) := by decide +kernel
theorem dX11_mostParting_12 : decode cX11_mostParting 12 = .ok (.iconst 0, 1) := by decide +kernel
theorem dX11_mostParting_13 : decode cX11_mostParting 13 = .ok (.istore 9, 2) := by decide +kernel
theorem dX11_mostParting_15 : decode cX11_mostParting 15 = .ok (.iload 9, 2) := by decide +kernel
theorem dX11_mostParting_17 : decode cX11_mostParting 17 = .ok (.aload_n 0, 1) := by decide +kernel
theorem dX11_mostParting_18 : decode cX11_mostParting 18 = .ok (.getfield 98, 3) := by decide +kernel
theorem dX11_mostParting_21 : decode cX11_mostParting 21 = .ok (.if_icmp .ge 139, 3) := by decide +kernel
theorem dX11_mostParting_24 : decode cX11_mostParting 24 = .ok (.iconst 0, 1) := by decide +kernel
theorem dX11_mostParting_25 : decode cX11_mostParting 25 = .ok (.istore 10, 2) := by decide +kernel
theorem dX11_mostParting_27 : decode cX11_mostParting 27 = .ok (.iload 10, 2) := by decide +kernel
theorem dX11_mostParting_29 : decode cX11_mostParting 29 = .ok (.aload_n 0, 1) := by decide +kernel
theorem dX11_mostParting_30 : decode cX11_mostParting 30 = .ok (.getfield 98, 3) := by decide +kernel
theorem dX11_mostParting_33 : decode cX11_mostParting 33 = .ok (.if_icmp .ge 121, 3) := by decide +kernel
theorem dX11_mostParting_36 : decode cX11_mostParting 36 = .ok (.aload_n 0, 1) := by decide +kernel
theorem dX11_mostParting_37 : decode cX11_mostParting 37 = .ok (.iload 9, 2) := by decide +kernel
theorem dX11_mostParting_39 : decode cX11_mostParting 39 = .ok (.invokevirtual 152, 3) := by decide +kernel
theorem dX11_mostParting_42 : decode cX11_mostParting 42 = .ok (.astore 11, 2) := by decide +kernel
theorem dX11_mostParting_44 : decode cX11_mostParting 44 = .ok (.aload_n 0, 1) := by decide +kernel
theorem dX11_mostParting_45 : decode cX11_mostParting 45 = .ok (.iload 10, 2) := by decide +kernel
theorem dX11_mostParting_47 : decode cX11_mostParting 47 = .ok (.invokevirtual 152, 3) := by decide +kernel
theorem dX11_mostParting_50 : decode cX11_mostParting 50 = .ok (.astore 12, 2) := by decide +kernel
theorem dX11_mostParting_52 : decode cX11_mostParting 52 = .ok (.iload 10, 2) := by decide +kernel
theorem dX11_mostParting_54 : decode cX11_mostParting 54 = .ok (.iload 9, 2) := by decide +kernel
theorem dX11_mostParting_56 : decode cX11_mostParting 56 = .ok (.if_icmp .eq 92, 3) := by decide +kernel
theorem dX11_mostParting_59 : decode cX11_mostParting 59 = .ok (.aload 11, 2) := by decide +kernel
theorem dX11_mostParting_61 : decode cX11_mostParting 61 = .ok (.ifnull 87, 3) := by decide +kernel
theorem dX11_mostParting_64 : decode cX11_mostParting 64 = .ok (.aload 12, 2) := by decide +kernel
theorem dX11_mostParting_66 : decode cX11_mostParting 66 = .ok (.ifnull 82, 3) := by decide +kernel
theorem dX11_mostParting_69 : decode cX11_mostParting 69 = .ok (.aload_n 1, 1) := by decide +kernel
theorem dX11_mostParting_70 : decode cX11_mostParting 70 = .ok (.aload 12, 2) := by decide +kernel
theorem dX11_mostParting_72 : decode cX11_mostParting 72 = .ok (.aload 11, 2) := by decide +kernel
theorem dX11_mostParting_74 : decode cX11_mostParting 74 = .ok (.invokestatic 311, 3) := by decide +kernel
theorem dX11_mostParting_77 : decode cX11_mostParting 77 = .ok (.istore 13, 2) := by decide +kernel
theorem dX11_mostParting_79 : decode cX11_mostParting 79 = .ok (.aload_n 2, 1) := by decide +kernel
theorem dX11_mostParting_80 : decode cX11_mostParting 80 = .ok (.aload 12, 2) := by decide +kernel
theorem dX11_mostParting_82 : decode cX11_mostParting 82 = .ok (.aload 11, 2) := by decide +kernel
theorem dX11_mostParting_84 : decode cX11_mostParting 84 = .ok (.invokestatic 311, 3) := by decide +kernel
theorem dX11_mostParting_87 : decode cX11_mostParting 87 = .ok (.istore 14, 2) := by decide +kernel
theorem dX11_mostParting_89 : decode cX11_mostParting 89 = .ok (.iload 13, 2) := by decide +kernel
theorem dX11_mostParting_91 : decode cX11_mostParting 91 = .ok (.iload 14, 2) := by decide +kernel
theorem dX11_mostParting_93 : decode cX11_mostParting 93 = .ok (.invokestatic 314, 3) := by decide +kernel
theorem dX11_mostParting_96 : decode cX11_mostParting 96 = .ok (.i2l, 1) := by decide +kernel
theorem dX11_mostParting_97 : decode cX11_mostParting 97 = .ok (.lload 7, 2) := by decide +kernel
theorem dX11_mostParting_99 : decode cX11_mostParting 99 = .ok (.lmul, 1) := by decide +kernel
theorem dX11_mostParting_100 : decode cX11_mostParting 100 = .ok (.lload 5, 2) := by decide +kernel
theorem dX11_mostParting_102 : decode cX11_mostParting 102 = .ok (.iload 13, 2) := by decide +kernel
theorem dX11_mostParting_104 : decode cX11_mostParting 104 = .ok (.iload 14, 2) := by decide +kernel
theorem dX11_mostParting_106 : decode cX11_mostParting 106 = .ok (.invokestatic 317, 3) := by decide +kernel
theorem dX11_mostParting_109 : decode cX11_mostParting 109 = .ok (.i2l, 1) := by decide +kernel
theorem dX11_mostParting_110 : decode cX11_mostParting 110 = .ok (.lmul, 1) := by decide +kernel
theorem dX11_mostParting_111 : decode cX11_mostParting 111 = .ok (.lcmp, 1) := by decide +kernel
theorem dX11_mostParting_112 : decode cX11_mostParting 112 = .ok (.ifCond .le 36, 3) := by decide +kernel
theorem dX11_mostParting_115 : decode cX11_mostParting 115 = .ok (.iload 13, 2) := by decide +kernel
theorem dX11_mostParting_117 : decode cX11_mostParting 117 = .ok (.iload 14, 2) := by decide +kernel
theorem dX11_mostParting_119 : decode cX11_mostParting 119 = .ok (.invokestatic 314, 3) := by decide +kernel
theorem dX11_mostParting_122 : decode cX11_mostParting 122 = .ok (.i2l, 1) := by decide +kernel
theorem dX11_mostParting_123 : decode cX11_mostParting 123 = .ok (.lstore 5, 2) := by decide +kernel
theorem dX11_mostParting_125 : decode cX11_mostParting 125 = .ok (.iload 13, 2) := by decide +kernel
theorem dX11_mostParting_127 : decode cX11_mostParting 127 = .ok (.iload 14, 2) := by decide +kernel
theorem dX11_mostParting_129 : decode cX11_mostParting 129 = .ok (.invokestatic 317, 3) := by decide +kernel
theorem dX11_mostParting_132 : decode cX11_mostParting 132 = .ok (.i2l, 1) := by decide +kernel
theorem dX11_mostParting_133 : decode cX11_mostParting 133 = .ok (.lstore 7, 2) := by decide +kernel
theorem dX11_mostParting_135 : decode cX11_mostParting 135 = .ok (.iload_n 3, 1) := by decide +kernel
theorem dX11_mostParting_136 : decode cX11_mostParting 136 = .ok (.ifCond .ne 8, 3) := by decide +kernel
theorem dX11_mostParting_139 : decode cX11_mostParting 139 = .ok (.iload 9, 2) := by decide +kernel
theorem dX11_mostParting_141 : decode cX11_mostParting 141 = .ok (.goto 5, 3) := by decide +kernel
theorem dX11_mostParting_144 : decode cX11_mostParting 144 = .ok (.iload 10, 2) := by decide +kernel
theorem dX11_mostParting_146 : decode cX11_mostParting 146 = .ok (.istore 4, 2) := by decide +kernel
theorem dX11_mostParting_148 : decode cX11_mostParting 148 = .ok (.iinc 10 1, 3) := by decide +kernel
theorem dX11_mostParting_151 : decode cX11_mostParting 151 = .ok (.goto (-124), 3) := by decide +kernel
theorem dX11_mostParting_154 : decode cX11_mostParting 154 = .ok (.iinc 9 1, 3) := by decide +kernel
theorem dX11_mostParting_157 : decode cX11_mostParting 157 = .ok (.goto (-142), 3) := by decide +kernel
theorem dX11_mostParting_160 : decode cX11_mostParting 160 = .ok (.iload 4, 2) := by decide +kernel
theorem dX11_mostParting_162 : decode cX11_mostParting 162 = .ok (.ireturn, 1) := by decide +kernel
theorem dX11_leastTerm_0 : decode cX11_leastTerm 0 = .ok (.iload_n 0, 1) := by decide +kernel
theorem dX11_leastTerm_1 : decode cX11_leastTerm 1 = .ok (.iload_n 1, 1) := by decide +kernel
theorem dX11_leastTerm_2 : decode cX11_leastTerm 2 = .ok (.invokestatic 434, 3) := by decide +kernel
theorem dX11_leastTerm_5 : decode cX11_leastTerm 5 = .ok (.istore_n 3, 1) := by decide +kernel
theorem dX11_leastTerm_6 : decode cX11_leastTerm 6 = .ok (.iload_n 3, 1) := by decide +kernel
theorem dX11_leastTerm_7 : decode cX11_leastTerm 7 = .ok (.ifCond .gt 7, 3) := by decide +kernel
theorem dX11_leastTerm_10 : decode cX11_leastTerm 10 = .ok (.ldc2_w 224, 3) := by decide +kernel
theorem dX11_leastTerm_13 : decode cX11_leastTerm 13 = .ok (.lreturn, 1) := by decide +kernel
theorem dX11_leastTerm_14 : decode cX11_leastTerm 14 = .ok (.iload_n 2, 1) := by decide +kernel
theorem dX11_leastTerm_15 : decode cX11_leastTerm 15 = .ok (.ifCond .ne 7, 3) := by decide +kernel
theorem dX11_leastTerm_18 : decode cX11_leastTerm 18 = .ok (.iload_n 0, 1) := by decide +kernel
theorem dX11_leastTerm_19 : decode cX11_leastTerm 19 = .ok (.goto 4, 3) := by decide +kernel
theorem dX11_leastTerm_22 : decode cX11_leastTerm 22 = .ok (.iload_n 1, 1) := by decide +kernel
theorem dX11_leastTerm_23 : decode cX11_leastTerm 23 = .ok (.iload_n 3, 1) := by decide +kernel
theorem dX11_leastTerm_24 : decode cX11_leastTerm 24 = .ok (.idiv, 1) := by decide +kernel
theorem dX11_leastTerm_25 : decode cX11_leastTerm 25 = .ok (.i2l, 1) := by decide +kernel
theorem dX11_leastTerm_26 : decode cX11_leastTerm 26 = .ok (.lreturn, 1) := by decide +kernel
theorem dX11_commonDivisor_0 : decode cX11_commonDivisor 0 = .ok (.iload_n 0, 1) := by decide +kernel
theorem dX11_commonDivisor_1 : decode cX11_commonDivisor 1 = .ok (.istore_n 2, 1) := by decide +kernel
theorem dX11_commonDivisor_2 : decode cX11_commonDivisor 2 = .ok (.iload_n 1, 1) := by decide +kernel
theorem dX11_commonDivisor_3 : decode cX11_commonDivisor 3 = .ok (.istore_n 3, 1) := by decide +kernel
theorem dX11_commonDivisor_4 : decode cX11_commonDivisor 4 = .ok (.iconst 0, 1) := by decide +kernel
theorem dX11_commonDivisor_5 : decode cX11_commonDivisor 5 = .ok (.istore 4, 2) := by decide +kernel
theorem dX11_commonDivisor_7 : decode cX11_commonDivisor 7 = .ok (.iload 4, 2) := by decide +kernel
theorem dX11_commonDivisor_9 : decode cX11_commonDivisor 9 = .ok (.bipush 64, 2) := by decide +kernel
theorem dX11_commonDivisor_11 : decode cX11_commonDivisor 11 = .ok (.if_icmp .ge 23, 3) := by decide +kernel
theorem dX11_commonDivisor_14 : decode cX11_commonDivisor 14 = .ok (.iload_n 3, 1) := by decide +kernel
theorem dX11_commonDivisor_15 : decode cX11_commonDivisor 15 = .ok (.ifCond .eq 19, 3) := by decide +kernel
theorem dX11_commonDivisor_18 : decode cX11_commonDivisor 18 = .ok (.iload_n 2, 1) := by decide +kernel
theorem dX11_commonDivisor_19 : decode cX11_commonDivisor 19 = .ok (.iload_n 3, 1) := by decide +kernel
theorem dX11_commonDivisor_20 : decode cX11_commonDivisor 20 = .ok (.irem, 1) := by decide +kernel
theorem dX11_commonDivisor_21 : decode cX11_commonDivisor 21 = .ok (.istore 5, 2) := by decide +kernel
theorem dX11_commonDivisor_23 : decode cX11_commonDivisor 23 = .ok (.iload_n 3, 1) := by decide +kernel
theorem dX11_commonDivisor_24 : decode cX11_commonDivisor 24 = .ok (.istore_n 2, 1) := by decide +kernel
theorem dX11_commonDivisor_25 : decode cX11_commonDivisor 25 = .ok (.iload 5, 2) := by decide +kernel
theorem dX11_commonDivisor_27 : decode cX11_commonDivisor 27 = .ok (.istore_n 3, 1) := by decide +kernel
theorem dX11_commonDivisor_28 : decode cX11_commonDivisor 28 = .ok (.iinc 4 1, 3) := by decide +kernel
theorem dX11_commonDivisor_31 : decode cX11_commonDivisor 31 = .ok (.goto (-24), 3) := by decide +kernel
theorem dX11_commonDivisor_34 : decode cX11_commonDivisor 34 = .ok (.iload_n 2, 1) := by decide +kernel
theorem dX11_commonDivisor_35 : decode cX11_commonDivisor 35 = .ok (.ireturn, 1) := by decide +kernel
