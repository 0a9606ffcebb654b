theorem dX9_init_0 : decode cX9_init 0 = .ok (.aload_n 0, 1) := by decide +kernel
theorem dX9_init_1 : decode cX9_init 1 = .ok (.invokespecial 3, 3) := by decide +kernel
theorem dX9_init_4 : decode cX9_init 4 = .ok (.return_, 1) := by decide +kernel
theorem dX9_firstFault_0 : decode cX9_firstFault 0 = .ok (.aload_n 0, 1) := by decide +kernel
theorem dX9_firstFault_1 : decode cX9_firstFault 1 = .ok (.invokevirtual 9, 3) := by decide +kernel
theorem dX9_firstFault_4 : decode cX9_firstFault 4 = .ok (.aload_n 1, 1) := by decide +kernel
theorem dX9_firstFault_5 : decode cX9_firstFault 5 = .ok (.ifnonnull 5, 3) := by decide +kernel
theorem dX9_firstFault_8 : decode cX9_firstFault 8 = .ok (.iconst 0, 1) := by decide +kernel
theorem dX9_firstFault_9 : decode cX9_firstFault 9 = .ok (.ireturn, 1) := by decide +kernel
theorem dX9_firstFault_10 : decode cX9_firstFault 10 = .ok (.iconst 0, 1) := by decide +kernel
theorem dX9_firstFault_11 : decode cX9_firstFault 11 = .ok (.istore 4, 2) := by decide +kernel
theorem dX9_firstFault_13 : decode cX9_firstFault 13 = .ok (.iload 4, 2) := by decide +kernel
theorem dX9_firstFault_15 : decode cX9_firstFault 15 = .ok (.iload_n 3, 1) := by decide +kernel
theorem dX9_firstFault_16 : decode cX9_firstFault 16 = .ok (.if_icmp .ge 27, 3) := by decide +kernel
theorem dX9_firstFault_19 : decode cX9_firstFault 19 = .ok (.aload_n 0, 1) := by decide +kernel
theorem dX9_firstFault_20 : decode cX9_firstFault 20 = .ok (.aload_n 1, 1) := by decide +kernel
theorem dX9_firstFault_21 : decode cX9_firstFault 21 = .ok (.iload_n 2, 1) := by decide +kernel
theorem dX9_firstFault_22 : decode cX9_firstFault 22 = .ok (.iload 4, 2) := by decide +kernel
theorem dX9_firstFault_24 : decode cX9_firstFault 24 = .ok (.iadd, 1) := by decide +kernel
theorem dX9_firstFault_25 : decode cX9_firstFault 25 = .ok (.invokevirtual 14, 3) := by decide +kernel
theorem dX9_firstFault_28 : decode cX9_firstFault 28 = .ok (.invokevirtual 20, 3) := by decide +kernel
theorem dX9_firstFault_31 : decode cX9_firstFault 31 = .ok (.ifCond .ne 6, 3) := by decide +kernel
theorem dX9_firstFault_34 : decode cX9_firstFault 34 = .ok (.iload 4, 2) := by decide +kernel
theorem dX9_firstFault_36 : decode cX9_firstFault 36 = .ok (.ireturn, 1) := by decide +kernel
theorem dX9_firstFault_37 : decode cX9_firstFault 37 = .ok (.iinc 4 1, 3) := by decide +kernel
theorem dX9_firstFault_40 : decode cX9_firstFault 40 = .ok (.goto (-27), 3) := by decide +kernel
theorem dX9_firstFault_43 : decode cX9_firstFault 43 = .ok (.aload_n 0, 1) := by decide +kernel
theorem dX9_firstFault_44 : decode cX9_firstFault 44 = .ok (.invokevirtual 24, 3) := by decide +kernel
theorem dX9_firstFault_47 : decode cX9_firstFault 47 = .ok (.ifCond .eq 8, 3) := by decide +kernel
theorem dX9_firstFault_50 : decode cX9_firstFault 50 = .ok (.bipush (-9), 2) := by decide +kernel
theorem dX9_firstFault_52 : decode cX9_firstFault 52 = .ok (.goto 8, 3) := by decide +kernel
theorem dX9_firstFault_55 : decode cX9_firstFault 55 = .ok (.iload_n 3, 1) := by decide +kernel
theorem dX9_firstFault_56 : decode cX9_firstFault 56 = .ok (.iconst 0, 1) := by decide +kernel
theorem dX9_firstFault_57 : decode cX9_firstFault 57 = .ok (.invokestatic 28, 3) := by decide +kernel
theorem dX9_firstFault_60 : decode cX9_firstFault 60 = .ok (.ireturn, 1) := by decide +kernel
theorem dJ9_abs_0f7a4_0 : decode cJ9_abs_0f7a4 0 = .ok (.iload_n 0, 1) := by decide +kernel
theorem dJ9_abs_0f7a4_1 : decode cJ9_abs_0f7a4 1 = .ok (.ifCond .ge 8, 3) := by decide +kernel
theorem dJ9_abs_0f7a4_4 : decode cJ9_abs_0f7a4 4 = .ok (.iload_n 0, 1) := by decide +kernel
theorem dJ9_abs_0f7a4_5 : decode cJ9_abs_0f7a4 5 = .ok (.ineg, 1) := by decide +kernel
theorem dJ9_abs_0f7a4_6 : decode cJ9_abs_0f7a4 6 = .ok (.goto 4, 3) := by decide +kernel
theorem dJ9_abs_0f7a4_9 : decode cJ9_abs_0f7a4 9 = .ok (.iload_n 0, 1) := by decide +kernel
theorem dJ9_abs_0f7a4_10 : decode cJ9_abs_0f7a4 10 = .ok (.ireturn, 1) := by decide +kernel
theorem dJ9_max_7cf53_0 : decode cJ9_max_7cf53 0 = .ok (.iload_n 0, 1) := by decide +kernel
theorem dJ9_max_7cf53_1 : decode cJ9_max_7cf53 1 = .ok (.iload_n 1, 1) := by decide +kernel
theorem dJ9_max_7cf53_2 : decode cJ9_max_7cf53 2 = .ok (.if_icmp .lt 7, 3) := by decide +kernel
theorem dJ9_max_7cf53_5 : decode cJ9_max_7cf53 5 = .ok (.iload_n 0, 1) := by decide +kernel
theorem dJ9_max_7cf53_6 : decode cJ9_max_7cf53 6 = .ok (.goto 4, 3) := by decide +kernel
theorem dJ9_max_7cf53_9 : decode cJ9_max_7cf53 9 = .ok (.iload_n 1, 1) := by decide +kernel
theorem dJ9_max_7cf53_10 : decode cJ9_max_7cf53 10 = .ok (.ireturn, 1) := by decide +kernel
theorem dJ9_min_7cf53_0 : decode cJ9_min_7cf53 0 = .ok (.iload_n 0, 1) := by decide +kernel
theorem dJ9_min_7cf53_1 : decode cJ9_min_7cf53 1 = .ok (.iload_n 1, 1) := by decide +kernel
theorem dJ9_min_7cf53_2 : decode cJ9_min_7cf53 2 = .ok (.if_icmp .gt 7, 3) := by decide +kernel
theorem dJ9_min_7cf53_5 : decode cJ9_min_7cf53 5 = .ok (.iload_n 0, 1) := by decide +kernel
theorem dJ9_min_7cf53_6 : decode cJ9_min_7cf53 6 = .ok (.goto 4, 3) := by decide +kernel
theorem dJ9_min_7cf53_9 : decode cJ9_min_7cf53 9 = .ok (.iload_n 1, 1) := by decide +kernel
theorem dJ9_min_7cf53_10 : decode cJ9_min_7cf53 10 = .ok (.ireturn, 1) := by decide +kernel
