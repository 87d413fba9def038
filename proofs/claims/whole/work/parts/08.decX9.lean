theorem dX9_init_0 : decode cX9_init 0 = .ok (.aload_n 0, 1) := by decide +kernel
theorem dX9_init_1 : decode cX9_init 1 = .ok (.invokespecial 1, 3) := by decide +kernel
theorem dX9_init_4 : decode cX9_init 4 = .ok (.aload_n 0, 1) := by decide +kernel
theorem dX9_init_5 : decode cX9_init 5 = .ok (.sipush 255, 3) := by decide +kernel
theorem dX9_init_8 : decode cX9_init 8 = .ok (.newarray .int, 2) := by decide +kernel
theorem dX9_init_10 : decode cX9_init 10 = .ok (.putfield 7, 3) := by decide +kernel
theorem dX9_init_13 : decode cX9_init 13 = .ok (.aload_n 0, 1) := by decide +kernel
theorem dX9_init_14 : decode cX9_init 14 = .ok (.sipush 255, 3) := by decide +kernel
theorem dX9_init_17 : decode cX9_init 17 = .ok (.newarray .int, 2) := by decide +kernel
theorem dX9_init_19 : decode cX9_init 19 = .ok (.putfield 13, 3) := by decide +kernel
theorem dX9_init_22 : decode cX9_init 22 = .ok (.aload_n 0, 1) := by decide +kernel
theorem dX9_init_23 : decode cX9_init 23 = .ok (.sipush 255, 3) := by decide +kernel
theorem dX9_init_26 : decode cX9_init 26 = .ok (.newarray .int, 2) := by decide +kernel
theorem dX9_init_28 : decode cX9_init 28 = .ok (.putfield 16, 3) := by decide +kernel
theorem dX9_init_31 : decode cX9_init 31 = .ok (.aload_n 0, 1) := by decide +kernel
theorem dX9_init_32 : decode cX9_init 32 = .ok (.sipush 255, 3) := by decide +kernel
theorem dX9_init_35 : decode cX9_init 35 = .ok (.newarray .int, 2) := by decide +kernel
theorem dX9_init_37 : decode cX9_init 37 = .ok (.putfield 19, 3) := by decide +kernel
theorem dX9_init_40 : decode cX9_init 40 = .ok (.aload_n 0, 1) := by decide +kernel
theorem dX9_init_41 : decode cX9_init 41 = .ok (.bipush 6, 2) := by decide +kernel
theorem dX9_init_43 : decode cX9_init 43 = .ok (.newarray .int, 2) := by decide +kernel
theorem dX9_init_45 : decode cX9_init 45 = .ok (.putfield 22, 3) := by decide +kernel
theorem dX9_init_48 : decode cX9_init 48 = .ok (.aload_n 0, 1) := by decide +kernel
theorem dX9_init_49 : decode cX9_init 49 = .ok (.iconst 4, 1) := by decide +kernel
theorem dX9_init_50 : decode cX9_init 50 = .ok (.newarray .int, 2) := by decide +kernel
theorem dX9_init_52 : decode cX9_init 52 = .ok (.putfield 25, 3) := by decide +kernel
theorem dX9_init_55 : decode cX9_init 55 = .ok (.aload_n 0, 1) := by decide +kernel
theorem dX9_init_56 : decode cX9_init 56 = .ok (.iconst 4, 1) := by decide +kernel
theorem dX9_init_57 : decode cX9_init 57 = .ok (.newarray .int, 2) := by decide +kernel
theorem dX9_init_59 : decode cX9_init 59 = .ok (.putfield 28, 3) := by decide +kernel
theorem dX9_init_62 : decode cX9_init 62 = .ok (.aload_n 0, 1) := by decide +kernel
theorem dX9_init_63 : decode cX9_init 63 = .ok (.sipush 160, 3) := by decide +kernel
theorem dX9_init_66 : decode cX9_init 66 = .ok (.newarray .int, 2) := by decide +kernel
theorem dX9_init_68 : decode cX9_init 68 = .ok (.putfield 31, 3) := by decide +kernel
theorem dX9_init_71 : decode cX9_init 71 = .ok (.aload_n 0, 1) := by decide +kernel
theorem dX9_init_72 : decode cX9_init 72 = .ok (.bipush 40, 2) := by decide +kernel
theorem dX9_init_74 : decode cX9_init 74 = .ok (.newarray .int, 2) := by decide +kernel
theorem dX9_init_76 : decode cX9_init 76 = .ok (.putfield 34, 3) := by decide +kernel
theorem dX9_init_79 : decode cX9_init 79 = .ok (.aload_n 0, 1) := by decide +kernel
theorem dX9_init_80 : decode cX9_init 80 = .ok (.bipush 40, 2) := by decide +kernel
theorem dX9_init_82 : decode cX9_init 82 = .ok (.newarray .int, 2) := by decide +kernel
theorem dX9_init_84 : decode cX9_init 84 = .ok (.putfield 37, 3) := by decide +kernel
theorem dX9_init_87 : decode cX9_init 87 = .ok (.aload_n 0, 1) := by decide +kernel
theorem dX9_init_88 : decode cX9_init 88 = .ok (.getfield 7, 3) := by decide +kernel
theorem dX9_init_91 : decode cX9_init 91 = .ok (.iconst 2, 1) := by decide +kernel
theorem dX9_init_92 : decode cX9_init 92 = .ok (.iconst 1, 1) := by decide +kernel
theorem dX9_init_93 : decode cX9_init 93 = .ok (.iastore, 1) := by decide +kernel
theorem dX9_init_94 : decode cX9_init 94 = .ok (.aload_n 0, 1) := by decide +kernel
theorem dX9_init_95 : decode cX9_init 95 = .ok (.getfield 7, 3) := by decide +kernel
theorem dX9_init_98 : decode cX9_init 98 = .ok (.iconst 3, 1) := by decide +kernel
theorem dX9_init_99 : decode cX9_init 99 = .ok (.iconst 4, 1) := by decide +kernel
theorem dX9_init_100 : decode cX9_init 100 = .ok (.iastore, 1) := by decide +kernel
theorem dX9_init_101 : decode cX9_init 101 = .ok (.aload_n 0, 1) := by decide +kernel
theorem dX9_init_102 : decode cX9_init 102 = .ok (.getfield 7, 3) := by decide +kernel
theorem dX9_init_105 : decode cX9_init 105 = .ok (.iconst 1, 1) := by decide +kernel
theorem dX9_init_106 : decode cX9_init 106 = .ok (.iconst 4, 1) := by decide +kernel
theorem dX9_init_107 : decode cX9_init 107 = .ok (.iastore, 1) := by decide +kernel
theorem dX9_init_108 : decode cX9_init 108 = .ok (.aload_n 0, 1) := by decide +kernel
theorem dX9_init_109 : decode cX9_init 109 = .ok (.getfield 7, 3) := by decide +kernel
theorem dX9_init_112 : decode cX9_init 112 = .ok (.bipush 10, 2) := by decide +kernel
theorem dX9_init_114 : decode cX9_init 114 = .ok (.iconst 1, 1) := by decide +kernel
theorem dX9_init_115 : decode cX9_init 115 = .ok (.iastore, 1) := by decide +kernel
theorem dX9_init_116 : decode cX9_init 116 = .ok (.aload_n 0, 1) := by decide +kernel
theorem dX9_init_117 : decode cX9_init 117 = .ok (.getfield 7, 3) := by decide +kernel
theorem dX9_init_120 : decode cX9_init 120 = .ok (.bipush 6, 2) := by decide +kernel
theorem dX9_init_122 : decode cX9_init 122 = .ok (.iconst (-1), 1) := by decide +kernel
theorem dX9_init_123 : decode cX9_init 123 = .ok (.iastore, 1) := by decide +kernel
theorem dX9_init_124 : decode cX9_init 124 = .ok (.aload_n 0, 1) := by decide +kernel
theorem dX9_init_125 : decode cX9_init 125 = .ok (.getfield 7, 3) := by decide +kernel
theorem dX9_init_128 : decode cX9_init 128 = .ok (.bipush 7, 2) := by decide +kernel
theorem dX9_init_130 : decode cX9_init 130 = .ok (.iconst (-1), 1) := by decide +kernel
theorem dX9_init_131 : decode cX9_init 131 = .ok (.iastore, 1) := by decide +kernel
theorem dX9_init_132 : decode cX9_init 132 = .ok (.return_, 1) := by decide +kernel
theorem dX9_in_0 : decode cX9_in 0 = .ok (.iload_n 0, 1) := by decide +kernel
theorem dX9_in_1 : decode cX9_in 1 = .ok (.iload_n 1, 1) := by decide +kernel
theorem dX9_in_2 : decode cX9_in 2 = .ok (.if_icmp .lt 12, 3) := by decide +kernel
theorem dX9_in_5 : decode cX9_in 5 = .ok (.iload_n 0, 1) := by decide +kernel
theorem dX9_in_6 : decode cX9_in 6 = .ok (.iload_n 2, 1) := by decide +kernel
theorem dX9_in_7 : decode cX9_in 7 = .ok (.if_icmp .gt 7, 3) := by decide +kernel
theorem dX9_in_10 : decode cX9_in 10 = .ok (.iconst 1, 1) := by decide +kernel
theorem dX9_in_11 : decode cX9_in 11 = .ok (.goto 4, 3) := by decide +kernel
theorem dX9_in_14 : decode cX9_in 14 = .ok (.iconst 0, 1) := by decide +kernel
theorem dX9_in_15 : decode cX9_in 15 = .ok (.ireturn, 1) := by decide +kernel
theorem dX9_errs_0 : decode cX9_errs 0 = .ok (.aload_n 0, 1) := by decide +kernel
theorem dX9_errs_1 : decode cX9_errs 1 = .ok (.getfield 22, 3) := by decide +kernel
theorem dX9_errs_4 : decode cX9_errs 4 = .ok (.ldc 40, 2) := by decide +kernel
theorem dX9_errs_6 : decode cX9_errs 6 = .ok (.iload_n 1, 1) := by decide +kernel
theorem dX9_errs_7 : decode cX9_errs 7 = .ok (.isub, 1) := by decide +kernel
theorem dX9_errs_8 : decode cX9_errs 8 = .ok (.dup2, 1) := by decide +kernel
theorem dX9_errs_9 : decode cX9_errs 9 = .ok (.iaload, 1) := by decide +kernel
theorem dX9_errs_10 : decode cX9_errs 10 = .ok (.iconst 1, 1) := by decide +kernel
theorem dX9_errs_11 : decode cX9_errs 11 = .ok (.iadd, 1) := by decide +kernel
theorem dX9_errs_12 : decode cX9_errs 12 = .ok (.iastore, 1) := by decide +kernel
theorem dX9_errs_13 : decode cX9_errs 13 = .ok (.iload_n 1, 1) := by decide +kernel
theorem dX9_errs_14 : decode cX9_errs 14 = .ok (.ireturn, 1) := by decide +kernel
theorem dX9_held_0 : decode cX9_held 0 = .ok (.iload_n 0, 1) := by decide +kernel
theorem dX9_held_1 : decode cX9_held 1 = .ok (.iload_n 1, 1) := by decide +kernel
theorem dX9_held_2 : decode cX9_held 2 = .ok (.if_icmp .ge 7, 3) := by decide +kernel
theorem dX9_held_5 : decode cX9_held 5 = .ok (.iload_n 1, 1) := by decide +kernel
theorem dX9_held_6 : decode cX9_held 6 = .ok (.goto 13, 3) := by decide +kernel
theorem dX9_held_9 : decode cX9_held 9 = .ok (.iload_n 0, 1) := by decide +kernel
theorem dX9_held_10 : decode cX9_held 10 = .ok (.iload_n 2, 1) := by decide +kernel
theorem dX9_held_11 : decode cX9_held 11 = .ok (.if_icmp .le 7, 3) := by decide +kernel
theorem dX9_held_14 : decode cX9_held 14 = .ok (.iload_n 2, 1) := by decide +kernel
theorem dX9_held_15 : decode cX9_held 15 = .ok (.goto 4, 3) := by decide +kernel
theorem dX9_held_18 : decode cX9_held 18 = .ok (.iload_n 0, 1) := by decide +kernel
theorem dX9_held_19 : decode cX9_held 19 = .ok (.ireturn, 1) := by decide +kernel
theorem dX9_moveAll_0 : decode cX9_moveAll 0 = .ok (.iconst 0, 1) := by decide +kernel
theorem dX9_moveAll_1 : decode cX9_moveAll 1 = .ok (.istore_n 3, 1) := by decide +kernel
theorem dX9_moveAll_2 : decode cX9_moveAll 2 = .ok (.iload_n 3, 1) := by decide +kernel
theorem dX9_moveAll_3 : decode cX9_moveAll 3 = .ok (.sipush 255, 3) := by decide +kernel
theorem dX9_moveAll_6 : decode cX9_moveAll 6 = .ok (.if_icmp .ge 15, 3) := by decide +kernel
theorem dX9_moveAll_9 : decode cX9_moveAll 9 = .ok (.aload_n 2, 1) := by decide +kernel
theorem dX9_moveAll_10 : decode cX9_moveAll 10 = .ok (.iload_n 3, 1) := by decide +kernel
theorem dX9_moveAll_11 : decode cX9_moveAll 11 = .ok (.aload_n 1, 1) := by decide +kernel
theorem dX9_moveAll_12 : decode cX9_moveAll 12 = .ok (.iload_n 3, 1) := by decide +kernel
theorem dX9_moveAll_13 : decode cX9_moveAll 13 = .ok (.iaload, 1) := by decide +kernel
theorem dX9_moveAll_14 : decode cX9_moveAll 14 = .ok (.iastore, 1) := by decide +kernel
theorem dX9_moveAll_15 : decode cX9_moveAll 15 = .ok (.iinc 3 1, 3) := by decide +kernel
theorem dX9_moveAll_18 : decode cX9_moveAll 18 = .ok (.goto (-16), 3) := by decide +kernel
theorem dX9_moveAll_21 : decode cX9_moveAll 21 = .ok (.return_, 1) := by decide +kernel
theorem dX9_bits_0 : decode cX9_bits 0 = .ok (.iconst 0, 1) := by decide +kernel
theorem dX9_bits_1 : decode cX9_bits 1 = .ok (.istore_n 1, 1) := by decide +kernel
theorem dX9_bits_2 : decode cX9_bits 2 = .ok (.iload_n 0, 1) := by decide +kernel
theorem dX9_bits_3 : decode cX9_bits 3 = .ok (.istore_n 2, 1) := by decide +kernel
theorem dX9_bits_4 : decode cX9_bits 4 = .ok (.iload_n 2, 1) := by decide +kernel
theorem dX9_bits_5 : decode cX9_bits 5 = .ok (.ifCond .eq 15, 3) := by decide +kernel
theorem dX9_bits_8 : decode cX9_bits 8 = .ok (.iinc 1 1, 3) := by decide +kernel
theorem dX9_bits_11 : decode cX9_bits 11 = .ok (.iload_n 2, 1) := by decide +kernel
theorem dX9_bits_12 : decode cX9_bits 12 = .ok (.iload_n 2, 1) := by decide +kernel
theorem dX9_bits_13 : decode cX9_bits 13 = .ok (.iconst 1, 1) := by decide +kernel
theorem dX9_bits_14 : decode cX9_bits 14 = .ok (.isub, 1) := by decide +kernel
theorem dX9_bits_15 : decode cX9_bits 15 = .ok (.iand, 1) := by decide +kernel
theorem dX9_bits_16 : decode cX9_bits 16 = .ok (.istore_n 2, 1) := by decide +kernel
theorem dX9_bits_17 : decode cX9_bits 17 = .ok (.goto (-13), 3) := by decide +kernel
theorem dX9_bits_20 : decode cX9_bits 20 = .ok (.iload_n 1, 1) := by decide +kernel
theorem dX9_bits_21 : decode cX9_bits 21 = .ok (.ireturn, 1) := by decide +kernel
theorem dX9_has_0 : decode cX9_has 0 = .ok (.iload_n 0, 1) := by decide +kernel
theorem dX9_has_1 : decode cX9_has 1 = .ok (.iload_n 1, 1) := by decide +kernel
theorem dX9_has_2 : decode cX9_has 2 = .ok (.ishr, 1) := by decide +kernel
theorem dX9_has_3 : decode cX9_has 3 = .ok (.iconst 1, 1) := by decide +kernel
theorem dX9_has_4 : decode cX9_has 4 = .ok (.iand, 1) := by decide +kernel
theorem dX9_has_5 : decode cX9_has 5 = .ok (.iconst 1, 1) := by decide +kernel
theorem dX9_has_6 : decode cX9_has 6 = .ok (.if_icmp .ne 7, 3) := by decide +kernel
theorem dX9_has_9 : decode cX9_has 9 = .ok (.iconst 1, 1) := by decide +kernel
theorem dX9_has_10 : decode cX9_has 10 = .ok (.goto 4, 3) := by decide +kernel
theorem dX9_has_13 : decode cX9_has 13 = .ok (.iconst 0, 1) := by decide +kernel
theorem dX9_has_14 : decode cX9_has 14 = .ok (.ireturn, 1) := by decide +kernel
theorem dX9_its_0 : decode cX9_its 0 = .ok (.aload_n 0, 1) := by decide +kernel
theorem dX9_its_1 : decode cX9_its 1 = .ok (.getfield 7, 3) := by decide +kernel
theorem dX9_its_4 : decode cX9_its 4 = .ok (.bipush 29, 2) := by decide +kernel
theorem dX9_its_6 : decode cX9_its 6 = .ok (.bipush 7, 2) := by decide +kernel
theorem dX9_its_8 : decode cX9_its 8 = .ok (.iload_n 1, 1) := by decide +kernel
theorem dX9_its_9 : decode cX9_its 9 = .ok (.imul, 1) := by decide +kernel
theorem dX9_its_10 : decode cX9_its 10 = .ok (.iadd, 1) := by decide +kernel
theorem dX9_its_11 : decode cX9_its 11 = .ok (.iload_n 2, 1) := by decide +kernel
theorem dX9_its_12 : decode cX9_its 12 = .ok (.iadd, 1) := by decide +kernel
theorem dX9_its_13 : decode cX9_its 13 = .ok (.iaload, 1) := by decide +kernel
theorem dX9_its_14 : decode cX9_its 14 = .ok (.ireturn, 1) := by decide +kernel
theorem dX9_gets_0 : decode cX9_gets 0 = .ok (.aload_n 0, 1) := by decide +kernel
theorem dX9_gets_1 : decode cX9_gets 1 = .ok (.getfield 7, 3) := by decide +kernel
theorem dX9_gets_4 : decode cX9_gets 4 = .ok (.bipush 29, 2) := by decide +kernel
theorem dX9_gets_6 : decode cX9_gets 6 = .ok (.bipush 7, 2) := by decide +kernel
theorem dX9_gets_8 : decode cX9_gets 8 = .ok (.iload_n 1, 1) := by decide +kernel
theorem dX9_gets_9 : decode cX9_gets 9 = .ok (.imul, 1) := by decide +kernel
theorem dX9_gets_10 : decode cX9_gets 10 = .ok (.iadd, 1) := by decide +kernel
theorem dX9_gets_11 : decode cX9_gets 11 = .ok (.iload_n 2, 1) := by decide +kernel
theorem dX9_gets_12 : decode cX9_gets 12 = .ok (.iadd, 1) := by decide +kernel
theorem dX9_gets_13 : decode cX9_gets 13 = .ok (.iload_n 3, 1) := by decide +kernel
theorem dX9_gets_14 : decode cX9_gets 14 = .ok (.iastore, 1) := by decide +kernel
theorem dX9_gets_15 : decode cX9_gets 15 = .ok (.return_, 1) := by decide +kernel
theorem dX9_isPlace_0 : decode cX9_isPlace 0 = .ok (.iload_n 1, 1) := by decide +kernel
theorem dX9_isPlace_1 : decode cX9_isPlace 1 = .ok (.iconst 0, 1) := by decide +kernel
theorem dX9_isPlace_2 : decode cX9_isPlace 2 = .ok (.aload_n 0, 1) := by decide +kernel
theorem dX9_isPlace_3 : decode cX9_isPlace 3 = .ok (.getfield 7, 3) := by decide +kernel
theorem dX9_isPlace_6 : decode cX9_isPlace 6 = .ok (.iconst 3, 1) := by decide +kernel
theorem dX9_isPlace_7 : decode cX9_isPlace 7 = .ok (.iaload, 1) := by decide +kernel
theorem dX9_isPlace_8 : decode cX9_isPlace 8 = .ok (.iconst 1, 1) := by decide +kernel
theorem dX9_isPlace_9 : decode cX9_isPlace 9 = .ok (.isub, 1) := by decide +kernel
theorem dX9_isPlace_10 : decode cX9_isPlace 10 = .ok (.invokestatic 41, 3) := by decide +kernel
theorem dX9_isPlace_13 : decode cX9_isPlace 13 = .ok (.ireturn, 1) := by decide +kernel
theorem dX9_isTurner_0 : decode cX9_isTurner 0 = .ok (.iload_n 1, 1) := by decide +kernel
theorem dX9_isTurner_1 : decode cX9_isTurner 1 = .ok (.iconst 0, 1) := by decide +kernel
theorem dX9_isTurner_2 : decode cX9_isTurner 2 = .ok (.aload_n 0, 1) := by decide +kernel
theorem dX9_isTurner_3 : decode cX9_isTurner 3 = .ok (.getfield 7, 3) := by decide +kernel
theorem dX9_isTurner_6 : decode cX9_isTurner 6 = .ok (.bipush 8, 2) := by decide +kernel
theorem dX9_isTurner_8 : decode cX9_isTurner 8 = .ok (.iaload, 1) := by decide +kernel
theorem dX9_isTurner_9 : decode cX9_isTurner 9 = .ok (.iconst 1, 1) := by decide +kernel
theorem dX9_isTurner_10 : decode cX9_isTurner 10 = .ok (.isub, 1) := by decide +kernel
theorem dX9_isTurner_11 : decode cX9_isTurner 11 = .ok (.invokestatic 41, 3) := by decide +kernel
theorem dX9_isTurner_14 : decode cX9_isTurner 14 = .ok (.ireturn, 1) := by decide +kernel
theorem dX9_isCrosser_0 : decode cX9_isCrosser 0 = .ok (.iload_n 1, 1) := by decide +kernel
theorem dX9_isCrosser_1 : decode cX9_isCrosser 1 = .ok (.iconst 0, 1) := by decide +kernel
theorem dX9_isCrosser_2 : decode cX9_isCrosser 2 = .ok (.aload_n 0, 1) := by decide +kernel
theorem dX9_isCrosser_3 : decode cX9_isCrosser 3 = .ok (.getfield 7, 3) := by decide +kernel
theorem dX9_isCrosser_6 : decode cX9_isCrosser 6 = .ok (.bipush 9, 2) := by decide +kernel
theorem dX9_isCrosser_8 : decode cX9_isCrosser 8 = .ok (.iaload, 1) := by decide +kernel
theorem dX9_isCrosser_9 : decode cX9_isCrosser 9 = .ok (.iconst 1, 1) := by decide +kernel
theorem dX9_isCrosser_10 : decode cX9_isCrosser 10 = .ok (.isub, 1) := by decide +kernel
theorem dX9_isCrosser_11 : decode cX9_isCrosser 11 = .ok (.invokestatic 41, 3) := by decide +kernel
theorem dX9_isCrosser_14 : decode cX9_isCrosser 14 = .ok (.ireturn, 1) := by decide +kernel
theorem dX9_isSet_0 : decode cX9_isSet 0 = .ok (.iload_n 1, 1) := by decide +kernel
theorem dX9_isSet_1 : decode cX9_isSet 1 = .ok (.iconst 0, 1) := by decide +kernel
theorem dX9_isSet_2 : decode cX9_isSet 2 = .ok (.iconst 1, 1) := by decide +kernel
theorem dX9_isSet_3 : decode cX9_isSet 3 = .ok (.aload_n 0, 1) := by decide +kernel
theorem dX9_isSet_4 : decode cX9_isSet 4 = .ok (.getfield 7, 3) := by decide +kernel
theorem dX9_isSet_7 : decode cX9_isSet 7 = .ok (.bipush 9, 2) := by decide +kernel
theorem dX9_isSet_9 : decode cX9_isSet 9 = .ok (.iaload, 1) := by decide +kernel
theorem dX9_isSet_10 : decode cX9_isSet 10 = .ok (.ishl, 1) := by decide +kernel
theorem dX9_isSet_11 : decode cX9_isSet 11 = .ok (.iconst 1, 1) := by decide +kernel
theorem dX9_isSet_12 : decode cX9_isSet 12 = .ok (.isub, 1) := by decide +kernel
theorem dX9_isSet_13 : decode cX9_isSet 13 = .ok (.invokestatic 41, 3) := by decide +kernel
theorem dX9_isSet_16 : decode cX9_isSet 16 = .ok (.ireturn, 1) := by decide +kernel
theorem dX9_becomes_0 : decode cX9_becomes 0 = .ok (.aload_n 0, 1) := by decide +kernel
theorem dX9_becomes_1 : decode cX9_becomes 1 = .ok (.getfield 7, 3) := by decide +kernel
theorem dX9_becomes_4 : decode cX9_becomes 4 = .ok (.iload_n 1, 1) := by decide +kernel
theorem dX9_becomes_5 : decode cX9_becomes 5 = .ok (.iaload, 1) := by decide +kernel
theorem dX9_becomes_6 : decode cX9_becomes 6 = .ok (.istore_n 3, 1) := by decide +kernel
theorem dX9_becomes_7 : decode cX9_becomes 7 = .ok (.aload_n 0, 1) := by decide +kernel
theorem dX9_becomes_8 : decode cX9_becomes 8 = .ok (.getfield 7, 3) := by decide +kernel
theorem dX9_becomes_11 : decode cX9_becomes 11 = .ok (.iload_n 1, 1) := by decide +kernel
theorem dX9_becomes_12 : decode cX9_becomes 12 = .ok (.iload_n 2, 1) := by decide +kernel
theorem dX9_becomes_13 : decode cX9_becomes 13 = .ok (.iastore, 1) := by decide +kernel
theorem dX9_becomes_14 : decode cX9_becomes 14 = .ok (.iload_n 3, 1) := by decide +kernel
theorem dX9_becomes_15 : decode cX9_becomes 15 = .ok (.ireturn, 1) := by decide +kernel
theorem dX9_rope_0 : decode cX9_rope 0 = .ok (.iload_n 1, 1) := by decide +kernel
theorem dX9_rope_1 : decode cX9_rope 1 = .ok (.iconst 2, 1) := by decide +kernel
theorem dX9_rope_2 : decode cX9_rope 2 = .ok (.bipush 8, 2) := by decide +kernel
theorem dX9_rope_4 : decode cX9_rope 4 = .ok (.invokestatic 41, 3) := by decide +kernel
theorem dX9_rope_7 : decode cX9_rope 7 = .ok (.ifCond .ne 10, 3) := by decide +kernel
theorem dX9_rope_10 : decode cX9_rope 10 = .ok (.aload_n 0, 1) := by decide +kernel
theorem dX9_rope_11 : decode cX9_rope 11 = .ok (.ldc 45, 2) := by decide +kernel
theorem dX9_rope_13 : decode cX9_rope 13 = .ok (.invokevirtual 46, 3) := by decide +kernel
theorem dX9_rope_16 : decode cX9_rope 16 = .ok (.ireturn, 1) := by decide +kernel
theorem dX9_rope_17 : decode cX9_rope 17 = .ok (.aload_n 0, 1) := by decide +kernel
theorem dX9_rope_18 : decode cX9_rope 18 = .ok (.getfield 7, 3) := by decide +kernel
theorem dX9_rope_21 : decode cX9_rope 21 = .ok (.bipush 9, 2) := by decide +kernel
theorem dX9_rope_23 : decode cX9_rope 23 = .ok (.iaload, 1) := by decide +kernel
theorem dX9_rope_24 : decode cX9_rope 24 = .ok (.ifCond .le 10, 3) := by decide +kernel
theorem dX9_rope_27 : decode cX9_rope 27 = .ok (.aload_n 0, 1) := by decide +kernel
theorem dX9_rope_28 : decode cX9_rope 28 = .ok (.ldc 50, 2) := by decide +kernel
theorem dX9_rope_30 : decode cX9_rope 30 = .ok (.invokevirtual 46, 3) := by decide +kernel
theorem dX9_rope_33 : decode cX9_rope 33 = .ok (.ireturn, 1) := by decide +kernel
theorem dX9_rope_34 : decode cX9_rope 34 = .ok (.iconst 0, 1) := by decide +kernel
theorem dX9_rope_35 : decode cX9_rope 35 = .ok (.istore_n 2, 1) := by decide +kernel
theorem dX9_rope_36 : decode cX9_rope 36 = .ok (.iload_n 2, 1) := by decide +kernel
theorem dX9_rope_37 : decode cX9_rope 37 = .ok (.bipush 8, 2) := by decide +kernel
theorem dX9_rope_39 : decode cX9_rope 39 = .ok (.if_icmp .ge 19, 3) := by decide +kernel
theorem dX9_rope_42 : decode cX9_rope 42 = .ok (.aload_n 0, 1) := by decide +kernel
theorem dX9_rope_43 : decode cX9_rope 43 = .ok (.getfield 7, 3) := by decide +kernel
theorem dX9_rope_46 : decode cX9_rope 46 = .ok (.bipush 13, 2) := by decide +kernel
theorem dX9_rope_48 : decode cX9_rope 48 = .ok (.iload_n 2, 1) := by decide +kernel
theorem dX9_rope_49 : decode cX9_rope 49 = .ok (.iadd, 1) := by decide +kernel
theorem dX9_rope_50 : decode cX9_rope 50 = .ok (.iconst 0, 1) := by decide +kernel
theorem dX9_rope_51 : decode cX9_rope 51 = .ok (.iastore, 1) := by decide +kernel
theorem dX9_rope_52 : decode cX9_rope 52 = .ok (.iinc 2 1, 3) := by decide +kernel
theorem dX9_rope_55 : decode cX9_rope 55 = .ok (.goto (-19), 3) := by decide +kernel
theorem dX9_rope_58 : decode cX9_rope 58 = .ok (.aload_n 0, 1) := by decide +kernel
theorem dX9_rope_59 : decode cX9_rope 59 = .ok (.iconst 3, 1) := by decide +kernel
theorem dX9_rope_60 : decode cX9_rope 60 = .ok (.iload_n 1, 1) := by decide +kernel
theorem dX9_rope_61 : decode cX9_rope 61 = .ok (.invokevirtual 51, 3) := by decide +kernel
theorem dX9_rope_64 : decode cX9_rope 64 = .ok (.ireturn, 1) := by decide +kernel
theorem dX9_rhyme_0 : decode cX9_rhyme 0 = .ok (.iload_n 1, 1) := by decide +kernel
theorem dX9_rhyme_1 : decode cX9_rhyme 1 = .ok (.iconst 1, 1) := by decide +kernel
theorem dX9_rhyme_2 : decode cX9_rhyme 2 = .ok (.bipush 16, 2) := by decide +kernel
theorem dX9_rhyme_4 : decode cX9_rhyme 4 = .ok (.invokestatic 41, 3) := by decide +kernel
theorem dX9_rhyme_7 : decode cX9_rhyme 7 = .ok (.ifCond .eq 16, 3) := by decide +kernel
theorem dX9_rhyme_10 : decode cX9_rhyme 10 = .ok (.iload_n 2, 1) := by decide +kernel
theorem dX9_rhyme_11 : decode cX9_rhyme 11 = .ok (.iconst 0, 1) := by decide +kernel
theorem dX9_rhyme_12 : decode cX9_rhyme 12 = .ok (.iconst 1, 1) := by decide +kernel
theorem dX9_rhyme_13 : decode cX9_rhyme 13 = .ok (.iload_n 1, 1) := by decide +kernel
theorem dX9_rhyme_14 : decode cX9_rhyme 14 = .ok (.ishl, 1) := by decide +kernel
theorem dX9_rhyme_15 : decode cX9_rhyme 15 = .ok (.iconst 1, 1) := by decide +kernel
theorem dX9_rhyme_16 : decode cX9_rhyme 16 = .ok (.isub, 1) := by decide +kernel
theorem dX9_rhyme_17 : decode cX9_rhyme 17 = .ok (.invokestatic 41, 3) := by decide +kernel
theorem dX9_rhyme_20 : decode cX9_rhyme 20 = .ok (.ifCond .ne 10, 3) := by decide +kernel
theorem dX9_rhyme_23 : decode cX9_rhyme 23 = .ok (.aload_n 0, 1) := by decide +kernel
theorem dX9_rhyme_24 : decode cX9_rhyme 24 = .ok (.ldc 45, 2) := by decide +kernel
theorem dX9_rhyme_26 : decode cX9_rhyme 26 = .ok (.invokevirtual 46, 3) := by decide +kernel
theorem dX9_rhyme_29 : decode cX9_rhyme 29 = .ok (.ireturn, 1) := by decide +kernel
theorem dX9_rhyme_30 : decode cX9_rhyme 30 = .ok (.aload_n 0, 1) := by decide +kernel
theorem dX9_rhyme_31 : decode cX9_rhyme 31 = .ok (.getfield 7, 3) := by decide +kernel
theorem dX9_rhyme_34 : decode cX9_rhyme 34 = .ok (.bipush 10, 2) := by decide +kernel
theorem dX9_rhyme_36 : decode cX9_rhyme 36 = .ok (.iload_n 2, 1) := by decide +kernel
theorem dX9_rhyme_37 : decode cX9_rhyme 37 = .ok (.iastore, 1) := by decide +kernel
theorem dX9_rhyme_38 : decode cX9_rhyme 38 = .ok (.aload_n 0, 1) := by decide +kernel
theorem dX9_rhyme_39 : decode cX9_rhyme 39 = .ok (.iconst 1, 1) := by decide +kernel
theorem dX9_rhyme_40 : decode cX9_rhyme 40 = .ok (.iload_n 1, 1) := by decide +kernel
theorem dX9_rhyme_41 : decode cX9_rhyme 41 = .ok (.invokevirtual 51, 3) := by decide +kernel
theorem dX9_rhyme_44 : decode cX9_rhyme 44 = .ok (.ireturn, 1) := by decide +kernel
theorem dX9_turner_0 : decode cX9_turner 0 = .ok (.iload_n 1, 1) := by decide +kernel
theorem dX9_turner_1 : decode cX9_turner 1 = .ok (.iconst 1, 1) := by decide +kernel
theorem dX9_turner_2 : decode cX9_turner 2 = .ok (.bipush 99, 2) := by decide +kernel
theorem dX9_turner_4 : decode cX9_turner 4 = .ok (.invokestatic 41, 3) := by decide +kernel
theorem dX9_turner_7 : decode cX9_turner 7 = .ok (.ifCond .ne 10, 3) := by decide +kernel
theorem dX9_turner_10 : decode cX9_turner 10 = .ok (.aload_n 0, 1) := by decide +kernel
theorem dX9_turner_11 : decode cX9_turner 11 = .ok (.ldc 45, 2) := by decide +kernel
theorem dX9_turner_13 : decode cX9_turner 13 = .ok (.invokevirtual 46, 3) := by decide +kernel
theorem dX9_turner_16 : decode cX9_turner 16 = .ok (.ireturn, 1) := by decide +kernel
theorem dX9_turner_17 : decode cX9_turner 17 = .ok (.aload_n 0, 1) := by decide +kernel
theorem dX9_turner_18 : decode cX9_turner 18 = .ok (.getfield 7, 3) := by decide +kernel
theorem dX9_turner_21 : decode cX9_turner 21 = .ok (.bipush 8, 2) := by decide +kernel
theorem dX9_turner_23 : decode cX9_turner 23 = .ok (.iaload, 1) := by decide +kernel
theorem dX9_turner_24 : decode cX9_turner 24 = .ok (.iconst 4, 1) := by decide +kernel
theorem dX9_turner_25 : decode cX9_turner 25 = .ok (.if_icmp .ne 10, 3) := by decide +kernel
theorem dX9_turner_28 : decode cX9_turner 28 = .ok (.aload_n 0, 1) := by decide +kernel
theorem dX9_turner_29 : decode cX9_turner 29 = .ok (.ldc 55, 2) := by decide +kernel
theorem dX9_turner_31 : decode cX9_turner 31 = .ok (.invokevirtual 46, 3) := by decide +kernel
theorem dX9_turner_34 : decode cX9_turner 34 = .ok (.ireturn, 1) := by decide +kernel
theorem dX9_turner_35 : decode cX9_turner 35 = .ok (.bipush 21, 2) := by decide +kernel
theorem dX9_turner_37 : decode cX9_turner 37 = .ok (.iconst 2, 1) := by decide +kernel
theorem dX9_turner_38 : decode cX9_turner 38 = .ok (.aload_n 0, 1) := by decide +kernel
theorem dX9_turner_39 : decode cX9_turner 39 = .ok (.getfield 7, 3) := by decide +kernel
theorem dX9_turner_42 : decode cX9_turner 42 = .ok (.bipush 8, 2) := by decide +kernel
theorem dX9_turner_44 : decode cX9_turner 44 = .ok (.iaload, 1) := by decide +kernel
theorem dX9_turner_45 : decode cX9_turner 45 = .ok (.imul, 1) := by decide +kernel
theorem dX9_turner_46 : decode cX9_turner 46 = .ok (.iadd, 1) := by decide +kernel
theorem dX9_turner_47 : decode cX9_turner 47 = .ok (.istore_n 2, 1) := by decide +kernel
theorem dX9_turner_48 : decode cX9_turner 48 = .ok (.aload_n 0, 1) := by decide +kernel
theorem dX9_turner_49 : decode cX9_turner 49 = .ok (.getfield 7, 3) := by decide +kernel
theorem dX9_turner_52 : decode cX9_turner 52 = .ok (.iload_n 2, 1) := by decide +kernel
theorem dX9_turner_53 : decode cX9_turner 53 = .ok (.iload_n 1, 1) := by decide +kernel
theorem dX9_turner_54 : decode cX9_turner 54 = .ok (.iastore, 1) := by decide +kernel
theorem dX9_turner_55 : decode cX9_turner 55 = .ok (.aload_n 0, 1) := by decide +kernel
theorem dX9_turner_56 : decode cX9_turner 56 = .ok (.getfield 7, 3) := by decide +kernel
theorem dX9_turner_59 : decode cX9_turner 59 = .ok (.iload_n 2, 1) := by decide +kernel
theorem dX9_turner_60 : decode cX9_turner 60 = .ok (.iconst 1, 1) := by decide +kernel
theorem dX9_turner_61 : decode cX9_turner 61 = .ok (.iadd, 1) := by decide +kernel
theorem dX9_turner_62 : decode cX9_turner 62 = .ok (.iconst 0, 1) := by decide +kernel
theorem dX9_turner_63 : decode cX9_turner 63 = .ok (.iastore, 1) := by decide +kernel
theorem dX9_turner_64 : decode cX9_turner 64 = .ok (.aload_n 0, 1) := by decide +kernel
theorem dX9_turner_65 : decode cX9_turner 65 = .ok (.getfield 7, 3) := by decide +kernel
theorem dX9_turner_68 : decode cX9_turner 68 = .ok (.bipush 8, 2) := by decide +kernel
theorem dX9_turner_70 : decode cX9_turner 70 = .ok (.dup2, 1) := by decide +kernel
theorem dX9_turner_71 : decode cX9_turner 71 = .ok (.iaload, 1) := by decide +kernel
theorem dX9_turner_72 : decode cX9_turner 72 = .ok (.iconst 1, 1) := by decide +kernel
theorem dX9_turner_73 : decode cX9_turner 73 = .ok (.iadd, 1) := by decide +kernel
theorem dX9_turner_74 : decode cX9_turner 74 = .ok (.iastore, 1) := by decide +kernel
theorem dX9_turner_75 : decode cX9_turner 75 = .ok (.aload_n 0, 1) := by decide +kernel
theorem dX9_turner_76 : decode cX9_turner 76 = .ok (.getfield 7, 3) := by decide +kernel
theorem dX9_turner_79 : decode cX9_turner 79 = .ok (.bipush 8, 2) := by decide +kernel
theorem dX9_turner_81 : decode cX9_turner 81 = .ok (.iaload, 1) := by decide +kernel
theorem dX9_turner_82 : decode cX9_turner 82 = .ok (.iconst 1, 1) := by decide +kernel
theorem dX9_turner_83 : decode cX9_turner 83 = .ok (.isub, 1) := by decide +kernel
theorem dX9_turner_84 : decode cX9_turner 84 = .ok (.ireturn, 1) := by decide +kernel
theorem dX9_ofTurner_0 : decode cX9_ofTurner 0 = .ok (.aload_n 0, 1) := by decide +kernel
theorem dX9_ofTurner_1 : decode cX9_ofTurner 1 = .ok (.iload_n 1, 1) := by decide +kernel
theorem dX9_ofTurner_2 : decode cX9_ofTurner 2 = .ok (.invokevirtual 56, 3) := by decide +kernel
theorem dX9_ofTurner_5 : decode cX9_ofTurner 5 = .ok (.ifCond .eq 12, 3) := by decide +kernel
theorem dX9_ofTurner_8 : decode cX9_ofTurner 8 = .ok (.iload_n 2, 1) := by decide +kernel
theorem dX9_ofTurner_9 : decode cX9_ofTurner 9 = .ok (.iconst 0, 1) := by decide +kernel
theorem dX9_ofTurner_10 : decode cX9_ofTurner 10 = .ok (.iconst 2, 1) := by decide +kernel
theorem dX9_ofTurner_11 : decode cX9_ofTurner 11 = .ok (.invokestatic 41, 3) := by decide +kernel
theorem dX9_ofTurner_14 : decode cX9_ofTurner 14 = .ok (.ifCond .ne 10, 3) := by decide +kernel
theorem dX9_ofTurner_17 : decode cX9_ofTurner 17 = .ok (.aload_n 0, 1) := by decide +kernel
theorem dX9_ofTurner_18 : decode cX9_ofTurner 18 = .ok (.ldc 45, 2) := by decide +kernel
theorem dX9_ofTurner_20 : decode cX9_ofTurner 20 = .ok (.invokevirtual 46, 3) := by decide +kernel
theorem dX9_ofTurner_23 : decode cX9_ofTurner 23 = .ok (.ireturn, 1) := by decide +kernel
theorem dX9_ofTurner_24 : decode cX9_ofTurner 24 = .ok (.iload_n 2, 1) := by decide +kernel
theorem dX9_ofTurner_25 : decode cX9_ofTurner 25 = .ok (.iconst 2, 1) := by decide +kernel
theorem dX9_ofTurner_26 : decode cX9_ofTurner 26 = .ok (.if_icmp .ge 19, 3) := by decide +kernel
theorem dX9_ofTurner_29 : decode cX9_ofTurner 29 = .ok (.aload_n 0, 1) := by decide +kernel
theorem dX9_ofTurner_30 : decode cX9_ofTurner 30 = .ok (.getfield 7, 3) := by decide +kernel
theorem dX9_ofTurner_33 : decode cX9_ofTurner 33 = .ok (.bipush 21, 2) := by decide +kernel
theorem dX9_ofTurner_35 : decode cX9_ofTurner 35 = .ok (.iconst 2, 1) := by decide +kernel
theorem dX9_ofTurner_36 : decode cX9_ofTurner 36 = .ok (.iload_n 1, 1) := by decide +kernel
theorem dX9_ofTurner_37 : decode cX9_ofTurner 37 = .ok (.imul, 1) := by decide +kernel
theorem dX9_ofTurner_38 : decode cX9_ofTurner 38 = .ok (.iadd, 1) := by decide +kernel
theorem dX9_ofTurner_39 : decode cX9_ofTurner 39 = .ok (.iload_n 2, 1) := by decide +kernel
theorem dX9_ofTurner_40 : decode cX9_ofTurner 40 = .ok (.iadd, 1) := by decide +kernel
theorem dX9_ofTurner_41 : decode cX9_ofTurner 41 = .ok (.iaload, 1) := by decide +kernel
theorem dX9_ofTurner_42 : decode cX9_ofTurner 42 = .ok (.goto 19, 3) := by decide +kernel
theorem dX9_ofTurner_45 : decode cX9_ofTurner 45 = .ok (.aload_n 0, 1) := by decide +kernel
theorem dX9_ofTurner_46 : decode cX9_ofTurner 46 = .ok (.getfield 7, 3) := by decide +kernel
theorem dX9_ofTurner_49 : decode cX9_ofTurner 49 = .ok (.bipush 11, 2) := by decide +kernel
theorem dX9_ofTurner_51 : decode cX9_ofTurner 51 = .ok (.iaload, 1) := by decide +kernel
theorem dX9_ofTurner_52 : decode cX9_ofTurner 52 = .ok (.iload_n 1, 1) := by decide +kernel
theorem dX9_ofTurner_53 : decode cX9_ofTurner 53 = .ok (.if_icmp .ne 7, 3) := by decide +kernel
theorem dX9_ofTurner_56 : decode cX9_ofTurner 56 = .ok (.iconst 1, 1) := by decide +kernel
theorem dX9_ofTurner_57 : decode cX9_ofTurner 57 = .ok (.goto 4, 3) := by decide +kernel
theorem dX9_ofTurner_60 : decode cX9_ofTurner 60 = .ok (.iconst 0, 1) := by decide +kernel
theorem dX9_ofTurner_61 : decode cX9_ofTurner 61 = .ok (.ireturn, 1) := by decide +kernel
theorem dX9_relieve_0 : decode cX9_relieve 0 = .ok (.aload_n 0, 1) := by decide +kernel
theorem dX9_relieve_1 : decode cX9_relieve 1 = .ok (.iload_n 1, 1) := by decide +kernel
theorem dX9_relieve_2 : decode cX9_relieve 2 = .ok (.invokevirtual 56, 3) := by decide +kernel
theorem dX9_relieve_5 : decode cX9_relieve 5 = .ok (.ifCond .eq 13, 3) := by decide +kernel
theorem dX9_relieve_8 : decode cX9_relieve 8 = .ok (.aload_n 0, 1) := by decide +kernel
theorem dX9_relieve_9 : decode cX9_relieve 9 = .ok (.bipush 11, 2) := by decide +kernel
theorem dX9_relieve_11 : decode cX9_relieve 11 = .ok (.iload_n 1, 1) := by decide +kernel
theorem dX9_relieve_12 : decode cX9_relieve 12 = .ok (.invokevirtual 51, 3) := by decide +kernel
theorem dX9_relieve_15 : decode cX9_relieve 15 = .ok (.goto 9, 3) := by decide +kernel
theorem dX9_relieve_18 : decode cX9_relieve 18 = .ok (.aload_n 0, 1) := by decide +kernel
theorem dX9_relieve_19 : decode cX9_relieve 19 = .ok (.ldc 45, 2) := by decide +kernel
theorem dX9_relieve_21 : decode cX9_relieve 21 = .ok (.invokevirtual 46, 3) := by decide +kernel
theorem dX9_relieve_24 : decode cX9_relieve 24 = .ok (.ireturn, 1) := by decide +kernel
theorem dX9_crosser_0 : decode cX9_crosser 0 = .ok (.iload_n 1, 1) := by decide +kernel
theorem dX9_crosser_1 : decode cX9_crosser 1 = .ok (.iconst 0, 1) := by decide +kernel
theorem dX9_crosser_2 : decode cX9_crosser 2 = .ok (.bipush 69, 2) := by decide +kernel
theorem dX9_crosser_4 : decode cX9_crosser 4 = .ok (.invokestatic 41, 3) := by decide +kernel
theorem dX9_crosser_7 : decode cX9_crosser 7 = .ok (.ifCond .eq 21, 3) := by decide +kernel
theorem dX9_crosser_10 : decode cX9_crosser 10 = .ok (.iload_n 2, 1) := by decide +kernel
theorem dX9_crosser_11 : decode cX9_crosser 11 = .ok (.iconst 0, 1) := by decide +kernel
theorem dX9_crosser_12 : decode cX9_crosser 12 = .ok (.bipush 9, 2) := by decide +kernel
theorem dX9_crosser_14 : decode cX9_crosser 14 = .ok (.invokestatic 41, 3) := by decide +kernel
theorem dX9_crosser_17 : decode cX9_crosser 17 = .ok (.ifCond .eq 11, 3) := by decide +kernel
theorem dX9_crosser_20 : decode cX9_crosser 20 = .ok (.aload_n 0, 1) := by decide +kernel
theorem dX9_crosser_21 : decode cX9_crosser 21 = .ok (.iload_n 3, 1) := by decide +kernel
theorem dX9_crosser_22 : decode cX9_crosser 22 = .ok (.invokevirtual 60, 3) := by decide +kernel
theorem dX9_crosser_25 : decode cX9_crosser 25 = .ok (.ifCond .ne 10, 3) := by decide +kernel
theorem dX9_crosser_28 : decode cX9_crosser 28 = .ok (.aload_n 0, 1) := by decide +kernel
theorem dX9_crosser_29 : decode cX9_crosser 29 = .ok (.ldc 45, 2) := by decide +kernel
theorem dX9_crosser_31 : decode cX9_crosser 31 = .ok (.invokevirtual 46, 3) := by decide +kernel
theorem dX9_crosser_34 : decode cX9_crosser 34 = .ok (.ireturn, 1) := by decide +kernel
theorem dX9_crosser_35 : decode cX9_crosser 35 = .ok (.aload_n 0, 1) := by decide +kernel
theorem dX9_crosser_36 : decode cX9_crosser 36 = .ok (.getfield 7, 3) := by decide +kernel
theorem dX9_crosser_39 : decode cX9_crosser 39 = .ok (.bipush 9, 2) := by decide +kernel
theorem dX9_crosser_41 : decode cX9_crosser 41 = .ok (.iaload, 1) := by decide +kernel
theorem dX9_crosser_42 : decode cX9_crosser 42 = .ok (.bipush 8, 2) := by decide +kernel
theorem dX9_crosser_44 : decode cX9_crosser 44 = .ok (.if_icmp .ne 10, 3) := by decide +kernel
theorem dX9_crosser_47 : decode cX9_crosser 47 = .ok (.aload_n 0, 1) := by decide +kernel
theorem dX9_crosser_48 : decode cX9_crosser 48 = .ok (.ldc 55, 2) := by decide +kernel
theorem dX9_crosser_50 : decode cX9_crosser 50 = .ok (.invokevirtual 46, 3) := by decide +kernel
theorem dX9_crosser_53 : decode cX9_crosser 53 = .ok (.ireturn, 1) := by decide +kernel
theorem dX9_crosser_54 : decode cX9_crosser 54 = .ok (.aload_n 0, 1) := by decide +kernel
theorem dX9_crosser_55 : decode cX9_crosser 55 = .ok (.getfield 7, 3) := by decide +kernel
theorem dX9_crosser_58 : decode cX9_crosser 58 = .ok (.bipush 9, 2) := by decide +kernel
theorem dX9_crosser_60 : decode cX9_crosser 60 = .ok (.iaload, 1) := by decide +kernel
theorem dX9_crosser_61 : decode cX9_crosser 61 = .ok (.istore 4, 2) := by decide +kernel
theorem dX9_crosser_63 : decode cX9_crosser 63 = .ok (.aload_n 0, 1) := by decide +kernel
theorem dX9_crosser_64 : decode cX9_crosser 64 = .ok (.iload 4, 2) := by decide +kernel
theorem dX9_crosser_66 : decode cX9_crosser 66 = .ok (.iconst 0, 1) := by decide +kernel
theorem dX9_crosser_67 : decode cX9_crosser 67 = .ok (.iload_n 1, 1) := by decide +kernel
theorem dX9_crosser_68 : decode cX9_crosser 68 = .ok (.bipush 10, 2) := by decide +kernel
theorem dX9_crosser_70 : decode cX9_crosser 70 = .ok (.idiv, 1) := by decide +kernel
theorem dX9_crosser_71 : decode cX9_crosser 71 = .ok (.invokevirtual 63, 3) := by decide +kernel
theorem dX9_crosser_74 : decode cX9_crosser 74 = .ok (.aload_n 0, 1) := by decide +kernel
theorem dX9_crosser_75 : decode cX9_crosser 75 = .ok (.iload 4, 2) := by decide +kernel
theorem dX9_crosser_77 : decode cX9_crosser 77 = .ok (.iconst 1, 1) := by decide +kernel
theorem dX9_crosser_78 : decode cX9_crosser 78 = .ok (.iload_n 1, 1) := by decide +kernel
theorem dX9_crosser_79 : decode cX9_crosser 79 = .ok (.bipush 10, 2) := by decide +kernel
theorem dX9_crosser_81 : decode cX9_crosser 81 = .ok (.irem, 1) := by decide +kernel
theorem dX9_crosser_82 : decode cX9_crosser 82 = .ok (.invokevirtual 63, 3) := by decide +kernel
theorem dX9_crosser_85 : decode cX9_crosser 85 = .ok (.aload_n 0, 1) := by decide +kernel
theorem dX9_crosser_86 : decode cX9_crosser 86 = .ok (.iload 4, 2) := by decide +kernel
theorem dX9_crosser_88 : decode cX9_crosser 88 = .ok (.iconst 2, 1) := by decide +kernel
theorem dX9_crosser_89 : decode cX9_crosser 89 = .ok (.iload_n 2, 1) := by decide +kernel
theorem dX9_crosser_90 : decode cX9_crosser 90 = .ok (.invokevirtual 63, 3) := by decide +kernel
theorem dX9_crosser_93 : decode cX9_crosser 93 = .ok (.aload_n 0, 1) := by decide +kernel
theorem dX9_crosser_94 : decode cX9_crosser 94 = .ok (.iload 4, 2) := by decide +kernel
theorem dX9_crosser_96 : decode cX9_crosser 96 = .ok (.iconst 3, 1) := by decide +kernel
theorem dX9_crosser_97 : decode cX9_crosser 97 = .ok (.iconst 0, 1) := by decide +kernel
theorem dX9_crosser_98 : decode cX9_crosser 98 = .ok (.invokevirtual 63, 3) := by decide +kernel
theorem dX9_crosser_101 : decode cX9_crosser 101 = .ok (.aload_n 0, 1) := by decide +kernel
theorem dX9_crosser_102 : decode cX9_crosser 102 = .ok (.iload 4, 2) := by decide +kernel
theorem dX9_crosser_104 : decode cX9_crosser 104 = .ok (.iconst 4, 1) := by decide +kernel
theorem dX9_crosser_105 : decode cX9_crosser 105 = .ok (.iload_n 3, 1) := by decide +kernel
theorem dX9_crosser_106 : decode cX9_crosser 106 = .ok (.invokevirtual 63, 3) := by decide +kernel
theorem dX9_crosser_109 : decode cX9_crosser 109 = .ok (.aload_n 0, 1) := by decide +kernel
theorem dX9_crosser_110 : decode cX9_crosser 110 = .ok (.iload 4, 2) := by decide +kernel
theorem dX9_crosser_112 : decode cX9_crosser 112 = .ok (.iconst 5, 1) := by decide +kernel
theorem dX9_crosser_113 : decode cX9_crosser 113 = .ok (.iconst 0, 1) := by decide +kernel
theorem dX9_crosser_114 : decode cX9_crosser 114 = .ok (.invokevirtual 63, 3) := by decide +kernel
theorem dX9_crosser_117 : decode cX9_crosser 117 = .ok (.aload_n 0, 1) := by decide +kernel
theorem dX9_crosser_118 : decode cX9_crosser 118 = .ok (.iload 4, 2) := by decide +kernel
theorem dX9_crosser_120 : decode cX9_crosser 120 = .ok (.bipush 6, 2) := by decide +kernel
theorem dX9_crosser_122 : decode cX9_crosser 122 = .ok (.iconst 0, 1) := by decide +kernel
theorem dX9_crosser_123 : decode cX9_crosser 123 = .ok (.invokevirtual 63, 3) := by decide +kernel
theorem dX9_crosser_126 : decode cX9_crosser 126 = .ok (.aload_n 0, 1) := by decide +kernel
theorem dX9_crosser_127 : decode cX9_crosser 127 = .ok (.getfield 7, 3) := by decide +kernel
theorem dX9_crosser_130 : decode cX9_crosser 130 = .ok (.bipush 9, 2) := by decide +kernel
theorem dX9_crosser_132 : decode cX9_crosser 132 = .ok (.dup2, 1) := by decide +kernel
theorem dX9_crosser_133 : decode cX9_crosser 133 = .ok (.iaload, 1) := by decide +kernel
theorem dX9_crosser_134 : decode cX9_crosser 134 = .ok (.iconst 1, 1) := by decide +kernel
theorem dX9_crosser_135 : decode cX9_crosser 135 = .ok (.iadd, 1) := by decide +kernel
theorem dX9_crosser_136 : decode cX9_crosser 136 = .ok (.iastore, 1) := by decide +kernel
theorem dX9_crosser_137 : decode cX9_crosser 137 = .ok (.iload 4, 2) := by decide +kernel
theorem dX9_crosser_139 : decode cX9_crosser 139 = .ok (.ireturn, 1) := by decide +kernel
theorem dX9_ofCrosser_0 : decode cX9_ofCrosser 0 = .ok (.aload_n 0, 1) := by decide +kernel
theorem dX9_ofCrosser_1 : decode cX9_ofCrosser 1 = .ok (.iload_n 1, 1) := by decide +kernel
theorem dX9_ofCrosser_2 : decode cX9_ofCrosser 2 = .ok (.invokevirtual 67, 3) := by decide +kernel
theorem dX9_ofCrosser_5 : decode cX9_ofCrosser 5 = .ok (.ifCond .eq 13, 3) := by decide +kernel
theorem dX9_ofCrosser_8 : decode cX9_ofCrosser 8 = .ok (.iload_n 2, 1) := by decide +kernel
theorem dX9_ofCrosser_9 : decode cX9_ofCrosser 9 = .ok (.iconst 0, 1) := by decide +kernel
theorem dX9_ofCrosser_10 : decode cX9_ofCrosser 10 = .ok (.bipush 9, 2) := by decide +kernel
theorem dX9_ofCrosser_12 : decode cX9_ofCrosser 12 = .ok (.invokestatic 41, 3) := by decide +kernel
theorem dX9_ofCrosser_15 : decode cX9_ofCrosser 15 = .ok (.ifCond .ne 10, 3) := by decide +kernel
theorem dX9_ofCrosser_18 : decode cX9_ofCrosser 18 = .ok (.aload_n 0, 1) := by decide +kernel
theorem dX9_ofCrosser_19 : decode cX9_ofCrosser 19 = .ok (.ldc 45, 2) := by decide +kernel
theorem dX9_ofCrosser_21 : decode cX9_ofCrosser 21 = .ok (.invokevirtual 46, 3) := by decide +kernel
theorem dX9_ofCrosser_24 : decode cX9_ofCrosser 24 = .ok (.ireturn, 1) := by decide +kernel
theorem dX9_ofCrosser_25 : decode cX9_ofCrosser 25 = .ok (.iload_n 2, 1) := by decide +kernel
theorem dX9_ofCrosser_26 : decode cX9_ofCrosser 26 = .ok (.tableswitch 58 7 9 #[26, 32, 38], 26) := by decide +kernel
theorem dX9_ofCrosser_52 : decode cX9_ofCrosser 52 = .ok (.aload_n 0, 1) := by decide +kernel
theorem dX9_ofCrosser_53 : decode cX9_ofCrosser 53 = .ok (.iload_n 1, 1) := by decide +kernel
theorem dX9_ofCrosser_54 : decode cX9_ofCrosser 54 = .ok (.invokevirtual 70, 3) := by decide +kernel
theorem dX9_ofCrosser_57 : decode cX9_ofCrosser 57 = .ok (.ireturn, 1) := by decide +kernel
theorem dX9_ofCrosser_58 : decode cX9_ofCrosser 58 = .ok (.aload_n 0, 1) := by decide +kernel
theorem dX9_ofCrosser_59 : decode cX9_ofCrosser 59 = .ok (.iload_n 1, 1) := by decide +kernel
theorem dX9_ofCrosser_60 : decode cX9_ofCrosser 60 = .ok (.invokevirtual 73, 3) := by decide +kernel
theorem dX9_ofCrosser_63 : decode cX9_ofCrosser 63 = .ok (.ireturn, 1) := by decide +kernel
theorem dX9_ofCrosser_64 : decode cX9_ofCrosser 64 = .ok (.aload_n 0, 1) := by decide +kernel
theorem dX9_ofCrosser_65 : decode cX9_ofCrosser 65 = .ok (.getfield 7, 3) := by decide +kernel
theorem dX9_ofCrosser_68 : decode cX9_ofCrosser 68 = .ok (.bipush 12, 2) := by decide +kernel
theorem dX9_ofCrosser_70 : decode cX9_ofCrosser 70 = .ok (.iaload, 1) := by decide +kernel
theorem dX9_ofCrosser_71 : decode cX9_ofCrosser 71 = .ok (.iload_n 1, 1) := by decide +kernel
theorem dX9_ofCrosser_72 : decode cX9_ofCrosser 72 = .ok (.invokestatic 76, 3) := by decide +kernel
theorem dX9_ofCrosser_75 : decode cX9_ofCrosser 75 = .ok (.ifCond .eq 7, 3) := by decide +kernel
theorem dX9_ofCrosser_78 : decode cX9_ofCrosser 78 = .ok (.iconst 1, 1) := by decide +kernel
theorem dX9_ofCrosser_79 : decode cX9_ofCrosser 79 = .ok (.goto 4, 3) := by decide +kernel
theorem dX9_ofCrosser_82 : decode cX9_ofCrosser 82 = .ok (.iconst 0, 1) := by decide +kernel
theorem dX9_ofCrosser_83 : decode cX9_ofCrosser 83 = .ok (.ireturn, 1) := by decide +kernel
theorem dX9_ofCrosser_84 : decode cX9_ofCrosser 84 = .ok (.aload_n 0, 1) := by decide +kernel
theorem dX9_ofCrosser_85 : decode cX9_ofCrosser 85 = .ok (.iload_n 1, 1) := by decide +kernel
theorem dX9_ofCrosser_86 : decode cX9_ofCrosser 86 = .ok (.iload_n 2, 1) := by decide +kernel
theorem dX9_ofCrosser_87 : decode cX9_ofCrosser 87 = .ok (.invokevirtual 80, 3) := by decide +kernel
theorem dX9_ofCrosser_90 : decode cX9_ofCrosser 90 = .ok (.ireturn, 1) := by decide +kernel
theorem dX9_change_0 : decode cX9_change 0 = .ok (.iload_n 2, 1) := by decide +kernel
theorem dX9_change_1 : decode cX9_change 1 = .ok (.ifCond .ne 13, 3) := by decide +kernel
theorem dX9_change_4 : decode cX9_change 4 = .ok (.iload_n 3, 1) := by decide +kernel
theorem dX9_change_5 : decode cX9_change 5 = .ok (.iconst 0, 1) := by decide +kernel
theorem dX9_change_6 : decode cX9_change 6 = .ok (.bipush 9, 2) := by decide +kernel
theorem dX9_change_8 : decode cX9_change 8 = .ok (.invokestatic 41, 3) := by decide +kernel
theorem dX9_change_11 : decode cX9_change 11 = .ok (.goto 55, 3) := by decide +kernel
theorem dX9_change_14 : decode cX9_change 14 = .ok (.iload_n 2, 1) := by decide +kernel
theorem dX9_change_15 : decode cX9_change 15 = .ok (.iconst 1, 1) := by decide +kernel
theorem dX9_change_16 : decode cX9_change 16 = .ok (.if_icmp .ne 13, 3) := by decide +kernel
theorem dX9_change_19 : decode cX9_change 19 = .ok (.iload_n 3, 1) := by decide +kernel
theorem dX9_change_20 : decode cX9_change 20 = .ok (.iconst 0, 1) := by decide +kernel
theorem dX9_change_21 : decode cX9_change 21 = .ok (.bipush 99, 2) := by decide +kernel
theorem dX9_change_23 : decode cX9_change 23 = .ok (.invokestatic 41, 3) := by decide +kernel
theorem dX9_change_26 : decode cX9_change 26 = .ok (.goto 40, 3) := by decide +kernel
theorem dX9_change_29 : decode cX9_change 29 = .ok (.iload_n 2, 1) := by decide +kernel
theorem dX9_change_30 : decode cX9_change 30 = .ok (.iconst 2, 1) := by decide +kernel
theorem dX9_change_31 : decode cX9_change 31 = .ok (.if_icmp .ne 11, 3) := by decide +kernel
theorem dX9_change_34 : decode cX9_change 34 = .ok (.aload_n 0, 1) := by decide +kernel
theorem dX9_change_35 : decode cX9_change 35 = .ok (.iload_n 3, 1) := by decide +kernel
theorem dX9_change_36 : decode cX9_change 36 = .ok (.invokevirtual 60, 3) := by decide +kernel
theorem dX9_change_39 : decode cX9_change 39 = .ok (.goto 27, 3) := by decide +kernel
theorem dX9_change_42 : decode cX9_change 42 = .ok (.iload_n 2, 1) := by decide +kernel
theorem dX9_change_43 : decode cX9_change 43 = .ok (.iconst 3, 1) := by decide +kernel
theorem dX9_change_44 : decode cX9_change 44 = .ok (.if_icmp .ne 21, 3) := by decide +kernel
theorem dX9_change_47 : decode cX9_change 47 = .ok (.iload_n 3, 1) := by decide +kernel
theorem dX9_change_48 : decode cX9_change 48 = .ok (.iconst 0, 1) := by decide +kernel
theorem dX9_change_49 : decode cX9_change 49 = .ok (.iconst 3, 1) := by decide +kernel
theorem dX9_change_50 : decode cX9_change 50 = .ok (.invokestatic 41, 3) := by decide +kernel
theorem dX9_change_53 : decode cX9_change 53 = .ok (.ifCond .eq 12, 3) := by decide +kernel
theorem dX9_change_56 : decode cX9_change 56 = .ok (.iload_n 3, 1) := by decide +kernel
theorem dX9_change_57 : decode cX9_change 57 = .ok (.iconst 1, 1) := by decide +kernel
theorem dX9_change_58 : decode cX9_change 58 = .ok (.if_icmp .eq 7, 3) := by decide +kernel
theorem dX9_change_61 : decode cX9_change 61 = .ok (.iconst 1, 1) := by decide +kernel
theorem dX9_change_62 : decode cX9_change 62 = .ok (.goto 4, 3) := by decide +kernel
theorem dX9_change_65 : decode cX9_change 65 = .ok (.iconst 0, 1) := by decide +kernel
theorem dX9_change_66 : decode cX9_change 66 = .ok (.istore 4, 2) := by decide +kernel
theorem dX9_change_68 : decode cX9_change 68 = .ok (.aload_n 0, 1) := by decide +kernel
theorem dX9_change_69 : decode cX9_change 69 = .ok (.iload_n 1, 1) := by decide +kernel
theorem dX9_change_70 : decode cX9_change 70 = .ok (.invokevirtual 67, 3) := by decide +kernel
theorem dX9_change_73 : decode cX9_change 73 = .ok (.ifCond .eq 8, 3) := by decide +kernel
theorem dX9_change_76 : decode cX9_change 76 = .ok (.iload 4, 2) := by decide +kernel
theorem dX9_change_78 : decode cX9_change 78 = .ok (.ifCond .ne 10, 3) := by decide +kernel
theorem dX9_change_81 : decode cX9_change 81 = .ok (.aload_n 0, 1) := by decide +kernel
theorem dX9_change_82 : decode cX9_change 82 = .ok (.ldc 45, 2) := by decide +kernel
theorem dX9_change_84 : decode cX9_change 84 = .ok (.invokevirtual 46, 3) := by decide +kernel
theorem dX9_change_87 : decode cX9_change 87 = .ok (.ireturn, 1) := by decide +kernel
theorem dX9_change_88 : decode cX9_change 88 = .ok (.iload_n 2, 1) := by decide +kernel
theorem dX9_change_89 : decode cX9_change 89 = .ok (.iconst 3, 1) := by decide +kernel
theorem dX9_change_90 : decode cX9_change 90 = .ok (.if_icmp .ne 11, 3) := by decide +kernel
theorem dX9_change_93 : decode cX9_change 93 = .ok (.aload_n 0, 1) := by decide +kernel
theorem dX9_change_94 : decode cX9_change 94 = .ok (.iload_n 1, 1) := by decide +kernel
theorem dX9_change_95 : decode cX9_change 95 = .ok (.bipush 6, 2) := by decide +kernel
theorem dX9_change_97 : decode cX9_change 97 = .ok (.iconst 0, 1) := by decide +kernel
theorem dX9_change_98 : decode cX9_change 98 = .ok (.invokevirtual 63, 3) := by decide +kernel
theorem dX9_change_101 : decode cX9_change 101 = .ok (.aload_n 0, 1) := by decide +kernel
theorem dX9_change_102 : decode cX9_change 102 = .ok (.bipush 29, 2) := by decide +kernel
theorem dX9_change_104 : decode cX9_change 104 = .ok (.bipush 7, 2) := by decide +kernel
theorem dX9_change_106 : decode cX9_change 106 = .ok (.iload_n 1, 1) := by decide +kernel
theorem dX9_change_107 : decode cX9_change 107 = .ok (.imul, 1) := by decide +kernel
theorem dX9_change_108 : decode cX9_change 108 = .ok (.iadd, 1) := by decide +kernel
theorem dX9_change_109 : decode cX9_change 109 = .ok (.iconst 2, 1) := by decide +kernel
theorem dX9_change_110 : decode cX9_change 110 = .ok (.iadd, 1) := by decide +kernel
theorem dX9_change_111 : decode cX9_change 111 = .ok (.iload_n 2, 1) := by decide +kernel
theorem dX9_change_112 : decode cX9_change 112 = .ok (.iadd, 1) := by decide +kernel
theorem dX9_change_113 : decode cX9_change 113 = .ok (.iload_n 3, 1) := by decide +kernel
theorem dX9_change_114 : decode cX9_change 114 = .ok (.invokevirtual 51, 3) := by decide +kernel
theorem dX9_change_117 : decode cX9_change 117 = .ok (.ireturn, 1) := by decide +kernel
theorem dX9_become_0 : decode cX9_become 0 = .ok (.aload_n 0, 1) := by decide +kernel
theorem dX9_become_1 : decode cX9_become 1 = .ok (.iload_n 1, 1) := by decide +kernel
theorem dX9_become_2 : decode cX9_become 2 = .ok (.invokevirtual 67, 3) := by decide +kernel
theorem dX9_become_5 : decode cX9_become 5 = .ok (.ifCond .eq 13, 3) := by decide +kernel
theorem dX9_become_8 : decode cX9_become 8 = .ok (.iload_n 2, 1) := by decide +kernel
theorem dX9_become_9 : decode cX9_become 9 = .ok (.iconst 0, 1) := by decide +kernel
theorem dX9_become_10 : decode cX9_become 10 = .ok (.bipush 69, 2) := by decide +kernel
theorem dX9_become_12 : decode cX9_become 12 = .ok (.invokestatic 41, 3) := by decide +kernel
theorem dX9_become_15 : decode cX9_become 15 = .ok (.ifCond .ne 10, 3) := by decide +kernel
theorem dX9_become_18 : decode cX9_become 18 = .ok (.aload_n 0, 1) := by decide +kernel
theorem dX9_become_19 : decode cX9_become 19 = .ok (.ldc 45, 2) := by decide +kernel
theorem dX9_become_21 : decode cX9_become 21 = .ok (.invokevirtual 46, 3) := by decide +kernel
theorem dX9_become_24 : decode cX9_become 24 = .ok (.ireturn, 1) := by decide +kernel
theorem dX9_become_25 : decode cX9_become 25 = .ok (.aload_n 0, 1) := by decide +kernel
theorem dX9_become_26 : decode cX9_become 26 = .ok (.iload_n 1, 1) := by decide +kernel
theorem dX9_become_27 : decode cX9_become 27 = .ok (.iconst 1, 1) := by decide +kernel
theorem dX9_become_28 : decode cX9_become 28 = .ok (.iload_n 2, 1) := by decide +kernel
theorem dX9_become_29 : decode cX9_become 29 = .ok (.bipush 10, 2) := by decide +kernel
theorem dX9_become_31 : decode cX9_become 31 = .ok (.irem, 1) := by decide +kernel
theorem dX9_become_32 : decode cX9_become 32 = .ok (.invokevirtual 63, 3) := by decide +kernel
theorem dX9_become_35 : decode cX9_become 35 = .ok (.aload_n 0, 1) := by decide +kernel
theorem dX9_become_36 : decode cX9_become 36 = .ok (.bipush 29, 2) := by decide +kernel
theorem dX9_become_38 : decode cX9_become 38 = .ok (.bipush 7, 2) := by decide +kernel
theorem dX9_become_40 : decode cX9_become 40 = .ok (.iload_n 1, 1) := by decide +kernel
theorem dX9_become_41 : decode cX9_become 41 = .ok (.imul, 1) := by decide +kernel
theorem dX9_become_42 : decode cX9_become 42 = .ok (.iadd, 1) := by decide +kernel
theorem dX9_become_43 : decode cX9_become 43 = .ok (.iload_n 2, 1) := by decide +kernel
theorem dX9_become_44 : decode cX9_become 44 = .ok (.bipush 10, 2) := by decide +kernel
theorem dX9_become_46 : decode cX9_become 46 = .ok (.idiv, 1) := by decide +kernel
theorem dX9_become_47 : decode cX9_become 47 = .ok (.invokevirtual 51, 3) := by decide +kernel
theorem dX9_become_50 : decode cX9_become 50 = .ok (.ireturn, 1) := by decide +kernel
theorem dX9_above_0 : decode cX9_above 0 = .ok (.iload_n 0, 1) := by decide +kernel
theorem dX9_above_1 : decode cX9_above 1 = .ok (.ifCond .ne 7, 3) := by decide +kernel
theorem dX9_above_4 : decode cX9_above 4 = .ok (.iconst (-1), 1) := by decide +kernel
theorem dX9_above_5 : decode cX9_above 5 = .ok (.goto 15, 3) := by decide +kernel
theorem dX9_above_8 : decode cX9_above 8 = .ok (.iload_n 0, 1) := by decide +kernel
theorem dX9_above_9 : decode cX9_above 9 = .ok (.iconst 3, 1) := by decide +kernel
theorem dX9_above_10 : decode cX9_above 10 = .ok (.if_icmp .le 9, 3) := by decide +kernel
theorem dX9_above_13 : decode cX9_above 13 = .ok (.iload_n 0, 1) := by decide +kernel
theorem dX9_above_14 : decode cX9_above 14 = .ok (.iconst 3, 1) := by decide +kernel
theorem dX9_above_15 : decode cX9_above 15 = .ok (.isub, 1) := by decide +kernel
theorem dX9_above_16 : decode cX9_above 16 = .ok (.goto 4, 3) := by decide +kernel
theorem dX9_above_19 : decode cX9_above 19 = .ok (.iconst 0, 1) := by decide +kernel
theorem dX9_above_20 : decode cX9_above 20 = .ok (.ireturn, 1) := by decide +kernel
theorem dX9_as_0 : decode cX9_as 0 = .ok (.aload_n 0, 1) := by decide +kernel
theorem dX9_as_1 : decode cX9_as 1 = .ok (.iload_n 1, 1) := by decide +kernel
theorem dX9_as_2 : decode cX9_as 2 = .ok (.invokevirtual 67, 3) := by decide +kernel
theorem dX9_as_5 : decode cX9_as 5 = .ok (.ifCond .eq 13, 3) := by decide +kernel
theorem dX9_as_8 : decode cX9_as 8 = .ok (.iload_n 2, 1) := by decide +kernel
theorem dX9_as_9 : decode cX9_as 9 = .ok (.iconst 0, 1) := by decide +kernel
theorem dX9_as_10 : decode cX9_as 10 = .ok (.bipush 6, 2) := by decide +kernel
theorem dX9_as_12 : decode cX9_as 12 = .ok (.invokestatic 41, 3) := by decide +kernel
theorem dX9_as_15 : decode cX9_as 15 = .ok (.ifCond .ne 10, 3) := by decide +kernel
theorem dX9_as_18 : decode cX9_as 18 = .ok (.aload_n 0, 1) := by decide +kernel
theorem dX9_as_19 : decode cX9_as 19 = .ok (.ldc 45, 2) := by decide +kernel
theorem dX9_as_21 : decode cX9_as 21 = .ok (.invokevirtual 46, 3) := by decide +kernel
theorem dX9_as_24 : decode cX9_as 24 = .ok (.ireturn, 1) := by decide +kernel
theorem dX9_as_25 : decode cX9_as 25 = .ok (.aload_n 0, 1) := by decide +kernel
theorem dX9_as_26 : decode cX9_as 26 = .ok (.iload_n 1, 1) := by decide +kernel
theorem dX9_as_27 : decode cX9_as 27 = .ok (.iconst 0, 1) := by decide +kernel
theorem dX9_as_28 : decode cX9_as 28 = .ok (.invokevirtual 80, 3) := by decide +kernel
theorem dX9_as_31 : decode cX9_as 31 = .ok (.istore_n 3, 1) := by decide +kernel
theorem dX9_as_32 : decode cX9_as 32 = .ok (.iload_n 3, 1) := by decide +kernel
theorem dX9_as_33 : decode cX9_as 33 = .ok (.ifCond .lt 16, 3) := by decide +kernel
theorem dX9_as_36 : decode cX9_as 36 = .ok (.iload_n 3, 1) := by decide +kernel
theorem dX9_as_37 : decode cX9_as 37 = .ok (.iload_n 2, 1) := by decide +kernel
theorem dX9_as_38 : decode cX9_as 38 = .ok (.if_icmp .eq 11, 3) := by decide +kernel
theorem dX9_as_41 : decode cX9_as 41 = .ok (.iload_n 3, 1) := by decide +kernel
theorem dX9_as_42 : decode cX9_as 42 = .ok (.invokestatic 83, 3) := by decide +kernel
theorem dX9_as_45 : decode cX9_as 45 = .ok (.istore_n 3, 1) := by decide +kernel
theorem dX9_as_46 : decode cX9_as 46 = .ok (.goto (-14), 3) := by decide +kernel
theorem dX9_as_49 : decode cX9_as 49 = .ok (.iload_n 3, 1) := by decide +kernel
theorem dX9_as_50 : decode cX9_as 50 = .ok (.ifCond .ge 12, 3) := by decide +kernel
theorem dX9_as_53 : decode cX9_as 53 = .ok (.aload_n 0, 1) := by decide +kernel
theorem dX9_as_54 : decode cX9_as 54 = .ok (.ldc 86, 2) := by decide +kernel
theorem dX9_as_56 : decode cX9_as 56 = .ok (.invokevirtual 46, 3) := by decide +kernel
theorem dX9_as_59 : decode cX9_as 59 = .ok (.goto 9, 3) := by decide +kernel
theorem dX9_as_62 : decode cX9_as 62 = .ok (.aload_n 0, 1) := by decide +kernel
theorem dX9_as_63 : decode cX9_as 63 = .ok (.iload_n 1, 1) := by decide +kernel
theorem dX9_as_64 : decode cX9_as 64 = .ok (.iconst 1, 1) := by decide +kernel
theorem dX9_as_65 : decode cX9_as 65 = .ok (.invokevirtual 80, 3) := by decide +kernel
theorem dX9_as_68 : decode cX9_as 68 = .ok (.ireturn, 1) := by decide +kernel
theorem dX9_go_0 : decode cX9_go 0 = .ok (.aload_n 0, 1) := by decide +kernel
theorem dX9_go_1 : decode cX9_go 1 = .ok (.iload_n 1, 1) := by decide +kernel
theorem dX9_go_2 : decode cX9_go 2 = .ok (.invokevirtual 87, 3) := by decide +kernel
theorem dX9_go_5 : decode cX9_go 5 = .ok (.ifCond .eq 13, 3) := by decide +kernel
theorem dX9_go_8 : decode cX9_go 8 = .ok (.aload_n 0, 1) := by decide +kernel
theorem dX9_go_9 : decode cX9_go 9 = .ok (.bipush 12, 2) := by decide +kernel
theorem dX9_go_11 : decode cX9_go 11 = .ok (.iload_n 1, 1) := by decide +kernel
theorem dX9_go_12 : decode cX9_go 12 = .ok (.invokevirtual 51, 3) := by decide +kernel
theorem dX9_go_15 : decode cX9_go 15 = .ok (.goto 9, 3) := by decide +kernel
theorem dX9_go_18 : decode cX9_go 18 = .ok (.aload_n 0, 1) := by decide +kernel
theorem dX9_go_19 : decode cX9_go 19 = .ok (.ldc 45, 2) := by decide +kernel
theorem dX9_go_21 : decode cX9_go 21 = .ok (.invokevirtual 46, 3) := by decide +kernel
theorem dX9_go_24 : decode cX9_go 24 = .ok (.ireturn, 1) := by decide +kernel
theorem dX9_splice_0 : decode cX9_splice 0 = .ok (.aload_n 0, 1) := by decide +kernel
theorem dX9_splice_1 : decode cX9_splice 1 = .ok (.iload_n 1, 1) := by decide +kernel
theorem dX9_splice_2 : decode cX9_splice 2 = .ok (.invokevirtual 60, 3) := by decide +kernel
theorem dX9_splice_5 : decode cX9_splice 5 = .ok (.ifCond .eq 26, 3) := by decide +kernel
theorem dX9_splice_8 : decode cX9_splice 8 = .ok (.iload_n 2, 1) := by decide +kernel
theorem dX9_splice_9 : decode cX9_splice 9 = .ok (.iconst 0, 1) := by decide +kernel
theorem dX9_splice_10 : decode cX9_splice 10 = .ok (.sipush 999, 3) := by decide +kernel
theorem dX9_splice_13 : decode cX9_splice 13 = .ok (.invokestatic 41, 3) := by decide +kernel
theorem dX9_splice_16 : decode cX9_splice 16 = .ok (.ifCond .eq 15, 3) := by decide +kernel
theorem dX9_splice_19 : decode cX9_splice 19 = .ok (.aload_n 0, 1) := by decide +kernel
theorem dX9_splice_20 : decode cX9_splice 20 = .ok (.bipush 13, 2) := by decide +kernel
theorem dX9_splice_22 : decode cX9_splice 22 = .ok (.iload_n 1, 1) := by decide +kernel
theorem dX9_splice_23 : decode cX9_splice 23 = .ok (.iadd, 1) := by decide +kernel
theorem dX9_splice_24 : decode cX9_splice 24 = .ok (.iload_n 2, 1) := by decide +kernel
theorem dX9_splice_25 : decode cX9_splice 25 = .ok (.invokevirtual 51, 3) := by decide +kernel
theorem dX9_splice_28 : decode cX9_splice 28 = .ok (.goto 9, 3) := by decide +kernel
theorem dX9_splice_31 : decode cX9_splice 31 = .ok (.aload_n 0, 1) := by decide +kernel
theorem dX9_splice_32 : decode cX9_splice 32 = .ok (.ldc 45, 2) := by decide +kernel
theorem dX9_splice_34 : decode cX9_splice 34 = .ok (.invokevirtual 46, 3) := by decide +kernel
theorem dX9_splice_37 : decode cX9_splice 37 = .ok (.ireturn, 1) := by decide +kernel
theorem dX9_byteAt_0 : decode cX9_byteAt 0 = .ok (.iload_n 1, 1) := by decide +kernel
theorem dX9_byteAt_1 : decode cX9_byteAt 1 = .ok (.aload_n 0, 1) := by decide +kernel
theorem dX9_byteAt_2 : decode cX9_byteAt 2 = .ok (.getfield 90, 3) := by decide +kernel
theorem dX9_byteAt_5 : decode cX9_byteAt 5 = .ok (.if_icmp .ge 24, 3) := by decide +kernel
theorem dX9_byteAt_8 : decode cX9_byteAt 8 = .ok (.aload_n 0, 1) := by decide +kernel
theorem dX9_byteAt_9 : decode cX9_byteAt 9 = .ok (.getfield 7, 3) := by decide +kernel
theorem dX9_byteAt_12 : decode cX9_byteAt 12 = .ok (.sipush 155, 3) := by decide +kernel
theorem dX9_byteAt_15 : decode cX9_byteAt 15 = .ok (.bipush 50, 2) := by decide +kernel
theorem dX9_byteAt_17 : decode cX9_byteAt 17 = .ok (.aload_n 0, 1) := by decide +kernel
theorem dX9_byteAt_18 : decode cX9_byteAt 18 = .ok (.getfield 94, 3) := by decide +kernel
theorem dX9_byteAt_21 : decode cX9_byteAt 21 = .ok (.imul, 1) := by decide +kernel
theorem dX9_byteAt_22 : decode cX9_byteAt 22 = .ok (.iadd, 1) := by decide +kernel
theorem dX9_byteAt_23 : decode cX9_byteAt 23 = .ok (.iload_n 1, 1) := by decide +kernel
theorem dX9_byteAt_24 : decode cX9_byteAt 24 = .ok (.iadd, 1) := by decide +kernel
theorem dX9_byteAt_25 : decode cX9_byteAt 25 = .ok (.iaload, 1) := by decide +kernel
theorem dX9_byteAt_26 : decode cX9_byteAt 26 = .ok (.goto 4, 3) := by decide +kernel
theorem dX9_byteAt_29 : decode cX9_byteAt 29 = .ok (.iconst (-1), 1) := by decide +kernel
theorem dX9_byteAt_30 : decode cX9_byteAt 30 = .ok (.ireturn, 1) := by decide +kernel
theorem dX9_isDigit_0 : decode cX9_isDigit 0 = .ok (.iload_n 0, 1) := by decide +kernel
theorem dX9_isDigit_1 : decode cX9_isDigit 1 = .ok (.bipush 48, 2) := by decide +kernel
theorem dX9_isDigit_3 : decode cX9_isDigit 3 = .ok (.bipush 57, 2) := by decide +kernel
theorem dX9_isDigit_5 : decode cX9_isDigit 5 = .ok (.invokestatic 41, 3) := by decide +kernel
theorem dX9_isDigit_8 : decode cX9_isDigit 8 = .ok (.ireturn, 1) := by decide +kernel
theorem dX9_fails_0 : decode cX9_fails 0 = .ok (.aload_n 0, 1) := by decide +kernel
theorem dX9_fails_1 : decode cX9_fails 1 = .ok (.iconst 0, 1) := by decide +kernel
theorem dX9_fails_2 : decode cX9_fails 2 = .ok (.putfield 97, 3) := by decide +kernel
theorem dX9_fails_5 : decode cX9_fails 5 = .ok (.iconst 0, 1) := by decide +kernel
theorem dX9_fails_6 : decode cX9_fails 6 = .ok (.ireturn, 1) := by decide +kernel
theorem dX9_number_0 : decode cX9_number 0 = .ok (.iconst 0, 1) := by decide +kernel
theorem dX9_number_1 : decode cX9_number 1 = .ok (.istore_n 1, 1) := by decide +kernel
theorem dX9_number_2 : decode cX9_number 2 = .ok (.iconst 0, 1) := by decide +kernel
theorem dX9_number_3 : decode cX9_number 3 = .ok (.istore_n 2, 1) := by decide +kernel
theorem dX9_number_4 : decode cX9_number 4 = .ok (.iload_n 2, 1) := by decide +kernel
theorem dX9_number_5 : decode cX9_number 5 = .ok (.iconst 4, 1) := by decide +kernel
theorem dX9_number_6 : decode cX9_number 6 = .ok (.if_icmp .ge 50, 3) := by decide +kernel
theorem dX9_number_9 : decode cX9_number 9 = .ok (.aload_n 0, 1) := by decide +kernel
theorem dX9_number_10 : decode cX9_number 10 = .ok (.aload_n 0, 1) := by decide +kernel
theorem dX9_number_11 : decode cX9_number 11 = .ok (.getfield 101, 3) := by decide +kernel
theorem dX9_number_14 : decode cX9_number 14 = .ok (.invokevirtual 104, 3) := by decide +kernel
theorem dX9_number_17 : decode cX9_number 17 = .ok (.invokestatic 107, 3) := by decide +kernel
theorem dX9_number_20 : decode cX9_number 20 = .ok (.ifCond .eq 36, 3) := by decide +kernel
theorem dX9_number_23 : decode cX9_number 23 = .ok (.bipush 10, 2) := by decide +kernel
theorem dX9_number_25 : decode cX9_number 25 = .ok (.iload_n 1, 1) := by decide +kernel
theorem dX9_number_26 : decode cX9_number 26 = .ok (.imul, 1) := by decide +kernel
theorem dX9_number_27 : decode cX9_number 27 = .ok (.aload_n 0, 1) := by decide +kernel
theorem dX9_number_28 : decode cX9_number 28 = .ok (.aload_n 0, 1) := by decide +kernel
theorem dX9_number_29 : decode cX9_number 29 = .ok (.getfield 101, 3) := by decide +kernel
theorem dX9_number_32 : decode cX9_number 32 = .ok (.invokevirtual 104, 3) := by decide +kernel
theorem dX9_number_35 : decode cX9_number 35 = .ok (.iadd, 1) := by decide +kernel
theorem dX9_number_36 : decode cX9_number 36 = .ok (.bipush 48, 2) := by decide +kernel
theorem dX9_number_38 : decode cX9_number 38 = .ok (.isub, 1) := by decide +kernel
theorem dX9_number_39 : decode cX9_number 39 = .ok (.istore_n 1, 1) := by decide +kernel
theorem dX9_number_40 : decode cX9_number 40 = .ok (.aload_n 0, 1) := by decide +kernel
theorem dX9_number_41 : decode cX9_number 41 = .ok (.dup, 1) := by decide +kernel
theorem dX9_number_42 : decode cX9_number 42 = .ok (.getfield 101, 3) := by decide +kernel
theorem dX9_number_45 : decode cX9_number 45 = .ok (.iconst 1, 1) := by decide +kernel
theorem dX9_number_46 : decode cX9_number 46 = .ok (.iadd, 1) := by decide +kernel
theorem dX9_number_47 : decode cX9_number 47 = .ok (.putfield 101, 3) := by decide +kernel
theorem dX9_number_50 : decode cX9_number 50 = .ok (.iinc 2 1, 3) := by decide +kernel
theorem dX9_number_53 : decode cX9_number 53 = .ok (.goto (-49), 3) := by decide +kernel
theorem dX9_number_56 : decode cX9_number 56 = .ok (.iload_n 1, 1) := by decide +kernel
theorem dX9_number_57 : decode cX9_number 57 = .ok (.ireturn, 1) := by decide +kernel
theorem dX9_named_0 : decode cX9_named 0 = .ok (.iload_n 1, 1) := by decide +kernel
theorem dX9_named_1 : decode cX9_named 1 = .ok (.bipush 107, 2) := by decide +kernel
theorem dX9_named_3 : decode cX9_named 3 = .ok (.if_icmp .ne 7, 3) := by decide +kernel
theorem dX9_named_6 : decode cX9_named 6 = .ok (.iconst 1, 1) := by decide +kernel
theorem dX9_named_7 : decode cX9_named 7 = .ok (.goto 4, 3) := by decide +kernel
theorem dX9_named_10 : decode cX9_named 10 = .ok (.iconst 0, 1) := by decide +kernel
theorem dX9_named_11 : decode cX9_named 11 = .ok (.istore_n 2, 1) := by decide +kernel
theorem dX9_named_12 : decode cX9_named 12 = .ok (.iload_n 1, 1) := by decide +kernel
theorem dX9_named_13 : decode cX9_named 13 = .ok (.aload_n 0, 1) := by decide +kernel
theorem dX9_named_14 : decode cX9_named 14 = .ok (.getfield 94, 3) := by decide +kernel
theorem dX9_named_17 : decode cX9_named 17 = .ok (.ifCond .ne 8, 3) := by decide +kernel
theorem dX9_named_20 : decode cX9_named 20 = .ok (.bipush 108, 2) := by decide +kernel
theorem dX9_named_22 : decode cX9_named 22 = .ok (.goto 5, 3) := by decide +kernel
theorem dX9_named_25 : decode cX9_named 25 = .ok (.bipush 119, 2) := by decide +kernel
theorem dX9_named_27 : decode cX9_named 27 = .ok (.if_icmp .ne 7, 3) := by decide +kernel
theorem dX9_named_30 : decode cX9_named 30 = .ok (.iconst 1, 1) := by decide +kernel
theorem dX9_named_31 : decode cX9_named 31 = .ok (.goto 4, 3) := by decide +kernel
theorem dX9_named_34 : decode cX9_named 34 = .ok (.iconst 0, 1) := by decide +kernel
theorem dX9_named_35 : decode cX9_named 35 = .ok (.istore_n 3, 1) := by decide +kernel
theorem dX9_named_36 : decode cX9_named 36 = .ok (.iload_n 1, 1) := by decide +kernel
theorem dX9_named_37 : decode cX9_named 37 = .ok (.aload_n 0, 1) := by decide +kernel
theorem dX9_named_38 : decode cX9_named 38 = .ok (.getfield 94, 3) := by decide +kernel
theorem dX9_named_41 : decode cX9_named 41 = .ok (.ifCond .ne 8, 3) := by decide +kernel
theorem dX9_named_44 : decode cX9_named 44 = .ok (.bipush 112, 2) := by decide +kernel
theorem dX9_named_46 : decode cX9_named 46 = .ok (.goto 5, 3) := by decide +kernel
theorem dX9_named_49 : decode cX9_named 49 = .ok (.bipush 98, 2) := by decide +kernel
theorem dX9_named_51 : decode cX9_named 51 = .ok (.if_icmp .ne 7, 3) := by decide +kernel
theorem dX9_named_54 : decode cX9_named 54 = .ok (.iconst 1, 1) := by decide +kernel
theorem dX9_named_55 : decode cX9_named 55 = .ok (.goto 4, 3) := by decide +kernel
theorem dX9_named_58 : decode cX9_named 58 = .ok (.iconst 0, 1) := by decide +kernel
theorem dX9_named_59 : decode cX9_named 59 = .ok (.istore 4, 2) := by decide +kernel
theorem dX9_named_61 : decode cX9_named 61 = .ok (.iload_n 2, 1) := by decide +kernel
theorem dX9_named_62 : decode cX9_named 62 = .ok (.ifCond .ne 17, 3) := by decide +kernel
theorem dX9_named_65 : decode cX9_named 65 = .ok (.iload_n 3, 1) := by decide +kernel
theorem dX9_named_66 : decode cX9_named 66 = .ok (.ifCond .ne 13, 3) := by decide +kernel
theorem dX9_named_69 : decode cX9_named 69 = .ok (.iload 4, 2) := by decide +kernel
theorem dX9_named_71 : decode cX9_named 71 = .ok (.ifCond .ne 8, 3) := by decide +kernel
theorem dX9_named_74 : decode cX9_named 74 = .ok (.aload_n 0, 1) := by decide +kernel
theorem dX9_named_75 : decode cX9_named 75 = .ok (.invokevirtual 110, 3) := by decide +kernel
theorem dX9_named_78 : decode cX9_named 78 = .ok (.ireturn, 1) := by decide +kernel
theorem dX9_named_79 : decode cX9_named 79 = .ok (.aload_n 0, 1) := by decide +kernel
theorem dX9_named_80 : decode cX9_named 80 = .ok (.dup, 1) := by decide +kernel
theorem dX9_named_81 : decode cX9_named 81 = .ok (.getfield 101, 3) := by decide +kernel
theorem dX9_named_84 : decode cX9_named 84 = .ok (.iconst 1, 1) := by decide +kernel
theorem dX9_named_85 : decode cX9_named 85 = .ok (.iadd, 1) := by decide +kernel
theorem dX9_named_86 : decode cX9_named 86 = .ok (.putfield 101, 3) := by decide +kernel
theorem dX9_named_89 : decode cX9_named 89 = .ok (.iload_n 2, 1) := by decide +kernel
theorem dX9_named_90 : decode cX9_named 90 = .ok (.ifCond .eq 10, 3) := by decide +kernel
theorem dX9_named_93 : decode cX9_named 93 = .ok (.aload_n 0, 1) := by decide +kernel
theorem dX9_named_94 : decode cX9_named 94 = .ok (.getfield 114, 3) := by decide +kernel
theorem dX9_named_97 : decode cX9_named 97 = .ok (.goto 18, 3) := by decide +kernel
theorem dX9_named_100 : decode cX9_named 100 = .ok (.iload_n 3, 1) := by decide +kernel
theorem dX9_named_101 : decode cX9_named 101 = .ok (.ifCond .eq 10, 3) := by decide +kernel
theorem dX9_named_104 : decode cX9_named 104 = .ok (.aload_n 0, 1) := by decide +kernel
theorem dX9_named_105 : decode cX9_named 105 = .ok (.getfield 117, 3) := by decide +kernel
theorem dX9_named_108 : decode cX9_named 108 = .ok (.goto 7, 3) := by decide +kernel
theorem dX9_named_111 : decode cX9_named 111 = .ok (.aload_n 0, 1) := by decide +kernel
theorem dX9_named_112 : decode cX9_named 112 = .ok (.getfield 120, 3) := by decide +kernel
theorem dX9_named_115 : decode cX9_named 115 = .ok (.ireturn, 1) := by decide +kernel
theorem dX9_factor_0 : decode cX9_factor 0 = .ok (.aload_n 0, 1) := by decide +kernel
theorem dX9_factor_1 : decode cX9_factor 1 = .ok (.aload_n 0, 1) := by decide +kernel
theorem dX9_factor_2 : decode cX9_factor 2 = .ok (.getfield 101, 3) := by decide +kernel
theorem dX9_factor_5 : decode cX9_factor 5 = .ok (.invokevirtual 104, 3) := by decide +kernel
theorem dX9_factor_8 : decode cX9_factor 8 = .ok (.istore_n 1, 1) := by decide +kernel
theorem dX9_factor_9 : decode cX9_factor 9 = .ok (.iload_n 1, 1) := by decide +kernel
theorem dX9_factor_10 : decode cX9_factor 10 = .ok (.invokestatic 107, 3) := by decide +kernel
theorem dX9_factor_13 : decode cX9_factor 13 = .ok (.ifCond .eq 8, 3) := by decide +kernel
theorem dX9_factor_16 : decode cX9_factor 16 = .ok (.aload_n 0, 1) := by decide +kernel
theorem dX9_factor_17 : decode cX9_factor 17 = .ok (.invokevirtual 123, 3) := by decide +kernel
theorem dX9_factor_20 : decode cX9_factor 20 = .ok (.ireturn, 1) := by decide +kernel
theorem dX9_factor_21 : decode cX9_factor 21 = .ok (.iload_n 1, 1) := by decide +kernel
theorem dX9_factor_22 : decode cX9_factor 22 = .ok (.bipush 33, 2) := by decide +kernel
theorem dX9_factor_24 : decode cX9_factor 24 = .ok (.if_icmp .eq 15, 3) := by decide +kernel
theorem dX9_factor_27 : decode cX9_factor 27 = .ok (.iload_n 1, 1) := by decide +kernel
theorem dX9_factor_28 : decode cX9_factor 28 = .ok (.bipush 40, 2) := by decide +kernel
theorem dX9_factor_30 : decode cX9_factor 30 = .ok (.if_icmp .eq 9, 3) := by decide +kernel
theorem dX9_factor_33 : decode cX9_factor 33 = .ok (.aload_n 0, 1) := by decide +kernel
theorem dX9_factor_34 : decode cX9_factor 34 = .ok (.iload_n 1, 1) := by decide +kernel
theorem dX9_factor_35 : decode cX9_factor 35 = .ok (.invokevirtual 126, 3) := by decide +kernel
theorem dX9_factor_38 : decode cX9_factor 38 = .ok (.ireturn, 1) := by decide +kernel
theorem dX9_factor_39 : decode cX9_factor 39 = .ok (.aload_n 0, 1) := by decide +kernel
theorem dX9_factor_40 : decode cX9_factor 40 = .ok (.getfield 129, 3) := by decide +kernel
theorem dX9_factor_43 : decode cX9_factor 43 = .ok (.iconst 5, 1) := by decide +kernel
theorem dX9_factor_44 : decode cX9_factor 44 = .ok (.if_icmp .ne 8, 3) := by decide +kernel
theorem dX9_factor_47 : decode cX9_factor 47 = .ok (.aload_n 0, 1) := by decide +kernel
theorem dX9_factor_48 : decode cX9_factor 48 = .ok (.invokevirtual 110, 3) := by decide +kernel
theorem dX9_factor_51 : decode cX9_factor 51 = .ok (.ireturn, 1) := by decide +kernel
theorem dX9_factor_52 : decode cX9_factor 52 = .ok (.aload_n 0, 1) := by decide +kernel
theorem dX9_factor_53 : decode cX9_factor 53 = .ok (.dup, 1) := by decide +kernel
theorem dX9_factor_54 : decode cX9_factor 54 = .ok (.getfield 129, 3) := by decide +kernel
theorem dX9_factor_57 : decode cX9_factor 57 = .ok (.iconst 1, 1) := by decide +kernel
theorem dX9_factor_58 : decode cX9_factor 58 = .ok (.iadd, 1) := by decide +kernel
theorem dX9_factor_59 : decode cX9_factor 59 = .ok (.putfield 129, 3) := by decide +kernel
theorem dX9_factor_62 : decode cX9_factor 62 = .ok (.aload_n 0, 1) := by decide +kernel
theorem dX9_factor_63 : decode cX9_factor 63 = .ok (.dup, 1) := by decide +kernel
theorem dX9_factor_64 : decode cX9_factor 64 = .ok (.getfield 101, 3) := by decide +kernel
theorem dX9_factor_67 : decode cX9_factor 67 = .ok (.iconst 1, 1) := by decide +kernel
theorem dX9_factor_68 : decode cX9_factor 68 = .ok (.iadd, 1) := by decide +kernel
theorem dX9_factor_69 : decode cX9_factor 69 = .ok (.putfield 101, 3) := by decide +kernel
theorem dX9_factor_72 : decode cX9_factor 72 = .ok (.iload_n 1, 1) := by decide +kernel
theorem dX9_factor_73 : decode cX9_factor 73 = .ok (.bipush 33, 2) := by decide +kernel
theorem dX9_factor_75 : decode cX9_factor 75 = .ok (.if_icmp .ne 10, 3) := by decide +kernel
theorem dX9_factor_78 : decode cX9_factor 78 = .ok (.aload_n 0, 1) := by decide +kernel
theorem dX9_factor_79 : decode cX9_factor 79 = .ok (.invokevirtual 132, 3) := by decide +kernel
theorem dX9_factor_82 : decode cX9_factor 82 = .ok (.goto 7, 3) := by decide +kernel
theorem dX9_factor_85 : decode cX9_factor 85 = .ok (.aload_n 0, 1) := by decide +kernel
theorem dX9_factor_86 : decode cX9_factor 86 = .ok (.invokevirtual 135, 3) := by decide +kernel
theorem dX9_factor_89 : decode cX9_factor 89 = .ok (.istore_n 2, 1) := by decide +kernel
theorem dX9_factor_90 : decode cX9_factor 90 = .ok (.aload_n 0, 1) := by decide +kernel
theorem dX9_factor_91 : decode cX9_factor 91 = .ok (.dup, 1) := by decide +kernel
theorem dX9_factor_92 : decode cX9_factor 92 = .ok (.getfield 129, 3) := by decide +kernel
theorem dX9_factor_95 : decode cX9_factor 95 = .ok (.iconst 1, 1) := by decide +kernel
theorem dX9_factor_96 : decode cX9_factor 96 = .ok (.isub, 1) := by decide +kernel
theorem dX9_factor_97 : decode cX9_factor 97 = .ok (.putfield 129, 3) := by decide +kernel
theorem dX9_factor_100 : decode cX9_factor 100 = .ok (.iload_n 1, 1) := by decide +kernel
theorem dX9_factor_101 : decode cX9_factor 101 = .ok (.bipush 33, 2) := by decide +kernel
theorem dX9_factor_103 : decode cX9_factor 103 = .ok (.if_icmp .ne 13, 3) := by decide +kernel
theorem dX9_factor_106 : decode cX9_factor 106 = .ok (.iload_n 2, 1) := by decide +kernel
theorem dX9_factor_107 : decode cX9_factor 107 = .ok (.ifCond .ne 7, 3) := by decide +kernel
theorem dX9_factor_110 : decode cX9_factor 110 = .ok (.iconst 1, 1) := by decide +kernel
theorem dX9_factor_111 : decode cX9_factor 111 = .ok (.goto 4, 3) := by decide +kernel
theorem dX9_factor_114 : decode cX9_factor 114 = .ok (.iconst 0, 1) := by decide +kernel
theorem dX9_factor_115 : decode cX9_factor 115 = .ok (.ireturn, 1) := by decide +kernel
theorem dX9_factor_116 : decode cX9_factor 116 = .ok (.aload_n 0, 1) := by decide +kernel
theorem dX9_factor_117 : decode cX9_factor 117 = .ok (.getfield 97, 3) := by decide +kernel
theorem dX9_factor_120 : decode cX9_factor 120 = .ok (.ifCond .eq 28, 3) := by decide +kernel
theorem dX9_factor_123 : decode cX9_factor 123 = .ok (.aload_n 0, 1) := by decide +kernel
theorem dX9_factor_124 : decode cX9_factor 124 = .ok (.aload_n 0, 1) := by decide +kernel
theorem dX9_factor_125 : decode cX9_factor 125 = .ok (.getfield 101, 3) := by decide +kernel
theorem dX9_factor_128 : decode cX9_factor 128 = .ok (.invokevirtual 104, 3) := by decide +kernel
theorem dX9_factor_131 : decode cX9_factor 131 = .ok (.bipush 41, 2) := by decide +kernel
theorem dX9_factor_133 : decode cX9_factor 133 = .ok (.if_icmp .ne 15, 3) := by decide +kernel
theorem dX9_factor_136 : decode cX9_factor 136 = .ok (.aload_n 0, 1) := by decide +kernel
theorem dX9_factor_137 : decode cX9_factor 137 = .ok (.dup, 1) := by decide +kernel
theorem dX9_factor_138 : decode cX9_factor 138 = .ok (.getfield 101, 3) := by decide +kernel
theorem dX9_factor_141 : decode cX9_factor 141 = .ok (.iconst 1, 1) := by decide +kernel
theorem dX9_factor_142 : decode cX9_factor 142 = .ok (.iadd, 1) := by decide +kernel
theorem dX9_factor_143 : decode cX9_factor 143 = .ok (.putfield 101, 3) := by decide +kernel
theorem dX9_factor_146 : decode cX9_factor 146 = .ok (.iload_n 2, 1) := by decide +kernel
theorem dX9_factor_147 : decode cX9_factor 147 = .ok (.ireturn, 1) := by decide +kernel
theorem dX9_factor_148 : decode cX9_factor 148 = .ok (.aload_n 0, 1) := by decide +kernel
theorem dX9_factor_149 : decode cX9_factor 149 = .ok (.invokevirtual 110, 3) := by decide +kernel
theorem dX9_factor_152 : decode cX9_factor 152 = .ok (.ireturn, 1) := by decide +kernel
theorem dX9_product_0 : decode cX9_product 0 = .ok (.aload_n 0, 1) := by decide +kernel
theorem dX9_product_1 : decode cX9_product 1 = .ok (.invokevirtual 132, 3) := by decide +kernel
theorem dX9_product_4 : decode cX9_product 4 = .ok (.istore_n 1, 1) := by decide +kernel
theorem dX9_product_5 : decode cX9_product 5 = .ok (.aload_n 0, 1) := by decide +kernel
theorem dX9_product_6 : decode cX9_product 6 = .ok (.getfield 97, 3) := by decide +kernel
theorem dX9_product_9 : decode cX9_product 9 = .ok (.ifCond .eq 105, 3) := by decide +kernel
theorem dX9_product_12 : decode cX9_product 12 = .ok (.aload_n 0, 1) := by decide +kernel
theorem dX9_product_13 : decode cX9_product 13 = .ok (.aload_n 0, 1) := by decide +kernel
theorem dX9_product_14 : decode cX9_product 14 = .ok (.getfield 101, 3) := by decide +kernel
theorem dX9_product_17 : decode cX9_product 17 = .ok (.invokevirtual 104, 3) := by decide +kernel
theorem dX9_product_20 : decode cX9_product 20 = .ok (.bipush 42, 2) := by decide +kernel
theorem dX9_product_22 : decode cX9_product 22 = .ok (.if_icmp .eq 29, 3) := by decide +kernel
theorem dX9_product_25 : decode cX9_product 25 = .ok (.aload_n 0, 1) := by decide +kernel
theorem dX9_product_26 : decode cX9_product 26 = .ok (.aload_n 0, 1) := by decide +kernel
theorem dX9_product_27 : decode cX9_product 27 = .ok (.getfield 101, 3) := by decide +kernel
theorem dX9_product_30 : decode cX9_product 30 = .ok (.invokevirtual 104, 3) := by decide +kernel
theorem dX9_product_33 : decode cX9_product 33 = .ok (.bipush 47, 2) := by decide +kernel
theorem dX9_product_35 : decode cX9_product 35 = .ok (.if_icmp .eq 16, 3) := by decide +kernel
theorem dX9_product_38 : decode cX9_product 38 = .ok (.aload_n 0, 1) := by decide +kernel
theorem dX9_product_39 : decode cX9_product 39 = .ok (.aload_n 0, 1) := by decide +kernel
theorem dX9_product_40 : decode cX9_product 40 = .ok (.getfield 101, 3) := by decide +kernel
theorem dX9_product_43 : decode cX9_product 43 = .ok (.invokevirtual 104, 3) := by decide +kernel
theorem dX9_product_46 : decode cX9_product 46 = .ok (.bipush 37, 2) := by decide +kernel
theorem dX9_product_48 : decode cX9_product 48 = .ok (.if_icmp .ne 66, 3) := by decide +kernel
theorem dX9_product_51 : decode cX9_product 51 = .ok (.aload_n 0, 1) := by decide +kernel
theorem dX9_product_52 : decode cX9_product 52 = .ok (.aload_n 0, 1) := by decide +kernel
theorem dX9_product_53 : decode cX9_product 53 = .ok (.getfield 101, 3) := by decide +kernel
theorem dX9_product_56 : decode cX9_product 56 = .ok (.invokevirtual 104, 3) := by decide +kernel
theorem dX9_product_59 : decode cX9_product 59 = .ok (.istore_n 2, 1) := by decide +kernel
theorem dX9_product_60 : decode cX9_product 60 = .ok (.aload_n 0, 1) := by decide +kernel
theorem dX9_product_61 : decode cX9_product 61 = .ok (.dup, 1) := by decide +kernel
theorem dX9_product_62 : decode cX9_product 62 = .ok (.getfield 101, 3) := by decide +kernel
theorem dX9_product_65 : decode cX9_product 65 = .ok (.iconst 1, 1) := by decide +kernel
theorem dX9_product_66 : decode cX9_product 66 = .ok (.iadd, 1) := by decide +kernel
theorem dX9_product_67 : decode cX9_product 67 = .ok (.putfield 101, 3) := by decide +kernel
theorem dX9_product_70 : decode cX9_product 70 = .ok (.aload_n 0, 1) := by decide +kernel
theorem dX9_product_71 : decode cX9_product 71 = .ok (.invokevirtual 132, 3) := by decide +kernel
theorem dX9_product_74 : decode cX9_product 74 = .ok (.istore_n 3, 1) := by decide +kernel
theorem dX9_product_75 : decode cX9_product 75 = .ok (.iload_n 2, 1) := by decide +kernel
theorem dX9_product_76 : decode cX9_product 76 = .ok (.bipush 42, 2) := by decide +kernel
theorem dX9_product_78 : decode cX9_product 78 = .ok (.if_icmp .ne 9, 3) := by decide +kernel
theorem dX9_product_81 : decode cX9_product 81 = .ok (.iload_n 1, 1) := by decide +kernel
theorem dX9_product_82 : decode cX9_product 82 = .ok (.iload_n 3, 1) := by decide +kernel
theorem dX9_product_83 : decode cX9_product 83 = .ok (.imul, 1) := by decide +kernel
theorem dX9_product_84 : decode cX9_product 84 = .ok (.goto 26, 3) := by decide +kernel
theorem dX9_product_87 : decode cX9_product 87 = .ok (.iload_n 3, 1) := by decide +kernel
theorem dX9_product_88 : decode cX9_product 88 = .ok (.ifCond .ne 7, 3) := by decide +kernel
theorem dX9_product_91 : decode cX9_product 91 = .ok (.iconst 0, 1) := by decide +kernel
theorem dX9_product_92 : decode cX9_product 92 = .ok (.goto 18, 3) := by decide +kernel
theorem dX9_product_95 : decode cX9_product 95 = .ok (.iload_n 2, 1) := by decide +kernel
theorem dX9_product_96 : decode cX9_product 96 = .ok (.bipush 47, 2) := by decide +kernel
theorem dX9_product_98 : decode cX9_product 98 = .ok (.if_icmp .ne 9, 3) := by decide +kernel
theorem dX9_product_101 : decode cX9_product 101 = .ok (.iload_n 1, 1) := by decide +kernel
theorem dX9_product_102 : decode cX9_product 102 = .ok (.iload_n 3, 1) := by decide +kernel
theorem dX9_product_103 : decode cX9_product 103 = .ok (.idiv, 1) := by decide +kernel
theorem dX9_product_104 : decode cX9_product 104 = .ok (.goto 6, 3) := by decide +kernel
theorem dX9_product_107 : decode cX9_product 107 = .ok (.iload_n 1, 1) := by decide +kernel
theorem dX9_product_108 : decode cX9_product 108 = .ok (.iload_n 3, 1) := by decide +kernel
theorem dX9_product_109 : decode cX9_product 109 = .ok (.irem, 1) := by decide +kernel
theorem dX9_product_110 : decode cX9_product 110 = .ok (.istore_n 1, 1) := by decide +kernel
theorem dX9_product_111 : decode cX9_product 111 = .ok (.goto (-106), 3) := by decide +kernel
theorem dX9_product_114 : decode cX9_product 114 = .ok (.iload_n 1, 1) := by decide +kernel
theorem dX9_product_115 : decode cX9_product 115 = .ok (.ireturn, 1) := by decide +kernel
theorem dX9_sum_0 : decode cX9_sum 0 = .ok (.aload_n 0, 1) := by decide +kernel
theorem dX9_sum_1 : decode cX9_sum 1 = .ok (.invokevirtual 138, 3) := by decide +kernel
theorem dX9_sum_4 : decode cX9_sum 4 = .ok (.istore_n 1, 1) := by decide +kernel
theorem dX9_sum_5 : decode cX9_sum 5 = .ok (.aload_n 0, 1) := by decide +kernel
theorem dX9_sum_6 : decode cX9_sum 6 = .ok (.getfield 97, 3) := by decide +kernel
theorem dX9_sum_9 : decode cX9_sum 9 = .ok (.ifCond .eq 72, 3) := by decide +kernel
theorem dX9_sum_12 : decode cX9_sum 12 = .ok (.aload_n 0, 1) := by decide +kernel
theorem dX9_sum_13 : decode cX9_sum 13 = .ok (.aload_n 0, 1) := by decide +kernel
theorem dX9_sum_14 : decode cX9_sum 14 = .ok (.getfield 101, 3) := by decide +kernel
theorem dX9_sum_17 : decode cX9_sum 17 = .ok (.invokevirtual 104, 3) := by decide +kernel
theorem dX9_sum_20 : decode cX9_sum 20 = .ok (.bipush 43, 2) := by decide +kernel
theorem dX9_sum_22 : decode cX9_sum 22 = .ok (.if_icmp .eq 16, 3) := by decide +kernel
theorem dX9_sum_25 : decode cX9_sum 25 = .ok (.aload_n 0, 1) := by decide +kernel
theorem dX9_sum_26 : decode cX9_sum 26 = .ok (.aload_n 0, 1) := by decide +kernel
theorem dX9_sum_27 : decode cX9_sum 27 = .ok (.getfield 101, 3) := by decide +kernel
theorem dX9_sum_30 : decode cX9_sum 30 = .ok (.invokevirtual 104, 3) := by decide +kernel
theorem dX9_sum_33 : decode cX9_sum 33 = .ok (.bipush 45, 2) := by decide +kernel
theorem dX9_sum_35 : decode cX9_sum 35 = .ok (.if_icmp .ne 46, 3) := by decide +kernel
theorem dX9_sum_38 : decode cX9_sum 38 = .ok (.aload_n 0, 1) := by decide +kernel
theorem dX9_sum_39 : decode cX9_sum 39 = .ok (.aload_n 0, 1) := by decide +kernel
theorem dX9_sum_40 : decode cX9_sum 40 = .ok (.getfield 101, 3) := by decide +kernel
theorem dX9_sum_43 : decode cX9_sum 43 = .ok (.invokevirtual 104, 3) := by decide +kernel
theorem dX9_sum_46 : decode cX9_sum 46 = .ok (.istore_n 2, 1) := by decide +kernel
theorem dX9_sum_47 : decode cX9_sum 47 = .ok (.aload_n 0, 1) := by decide +kernel
theorem dX9_sum_48 : decode cX9_sum 48 = .ok (.dup, 1) := by decide +kernel
theorem dX9_sum_49 : decode cX9_sum 49 = .ok (.getfield 101, 3) := by decide +kernel
theorem dX9_sum_52 : decode cX9_sum 52 = .ok (.iconst 1, 1) := by decide +kernel
theorem dX9_sum_53 : decode cX9_sum 53 = .ok (.iadd, 1) := by decide +kernel
theorem dX9_sum_54 : decode cX9_sum 54 = .ok (.putfield 101, 3) := by decide +kernel
theorem dX9_sum_57 : decode cX9_sum 57 = .ok (.aload_n 0, 1) := by decide +kernel
theorem dX9_sum_58 : decode cX9_sum 58 = .ok (.invokevirtual 138, 3) := by decide +kernel
theorem dX9_sum_61 : decode cX9_sum 61 = .ok (.istore_n 3, 1) := by decide +kernel
theorem dX9_sum_62 : decode cX9_sum 62 = .ok (.iload_n 2, 1) := by decide +kernel
theorem dX9_sum_63 : decode cX9_sum 63 = .ok (.bipush 43, 2) := by decide +kernel
theorem dX9_sum_65 : decode cX9_sum 65 = .ok (.if_icmp .ne 9, 3) := by decide +kernel
theorem dX9_sum_68 : decode cX9_sum 68 = .ok (.iload_n 1, 1) := by decide +kernel
theorem dX9_sum_69 : decode cX9_sum 69 = .ok (.iload_n 3, 1) := by decide +kernel
theorem dX9_sum_70 : decode cX9_sum 70 = .ok (.iadd, 1) := by decide +kernel
theorem dX9_sum_71 : decode cX9_sum 71 = .ok (.goto 6, 3) := by decide +kernel
theorem dX9_sum_74 : decode cX9_sum 74 = .ok (.iload_n 1, 1) := by decide +kernel
theorem dX9_sum_75 : decode cX9_sum 75 = .ok (.iload_n 3, 1) := by decide +kernel
theorem dX9_sum_76 : decode cX9_sum 76 = .ok (.isub, 1) := by decide +kernel
theorem dX9_sum_77 : decode cX9_sum 77 = .ok (.istore_n 1, 1) := by decide +kernel
theorem dX9_sum_78 : decode cX9_sum 78 = .ok (.goto (-73), 3) := by decide +kernel
theorem dX9_sum_81 : decode cX9_sum 81 = .ok (.iload_n 1, 1) := by decide +kernel
theorem dX9_sum_82 : decode cX9_sum 82 = .ok (.ireturn, 1) := by decide +kernel
theorem dX9_compared_0 : decode cX9_compared 0 = .ok (.aload_n 0, 1) := by decide +kernel
theorem dX9_compared_1 : decode cX9_compared 1 = .ok (.invokevirtual 141, 3) := by decide +kernel
theorem dX9_compared_4 : decode cX9_compared 4 = .ok (.istore_n 1, 1) := by decide +kernel
theorem dX9_compared_5 : decode cX9_compared 5 = .ok (.aload_n 0, 1) := by decide +kernel
theorem dX9_compared_6 : decode cX9_compared 6 = .ok (.getfield 97, 3) := by decide +kernel
theorem dX9_compared_9 : decode cX9_compared 9 = .ok (.ifCond .eq 14, 3) := by decide +kernel
theorem dX9_compared_12 : decode cX9_compared 12 = .ok (.aload_n 0, 1) := by decide +kernel
theorem dX9_compared_13 : decode cX9_compared 13 = .ok (.aload_n 0, 1) := by decide +kernel
theorem dX9_compared_14 : decode cX9_compared 14 = .ok (.getfield 101, 3) := by decide +kernel
theorem dX9_compared_17 : decode cX9_compared 17 = .ok (.invokevirtual 104, 3) := by decide +kernel
theorem dX9_compared_20 : decode cX9_compared 20 = .ok (.goto 4, 3) := by decide +kernel
theorem dX9_compared_23 : decode cX9_compared 23 = .ok (.iconst (-1), 1) := by decide +kernel
theorem dX9_compared_24 : decode cX9_compared 24 = .ok (.istore_n 2, 1) := by decide +kernel
theorem dX9_compared_25 : decode cX9_compared 25 = .ok (.iload_n 2, 1) := by decide +kernel
theorem dX9_compared_26 : decode cX9_compared 26 = .ok (.bipush 60, 2) := by decide +kernel
theorem dX9_compared_28 : decode cX9_compared 28 = .ok (.if_icmp .eq 17, 3) := by decide +kernel
theorem dX9_compared_31 : decode cX9_compared 31 = .ok (.iload_n 2, 1) := by decide +kernel
theorem dX9_compared_32 : decode cX9_compared 32 = .ok (.bipush 61, 2) := by decide +kernel
theorem dX9_compared_34 : decode cX9_compared 34 = .ok (.if_icmp .eq 11, 3) := by decide +kernel
theorem dX9_compared_37 : decode cX9_compared 37 = .ok (.iload_n 2, 1) := by decide +kernel
theorem dX9_compared_38 : decode cX9_compared 38 = .ok (.bipush 62, 2) := by decide +kernel
theorem dX9_compared_40 : decode cX9_compared 40 = .ok (.if_icmp .eq 5, 3) := by decide +kernel
theorem dX9_compared_43 : decode cX9_compared 43 = .ok (.iload_n 1, 1) := by decide +kernel
theorem dX9_compared_44 : decode cX9_compared 44 = .ok (.ireturn, 1) := by decide +kernel
theorem dX9_compared_45 : decode cX9_compared 45 = .ok (.aload_n 0, 1) := by decide +kernel
theorem dX9_compared_46 : decode cX9_compared 46 = .ok (.dup, 1) := by decide +kernel
theorem dX9_compared_47 : decode cX9_compared 47 = .ok (.getfield 101, 3) := by decide +kernel
theorem dX9_compared_50 : decode cX9_compared 50 = .ok (.iconst 1, 1) := by decide +kernel
theorem dX9_compared_51 : decode cX9_compared 51 = .ok (.iadd, 1) := by decide +kernel
theorem dX9_compared_52 : decode cX9_compared 52 = .ok (.putfield 101, 3) := by decide +kernel
theorem dX9_compared_55 : decode cX9_compared 55 = .ok (.aload_n 0, 1) := by decide +kernel
theorem dX9_compared_56 : decode cX9_compared 56 = .ok (.invokevirtual 141, 3) := by decide +kernel
theorem dX9_compared_59 : decode cX9_compared 59 = .ok (.istore_n 3, 1) := by decide +kernel
theorem dX9_compared_60 : decode cX9_compared 60 = .ok (.iload_n 2, 1) := by decide +kernel
theorem dX9_compared_61 : decode cX9_compared 61 = .ok (.bipush 60, 2) := by decide +kernel
theorem dX9_compared_63 : decode cX9_compared 63 = .ok (.if_icmp .ne 16, 3) := by decide +kernel
theorem dX9_compared_66 : decode cX9_compared 66 = .ok (.iload_n 1, 1) := by decide +kernel
theorem dX9_compared_67 : decode cX9_compared 67 = .ok (.iload_n 3, 1) := by decide +kernel
theorem dX9_compared_68 : decode cX9_compared 68 = .ok (.if_icmp .ge 7, 3) := by decide +kernel
theorem dX9_compared_71 : decode cX9_compared 71 = .ok (.iconst 1, 1) := by decide +kernel
theorem dX9_compared_72 : decode cX9_compared 72 = .ok (.goto 36, 3) := by decide +kernel
theorem dX9_compared_75 : decode cX9_compared 75 = .ok (.iconst 0, 1) := by decide +kernel
theorem dX9_compared_76 : decode cX9_compared 76 = .ok (.goto 32, 3) := by decide +kernel
theorem dX9_compared_79 : decode cX9_compared 79 = .ok (.iload_n 2, 1) := by decide +kernel
theorem dX9_compared_80 : decode cX9_compared 80 = .ok (.bipush 61, 2) := by decide +kernel
theorem dX9_compared_82 : decode cX9_compared 82 = .ok (.if_icmp .ne 16, 3) := by decide +kernel
theorem dX9_compared_85 : decode cX9_compared 85 = .ok (.iload_n 1, 1) := by decide +kernel
theorem dX9_compared_86 : decode cX9_compared 86 = .ok (.iload_n 3, 1) := by decide +kernel
theorem dX9_compared_87 : decode cX9_compared 87 = .ok (.if_icmp .ne 7, 3) := by decide +kernel
theorem dX9_compared_90 : decode cX9_compared 90 = .ok (.iconst 1, 1) := by decide +kernel
theorem dX9_compared_91 : decode cX9_compared 91 = .ok (.goto 17, 3) := by decide +kernel
theorem dX9_compared_94 : decode cX9_compared 94 = .ok (.iconst 0, 1) := by decide +kernel
theorem dX9_compared_95 : decode cX9_compared 95 = .ok (.goto 13, 3) := by decide +kernel
theorem dX9_compared_98 : decode cX9_compared 98 = .ok (.iload_n 1, 1) := by decide +kernel
theorem dX9_compared_99 : decode cX9_compared 99 = .ok (.iload_n 3, 1) := by decide +kernel
theorem dX9_compared_100 : decode cX9_compared 100 = .ok (.if_icmp .le 7, 3) := by decide +kernel
theorem dX9_compared_103 : decode cX9_compared 103 = .ok (.iconst 1, 1) := by decide +kernel
theorem dX9_compared_104 : decode cX9_compared 104 = .ok (.goto 4, 3) := by decide +kernel
theorem dX9_compared_107 : decode cX9_compared 107 = .ok (.iconst 0, 1) := by decide +kernel
theorem dX9_compared_108 : decode cX9_compared 108 = .ok (.istore 4, 2) := by decide +kernel
theorem dX9_compared_110 : decode cX9_compared 110 = .ok (.iload 4, 2) := by decide +kernel
theorem dX9_compared_112 : decode cX9_compared 112 = .ok (.ifCond .eq 7, 3) := by decide +kernel
theorem dX9_compared_115 : decode cX9_compared 115 = .ok (.iconst 1, 1) := by decide +kernel
theorem dX9_compared_116 : decode cX9_compared 116 = .ok (.goto 4, 3) := by decide +kernel
theorem dX9_compared_119 : decode cX9_compared 119 = .ok (.iconst 0, 1) := by decide +kernel
theorem dX9_compared_120 : decode cX9_compared 120 = .ok (.ireturn, 1) := by decide +kernel
theorem dX9_both_0 : decode cX9_both 0 = .ok (.aload_n 0, 1) := by decide +kernel
theorem dX9_both_1 : decode cX9_both 1 = .ok (.invokevirtual 144, 3) := by decide +kernel
theorem dX9_both_4 : decode cX9_both 4 = .ok (.istore_n 1, 1) := by decide +kernel
theorem dX9_both_5 : decode cX9_both 5 = .ok (.aload_n 0, 1) := by decide +kernel
theorem dX9_both_6 : decode cX9_both 6 = .ok (.getfield 97, 3) := by decide +kernel
theorem dX9_both_9 : decode cX9_both 9 = .ok (.ifCond .eq 48, 3) := by decide +kernel
theorem dX9_both_12 : decode cX9_both 12 = .ok (.aload_n 0, 1) := by decide +kernel
theorem dX9_both_13 : decode cX9_both 13 = .ok (.aload_n 0, 1) := by decide +kernel
theorem dX9_both_14 : decode cX9_both 14 = .ok (.getfield 101, 3) := by decide +kernel
theorem dX9_both_17 : decode cX9_both 17 = .ok (.invokevirtual 104, 3) := by decide +kernel
theorem dX9_both_20 : decode cX9_both 20 = .ok (.bipush 38, 2) := by decide +kernel
theorem dX9_both_22 : decode cX9_both 22 = .ok (.if_icmp .ne 35, 3) := by decide +kernel
theorem dX9_both_25 : decode cX9_both 25 = .ok (.aload_n 0, 1) := by decide +kernel
theorem dX9_both_26 : decode cX9_both 26 = .ok (.dup, 1) := by decide +kernel
theorem dX9_both_27 : decode cX9_both 27 = .ok (.getfield 101, 3) := by decide +kernel
theorem dX9_both_30 : decode cX9_both 30 = .ok (.iconst 1, 1) := by decide +kernel
theorem dX9_both_31 : decode cX9_both 31 = .ok (.iadd, 1) := by decide +kernel
theorem dX9_both_32 : decode cX9_both 32 = .ok (.putfield 101, 3) := by decide +kernel
theorem dX9_both_35 : decode cX9_both 35 = .ok (.aload_n 0, 1) := by decide +kernel
theorem dX9_both_36 : decode cX9_both 36 = .ok (.invokevirtual 144, 3) := by decide +kernel
theorem dX9_both_39 : decode cX9_both 39 = .ok (.istore_n 2, 1) := by decide +kernel
theorem dX9_both_40 : decode cX9_both 40 = .ok (.iload_n 1, 1) := by decide +kernel
theorem dX9_both_41 : decode cX9_both 41 = .ok (.ifCond .eq 11, 3) := by decide +kernel
theorem dX9_both_44 : decode cX9_both 44 = .ok (.iload_n 2, 1) := by decide +kernel
theorem dX9_both_45 : decode cX9_both 45 = .ok (.ifCond .eq 7, 3) := by decide +kernel
theorem dX9_both_48 : decode cX9_both 48 = .ok (.iconst 1, 1) := by decide +kernel
theorem dX9_both_49 : decode cX9_both 49 = .ok (.goto 4, 3) := by decide +kernel
theorem dX9_both_52 : decode cX9_both 52 = .ok (.iconst 0, 1) := by decide +kernel
theorem dX9_both_53 : decode cX9_both 53 = .ok (.istore_n 1, 1) := by decide +kernel
theorem dX9_both_54 : decode cX9_both 54 = .ok (.goto (-49), 3) := by decide +kernel
theorem dX9_both_57 : decode cX9_both 57 = .ok (.iload_n 1, 1) := by decide +kernel
theorem dX9_both_58 : decode cX9_both 58 = .ok (.ireturn, 1) := by decide +kernel
theorem dX9_whole_0 : decode cX9_whole 0 = .ok (.aload_n 0, 1) := by decide +kernel
theorem dX9_whole_1 : decode cX9_whole 1 = .ok (.invokevirtual 147, 3) := by decide +kernel
theorem dX9_whole_4 : decode cX9_whole 4 = .ok (.istore_n 1, 1) := by decide +kernel
theorem dX9_whole_5 : decode cX9_whole 5 = .ok (.aload_n 0, 1) := by decide +kernel
theorem dX9_whole_6 : decode cX9_whole 6 = .ok (.getfield 97, 3) := by decide +kernel
theorem dX9_whole_9 : decode cX9_whole 9 = .ok (.ifCond .eq 48, 3) := by decide +kernel
theorem dX9_whole_12 : decode cX9_whole 12 = .ok (.aload_n 0, 1) := by decide +kernel
theorem dX9_whole_13 : decode cX9_whole 13 = .ok (.aload_n 0, 1) := by decide +kernel
theorem dX9_whole_14 : decode cX9_whole 14 = .ok (.getfield 101, 3) := by decide +kernel
theorem dX9_whole_17 : decode cX9_whole 17 = .ok (.invokevirtual 104, 3) := by decide +kernel
theorem dX9_whole_20 : decode cX9_whole 20 = .ok (.bipush 124, 2) := by decide +kernel
theorem dX9_whole_22 : decode cX9_whole 22 = .ok (.if_icmp .ne 35, 3) := by decide +kernel
theorem dX9_whole_25 : decode cX9_whole 25 = .ok (.aload_n 0, 1) := by decide +kernel
theorem dX9_whole_26 : decode cX9_whole 26 = .ok (.dup, 1) := by decide +kernel
theorem dX9_whole_27 : decode cX9_whole 27 = .ok (.getfield 101, 3) := by decide +kernel
theorem dX9_whole_30 : decode cX9_whole 30 = .ok (.iconst 1, 1) := by decide +kernel
theorem dX9_whole_31 : decode cX9_whole 31 = .ok (.iadd, 1) := by decide +kernel
theorem dX9_whole_32 : decode cX9_whole 32 = .ok (.putfield 101, 3) := by decide +kernel
theorem dX9_whole_35 : decode cX9_whole 35 = .ok (.aload_n 0, 1) := by decide +kernel
theorem dX9_whole_36 : decode cX9_whole 36 = .ok (.invokevirtual 147, 3) := by decide +kernel
theorem dX9_whole_39 : decode cX9_whole 39 = .ok (.istore_n 2, 1) := by decide +kernel
theorem dX9_whole_40 : decode cX9_whole 40 = .ok (.iload_n 1, 1) := by decide +kernel
theorem dX9_whole_41 : decode cX9_whole 41 = .ok (.ifCond .ne 7, 3) := by decide +kernel
theorem dX9_whole_44 : decode cX9_whole 44 = .ok (.iload_n 2, 1) := by decide +kernel
theorem dX9_whole_45 : decode cX9_whole 45 = .ok (.ifCond .eq 7, 3) := by decide +kernel
theorem dX9_whole_48 : decode cX9_whole 48 = .ok (.iconst 1, 1) := by decide +kernel
theorem dX9_whole_49 : decode cX9_whole 49 = .ok (.goto 4, 3) := by decide +kernel
theorem dX9_whole_52 : decode cX9_whole 52 = .ok (.iconst 0, 1) := by decide +kernel
theorem dX9_whole_53 : decode cX9_whole 53 = .ok (.istore_n 1, 1) := by decide +kernel
theorem dX9_whole_54 : decode cX9_whole 54 = .ok (.goto (-49), 3) := by decide +kernel
theorem dX9_whole_57 : decode cX9_whole 57 = .ok (.iload_n 1, 1) := by decide +kernel
theorem dX9_whole_58 : decode cX9_whole 58 = .ok (.ireturn, 1) := by decide +kernel
theorem dX9_walks_0 : decode cX9_walks 0 = .ok (.aload_n 0, 1) := by decide +kernel
theorem dX9_walks_1 : decode cX9_walks 1 = .ok (.iload_n 1, 1) := by decide +kernel
theorem dX9_walks_2 : decode cX9_walks 2 = .ok (.putfield 94, 3) := by decide +kernel
theorem dX9_walks_5 : decode cX9_walks 5 = .ok (.aload_n 0, 1) := by decide +kernel
theorem dX9_walks_6 : decode cX9_walks 6 = .ok (.iconst 0, 1) := by decide +kernel
theorem dX9_walks_7 : decode cX9_walks 7 = .ok (.putfield 101, 3) := by decide +kernel
theorem dX9_walks_10 : decode cX9_walks 10 = .ok (.aload_n 0, 1) := by decide +kernel
theorem dX9_walks_11 : decode cX9_walks 11 = .ok (.aload_n 0, 1) := by decide +kernel
theorem dX9_walks_12 : decode cX9_walks 12 = .ok (.getfield 7, 3) := by decide +kernel
theorem dX9_walks_15 : decode cX9_walks 15 = .ok (.bipush 6, 2) := by decide +kernel
theorem dX9_walks_17 : decode cX9_walks 17 = .ok (.iload_n 1, 1) := by decide +kernel
theorem dX9_walks_18 : decode cX9_walks 18 = .ok (.iadd, 1) := by decide +kernel
theorem dX9_walks_19 : decode cX9_walks 19 = .ok (.iaload, 1) := by decide +kernel
theorem dX9_walks_20 : decode cX9_walks 20 = .ok (.putfield 90, 3) := by decide +kernel
theorem dX9_walks_23 : decode cX9_walks 23 = .ok (.aload_n 0, 1) := by decide +kernel
theorem dX9_walks_24 : decode cX9_walks 24 = .ok (.iconst 0, 1) := by decide +kernel
theorem dX9_walks_25 : decode cX9_walks 25 = .ok (.putfield 129, 3) := by decide +kernel
theorem dX9_walks_28 : decode cX9_walks 28 = .ok (.aload_n 0, 1) := by decide +kernel
theorem dX9_walks_29 : decode cX9_walks 29 = .ok (.iconst 1, 1) := by decide +kernel
theorem dX9_walks_30 : decode cX9_walks 30 = .ok (.putfield 97, 3) := by decide +kernel
theorem dX9_walks_33 : decode cX9_walks 33 = .ok (.aload_n 0, 1) := by decide +kernel
theorem dX9_walks_34 : decode cX9_walks 34 = .ok (.iload_n 2, 1) := by decide +kernel
theorem dX9_walks_35 : decode cX9_walks 35 = .ok (.putfield 114, 3) := by decide +kernel
theorem dX9_walks_38 : decode cX9_walks 38 = .ok (.aload_n 0, 1) := by decide +kernel
theorem dX9_walks_39 : decode cX9_walks 39 = .ok (.iload_n 3, 1) := by decide +kernel
theorem dX9_walks_40 : decode cX9_walks 40 = .ok (.putfield 117, 3) := by decide +kernel
theorem dX9_walks_43 : decode cX9_walks 43 = .ok (.aload_n 0, 1) := by decide +kernel
theorem dX9_walks_44 : decode cX9_walks 44 = .ok (.iload 4, 2) := by decide +kernel
theorem dX9_walks_46 : decode cX9_walks 46 = .ok (.putfield 120, 3) := by decide +kernel
theorem dX9_walks_49 : decode cX9_walks 49 = .ok (.aload_n 0, 1) := by decide +kernel
theorem dX9_walks_50 : decode cX9_walks 50 = .ok (.invokevirtual 135, 3) := by decide +kernel
theorem dX9_walks_53 : decode cX9_walks 53 = .ok (.istore 5, 2) := by decide +kernel
theorem dX9_walks_55 : decode cX9_walks 55 = .ok (.aload_n 0, 1) := by decide +kernel
theorem dX9_walks_56 : decode cX9_walks 56 = .ok (.aload_n 0, 1) := by decide +kernel
theorem dX9_walks_57 : decode cX9_walks 57 = .ok (.getfield 97, 3) := by decide +kernel
theorem dX9_walks_60 : decode cX9_walks 60 = .ok (.ifCond .eq 18, 3) := by decide +kernel
theorem dX9_walks_63 : decode cX9_walks 63 = .ok (.aload_n 0, 1) := by decide +kernel
theorem dX9_walks_64 : decode cX9_walks 64 = .ok (.getfield 101, 3) := by decide +kernel
theorem dX9_walks_67 : decode cX9_walks 67 = .ok (.aload_n 0, 1) := by decide +kernel
theorem dX9_walks_68 : decode cX9_walks 68 = .ok (.getfield 90, 3) := by decide +kernel
theorem dX9_walks_71 : decode cX9_walks 71 = .ok (.if_icmp .ne 7, 3) := by decide +kernel
theorem dX9_walks_74 : decode cX9_walks 74 = .ok (.iconst 1, 1) := by decide +kernel
theorem dX9_walks_75 : decode cX9_walks 75 = .ok (.goto 4, 3) := by decide +kernel
theorem dX9_walks_78 : decode cX9_walks 78 = .ok (.iconst 0, 1) := by decide +kernel
theorem dX9_walks_79 : decode cX9_walks 79 = .ok (.putfield 97, 3) := by decide +kernel
theorem dX9_walks_82 : decode cX9_walks 82 = .ok (.iload 5, 2) := by decide +kernel
theorem dX9_walks_84 : decode cX9_walks 84 = .ok (.ireturn, 1) := by decide +kernel
theorem dX9_lawOf_0 : decode cX9_lawOf 0 = .ok (.iload_n 1, 1) := by decide +kernel
theorem dX9_lawOf_1 : decode cX9_lawOf 1 = .ok (.ifCond .ne 7, 3) := by decide +kernel
theorem dX9_lawOf_4 : decode cX9_lawOf 4 = .ok (.iconst 1, 1) := by decide +kernel
theorem dX9_lawOf_5 : decode cX9_lawOf 5 = .ok (.goto 4, 3) := by decide +kernel
theorem dX9_lawOf_8 : decode cX9_lawOf 8 = .ok (.iconst 0, 1) := by decide +kernel
theorem dX9_lawOf_9 : decode cX9_lawOf 9 = .ok (.istore 5, 2) := by decide +kernel
theorem dX9_lawOf_11 : decode cX9_lawOf 11 = .ok (.iload_n 1, 1) := by decide +kernel
theorem dX9_lawOf_12 : decode cX9_lawOf 12 = .ok (.ifCond .ne 8, 3) := by decide +kernel
theorem dX9_lawOf_15 : decode cX9_lawOf 15 = .ok (.bipush 9, 2) := by decide +kernel
theorem dX9_lawOf_17 : decode cX9_lawOf 17 = .ok (.goto 4, 3) := by decide +kernel
theorem dX9_lawOf_20 : decode cX9_lawOf 20 = .ok (.iconst 1, 1) := by decide +kernel
theorem dX9_lawOf_21 : decode cX9_lawOf 21 = .ok (.istore 6, 2) := by decide +kernel
theorem dX9_lawOf_23 : decode cX9_lawOf 23 = .ok (.aload_n 0, 1) := by decide +kernel
theorem dX9_lawOf_24 : decode cX9_lawOf 24 = .ok (.getfield 7, 3) := by decide +kernel
theorem dX9_lawOf_27 : decode cX9_lawOf 27 = .ok (.bipush 6, 2) := by decide +kernel
theorem dX9_lawOf_29 : decode cX9_lawOf 29 = .ok (.iload_n 1, 1) := by decide +kernel
theorem dX9_lawOf_30 : decode cX9_lawOf 30 = .ok (.iadd, 1) := by decide +kernel
theorem dX9_lawOf_31 : decode cX9_lawOf 31 = .ok (.iaload, 1) := by decide +kernel
theorem dX9_lawOf_32 : decode cX9_lawOf 32 = .ok (.ifCond .lt 20, 3) := by decide +kernel
theorem dX9_lawOf_35 : decode cX9_lawOf 35 = .ok (.aload_n 0, 1) := by decide +kernel
theorem dX9_lawOf_36 : decode cX9_lawOf 36 = .ok (.iload_n 1, 1) := by decide +kernel
theorem dX9_lawOf_37 : decode cX9_lawOf 37 = .ok (.iload_n 2, 1) := by decide +kernel
theorem dX9_lawOf_38 : decode cX9_lawOf 38 = .ok (.iload_n 3, 1) := by decide +kernel
theorem dX9_lawOf_39 : decode cX9_lawOf 39 = .ok (.iload 4, 2) := by decide +kernel
theorem dX9_lawOf_41 : decode cX9_lawOf 41 = .ok (.invokevirtual 150, 3) := by decide +kernel
theorem dX9_lawOf_44 : decode cX9_lawOf 44 = .ok (.iload 5, 2) := by decide +kernel
theorem dX9_lawOf_46 : decode cX9_lawOf 46 = .ok (.iload 6, 2) := by decide +kernel
theorem dX9_lawOf_48 : decode cX9_lawOf 48 = .ok (.invokestatic 154, 3) := by decide +kernel
theorem dX9_lawOf_51 : decode cX9_lawOf 51 = .ok (.ireturn, 1) := by decide +kernel
theorem dX9_lawOf_52 : decode cX9_lawOf 52 = .ok (.iload_n 1, 1) := by decide +kernel
theorem dX9_lawOf_53 : decode cX9_lawOf 53 = .ok (.ifCond .ne 19, 3) := by decide +kernel
theorem dX9_lawOf_56 : decode cX9_lawOf 56 = .ok (.iconst 1, 1) := by decide +kernel
theorem dX9_lawOf_57 : decode cX9_lawOf 57 = .ok (.iload_n 3, 1) := by decide +kernel
theorem dX9_lawOf_58 : decode cX9_lawOf 58 = .ok (.bipush 20, 2) := by decide +kernel
theorem dX9_lawOf_60 : decode cX9_lawOf 60 = .ok (.idiv, 1) := by decide +kernel
theorem dX9_lawOf_61 : decode cX9_lawOf 61 = .ok (.iadd, 1) := by decide +kernel
theorem dX9_lawOf_62 : decode cX9_lawOf 62 = .ok (.iload 5, 2) := by decide +kernel
theorem dX9_lawOf_64 : decode cX9_lawOf 64 = .ok (.iload 6, 2) := by decide +kernel
theorem dX9_lawOf_66 : decode cX9_lawOf 66 = .ok (.invokestatic 154, 3) := by decide +kernel
theorem dX9_lawOf_69 : decode cX9_lawOf 69 = .ok (.goto 18, 3) := by decide +kernel
theorem dX9_lawOf_72 : decode cX9_lawOf 72 = .ok (.iload_n 3, 1) := by decide +kernel
theorem dX9_lawOf_73 : decode cX9_lawOf 73 = .ok (.bipush 100, 2) := by decide +kernel
theorem dX9_lawOf_75 : decode cX9_lawOf 75 = .ok (.iload_n 2, 1) := by decide +kernel
theorem dX9_lawOf_76 : decode cX9_lawOf 76 = .ok (.iconst 1, 1) := by decide +kernel
theorem dX9_lawOf_77 : decode cX9_lawOf 77 = .ok (.iadd, 1) := by decide +kernel
theorem dX9_lawOf_78 : decode cX9_lawOf 78 = .ok (.imul, 1) := by decide +kernel
theorem dX9_lawOf_79 : decode cX9_lawOf 79 = .ok (.if_icmp .ge 7, 3) := by decide +kernel
theorem dX9_lawOf_82 : decode cX9_lawOf 82 = .ok (.iconst 1, 1) := by decide +kernel
theorem dX9_lawOf_83 : decode cX9_lawOf 83 = .ok (.goto 4, 3) := by decide +kernel
theorem dX9_lawOf_86 : decode cX9_lawOf 86 = .ok (.iconst 0, 1) := by decide +kernel
theorem dX9_lawOf_87 : decode cX9_lawOf 87 = .ok (.ireturn, 1) := by decide +kernel
theorem dX9_law_0 : decode cX9_law 0 = .ok (.iload_n 1, 1) := by decide +kernel
theorem dX9_law_1 : decode cX9_law 1 = .ok (.iconst 0, 1) := by decide +kernel
theorem dX9_law_2 : decode cX9_law 2 = .ok (.iconst 1, 1) := by decide +kernel
theorem dX9_law_3 : decode cX9_law 3 = .ok (.invokestatic 41, 3) := by decide +kernel
theorem dX9_law_6 : decode cX9_law 6 = .ok (.ifCond .eq 15, 3) := by decide +kernel
theorem dX9_law_9 : decode cX9_law 9 = .ok (.aload_n 0, 1) := by decide +kernel
theorem dX9_law_10 : decode cX9_law 10 = .ok (.iload_n 1, 1) := by decide +kernel
theorem dX9_law_11 : decode cX9_law 11 = .ok (.iload_n 2, 1) := by decide +kernel
theorem dX9_law_12 : decode cX9_law 12 = .ok (.iload_n 3, 1) := by decide +kernel
theorem dX9_law_13 : decode cX9_law 13 = .ok (.iload 4, 2) := by decide +kernel
theorem dX9_law_15 : decode cX9_law 15 = .ok (.invokevirtual 158, 3) := by decide +kernel
theorem dX9_law_18 : decode cX9_law 18 = .ok (.goto 9, 3) := by decide +kernel
theorem dX9_law_21 : decode cX9_law 21 = .ok (.aload_n 0, 1) := by decide +kernel
theorem dX9_law_22 : decode cX9_law 22 = .ok (.ldc 45, 2) := by decide +kernel
theorem dX9_law_24 : decode cX9_law 24 = .ok (.invokevirtual 46, 3) := by decide +kernel
theorem dX9_law_27 : decode cX9_law 27 = .ok (.ireturn, 1) := by decide +kernel
theorem dX9_feed_0 : decode cX9_feed 0 = .ok (.iload_n 3, 1) := by decide +kernel
theorem dX9_feed_1 : decode cX9_feed 1 = .ok (.iconst 1, 1) := by decide +kernel
theorem dX9_feed_2 : decode cX9_feed 2 = .ok (.bipush 8, 2) := by decide +kernel
theorem dX9_feed_4 : decode cX9_feed 4 = .ok (.invokestatic 41, 3) := by decide +kernel
theorem dX9_feed_7 : decode cX9_feed 7 = .ok (.ifCond .ne 10, 3) := by decide +kernel
theorem dX9_feed_10 : decode cX9_feed 10 = .ok (.aload_n 0, 1) := by decide +kernel
theorem dX9_feed_11 : decode cX9_feed 11 = .ok (.ldc 45, 2) := by decide +kernel
theorem dX9_feed_13 : decode cX9_feed 13 = .ok (.invokevirtual 46, 3) := by decide +kernel
theorem dX9_feed_16 : decode cX9_feed 16 = .ok (.ireturn, 1) := by decide +kernel
theorem dX9_feed_17 : decode cX9_feed 17 = .ok (.aload_n 0, 1) := by decide +kernel
theorem dX9_feed_18 : decode cX9_feed 18 = .ok (.getfield 7, 3) := by decide +kernel
theorem dX9_feed_21 : decode cX9_feed 21 = .ok (.iconst 4, 1) := by decide +kernel
theorem dX9_feed_22 : decode cX9_feed 22 = .ok (.iaload, 1) := by decide +kernel
theorem dX9_feed_23 : decode cX9_feed 23 = .ok (.iload_n 3, 1) := by decide +kernel
theorem dX9_feed_24 : decode cX9_feed 24 = .ok (.iadd, 1) := by decide +kernel
theorem dX9_feed_25 : decode cX9_feed 25 = .ok (.bipush 50, 2) := by decide +kernel
theorem dX9_feed_27 : decode cX9_feed 27 = .ok (.if_icmp .le 10, 3) := by decide +kernel
theorem dX9_feed_30 : decode cX9_feed 30 = .ok (.aload_n 0, 1) := by decide +kernel
theorem dX9_feed_31 : decode cX9_feed 31 = .ok (.ldc 55, 2) := by decide +kernel
theorem dX9_feed_33 : decode cX9_feed 33 = .ok (.invokevirtual 46, 3) := by decide +kernel
theorem dX9_feed_36 : decode cX9_feed 36 = .ok (.ireturn, 1) := by decide +kernel
theorem dX9_feed_37 : decode cX9_feed 37 = .ok (.iconst 0, 1) := by decide +kernel
theorem dX9_feed_38 : decode cX9_feed 38 = .ok (.istore 4, 2) := by decide +kernel
theorem dX9_feed_40 : decode cX9_feed 40 = .ok (.iload 4, 2) := by decide +kernel
theorem dX9_feed_42 : decode cX9_feed 42 = .ok (.iload_n 3, 1) := by decide +kernel
theorem dX9_feed_43 : decode cX9_feed 43 = .ok (.if_icmp .ge 45, 3) := by decide +kernel
theorem dX9_feed_46 : decode cX9_feed 46 = .ok (.aload_n 0, 1) := by decide +kernel
theorem dX9_feed_47 : decode cX9_feed 47 = .ok (.getfield 7, 3) := by decide +kernel
theorem dX9_feed_50 : decode cX9_feed 50 = .ok (.bipush 85, 2) := by decide +kernel
theorem dX9_feed_52 : decode cX9_feed 52 = .ok (.aload_n 0, 1) := by decide +kernel
theorem dX9_feed_53 : decode cX9_feed 53 = .ok (.getfield 7, 3) := by decide +kernel
theorem dX9_feed_56 : decode cX9_feed 56 = .ok (.iconst 4, 1) := by decide +kernel
theorem dX9_feed_57 : decode cX9_feed 57 = .ok (.iaload, 1) := by decide +kernel
theorem dX9_feed_58 : decode cX9_feed 58 = .ok (.iadd, 1) := by decide +kernel
theorem dX9_feed_59 : decode cX9_feed 59 = .ok (.lload_n 1, 1) := by decide +kernel
theorem dX9_feed_60 : decode cX9_feed 60 = .ok (.bipush 8, 2) := by decide +kernel
theorem dX9_feed_62 : decode cX9_feed 62 = .ok (.iload 4, 2) := by decide +kernel
theorem dX9_feed_64 : decode cX9_feed 64 = .ok (.imul, 1) := by decide +kernel
theorem dX9_feed_65 : decode cX9_feed 65 = .ok (.lshr, 1) := by decide +kernel
theorem dX9_feed_66 : decode cX9_feed 66 = .ok (.ldc2_w 161, 3) := by decide +kernel
theorem dX9_feed_69 : decode cX9_feed 69 = .ok (.land, 1) := by decide +kernel
theorem dX9_feed_70 : decode cX9_feed 70 = .ok (.l2i, 1) := by decide +kernel
theorem dX9_feed_71 : decode cX9_feed 71 = .ok (.iastore, 1) := by decide +kernel
theorem dX9_feed_72 : decode cX9_feed 72 = .ok (.aload_n 0, 1) := by decide +kernel
theorem dX9_feed_73 : decode cX9_feed 73 = .ok (.getfield 7, 3) := by decide +kernel
theorem dX9_feed_76 : decode cX9_feed 76 = .ok (.iconst 4, 1) := by decide +kernel
theorem dX9_feed_77 : decode cX9_feed 77 = .ok (.dup2, 1) := by decide +kernel
theorem dX9_feed_78 : decode cX9_feed 78 = .ok (.iaload, 1) := by decide +kernel
theorem dX9_feed_79 : decode cX9_feed 79 = .ok (.iconst 1, 1) := by decide +kernel
theorem dX9_feed_80 : decode cX9_feed 80 = .ok (.iadd, 1) := by decide +kernel
theorem dX9_feed_81 : decode cX9_feed 81 = .ok (.iastore, 1) := by decide +kernel
theorem dX9_feed_82 : decode cX9_feed 82 = .ok (.iinc 4 1, 3) := by decide +kernel
theorem dX9_feed_85 : decode cX9_feed 85 = .ok (.goto (-45), 3) := by decide +kernel
theorem dX9_feed_88 : decode cX9_feed 88 = .ok (.aload_n 0, 1) := by decide +kernel
theorem dX9_feed_89 : decode cX9_feed 89 = .ok (.getfield 7, 3) := by decide +kernel
theorem dX9_feed_92 : decode cX9_feed 92 = .ok (.iconst 4, 1) := by decide +kernel
theorem dX9_feed_93 : decode cX9_feed 93 = .ok (.iaload, 1) := by decide +kernel
theorem dX9_feed_94 : decode cX9_feed 94 = .ok (.ireturn, 1) := by decide +kernel
theorem dX9_text_0 : decode cX9_text 0 = .ok (.iload_n 1, 1) := by decide +kernel
theorem dX9_text_1 : decode cX9_text 1 = .ok (.iconst 0, 1) := by decide +kernel
theorem dX9_text_2 : decode cX9_text 2 = .ok (.iconst 1, 1) := by decide +kernel
theorem dX9_text_3 : decode cX9_text 3 = .ok (.invokestatic 41, 3) := by decide +kernel
theorem dX9_text_6 : decode cX9_text 6 = .ok (.ifCond .ne 10, 3) := by decide +kernel
theorem dX9_text_9 : decode cX9_text 9 = .ok (.aload_n 0, 1) := by decide +kernel
theorem dX9_text_10 : decode cX9_text 10 = .ok (.ldc 45, 2) := by decide +kernel
theorem dX9_text_12 : decode cX9_text 12 = .ok (.invokevirtual 46, 3) := by decide +kernel
theorem dX9_text_15 : decode cX9_text 15 = .ok (.ireturn, 1) := by decide +kernel
theorem dX9_text_16 : decode cX9_text 16 = .ok (.aload_n 0, 1) := by decide +kernel
theorem dX9_text_17 : decode cX9_text 17 = .ok (.aload_n 0, 1) := by decide +kernel
theorem dX9_text_18 : decode cX9_text 18 = .ok (.getfield 7, 3) := by decide +kernel
theorem dX9_text_21 : decode cX9_text 21 = .ok (.aload_n 0, 1) := by decide +kernel
theorem dX9_text_22 : decode cX9_text 22 = .ok (.getfield 19, 3) := by decide +kernel
theorem dX9_text_25 : decode cX9_text 25 = .ok (.invokevirtual 163, 3) := by decide +kernel
theorem dX9_text_28 : decode cX9_text 28 = .ok (.iconst 0, 1) := by decide +kernel
theorem dX9_text_29 : decode cX9_text 29 = .ok (.istore_n 2, 1) := by decide +kernel
theorem dX9_text_30 : decode cX9_text 30 = .ok (.iload_n 2, 1) := by decide +kernel
theorem dX9_text_31 : decode cX9_text 31 = .ok (.bipush 50, 2) := by decide +kernel
theorem dX9_text_33 : decode cX9_text 33 = .ok (.if_icmp .ge 33, 3) := by decide +kernel
theorem dX9_text_36 : decode cX9_text 36 = .ok (.aload_n 0, 1) := by decide +kernel
theorem dX9_text_37 : decode cX9_text 37 = .ok (.getfield 7, 3) := by decide +kernel
theorem dX9_text_40 : decode cX9_text 40 = .ok (.sipush 155, 3) := by decide +kernel
theorem dX9_text_43 : decode cX9_text 43 = .ok (.bipush 50, 2) := by decide +kernel
theorem dX9_text_45 : decode cX9_text 45 = .ok (.iload_n 1, 1) := by decide +kernel
theorem dX9_text_46 : decode cX9_text 46 = .ok (.imul, 1) := by decide +kernel
theorem dX9_text_47 : decode cX9_text 47 = .ok (.iadd, 1) := by decide +kernel
theorem dX9_text_48 : decode cX9_text 48 = .ok (.iload_n 2, 1) := by decide +kernel
theorem dX9_text_49 : decode cX9_text 49 = .ok (.iadd, 1) := by decide +kernel
theorem dX9_text_50 : decode cX9_text 50 = .ok (.aload_n 0, 1) := by decide +kernel
theorem dX9_text_51 : decode cX9_text 51 = .ok (.getfield 7, 3) := by decide +kernel
theorem dX9_text_54 : decode cX9_text 54 = .ok (.bipush 85, 2) := by decide +kernel
theorem dX9_text_56 : decode cX9_text 56 = .ok (.iload_n 2, 1) := by decide +kernel
theorem dX9_text_57 : decode cX9_text 57 = .ok (.iadd, 1) := by decide +kernel
theorem dX9_text_58 : decode cX9_text 58 = .ok (.iaload, 1) := by decide +kernel
theorem dX9_text_59 : decode cX9_text 59 = .ok (.iastore, 1) := by decide +kernel
theorem dX9_text_60 : decode cX9_text 60 = .ok (.iinc 2 1, 3) := by decide +kernel
theorem dX9_text_63 : decode cX9_text 63 = .ok (.goto (-33), 3) := by decide +kernel
theorem dX9_text_66 : decode cX9_text 66 = .ok (.aload_n 0, 1) := by decide +kernel
theorem dX9_text_67 : decode cX9_text 67 = .ok (.getfield 7, 3) := by decide +kernel
theorem dX9_text_70 : decode cX9_text 70 = .ok (.bipush 6, 2) := by decide +kernel
theorem dX9_text_72 : decode cX9_text 72 = .ok (.iload_n 1, 1) := by decide +kernel
theorem dX9_text_73 : decode cX9_text 73 = .ok (.iadd, 1) := by decide +kernel
theorem dX9_text_74 : decode cX9_text 74 = .ok (.aload_n 0, 1) := by decide +kernel
theorem dX9_text_75 : decode cX9_text 75 = .ok (.getfield 7, 3) := by decide +kernel
theorem dX9_text_78 : decode cX9_text 78 = .ok (.iconst 4, 1) := by decide +kernel
theorem dX9_text_79 : decode cX9_text 79 = .ok (.iaload, 1) := by decide +kernel
theorem dX9_text_80 : decode cX9_text 80 = .ok (.iastore, 1) := by decide +kernel
theorem dX9_text_81 : decode cX9_text 81 = .ok (.aload_n 0, 1) := by decide +kernel
theorem dX9_text_82 : decode cX9_text 82 = .ok (.iload_n 1, 1) := by decide +kernel
theorem dX9_text_83 : decode cX9_text 83 = .ok (.iconst 1, 1) := by decide +kernel
theorem dX9_text_84 : decode cX9_text 84 = .ok (.iconst 1, 1) := by decide +kernel
theorem dX9_text_85 : decode cX9_text 85 = .ok (.iconst 1, 1) := by decide +kernel
theorem dX9_text_86 : decode cX9_text 86 = .ok (.invokevirtual 150, 3) := by decide +kernel
theorem dX9_text_89 : decode cX9_text 89 = .ok (.istore_n 2, 1) := by decide +kernel
theorem dX9_text_90 : decode cX9_text 90 = .ok (.aload_n 0, 1) := by decide +kernel
theorem dX9_text_91 : decode cX9_text 91 = .ok (.getfield 97, 3) := by decide +kernel
theorem dX9_text_94 : decode cX9_text 94 = .ok (.ifCond .eq 12, 3) := by decide +kernel
theorem dX9_text_97 : decode cX9_text 97 = .ok (.iload_n 2, 1) := by decide +kernel
theorem dX9_text_98 : decode cX9_text 98 = .ok (.iload_n 2, 1) := by decide +kernel
theorem dX9_text_99 : decode cX9_text 99 = .ok (.if_icmp .ne 7, 3) := by decide +kernel
theorem dX9_text_102 : decode cX9_text 102 = .ok (.iconst 1, 1) := by decide +kernel
theorem dX9_text_103 : decode cX9_text 103 = .ok (.goto 4, 3) := by decide +kernel
theorem dX9_text_106 : decode cX9_text 106 = .ok (.iconst 0, 1) := by decide +kernel
theorem dX9_text_107 : decode cX9_text 107 = .ok (.istore_n 3, 1) := by decide +kernel
theorem dX9_text_108 : decode cX9_text 108 = .ok (.aload_n 0, 1) := by decide +kernel
theorem dX9_text_109 : decode cX9_text 109 = .ok (.getfield 101, 3) := by decide +kernel
theorem dX9_text_112 : decode cX9_text 112 = .ok (.istore 4, 2) := by decide +kernel
theorem dX9_text_114 : decode cX9_text 114 = .ok (.iload_n 3, 1) := by decide +kernel
theorem dX9_text_115 : decode cX9_text 115 = .ok (.ifCond .ne 15, 3) := by decide +kernel
theorem dX9_text_118 : decode cX9_text 118 = .ok (.aload_n 0, 1) := by decide +kernel
theorem dX9_text_119 : decode cX9_text 119 = .ok (.aload_n 0, 1) := by decide +kernel
theorem dX9_text_120 : decode cX9_text 120 = .ok (.getfield 19, 3) := by decide +kernel
theorem dX9_text_123 : decode cX9_text 123 = .ok (.aload_n 0, 1) := by decide +kernel
theorem dX9_text_124 : decode cX9_text 124 = .ok (.getfield 7, 3) := by decide +kernel
theorem dX9_text_127 : decode cX9_text 127 = .ok (.invokevirtual 163, 3) := by decide +kernel
theorem dX9_text_130 : decode cX9_text 130 = .ok (.aload_n 0, 1) := by decide +kernel
theorem dX9_text_131 : decode cX9_text 131 = .ok (.getfield 7, 3) := by decide +kernel
theorem dX9_text_134 : decode cX9_text 134 = .ok (.iconst 4, 1) := by decide +kernel
theorem dX9_text_135 : decode cX9_text 135 = .ok (.iconst 0, 1) := by decide +kernel
theorem dX9_text_136 : decode cX9_text 136 = .ok (.iastore, 1) := by decide +kernel
theorem dX9_text_137 : decode cX9_text 137 = .ok (.iload_n 3, 1) := by decide +kernel
theorem dX9_text_138 : decode cX9_text 138 = .ok (.ifCond .eq 7, 3) := by decide +kernel
theorem dX9_text_141 : decode cX9_text 141 = .ok (.iconst 1, 1) := by decide +kernel
theorem dX9_text_142 : decode cX9_text 142 = .ok (.goto 8, 3) := by decide +kernel
theorem dX9_text_145 : decode cX9_text 145 = .ok (.bipush (-10), 2) := by decide +kernel
theorem dX9_text_147 : decode cX9_text 147 = .ok (.iload 4, 2) := by decide +kernel
theorem dX9_text_149 : decode cX9_text 149 = .ok (.isub, 1) := by decide +kernel
theorem dX9_text_150 : decode cX9_text 150 = .ok (.ireturn, 1) := by decide +kernel
theorem dX9_needs_0 : decode cX9_needs 0 = .ok (.aload_n 0, 1) := by decide +kernel
theorem dX9_needs_1 : decode cX9_needs 1 = .ok (.iconst 0, 1) := by decide +kernel
theorem dX9_needs_2 : decode cX9_needs 2 = .ok (.aload_n 0, 1) := by decide +kernel
theorem dX9_needs_3 : decode cX9_needs 3 = .ok (.iload_n 1, 1) := by decide +kernel
theorem dX9_needs_4 : decode cX9_needs 4 = .ok (.iconst 2, 1) := by decide +kernel
theorem dX9_needs_5 : decode cX9_needs 5 = .ok (.invokevirtual 80, 3) := by decide +kernel
theorem dX9_needs_8 : decode cX9_needs 8 = .ok (.aload_n 0, 1) := by decide +kernel
theorem dX9_needs_9 : decode cX9_needs 9 = .ok (.iload_n 1, 1) := by decide +kernel
theorem dX9_needs_10 : decode cX9_needs 10 = .ok (.iconst 3, 1) := by decide +kernel
theorem dX9_needs_11 : decode cX9_needs 11 = .ok (.invokevirtual 80, 3) := by decide +kernel
theorem dX9_needs_14 : decode cX9_needs 14 = .ok (.aload_n 0, 1) := by decide +kernel
theorem dX9_needs_15 : decode cX9_needs 15 = .ok (.getfield 7, 3) := by decide +kernel
theorem dX9_needs_18 : decode cX9_needs 18 = .ok (.iconst 1, 1) := by decide +kernel
theorem dX9_needs_19 : decode cX9_needs 19 = .ok (.iaload, 1) := by decide +kernel
theorem dX9_needs_20 : decode cX9_needs 20 = .ok (.invokevirtual 158, 3) := by decide +kernel
theorem dX9_needs_23 : decode cX9_needs 23 = .ok (.istore_n 2, 1) := by decide +kernel
theorem dX9_needs_24 : decode cX9_needs 24 = .ok (.iload_n 2, 1) := by decide +kernel
theorem dX9_needs_25 : decode cX9_needs 25 = .ok (.iconst 1, 1) := by decide +kernel
theorem dX9_needs_26 : decode cX9_needs 26 = .ok (.if_icmp .le 9, 3) := by decide +kernel
theorem dX9_needs_29 : decode cX9_needs 29 = .ok (.iload_n 2, 1) := by decide +kernel
theorem dX9_needs_30 : decode cX9_needs 30 = .ok (.iconst 1, 1) := by decide +kernel
theorem dX9_needs_31 : decode cX9_needs 31 = .ok (.isub, 1) := by decide +kernel
theorem dX9_needs_32 : decode cX9_needs 32 = .ok (.goto 4, 3) := by decide +kernel
theorem dX9_needs_35 : decode cX9_needs 35 = .ok (.iconst 1, 1) := by decide +kernel
theorem dX9_needs_36 : decode cX9_needs 36 = .ok (.istore_n 3, 1) := by decide +kernel
theorem dX9_needs_37 : decode cX9_needs 37 = .ok (.iload_n 2, 1) := by decide +kernel
theorem dX9_needs_38 : decode cX9_needs 38 = .ok (.aload_n 0, 1) := by decide +kernel
theorem dX9_needs_39 : decode cX9_needs 39 = .ok (.iload_n 1, 1) := by decide +kernel
theorem dX9_needs_40 : decode cX9_needs 40 = .ok (.iconst 1, 1) := by decide +kernel
theorem dX9_needs_41 : decode cX9_needs 41 = .ok (.invokevirtual 80, 3) := by decide +kernel
theorem dX9_needs_44 : decode cX9_needs 44 = .ok (.iconst 3, 1) := by decide +kernel
theorem dX9_needs_45 : decode cX9_needs 45 = .ok (.irem, 1) := by decide +kernel
theorem dX9_needs_46 : decode cX9_needs 46 = .ok (.iadd, 1) := by decide +kernel
theorem dX9_needs_47 : decode cX9_needs 47 = .ok (.istore 4, 2) := by decide +kernel
theorem dX9_needs_49 : decode cX9_needs 49 = .ok (.aload_n 0, 1) := by decide +kernel
theorem dX9_needs_50 : decode cX9_needs 50 = .ok (.iload_n 1, 1) := by decide +kernel
theorem dX9_needs_51 : decode cX9_needs 51 = .ok (.iconst 0, 1) := by decide +kernel
theorem dX9_needs_52 : decode cX9_needs 52 = .ok (.invokevirtual 80, 3) := by decide +kernel
theorem dX9_needs_55 : decode cX9_needs 55 = .ok (.tableswitch 55 1 6 #[37, 43, 51, 39, 46, 53], 37) := by decide +kernel
theorem dX9_needs_92 : decode cX9_needs 92 = .ok (.iload_n 3, 1) := by decide +kernel
theorem dX9_needs_93 : decode cX9_needs 93 = .ok (.ireturn, 1) := by decide +kernel
theorem dX9_needs_94 : decode cX9_needs 94 = .ok (.iload_n 3, 1) := by decide +kernel
theorem dX9_needs_95 : decode cX9_needs 95 = .ok (.iconst 2, 1) := by decide +kernel
theorem dX9_needs_96 : decode cX9_needs 96 = .ok (.iadd, 1) := by decide +kernel
theorem dX9_needs_97 : decode cX9_needs 97 = .ok (.ireturn, 1) := by decide +kernel
theorem dX9_needs_98 : decode cX9_needs 98 = .ok (.iload 4, 2) := by decide +kernel
theorem dX9_needs_100 : decode cX9_needs 100 = .ok (.ireturn, 1) := by decide +kernel
theorem dX9_needs_101 : decode cX9_needs 101 = .ok (.iconst 2, 1) := by decide +kernel
theorem dX9_needs_102 : decode cX9_needs 102 = .ok (.iload 4, 2) := by decide +kernel
theorem dX9_needs_104 : decode cX9_needs 104 = .ok (.imul, 1) := by decide +kernel
theorem dX9_needs_105 : decode cX9_needs 105 = .ok (.ireturn, 1) := by decide +kernel
theorem dX9_needs_106 : decode cX9_needs 106 = .ok (.iconst 1, 1) := by decide +kernel
theorem dX9_needs_107 : decode cX9_needs 107 = .ok (.ireturn, 1) := by decide +kernel
theorem dX9_needs_108 : decode cX9_needs 108 = .ok (.iconst 3, 1) := by decide +kernel
theorem dX9_needs_109 : decode cX9_needs 109 = .ok (.ireturn, 1) := by decide +kernel
theorem dX9_needs_110 : decode cX9_needs 110 = .ok (.iload_n 2, 1) := by decide +kernel
theorem dX9_needs_111 : decode cX9_needs 111 = .ok (.ireturn, 1) := by decide +kernel
theorem dX9_wears_0 : decode cX9_wears 0 = .ok (.aload_n 0, 1) := by decide +kernel
theorem dX9_wears_1 : decode cX9_wears 1 = .ok (.iload_n 1, 1) := by decide +kernel
theorem dX9_wears_2 : decode cX9_wears 2 = .ok (.iconst 0, 1) := by decide +kernel
theorem dX9_wears_3 : decode cX9_wears 3 = .ok (.invokevirtual 80, 3) := by decide +kernel
theorem dX9_wears_6 : decode cX9_wears 6 = .ok (.tableswitch 61 1 6 #[38, 47, 61, 40, 47, 59], 38) := by decide +kernel
theorem dX9_wears_44 : decode cX9_wears 44 = .ok (.iconst 0, 1) := by decide +kernel
theorem dX9_wears_45 : decode cX9_wears 45 = .ok (.ireturn, 1) := by decide +kernel
theorem dX9_wears_46 : decode cX9_wears 46 = .ok (.aload_n 0, 1) := by decide +kernel
theorem dX9_wears_47 : decode cX9_wears 47 = .ok (.iload_n 1, 1) := by decide +kernel
theorem dX9_wears_48 : decode cX9_wears 48 = .ok (.iconst 1, 1) := by decide +kernel
theorem dX9_wears_49 : decode cX9_wears 49 = .ok (.invokevirtual 80, 3) := by decide +kernel
theorem dX9_wears_52 : decode cX9_wears 52 = .ok (.ireturn, 1) := by decide +kernel
theorem dX9_wears_53 : decode cX9_wears 53 = .ok (.iconst 1, 1) := by decide +kernel
theorem dX9_wears_54 : decode cX9_wears 54 = .ok (.aload_n 0, 1) := by decide +kernel
theorem dX9_wears_55 : decode cX9_wears 55 = .ok (.iload_n 1, 1) := by decide +kernel
theorem dX9_wears_56 : decode cX9_wears 56 = .ok (.iconst 3, 1) := by decide +kernel
theorem dX9_wears_57 : decode cX9_wears 57 = .ok (.invokevirtual 80, 3) := by decide +kernel
theorem dX9_wears_60 : decode cX9_wears 60 = .ok (.bipush 10, 2) := by decide +kernel
theorem dX9_wears_62 : decode cX9_wears 62 = .ok (.idiv, 1) := by decide +kernel
theorem dX9_wears_63 : decode cX9_wears 63 = .ok (.iadd, 1) := by decide +kernel
theorem dX9_wears_64 : decode cX9_wears 64 = .ok (.ireturn, 1) := by decide +kernel
theorem dX9_wears_65 : decode cX9_wears 65 = .ok (.iconst 2, 1) := by decide +kernel
theorem dX9_wears_66 : decode cX9_wears 66 = .ok (.ireturn, 1) := by decide +kernel
theorem dX9_wears_67 : decode cX9_wears 67 = .ok (.iconst 1, 1) := by decide +kernel
theorem dX9_wears_68 : decode cX9_wears 68 = .ok (.ireturn, 1) := by decide +kernel
theorem dX9_isStanding_0 : decode cX9_isStanding 0 = .ok (.bipush 21, 2) := by decide +kernel
theorem dX9_isStanding_2 : decode cX9_isStanding 2 = .ok (.iconst 2, 1) := by decide +kernel
theorem dX9_isStanding_3 : decode cX9_isStanding 3 = .ok (.aload_n 0, 1) := by decide +kernel
theorem dX9_isStanding_4 : decode cX9_isStanding 4 = .ok (.getfield 7, 3) := by decide +kernel
theorem dX9_isStanding_7 : decode cX9_isStanding 7 = .ok (.bipush 11, 2) := by decide +kernel
theorem dX9_isStanding_9 : decode cX9_isStanding 9 = .ok (.iaload, 1) := by decide +kernel
theorem dX9_isStanding_10 : decode cX9_isStanding 10 = .ok (.imul, 1) := by decide +kernel
theorem dX9_isStanding_11 : decode cX9_isStanding 11 = .ok (.iadd, 1) := by decide +kernel
theorem dX9_isStanding_12 : decode cX9_isStanding 12 = .ok (.istore_n 1, 1) := by decide +kernel
theorem dX9_isStanding_13 : decode cX9_isStanding 13 = .ok (.aload_n 0, 1) := by decide +kernel
theorem dX9_isStanding_14 : decode cX9_isStanding 14 = .ok (.getfield 7, 3) := by decide +kernel
theorem dX9_isStanding_17 : decode cX9_isStanding 17 = .ok (.bipush 8, 2) := by decide +kernel
theorem dX9_isStanding_19 : decode cX9_isStanding 19 = .ok (.iaload, 1) := by decide +kernel
theorem dX9_isStanding_20 : decode cX9_isStanding 20 = .ok (.ifCond .eq 20, 3) := by decide +kernel
theorem dX9_isStanding_23 : decode cX9_isStanding 23 = .ok (.aload_n 0, 1) := by decide +kernel
theorem dX9_isStanding_24 : decode cX9_isStanding 24 = .ok (.getfield 7, 3) := by decide +kernel
theorem dX9_isStanding_27 : decode cX9_isStanding 27 = .ok (.iload_n 1, 1) := by decide +kernel
theorem dX9_isStanding_28 : decode cX9_isStanding 28 = .ok (.iconst 1, 1) := by decide +kernel
theorem dX9_isStanding_29 : decode cX9_isStanding 29 = .ok (.iadd, 1) := by decide +kernel
theorem dX9_isStanding_30 : decode cX9_isStanding 30 = .ok (.iaload, 1) := by decide +kernel
theorem dX9_isStanding_31 : decode cX9_isStanding 31 = .ok (.aload_n 0, 1) := by decide +kernel
theorem dX9_isStanding_32 : decode cX9_isStanding 32 = .ok (.getfield 7, 3) := by decide +kernel
theorem dX9_isStanding_35 : decode cX9_isStanding 35 = .ok (.iload_n 1, 1) := by decide +kernel
theorem dX9_isStanding_36 : decode cX9_isStanding 36 = .ok (.iaload, 1) := by decide +kernel
theorem dX9_isStanding_37 : decode cX9_isStanding 37 = .ok (.if_icmp .lt 7, 3) := by decide +kernel
theorem dX9_isStanding_40 : decode cX9_isStanding 40 = .ok (.iconst 1, 1) := by decide +kernel
theorem dX9_isStanding_41 : decode cX9_isStanding 41 = .ok (.goto 4, 3) := by decide +kernel
theorem dX9_isStanding_44 : decode cX9_isStanding 44 = .ok (.iconst 0, 1) := by decide +kernel
theorem dX9_isStanding_45 : decode cX9_isStanding 45 = .ok (.ireturn, 1) := by decide +kernel
theorem dX9_isFree_0 : decode cX9_isFree 0 = .ok (.iconst 1, 1) := by decide +kernel
theorem dX9_isFree_1 : decode cX9_isFree 1 = .ok (.istore_n 2, 1) := by decide +kernel
theorem dX9_isFree_2 : decode cX9_isFree 2 = .ok (.iconst 0, 1) := by decide +kernel
theorem dX9_isFree_3 : decode cX9_isFree 3 = .ok (.istore_n 3, 1) := by decide +kernel
theorem dX9_isFree_4 : decode cX9_isFree 4 = .ok (.iload_n 3, 1) := by decide +kernel
theorem dX9_isFree_5 : decode cX9_isFree 5 = .ok (.aload_n 0, 1) := by decide +kernel
theorem dX9_isFree_6 : decode cX9_isFree 6 = .ok (.getfield 7, 3) := by decide +kernel
theorem dX9_isFree_9 : decode cX9_isFree 9 = .ok (.bipush 9, 2) := by decide +kernel
theorem dX9_isFree_11 : decode cX9_isFree 11 = .ok (.iaload, 1) := by decide +kernel
theorem dX9_isFree_12 : decode cX9_isFree 12 = .ok (.if_icmp .ge 39, 3) := by decide +kernel
theorem dX9_isFree_15 : decode cX9_isFree 15 = .ok (.iload_n 2, 1) := by decide +kernel
theorem dX9_isFree_16 : decode cX9_isFree 16 = .ok (.ifCond .eq 27, 3) := by decide +kernel
theorem dX9_isFree_19 : decode cX9_isFree 19 = .ok (.aload_n 0, 1) := by decide +kernel
theorem dX9_isFree_20 : decode cX9_isFree 20 = .ok (.iload_n 3, 1) := by decide +kernel
theorem dX9_isFree_21 : decode cX9_isFree 21 = .ok (.iconst 5, 1) := by decide +kernel
theorem dX9_isFree_22 : decode cX9_isFree 22 = .ok (.invokevirtual 80, 3) := by decide +kernel
theorem dX9_isFree_25 : decode cX9_isFree 25 = .ok (.iconst 1, 1) := by decide +kernel
theorem dX9_isFree_26 : decode cX9_isFree 26 = .ok (.if_icmp .ne 13, 3) := by decide +kernel
theorem dX9_isFree_29 : decode cX9_isFree 29 = .ok (.aload_n 0, 1) := by decide +kernel
theorem dX9_isFree_30 : decode cX9_isFree 30 = .ok (.iload_n 3, 1) := by decide +kernel
theorem dX9_isFree_31 : decode cX9_isFree 31 = .ok (.iconst 4, 1) := by decide +kernel
theorem dX9_isFree_32 : decode cX9_isFree 32 = .ok (.invokevirtual 80, 3) := by decide +kernel
theorem dX9_isFree_35 : decode cX9_isFree 35 = .ok (.iload_n 1, 1) := by decide +kernel
theorem dX9_isFree_36 : decode cX9_isFree 36 = .ok (.if_icmp .eq 7, 3) := by decide +kernel
theorem dX9_isFree_39 : decode cX9_isFree 39 = .ok (.iconst 1, 1) := by decide +kernel
theorem dX9_isFree_40 : decode cX9_isFree 40 = .ok (.goto 4, 3) := by decide +kernel
theorem dX9_isFree_43 : decode cX9_isFree 43 = .ok (.iconst 0, 1) := by decide +kernel
theorem dX9_isFree_44 : decode cX9_isFree 44 = .ok (.istore_n 2, 1) := by decide +kernel
theorem dX9_isFree_45 : decode cX9_isFree 45 = .ok (.iinc 3 1, 3) := by decide +kernel
theorem dX9_isFree_48 : decode cX9_isFree 48 = .ok (.goto (-44), 3) := by decide +kernel
theorem dX9_isFree_51 : decode cX9_isFree 51 = .ok (.iload_n 2, 1) := by decide +kernel
theorem dX9_isFree_52 : decode cX9_isFree 52 = .ok (.ireturn, 1) := by decide +kernel
theorem dX9_jumpsOrNot_0 : decode cX9_jumpsOrNot 0 = .ok (.bipush 13, 2) := by decide +kernel
theorem dX9_jumpsOrNot_2 : decode cX9_jumpsOrNot 2 = .ok (.aload_n 0, 1) := by decide +kernel
theorem dX9_jumpsOrNot_3 : decode cX9_jumpsOrNot 3 = .ok (.iload_n 1, 1) := by decide +kernel
theorem dX9_jumpsOrNot_4 : decode cX9_jumpsOrNot 4 = .ok (.iconst 4, 1) := by decide +kernel
theorem dX9_jumpsOrNot_5 : decode cX9_jumpsOrNot 5 = .ok (.invokevirtual 80, 3) := by decide +kernel
theorem dX9_jumpsOrNot_8 : decode cX9_jumpsOrNot 8 = .ok (.iadd, 1) := by decide +kernel
theorem dX9_jumpsOrNot_9 : decode cX9_jumpsOrNot 9 = .ok (.istore_n 3, 1) := by decide +kernel
theorem dX9_jumpsOrNot_10 : decode cX9_jumpsOrNot 10 = .ok (.aload_n 0, 1) := by decide +kernel
theorem dX9_jumpsOrNot_11 : decode cX9_jumpsOrNot 11 = .ok (.iconst 1, 1) := by decide +kernel
theorem dX9_jumpsOrNot_12 : decode cX9_jumpsOrNot 12 = .ok (.aload_n 0, 1) := by decide +kernel
theorem dX9_jumpsOrNot_13 : decode cX9_jumpsOrNot 13 = .ok (.iload_n 1, 1) := by decide +kernel
theorem dX9_jumpsOrNot_14 : decode cX9_jumpsOrNot 14 = .ok (.iconst 2, 1) := by decide +kernel
theorem dX9_jumpsOrNot_15 : decode cX9_jumpsOrNot 15 = .ok (.invokevirtual 80, 3) := by decide +kernel
theorem dX9_jumpsOrNot_18 : decode cX9_jumpsOrNot 18 = .ok (.aload_n 0, 1) := by decide +kernel
theorem dX9_jumpsOrNot_19 : decode cX9_jumpsOrNot 19 = .ok (.getfield 7, 3) := by decide +kernel
theorem dX9_jumpsOrNot_22 : decode cX9_jumpsOrNot 22 = .ok (.iload_n 3, 1) := by decide +kernel
theorem dX9_jumpsOrNot_23 : decode cX9_jumpsOrNot 23 = .ok (.iaload, 1) := by decide +kernel
theorem dX9_jumpsOrNot_24 : decode cX9_jumpsOrNot 24 = .ok (.iload_n 2, 1) := by decide +kernel
theorem dX9_jumpsOrNot_25 : decode cX9_jumpsOrNot 25 = .ok (.invokevirtual 158, 3) := by decide +kernel
theorem dX9_jumpsOrNot_28 : decode cX9_jumpsOrNot 28 = .ok (.iconst 1, 1) := by decide +kernel
theorem dX9_jumpsOrNot_29 : decode cX9_jumpsOrNot 29 = .ok (.if_icmp .ne 53, 3) := by decide +kernel
theorem dX9_jumpsOrNot_32 : decode cX9_jumpsOrNot 32 = .ok (.aload_n 0, 1) := by decide +kernel
theorem dX9_jumpsOrNot_33 : decode cX9_jumpsOrNot 33 = .ok (.iload_n 1, 1) := by decide +kernel
theorem dX9_jumpsOrNot_34 : decode cX9_jumpsOrNot 34 = .ok (.bipush 6, 2) := by decide +kernel
theorem dX9_jumpsOrNot_36 : decode cX9_jumpsOrNot 36 = .ok (.aload_n 0, 1) := by decide +kernel
theorem dX9_jumpsOrNot_37 : decode cX9_jumpsOrNot 37 = .ok (.iload_n 1, 1) := by decide +kernel
theorem dX9_jumpsOrNot_38 : decode cX9_jumpsOrNot 38 = .ok (.bipush 6, 2) := by decide +kernel
theorem dX9_jumpsOrNot_40 : decode cX9_jumpsOrNot 40 = .ok (.invokevirtual 80, 3) := by decide +kernel
theorem dX9_jumpsOrNot_43 : decode cX9_jumpsOrNot 43 = .ok (.iconst 1, 1) := by decide +kernel
theorem dX9_jumpsOrNot_44 : decode cX9_jumpsOrNot 44 = .ok (.isub, 1) := by decide +kernel
theorem dX9_jumpsOrNot_45 : decode cX9_jumpsOrNot 45 = .ok (.iconst 0, 1) := by decide +kernel
theorem dX9_jumpsOrNot_46 : decode cX9_jumpsOrNot 46 = .ok (.bipush 99, 2) := by decide +kernel
theorem dX9_jumpsOrNot_48 : decode cX9_jumpsOrNot 48 = .ok (.invokestatic 154, 3) := by decide +kernel
theorem dX9_jumpsOrNot_51 : decode cX9_jumpsOrNot 51 = .ok (.invokevirtual 63, 3) := by decide +kernel
theorem dX9_jumpsOrNot_54 : decode cX9_jumpsOrNot 54 = .ok (.aload_n 0, 1) := by decide +kernel
theorem dX9_jumpsOrNot_55 : decode cX9_jumpsOrNot 55 = .ok (.getfield 7, 3) := by decide +kernel
theorem dX9_jumpsOrNot_58 : decode cX9_jumpsOrNot 58 = .ok (.iload_n 3, 1) := by decide +kernel
theorem dX9_jumpsOrNot_59 : decode cX9_jumpsOrNot 59 = .ok (.aload_n 0, 1) := by decide +kernel
theorem dX9_jumpsOrNot_60 : decode cX9_jumpsOrNot 60 = .ok (.getfield 7, 3) := by decide +kernel
theorem dX9_jumpsOrNot_63 : decode cX9_jumpsOrNot 63 = .ok (.iload_n 3, 1) := by decide +kernel
theorem dX9_jumpsOrNot_64 : decode cX9_jumpsOrNot 64 = .ok (.iaload, 1) := by decide +kernel
theorem dX9_jumpsOrNot_65 : decode cX9_jumpsOrNot 65 = .ok (.aload_n 0, 1) := by decide +kernel
theorem dX9_jumpsOrNot_66 : decode cX9_jumpsOrNot 66 = .ok (.iload_n 1, 1) := by decide +kernel
theorem dX9_jumpsOrNot_67 : decode cX9_jumpsOrNot 67 = .ok (.invokevirtual 73, 3) := by decide +kernel
theorem dX9_jumpsOrNot_70 : decode cX9_jumpsOrNot 70 = .ok (.iadd, 1) := by decide +kernel
theorem dX9_jumpsOrNot_71 : decode cX9_jumpsOrNot 71 = .ok (.iconst 0, 1) := by decide +kernel
theorem dX9_jumpsOrNot_72 : decode cX9_jumpsOrNot 72 = .ok (.sipush 999, 3) := by decide +kernel
theorem dX9_jumpsOrNot_75 : decode cX9_jumpsOrNot 75 = .ok (.invokestatic 154, 3) := by decide +kernel
theorem dX9_jumpsOrNot_78 : decode cX9_jumpsOrNot 78 = .ok (.iastore, 1) := by decide +kernel
theorem dX9_jumpsOrNot_79 : decode cX9_jumpsOrNot 79 = .ok (.goto 10, 3) := by decide +kernel
theorem dX9_jumpsOrNot_82 : decode cX9_jumpsOrNot 82 = .ok (.aload_n 0, 1) := by decide +kernel
theorem dX9_jumpsOrNot_83 : decode cX9_jumpsOrNot 83 = .ok (.iload_n 1, 1) := by decide +kernel
theorem dX9_jumpsOrNot_84 : decode cX9_jumpsOrNot 84 = .ok (.iconst 5, 1) := by decide +kernel
theorem dX9_jumpsOrNot_85 : decode cX9_jumpsOrNot 85 = .ok (.iconst 3, 1) := by decide +kernel
theorem dX9_jumpsOrNot_86 : decode cX9_jumpsOrNot 86 = .ok (.invokevirtual 63, 3) := by decide +kernel
theorem dX9_jumpsOrNot_89 : decode cX9_jumpsOrNot 89 = .ok (.return_, 1) := by decide +kernel
theorem dX9_moves_0 : decode cX9_moves 0 = .ok (.aload_n 0, 1) := by decide +kernel
theorem dX9_moves_1 : decode cX9_moves 1 = .ok (.getfield 7, 3) := by decide +kernel
theorem dX9_moves_4 : decode cX9_moves 4 = .ok (.iconst 0, 1) := by decide +kernel
theorem dX9_moves_5 : decode cX9_moves 5 = .ok (.iaload, 1) := by decide +kernel
theorem dX9_moves_6 : decode cX9_moves 6 = .ok (.aload_n 0, 1) := by decide +kernel
theorem dX9_moves_7 : decode cX9_moves 7 = .ok (.getfield 7, 3) := by decide +kernel
theorem dX9_moves_10 : decode cX9_moves 10 = .ok (.iconst 1, 1) := by decide +kernel
theorem dX9_moves_11 : decode cX9_moves 11 = .ok (.iaload, 1) := by decide +kernel
theorem dX9_moves_12 : decode cX9_moves 12 = .ok (.irem, 1) := by decide +kernel
theorem dX9_moves_13 : decode cX9_moves 13 = .ok (.istore_n 2, 1) := by decide +kernel
theorem dX9_moves_14 : decode cX9_moves 14 = .ok (.aload_n 0, 1) := by decide +kernel
theorem dX9_moves_15 : decode cX9_moves 15 = .ok (.getfield 7, 3) := by decide +kernel
theorem dX9_moves_18 : decode cX9_moves 18 = .ok (.bipush 10, 2) := by decide +kernel
theorem dX9_moves_20 : decode cX9_moves 20 = .ok (.iaload, 1) := by decide +kernel
theorem dX9_moves_21 : decode cX9_moves 21 = .ok (.iload_n 2, 1) := by decide +kernel
theorem dX9_moves_22 : decode cX9_moves 22 = .ok (.invokestatic 76, 3) := by decide +kernel
theorem dX9_moves_25 : decode cX9_moves 25 = .ok (.istore_n 3, 1) := by decide +kernel
theorem dX9_moves_26 : decode cX9_moves 26 = .ok (.aload_n 0, 1) := by decide +kernel
theorem dX9_moves_27 : decode cX9_moves 27 = .ok (.iload_n 1, 1) := by decide +kernel
theorem dX9_moves_28 : decode cX9_moves 28 = .ok (.iconst 5, 1) := by decide +kernel
theorem dX9_moves_29 : decode cX9_moves 29 = .ok (.invokevirtual 80, 3) := by decide +kernel
theorem dX9_moves_32 : decode cX9_moves 32 = .ok (.iconst 1, 1) := by decide +kernel
theorem dX9_moves_33 : decode cX9_moves 33 = .ok (.if_icmp .ne 36, 3) := by decide +kernel
theorem dX9_moves_36 : decode cX9_moves 36 = .ok (.iload_n 3, 1) := by decide +kernel
theorem dX9_moves_37 : decode cX9_moves 37 = .ok (.ifCond .eq 12, 3) := by decide +kernel
theorem dX9_moves_40 : decode cX9_moves 40 = .ok (.aload_n 0, 1) := by decide +kernel
theorem dX9_moves_41 : decode cX9_moves 41 = .ok (.iload_n 1, 1) := by decide +kernel
theorem dX9_moves_42 : decode cX9_moves 42 = .ok (.iload_n 2, 1) := by decide +kernel
theorem dX9_moves_43 : decode cX9_moves 43 = .ok (.invokevirtual 167, 3) := by decide +kernel
theorem dX9_moves_46 : decode cX9_moves 46 = .ok (.goto 82, 3) := by decide +kernel
theorem dX9_moves_49 : decode cX9_moves 49 = .ok (.aload_n 0, 1) := by decide +kernel
theorem dX9_moves_50 : decode cX9_moves 50 = .ok (.iload_n 1, 1) := by decide +kernel
theorem dX9_moves_51 : decode cX9_moves 51 = .ok (.bipush 6, 2) := by decide +kernel
theorem dX9_moves_53 : decode cX9_moves 53 = .ok (.invokevirtual 80, 3) := by decide +kernel
theorem dX9_moves_56 : decode cX9_moves 56 = .ok (.ifCond .ne 72, 3) := by decide +kernel
theorem dX9_moves_59 : decode cX9_moves 59 = .ok (.aload_n 0, 1) := by decide +kernel
theorem dX9_moves_60 : decode cX9_moves 60 = .ok (.iload_n 1, 1) := by decide +kernel
theorem dX9_moves_61 : decode cX9_moves 61 = .ok (.iconst 5, 1) := by decide +kernel
theorem dX9_moves_62 : decode cX9_moves 62 = .ok (.iconst 2, 1) := by decide +kernel
theorem dX9_moves_63 : decode cX9_moves 63 = .ok (.invokevirtual 63, 3) := by decide +kernel
theorem dX9_moves_66 : decode cX9_moves 66 = .ok (.goto 62, 3) := by decide +kernel
theorem dX9_moves_69 : decode cX9_moves 69 = .ok (.aload_n 0, 1) := by decide +kernel
theorem dX9_moves_70 : decode cX9_moves 70 = .ok (.iload_n 1, 1) := by decide +kernel
theorem dX9_moves_71 : decode cX9_moves 71 = .ok (.iconst 5, 1) := by decide +kernel
theorem dX9_moves_72 : decode cX9_moves 72 = .ok (.invokevirtual 80, 3) := by decide +kernel
theorem dX9_moves_75 : decode cX9_moves 75 = .ok (.ifCond .ne 53, 3) := by decide +kernel
theorem dX9_moves_78 : decode cX9_moves 78 = .ok (.aload_n 0, 1) := by decide +kernel
theorem dX9_moves_79 : decode cX9_moves 79 = .ok (.getfield 7, 3) := by decide +kernel
theorem dX9_moves_82 : decode cX9_moves 82 = .ok (.bipush 12, 2) := by decide +kernel
theorem dX9_moves_84 : decode cX9_moves 84 = .ok (.iaload, 1) := by decide +kernel
theorem dX9_moves_85 : decode cX9_moves 85 = .ok (.iload_n 1, 1) := by decide +kernel
theorem dX9_moves_86 : decode cX9_moves 86 = .ok (.invokestatic 76, 3) := by decide +kernel
theorem dX9_moves_89 : decode cX9_moves 89 = .ok (.ifCond .eq 39, 3) := by decide +kernel
theorem dX9_moves_92 : decode cX9_moves 92 = .ok (.iload_n 3, 1) := by decide +kernel
theorem dX9_moves_93 : decode cX9_moves 93 = .ok (.ifCond .ne 35, 3) := by decide +kernel
theorem dX9_moves_96 : decode cX9_moves 96 = .ok (.aload_n 0, 1) := by decide +kernel
theorem dX9_moves_97 : decode cX9_moves 97 = .ok (.aload_n 0, 1) := by decide +kernel
theorem dX9_moves_98 : decode cX9_moves 98 = .ok (.iload_n 1, 1) := by decide +kernel
theorem dX9_moves_99 : decode cX9_moves 99 = .ok (.iconst 4, 1) := by decide +kernel
theorem dX9_moves_100 : decode cX9_moves 100 = .ok (.invokevirtual 80, 3) := by decide +kernel
theorem dX9_moves_103 : decode cX9_moves 103 = .ok (.invokevirtual 171, 3) := by decide +kernel
theorem dX9_moves_106 : decode cX9_moves 106 = .ok (.ifCond .eq 22, 3) := by decide +kernel
theorem dX9_moves_109 : decode cX9_moves 109 = .ok (.aload_n 0, 1) := by decide +kernel
theorem dX9_moves_110 : decode cX9_moves 110 = .ok (.iload_n 1, 1) := by decide +kernel
theorem dX9_moves_111 : decode cX9_moves 111 = .ok (.iconst 5, 1) := by decide +kernel
theorem dX9_moves_112 : decode cX9_moves 112 = .ok (.iconst 1, 1) := by decide +kernel
theorem dX9_moves_113 : decode cX9_moves 113 = .ok (.invokevirtual 63, 3) := by decide +kernel
theorem dX9_moves_116 : decode cX9_moves 116 = .ok (.aload_n 0, 1) := by decide +kernel
theorem dX9_moves_117 : decode cX9_moves 117 = .ok (.iload_n 1, 1) := by decide +kernel
theorem dX9_moves_118 : decode cX9_moves 118 = .ok (.bipush 6, 2) := by decide +kernel
theorem dX9_moves_120 : decode cX9_moves 120 = .ok (.aload_n 0, 1) := by decide +kernel
theorem dX9_moves_121 : decode cX9_moves 121 = .ok (.iload_n 1, 1) := by decide +kernel
theorem dX9_moves_122 : decode cX9_moves 122 = .ok (.invokevirtual 70, 3) := by decide +kernel
theorem dX9_moves_125 : decode cX9_moves 125 = .ok (.invokevirtual 63, 3) := by decide +kernel
theorem dX9_moves_128 : decode cX9_moves 128 = .ok (.return_, 1) := by decide +kernel
theorem dX9_oneBeat_0 : decode cX9_oneBeat 0 = .ok (.aload_n 0, 1) := by decide +kernel
theorem dX9_oneBeat_1 : decode cX9_oneBeat 1 = .ok (.invokevirtual 174, 3) := by decide +kernel
theorem dX9_oneBeat_4 : decode cX9_oneBeat 4 = .ok (.istore_n 1, 1) := by decide +kernel
theorem dX9_oneBeat_5 : decode cX9_oneBeat 5 = .ok (.iconst 0, 1) := by decide +kernel
theorem dX9_oneBeat_6 : decode cX9_oneBeat 6 = .ok (.istore_n 2, 1) := by decide +kernel
theorem dX9_oneBeat_7 : decode cX9_oneBeat 7 = .ok (.iload_n 2, 1) := by decide +kernel
theorem dX9_oneBeat_8 : decode cX9_oneBeat 8 = .ok (.aload_n 0, 1) := by decide +kernel
theorem dX9_oneBeat_9 : decode cX9_oneBeat 9 = .ok (.getfield 7, 3) := by decide +kernel
theorem dX9_oneBeat_12 : decode cX9_oneBeat 12 = .ok (.bipush 8, 2) := by decide +kernel
theorem dX9_oneBeat_14 : decode cX9_oneBeat 14 = .ok (.iaload, 1) := by decide +kernel
theorem dX9_oneBeat_15 : decode cX9_oneBeat 15 = .ok (.if_icmp .ge 57, 3) := by decide +kernel
theorem dX9_oneBeat_18 : decode cX9_oneBeat 18 = .ok (.iload_n 1, 1) := by decide +kernel
theorem dX9_oneBeat_19 : decode cX9_oneBeat 19 = .ok (.ifCond .ne 53, 3) := by decide +kernel
theorem dX9_oneBeat_22 : decode cX9_oneBeat 22 = .ok (.bipush 21, 2) := by decide +kernel
theorem dX9_oneBeat_24 : decode cX9_oneBeat 24 = .ok (.iconst 2, 1) := by decide +kernel
theorem dX9_oneBeat_25 : decode cX9_oneBeat 25 = .ok (.iload_n 2, 1) := by decide +kernel
theorem dX9_oneBeat_26 : decode cX9_oneBeat 26 = .ok (.imul, 1) := by decide +kernel
theorem dX9_oneBeat_27 : decode cX9_oneBeat 27 = .ok (.iadd, 1) := by decide +kernel
theorem dX9_oneBeat_28 : decode cX9_oneBeat 28 = .ok (.iconst 1, 1) := by decide +kernel
theorem dX9_oneBeat_29 : decode cX9_oneBeat 29 = .ok (.iadd, 1) := by decide +kernel
theorem dX9_oneBeat_30 : decode cX9_oneBeat 30 = .ok (.istore_n 3, 1) := by decide +kernel
theorem dX9_oneBeat_31 : decode cX9_oneBeat 31 = .ok (.aload_n 0, 1) := by decide +kernel
theorem dX9_oneBeat_32 : decode cX9_oneBeat 32 = .ok (.getfield 7, 3) := by decide +kernel
theorem dX9_oneBeat_35 : decode cX9_oneBeat 35 = .ok (.iload_n 3, 1) := by decide +kernel
theorem dX9_oneBeat_36 : decode cX9_oneBeat 36 = .ok (.aload_n 0, 1) := by decide +kernel
theorem dX9_oneBeat_37 : decode cX9_oneBeat 37 = .ok (.getfield 7, 3) := by decide +kernel
theorem dX9_oneBeat_40 : decode cX9_oneBeat 40 = .ok (.iload_n 3, 1) := by decide +kernel
theorem dX9_oneBeat_41 : decode cX9_oneBeat 41 = .ok (.iaload, 1) := by decide +kernel
theorem dX9_oneBeat_42 : decode cX9_oneBeat 42 = .ok (.iload_n 2, 1) := by decide +kernel
theorem dX9_oneBeat_43 : decode cX9_oneBeat 43 = .ok (.aload_n 0, 1) := by decide +kernel
theorem dX9_oneBeat_44 : decode cX9_oneBeat 44 = .ok (.getfield 7, 3) := by decide +kernel
theorem dX9_oneBeat_47 : decode cX9_oneBeat 47 = .ok (.bipush 11, 2) := by decide +kernel
theorem dX9_oneBeat_49 : decode cX9_oneBeat 49 = .ok (.iaload, 1) := by decide +kernel
theorem dX9_oneBeat_50 : decode cX9_oneBeat 50 = .ok (.if_icmp .ne 7, 3) := by decide +kernel
theorem dX9_oneBeat_53 : decode cX9_oneBeat 53 = .ok (.iconst 1, 1) := by decide +kernel
theorem dX9_oneBeat_54 : decode cX9_oneBeat 54 = .ok (.goto 4, 3) := by decide +kernel
theorem dX9_oneBeat_57 : decode cX9_oneBeat 57 = .ok (.iconst (-1), 1) := by decide +kernel
theorem dX9_oneBeat_58 : decode cX9_oneBeat 58 = .ok (.iadd, 1) := by decide +kernel
theorem dX9_oneBeat_59 : decode cX9_oneBeat 59 = .ok (.iconst 0, 1) := by decide +kernel
theorem dX9_oneBeat_60 : decode cX9_oneBeat 60 = .ok (.bipush 99, 2) := by decide +kernel
theorem dX9_oneBeat_62 : decode cX9_oneBeat 62 = .ok (.invokestatic 154, 3) := by decide +kernel
theorem dX9_oneBeat_65 : decode cX9_oneBeat 65 = .ok (.iastore, 1) := by decide +kernel
theorem dX9_oneBeat_66 : decode cX9_oneBeat 66 = .ok (.iinc 2 1, 3) := by decide +kernel
theorem dX9_oneBeat_69 : decode cX9_oneBeat 69 = .ok (.goto (-62), 3) := by decide +kernel
theorem dX9_oneBeat_72 : decode cX9_oneBeat 72 = .ok (.iconst 0, 1) := by decide +kernel
theorem dX9_oneBeat_73 : decode cX9_oneBeat 73 = .ok (.istore_n 2, 1) := by decide +kernel
theorem dX9_oneBeat_74 : decode cX9_oneBeat 74 = .ok (.iload_n 2, 1) := by decide +kernel
theorem dX9_oneBeat_75 : decode cX9_oneBeat 75 = .ok (.aload_n 0, 1) := by decide +kernel
theorem dX9_oneBeat_76 : decode cX9_oneBeat 76 = .ok (.getfield 7, 3) := by decide +kernel
theorem dX9_oneBeat_79 : decode cX9_oneBeat 79 = .ok (.bipush 9, 2) := by decide +kernel
theorem dX9_oneBeat_81 : decode cX9_oneBeat 81 = .ok (.iaload, 1) := by decide +kernel
theorem dX9_oneBeat_82 : decode cX9_oneBeat 82 = .ok (.if_icmp .ge 61, 3) := by decide +kernel
theorem dX9_oneBeat_85 : decode cX9_oneBeat 85 = .ok (.iload_n 1, 1) := by decide +kernel
theorem dX9_oneBeat_86 : decode cX9_oneBeat 86 = .ok (.ifCond .ne 11, 3) := by decide +kernel
theorem dX9_oneBeat_89 : decode cX9_oneBeat 89 = .ok (.aload_n 0, 1) := by decide +kernel
theorem dX9_oneBeat_90 : decode cX9_oneBeat 90 = .ok (.iload_n 2, 1) := by decide +kernel
theorem dX9_oneBeat_91 : decode cX9_oneBeat 91 = .ok (.invokevirtual 178, 3) := by decide +kernel
theorem dX9_oneBeat_94 : decode cX9_oneBeat 94 = .ok (.goto 43, 3) := by decide +kernel
theorem dX9_oneBeat_97 : decode cX9_oneBeat 97 = .ok (.aload_n 0, 1) := by decide +kernel
theorem dX9_oneBeat_98 : decode cX9_oneBeat 98 = .ok (.iload_n 2, 1) := by decide +kernel
theorem dX9_oneBeat_99 : decode cX9_oneBeat 99 = .ok (.iconst 5, 1) := by decide +kernel
theorem dX9_oneBeat_100 : decode cX9_oneBeat 100 = .ok (.invokevirtual 80, 3) := by decide +kernel
theorem dX9_oneBeat_103 : decode cX9_oneBeat 103 = .ok (.iconst 1, 1) := by decide +kernel
theorem dX9_oneBeat_104 : decode cX9_oneBeat 104 = .ok (.if_icmp .eq 26, 3) := by decide +kernel
theorem dX9_oneBeat_107 : decode cX9_oneBeat 107 = .ok (.aload_n 0, 1) := by decide +kernel
theorem dX9_oneBeat_108 : decode cX9_oneBeat 108 = .ok (.iload_n 2, 1) := by decide +kernel
theorem dX9_oneBeat_109 : decode cX9_oneBeat 109 = .ok (.iconst 5, 1) := by decide +kernel
theorem dX9_oneBeat_110 : decode cX9_oneBeat 110 = .ok (.invokevirtual 80, 3) := by decide +kernel
theorem dX9_oneBeat_113 : decode cX9_oneBeat 113 = .ok (.ifCond .ne 24, 3) := by decide +kernel
theorem dX9_oneBeat_116 : decode cX9_oneBeat 116 = .ok (.aload_n 0, 1) := by decide +kernel
theorem dX9_oneBeat_117 : decode cX9_oneBeat 117 = .ok (.getfield 7, 3) := by decide +kernel
theorem dX9_oneBeat_120 : decode cX9_oneBeat 120 = .ok (.bipush 12, 2) := by decide +kernel
theorem dX9_oneBeat_122 : decode cX9_oneBeat 122 = .ok (.iaload, 1) := by decide +kernel
theorem dX9_oneBeat_123 : decode cX9_oneBeat 123 = .ok (.iload_n 2, 1) := by decide +kernel
theorem dX9_oneBeat_124 : decode cX9_oneBeat 124 = .ok (.invokestatic 76, 3) := by decide +kernel
theorem dX9_oneBeat_127 : decode cX9_oneBeat 127 = .ok (.ifCond .eq 10, 3) := by decide +kernel
theorem dX9_oneBeat_130 : decode cX9_oneBeat 130 = .ok (.aload_n 0, 1) := by decide +kernel
theorem dX9_oneBeat_131 : decode cX9_oneBeat 131 = .ok (.iload_n 2, 1) := by decide +kernel
theorem dX9_oneBeat_132 : decode cX9_oneBeat 132 = .ok (.iconst 5, 1) := by decide +kernel
theorem dX9_oneBeat_133 : decode cX9_oneBeat 133 = .ok (.iconst 2, 1) := by decide +kernel
theorem dX9_oneBeat_134 : decode cX9_oneBeat 134 = .ok (.invokevirtual 63, 3) := by decide +kernel
theorem dX9_oneBeat_137 : decode cX9_oneBeat 137 = .ok (.iinc 2 1, 3) := by decide +kernel
theorem dX9_oneBeat_140 : decode cX9_oneBeat 140 = .ok (.goto (-66), 3) := by decide +kernel
theorem dX9_oneBeat_143 : decode cX9_oneBeat 143 = .ok (.aload_n 0, 1) := by decide +kernel
theorem dX9_oneBeat_144 : decode cX9_oneBeat 144 = .ok (.getfield 7, 3) := by decide +kernel
theorem dX9_oneBeat_147 : decode cX9_oneBeat 147 = .ok (.iconst 0, 1) := by decide +kernel
theorem dX9_oneBeat_148 : decode cX9_oneBeat 148 = .ok (.dup2, 1) := by decide +kernel
theorem dX9_oneBeat_149 : decode cX9_oneBeat 149 = .ok (.iaload, 1) := by decide +kernel
theorem dX9_oneBeat_150 : decode cX9_oneBeat 150 = .ok (.iconst 1, 1) := by decide +kernel
theorem dX9_oneBeat_151 : decode cX9_oneBeat 151 = .ok (.iadd, 1) := by decide +kernel
theorem dX9_oneBeat_152 : decode cX9_oneBeat 152 = .ok (.iastore, 1) := by decide +kernel
theorem dX9_oneBeat_153 : decode cX9_oneBeat 153 = .ok (.return_, 1) := by decide +kernel
theorem dX9_passes_0 : decode cX9_passes 0 = .ok (.iconst 0, 1) := by decide +kernel
theorem dX9_passes_1 : decode cX9_passes 1 = .ok (.istore_n 2, 1) := by decide +kernel
theorem dX9_passes_2 : decode cX9_passes 2 = .ok (.iload_n 2, 1) := by decide +kernel
theorem dX9_passes_3 : decode cX9_passes 3 = .ok (.iload_n 1, 1) := by decide +kernel
theorem dX9_passes_4 : decode cX9_passes 4 = .ok (.if_icmp .ge 13, 3) := by decide +kernel
theorem dX9_passes_7 : decode cX9_passes 7 = .ok (.aload_n 0, 1) := by decide +kernel
theorem dX9_passes_8 : decode cX9_passes 8 = .ok (.invokevirtual 182, 3) := by decide +kernel
theorem dX9_passes_11 : decode cX9_passes 11 = .ok (.iinc 2 1, 3) := by decide +kernel
theorem dX9_passes_14 : decode cX9_passes 14 = .ok (.goto (-12), 3) := by decide +kernel
theorem dX9_passes_17 : decode cX9_passes 17 = .ok (.return_, 1) := by decide +kernel
theorem dX9_setOf_0 : decode cX9_setOf 0 = .ok (.iconst 0, 1) := by decide +kernel
theorem dX9_setOf_1 : decode cX9_setOf 1 = .ok (.istore_n 2, 1) := by decide +kernel
theorem dX9_setOf_2 : decode cX9_setOf 2 = .ok (.iconst 0, 1) := by decide +kernel
theorem dX9_setOf_3 : decode cX9_setOf 3 = .ok (.istore_n 3, 1) := by decide +kernel
theorem dX9_setOf_4 : decode cX9_setOf 4 = .ok (.iload_n 3, 1) := by decide +kernel
theorem dX9_setOf_5 : decode cX9_setOf 5 = .ok (.aload_n 0, 1) := by decide +kernel
theorem dX9_setOf_6 : decode cX9_setOf 6 = .ok (.getfield 7, 3) := by decide +kernel
theorem dX9_setOf_9 : decode cX9_setOf 9 = .ok (.bipush 9, 2) := by decide +kernel
theorem dX9_setOf_11 : decode cX9_setOf 11 = .ok (.iaload, 1) := by decide +kernel
theorem dX9_setOf_12 : decode cX9_setOf 12 = .ok (.if_icmp .ge 29, 3) := by decide +kernel
theorem dX9_setOf_15 : decode cX9_setOf 15 = .ok (.iload_n 2, 1) := by decide +kernel
theorem dX9_setOf_16 : decode cX9_setOf 16 = .ok (.aload_n 0, 1) := by decide +kernel
theorem dX9_setOf_17 : decode cX9_setOf 17 = .ok (.iload_n 3, 1) := by decide +kernel
theorem dX9_setOf_18 : decode cX9_setOf 18 = .ok (.iconst 5, 1) := by decide +kernel
theorem dX9_setOf_19 : decode cX9_setOf 19 = .ok (.invokevirtual 80, 3) := by decide +kernel
theorem dX9_setOf_22 : decode cX9_setOf 22 = .ok (.iload_n 1, 1) := by decide +kernel
theorem dX9_setOf_23 : decode cX9_setOf 23 = .ok (.if_icmp .ne 9, 3) := by decide +kernel
theorem dX9_setOf_26 : decode cX9_setOf 26 = .ok (.iconst 1, 1) := by decide +kernel
theorem dX9_setOf_27 : decode cX9_setOf 27 = .ok (.iload_n 3, 1) := by decide +kernel
theorem dX9_setOf_28 : decode cX9_setOf 28 = .ok (.ishl, 1) := by decide +kernel
theorem dX9_setOf_29 : decode cX9_setOf 29 = .ok (.goto 4, 3) := by decide +kernel
theorem dX9_setOf_32 : decode cX9_setOf 32 = .ok (.iconst 0, 1) := by decide +kernel
theorem dX9_setOf_33 : decode cX9_setOf 33 = .ok (.ior, 1) := by decide +kernel
theorem dX9_setOf_34 : decode cX9_setOf 34 = .ok (.istore_n 2, 1) := by decide +kernel
theorem dX9_setOf_35 : decode cX9_setOf 35 = .ok (.iinc 3 1, 3) := by decide +kernel
theorem dX9_setOf_38 : decode cX9_setOf 38 = .ok (.goto (-34), 3) := by decide +kernel
theorem dX9_setOf_41 : decode cX9_setOf 41 = .ok (.iload_n 2, 1) := by decide +kernel
theorem dX9_setOf_42 : decode cX9_setOf 42 = .ok (.ireturn, 1) := by decide +kernel
theorem dX9_beats_0 : decode cX9_beats 0 = .ok (.iload_n 1, 1) := by decide +kernel
theorem dX9_beats_1 : decode cX9_beats 1 = .ok (.iconst 1, 1) := by decide +kernel
theorem dX9_beats_2 : decode cX9_beats 2 = .ok (.sipush 200, 3) := by decide +kernel
theorem dX9_beats_5 : decode cX9_beats 5 = .ok (.invokestatic 41, 3) := by decide +kernel
theorem dX9_beats_8 : decode cX9_beats 8 = .ok (.ifCond .ne 10, 3) := by decide +kernel
theorem dX9_beats_11 : decode cX9_beats 11 = .ok (.aload_n 0, 1) := by decide +kernel
theorem dX9_beats_12 : decode cX9_beats 12 = .ok (.ldc 45, 2) := by decide +kernel
theorem dX9_beats_14 : decode cX9_beats 14 = .ok (.invokevirtual 46, 3) := by decide +kernel
theorem dX9_beats_17 : decode cX9_beats 17 = .ok (.ireturn, 1) := by decide +kernel
theorem dX9_beats_18 : decode cX9_beats 18 = .ok (.aload_n 0, 1) := by decide +kernel
theorem dX9_beats_19 : decode cX9_beats 19 = .ok (.getfield 7, 3) := by decide +kernel
theorem dX9_beats_22 : decode cX9_beats 22 = .ok (.iconst 0, 1) := by decide +kernel
theorem dX9_beats_23 : decode cX9_beats 23 = .ok (.iaload, 1) := by decide +kernel
theorem dX9_beats_24 : decode cX9_beats 24 = .ok (.iload_n 1, 1) := by decide +kernel
theorem dX9_beats_25 : decode cX9_beats 25 = .ok (.iadd, 1) := by decide +kernel
theorem dX9_beats_26 : decode cX9_beats 26 = .ok (.ldc 185, 2) := by decide +kernel
theorem dX9_beats_28 : decode cX9_beats 28 = .ok (.if_icmp .le 10, 3) := by decide +kernel
theorem dX9_beats_31 : decode cX9_beats 31 = .ok (.aload_n 0, 1) := by decide +kernel
theorem dX9_beats_32 : decode cX9_beats 32 = .ok (.ldc 50, 2) := by decide +kernel
theorem dX9_beats_34 : decode cX9_beats 34 = .ok (.invokevirtual 46, 3) := by decide +kernel
theorem dX9_beats_37 : decode cX9_beats 37 = .ok (.ireturn, 1) := by decide +kernel
theorem dX9_beats_38 : decode cX9_beats 38 = .ok (.aload_n 0, 1) := by decide +kernel
theorem dX9_beats_39 : decode cX9_beats 39 = .ok (.iload_n 1, 1) := by decide +kernel
theorem dX9_beats_40 : decode cX9_beats 40 = .ok (.invokevirtual 186, 3) := by decide +kernel
theorem dX9_beats_43 : decode cX9_beats 43 = .ok (.aload_n 0, 1) := by decide +kernel
theorem dX9_beats_44 : decode cX9_beats 44 = .ok (.iconst 2, 1) := by decide +kernel
theorem dX9_beats_45 : decode cX9_beats 45 = .ok (.invokevirtual 189, 3) := by decide +kernel
theorem dX9_beats_48 : decode cX9_beats 48 = .ok (.invokestatic 192, 3) := by decide +kernel
theorem dX9_beats_51 : decode cX9_beats 51 = .ok (.ireturn, 1) := by decide +kernel
theorem dX9_drawn_0 : decode cX9_drawn 0 = .ok (.aload_n 0, 1) := by decide +kernel
theorem dX9_drawn_1 : decode cX9_drawn 1 = .ok (.getfield 7, 3) := by decide +kernel
theorem dX9_drawn_4 : decode cX9_drawn 4 = .ok (.iconst 2, 1) := by decide +kernel
theorem dX9_drawn_5 : decode cX9_drawn 5 = .ok (.aload_n 0, 1) := by decide +kernel
theorem dX9_drawn_6 : decode cX9_drawn 6 = .ok (.getfield 7, 3) := by decide +kernel
theorem dX9_drawn_9 : decode cX9_drawn 9 = .ok (.iconst 2, 1) := by decide +kernel
theorem dX9_drawn_10 : decode cX9_drawn 10 = .ok (.iaload, 1) := by decide +kernel
theorem dX9_drawn_11 : decode cX9_drawn 11 = .ok (.ldc 195, 2) := by decide +kernel
theorem dX9_drawn_13 : decode cX9_drawn 13 = .ok (.imul, 1) := by decide +kernel
theorem dX9_drawn_14 : decode cX9_drawn 14 = .ok (.sipush 12345, 3) := by decide +kernel
theorem dX9_drawn_17 : decode cX9_drawn 17 = .ok (.iadd, 1) := by decide +kernel
theorem dX9_drawn_18 : decode cX9_drawn 18 = .ok (.iastore, 1) := by decide +kernel
theorem dX9_drawn_19 : decode cX9_drawn 19 = .ok (.aload_n 0, 1) := by decide +kernel
theorem dX9_drawn_20 : decode cX9_drawn 20 = .ok (.getfield 7, 3) := by decide +kernel
theorem dX9_drawn_23 : decode cX9_drawn 23 = .ok (.iconst 2, 1) := by decide +kernel
theorem dX9_drawn_24 : decode cX9_drawn 24 = .ok (.iaload, 1) := by decide +kernel
theorem dX9_drawn_25 : decode cX9_drawn 25 = .ok (.bipush 8, 2) := by decide +kernel
theorem dX9_drawn_27 : decode cX9_drawn 27 = .ok (.iushr, 1) := by decide +kernel
theorem dX9_drawn_28 : decode cX9_drawn 28 = .ok (.ireturn, 1) := by decide +kernel
theorem dX9_loose_0 : decode cX9_loose 0 = .ok (.iload_n 1, 1) := by decide +kernel
theorem dX9_loose_1 : decode cX9_loose 1 = .ok (.iconst 1, 1) := by decide +kernel
theorem dX9_loose_2 : decode cX9_loose 2 = .ok (.bipush 40, 2) := by decide +kernel
theorem dX9_loose_4 : decode cX9_loose 4 = .ok (.invokestatic 41, 3) := by decide +kernel
theorem dX9_loose_7 : decode cX9_loose 7 = .ok (.ifCond .ne 10, 3) := by decide +kernel
theorem dX9_loose_10 : decode cX9_loose 10 = .ok (.aload_n 0, 1) := by decide +kernel
theorem dX9_loose_11 : decode cX9_loose 11 = .ok (.ldc 45, 2) := by decide +kernel
theorem dX9_loose_13 : decode cX9_loose 13 = .ok (.invokevirtual 46, 3) := by decide +kernel
theorem dX9_loose_16 : decode cX9_loose 16 = .ok (.ireturn, 1) := by decide +kernel
theorem dX9_loose_17 : decode cX9_loose 17 = .ok (.aload_n 0, 1) := by decide +kernel
theorem dX9_loose_18 : decode cX9_loose 18 = .ok (.getfield 7, 3) := by decide +kernel
theorem dX9_loose_21 : decode cX9_loose 21 = .ok (.iconst 0, 1) := by decide +kernel
theorem dX9_loose_22 : decode cX9_loose 22 = .ok (.iaload, 1) := by decide +kernel
theorem dX9_loose_23 : decode cX9_loose 23 = .ok (.iload_n 1, 1) := by decide +kernel
theorem dX9_loose_24 : decode cX9_loose 24 = .ok (.iadd, 1) := by decide +kernel
theorem dX9_loose_25 : decode cX9_loose 25 = .ok (.ldc 185, 2) := by decide +kernel
theorem dX9_loose_27 : decode cX9_loose 27 = .ok (.if_icmp .le 10, 3) := by decide +kernel
theorem dX9_loose_30 : decode cX9_loose 30 = .ok (.aload_n 0, 1) := by decide +kernel
theorem dX9_loose_31 : decode cX9_loose 31 = .ok (.ldc 50, 2) := by decide +kernel
theorem dX9_loose_33 : decode cX9_loose 33 = .ok (.invokevirtual 46, 3) := by decide +kernel
theorem dX9_loose_36 : decode cX9_loose 36 = .ok (.ireturn, 1) := by decide +kernel
theorem dX9_loose_37 : decode cX9_loose 37 = .ok (.iconst 0, 1) := by decide +kernel
theorem dX9_loose_38 : decode cX9_loose 38 = .ok (.istore_n 2, 1) := by decide +kernel
theorem dX9_loose_39 : decode cX9_loose 39 = .ok (.iload_n 2, 1) := by decide +kernel
theorem dX9_loose_40 : decode cX9_loose 40 = .ok (.iload_n 1, 1) := by decide +kernel
theorem dX9_loose_41 : decode cX9_loose 41 = .ok (.if_icmp .ge 47, 3) := by decide +kernel
theorem dX9_loose_44 : decode cX9_loose 44 = .ok (.aload_n 0, 1) := by decide +kernel
theorem dX9_loose_45 : decode cX9_loose 45 = .ok (.getfield 7, 3) := by decide +kernel
theorem dX9_loose_48 : decode cX9_loose 48 = .ok (.bipush 9, 2) := by decide +kernel
theorem dX9_loose_50 : decode cX9_loose 50 = .ok (.iaload, 1) := by decide +kernel
theorem dX9_loose_51 : decode cX9_loose 51 = .ok (.ifCond .le 27, 3) := by decide +kernel
theorem dX9_loose_54 : decode cX9_loose 54 = .ok (.aload_n 0, 1) := by decide +kernel
theorem dX9_loose_55 : decode cX9_loose 55 = .ok (.getfield 7, 3) := by decide +kernel
theorem dX9_loose_58 : decode cX9_loose 58 = .ok (.bipush 12, 2) := by decide +kernel
theorem dX9_loose_60 : decode cX9_loose 60 = .ok (.dup2, 1) := by decide +kernel
theorem dX9_loose_61 : decode cX9_loose 61 = .ok (.iaload, 1) := by decide +kernel
theorem dX9_loose_62 : decode cX9_loose 62 = .ok (.iconst 1, 1) := by decide +kernel
theorem dX9_loose_63 : decode cX9_loose 63 = .ok (.aload_n 0, 1) := by decide +kernel
theorem dX9_loose_64 : decode cX9_loose 64 = .ok (.invokevirtual 196, 3) := by decide +kernel
theorem dX9_loose_67 : decode cX9_loose 67 = .ok (.aload_n 0, 1) := by decide +kernel
theorem dX9_loose_68 : decode cX9_loose 68 = .ok (.getfield 7, 3) := by decide +kernel
theorem dX9_loose_71 : decode cX9_loose 71 = .ok (.bipush 9, 2) := by decide +kernel
theorem dX9_loose_73 : decode cX9_loose 73 = .ok (.iaload, 1) := by decide +kernel
theorem dX9_loose_74 : decode cX9_loose 74 = .ok (.irem, 1) := by decide +kernel
theorem dX9_loose_75 : decode cX9_loose 75 = .ok (.ishl, 1) := by decide +kernel
theorem dX9_loose_76 : decode cX9_loose 76 = .ok (.ixor, 1) := by decide +kernel
theorem dX9_loose_77 : decode cX9_loose 77 = .ok (.iastore, 1) := by decide +kernel
theorem dX9_loose_78 : decode cX9_loose 78 = .ok (.aload_n 0, 1) := by decide +kernel
theorem dX9_loose_79 : decode cX9_loose 79 = .ok (.invokevirtual 182, 3) := by decide +kernel
theorem dX9_loose_82 : decode cX9_loose 82 = .ok (.iinc 2 1, 3) := by decide +kernel
theorem dX9_loose_85 : decode cX9_loose 85 = .ok (.goto (-46), 3) := by decide +kernel
theorem dX9_loose_88 : decode cX9_loose 88 = .ok (.aload_n 0, 1) := by decide +kernel
theorem dX9_loose_89 : decode cX9_loose 89 = .ok (.iconst 2, 1) := by decide +kernel
theorem dX9_loose_90 : decode cX9_loose 90 = .ok (.invokevirtual 189, 3) := by decide +kernel
theorem dX9_loose_93 : decode cX9_loose 93 = .ok (.invokestatic 192, 3) := by decide +kernel
theorem dX9_loose_96 : decode cX9_loose 96 = .ok (.ireturn, 1) := by decide +kernel
theorem dX9_wear_0 : decode cX9_wear 0 = .ok (.aload_n 0, 1) := by decide +kernel
theorem dX9_wear_1 : decode cX9_wear 1 = .ok (.iload_n 1, 1) := by decide +kernel
theorem dX9_wear_2 : decode cX9_wear 2 = .ok (.invokevirtual 60, 3) := by decide +kernel
theorem dX9_wear_5 : decode cX9_wear 5 = .ok (.ifCond .eq 15, 3) := by decide +kernel
theorem dX9_wear_8 : decode cX9_wear 8 = .ok (.aload_n 0, 1) := by decide +kernel
theorem dX9_wear_9 : decode cX9_wear 9 = .ok (.getfield 7, 3) := by decide +kernel
theorem dX9_wear_12 : decode cX9_wear 12 = .ok (.bipush 13, 2) := by decide +kernel
theorem dX9_wear_14 : decode cX9_wear 14 = .ok (.iload_n 1, 1) := by decide +kernel
theorem dX9_wear_15 : decode cX9_wear 15 = .ok (.iadd, 1) := by decide +kernel
theorem dX9_wear_16 : decode cX9_wear 16 = .ok (.iaload, 1) := by decide +kernel
theorem dX9_wear_17 : decode cX9_wear 17 = .ok (.goto 9, 3) := by decide +kernel
theorem dX9_wear_20 : decode cX9_wear 20 = .ok (.aload_n 0, 1) := by decide +kernel
theorem dX9_wear_21 : decode cX9_wear 21 = .ok (.ldc 45, 2) := by decide +kernel
theorem dX9_wear_23 : decode cX9_wear 23 = .ok (.invokevirtual 46, 3) := by decide +kernel
theorem dX9_wear_26 : decode cX9_wear 26 = .ok (.ireturn, 1) := by decide +kernel
theorem dX9_then_0 : decode cX9_then 0 = .ok (.iload_n 1, 1) := by decide +kernel
theorem dX9_then_1 : decode cX9_then 1 = .ok (.iconst 0, 1) := by decide +kernel
theorem dX9_then_2 : decode cX9_then 2 = .ok (.sipush 200, 3) := by decide +kernel
theorem dX9_then_5 : decode cX9_then 5 = .ok (.invokestatic 41, 3) := by decide +kernel
theorem dX9_then_8 : decode cX9_then 8 = .ok (.ifCond .eq 20, 3) := by decide +kernel
theorem dX9_then_11 : decode cX9_then 11 = .ok (.aload_n 0, 1) := by decide +kernel
theorem dX9_then_12 : decode cX9_then 12 = .ok (.iload_n 2, 1) := by decide +kernel
theorem dX9_then_13 : decode cX9_then 13 = .ok (.invokevirtual 67, 3) := by decide +kernel
theorem dX9_then_16 : decode cX9_then 16 = .ok (.ifCond .eq 12, 3) := by decide +kernel
theorem dX9_then_19 : decode cX9_then 19 = .ok (.iload_n 3, 1) := by decide +kernel
theorem dX9_then_20 : decode cX9_then 20 = .ok (.iconst 0, 1) := by decide +kernel
theorem dX9_then_21 : decode cX9_then 21 = .ok (.iconst 1, 1) := by decide +kernel
theorem dX9_then_22 : decode cX9_then 22 = .ok (.invokestatic 41, 3) := by decide +kernel
theorem dX9_then_25 : decode cX9_then 25 = .ok (.ifCond .ne 10, 3) := by decide +kernel
theorem dX9_then_28 : decode cX9_then 28 = .ok (.aload_n 0, 1) := by decide +kernel
theorem dX9_then_29 : decode cX9_then 29 = .ok (.ldc 45, 2) := by decide +kernel
theorem dX9_then_31 : decode cX9_then 31 = .ok (.invokevirtual 46, 3) := by decide +kernel
theorem dX9_then_34 : decode cX9_then 34 = .ok (.ireturn, 1) := by decide +kernel
theorem dX9_then_35 : decode cX9_then 35 = .ok (.aload_n 0, 1) := by decide +kernel
theorem dX9_then_36 : decode cX9_then 36 = .ok (.aload_n 0, 1) := by decide +kernel
theorem dX9_then_37 : decode cX9_then 37 = .ok (.getfield 7, 3) := by decide +kernel
theorem dX9_then_40 : decode cX9_then 40 = .ok (.aload_n 0, 1) := by decide +kernel
theorem dX9_then_41 : decode cX9_then 41 = .ok (.getfield 16, 3) := by decide +kernel
theorem dX9_then_44 : decode cX9_then 44 = .ok (.invokevirtual 163, 3) := by decide +kernel
theorem dX9_then_47 : decode cX9_then 47 = .ok (.aload_n 0, 1) := by decide +kernel
theorem dX9_then_48 : decode cX9_then 48 = .ok (.iload_n 1, 1) := by decide +kernel
theorem dX9_then_49 : decode cX9_then 49 = .ok (.invokevirtual 186, 3) := by decide +kernel
theorem dX9_then_52 : decode cX9_then 52 = .ok (.aload_n 0, 1) := by decide +kernel
theorem dX9_then_53 : decode cX9_then 53 = .ok (.iload_n 2, 1) := by decide +kernel
theorem dX9_then_54 : decode cX9_then 54 = .ok (.iconst 5, 1) := by decide +kernel
theorem dX9_then_55 : decode cX9_then 55 = .ok (.iload_n 3, 1) := by decide +kernel
theorem dX9_then_56 : decode cX9_then 56 = .ok (.iadd, 1) := by decide +kernel
theorem dX9_then_57 : decode cX9_then 57 = .ok (.invokevirtual 80, 3) := by decide +kernel
theorem dX9_then_60 : decode cX9_then 60 = .ok (.istore 4, 2) := by decide +kernel
theorem dX9_then_62 : decode cX9_then 62 = .ok (.aload_n 0, 1) := by decide +kernel
theorem dX9_then_63 : decode cX9_then 63 = .ok (.aload_n 0, 1) := by decide +kernel
theorem dX9_then_64 : decode cX9_then 64 = .ok (.getfield 16, 3) := by decide +kernel
theorem dX9_then_67 : decode cX9_then 67 = .ok (.aload_n 0, 1) := by decide +kernel
theorem dX9_then_68 : decode cX9_then 68 = .ok (.getfield 7, 3) := by decide +kernel
theorem dX9_then_71 : decode cX9_then 71 = .ok (.invokevirtual 163, 3) := by decide +kernel
theorem dX9_then_74 : decode cX9_then 74 = .ok (.iload 4, 2) := by decide +kernel
theorem dX9_then_76 : decode cX9_then 76 = .ok (.ireturn, 1) := by decide +kernel
theorem dX9_over_0 : decode cX9_over 0 = .ok (.aload_n 0, 1) := by decide +kernel
theorem dX9_over_1 : decode cX9_over 1 = .ok (.iload_n 1, 1) := by decide +kernel
theorem dX9_over_2 : decode cX9_over 2 = .ok (.invokevirtual 67, 3) := by decide +kernel
theorem dX9_over_5 : decode cX9_over 5 = .ok (.ifCond .ne 10, 3) := by decide +kernel
theorem dX9_over_8 : decode cX9_over 8 = .ok (.aload_n 0, 1) := by decide +kernel
theorem dX9_over_9 : decode cX9_over 9 = .ok (.ldc 45, 2) := by decide +kernel
theorem dX9_over_11 : decode cX9_over 11 = .ok (.invokevirtual 46, 3) := by decide +kernel
theorem dX9_over_14 : decode cX9_over 14 = .ok (.ireturn, 1) := by decide +kernel
theorem dX9_over_15 : decode cX9_over 15 = .ok (.aload_n 0, 1) := by decide +kernel
theorem dX9_over_16 : decode cX9_over 16 = .ok (.aload_n 0, 1) := by decide +kernel
theorem dX9_over_17 : decode cX9_over 17 = .ok (.getfield 7, 3) := by decide +kernel
theorem dX9_over_20 : decode cX9_over 20 = .ok (.aload_n 0, 1) := by decide +kernel
theorem dX9_over_21 : decode cX9_over 21 = .ok (.getfield 16, 3) := by decide +kernel
theorem dX9_over_24 : decode cX9_over 24 = .ok (.invokevirtual 163, 3) := by decide +kernel
theorem dX9_over_27 : decode cX9_over 27 = .ok (.iconst 0, 1) := by decide +kernel
theorem dX9_over_28 : decode cX9_over 28 = .ok (.istore_n 2, 1) := by decide +kernel
theorem dX9_over_29 : decode cX9_over 29 = .ok (.iload_n 2, 1) := by decide +kernel
theorem dX9_over_30 : decode cX9_over 30 = .ok (.sipush 200, 3) := by decide +kernel
theorem dX9_over_33 : decode cX9_over 33 = .ok (.if_icmp .gt 23, 3) := by decide +kernel
theorem dX9_over_36 : decode cX9_over 36 = .ok (.aload_n 0, 1) := by decide +kernel
theorem dX9_over_37 : decode cX9_over 37 = .ok (.iload_n 1, 1) := by decide +kernel
theorem dX9_over_38 : decode cX9_over 38 = .ok (.iconst 5, 1) := by decide +kernel
theorem dX9_over_39 : decode cX9_over 39 = .ok (.invokevirtual 80, 3) := by decide +kernel
theorem dX9_over_42 : decode cX9_over 42 = .ok (.iconst 2, 1) := by decide +kernel
theorem dX9_over_43 : decode cX9_over 43 = .ok (.if_icmp .eq 13, 3) := by decide +kernel
theorem dX9_over_46 : decode cX9_over 46 = .ok (.aload_n 0, 1) := by decide +kernel
theorem dX9_over_47 : decode cX9_over 47 = .ok (.invokevirtual 182, 3) := by decide +kernel
theorem dX9_over_50 : decode cX9_over 50 = .ok (.iinc 2 1, 3) := by decide +kernel
theorem dX9_over_53 : decode cX9_over 53 = .ok (.goto (-24), 3) := by decide +kernel
theorem dX9_over_56 : decode cX9_over 56 = .ok (.aload_n 0, 1) := by decide +kernel
theorem dX9_over_57 : decode cX9_over 57 = .ok (.aload_n 0, 1) := by decide +kernel
theorem dX9_over_58 : decode cX9_over 58 = .ok (.getfield 16, 3) := by decide +kernel
theorem dX9_over_61 : decode cX9_over 61 = .ok (.aload_n 0, 1) := by decide +kernel
theorem dX9_over_62 : decode cX9_over 62 = .ok (.getfield 7, 3) := by decide +kernel
theorem dX9_over_65 : decode cX9_over 65 = .ok (.invokevirtual 163, 3) := by decide +kernel
theorem dX9_over_68 : decode cX9_over 68 = .ok (.iload_n 2, 1) := by decide +kernel
theorem dX9_over_69 : decode cX9_over 69 = .ok (.sipush 200, 3) := by decide +kernel
theorem dX9_over_72 : decode cX9_over 72 = .ok (.if_icmp .le 12, 3) := by decide +kernel
theorem dX9_over_75 : decode cX9_over 75 = .ok (.aload_n 0, 1) := by decide +kernel
theorem dX9_over_76 : decode cX9_over 76 = .ok (.ldc 199, 2) := by decide +kernel
theorem dX9_over_78 : decode cX9_over 78 = .ok (.invokevirtual 46, 3) := by decide +kernel
theorem dX9_over_81 : decode cX9_over 81 = .ok (.goto 4, 3) := by decide +kernel
theorem dX9_over_84 : decode cX9_over 84 = .ok (.iload_n 2, 1) := by decide +kernel
theorem dX9_over_85 : decode cX9_over 85 = .ok (.ireturn, 1) := by decide +kernel
theorem dX9_begin_0 : decode cX9_begin 0 = .ok (.aload_n 0, 1) := by decide +kernel
theorem dX9_begin_1 : decode cX9_begin 1 = .ok (.iload_n 1, 1) := by decide +kernel
theorem dX9_begin_2 : decode cX9_begin 2 = .ok (.invokevirtual 67, 3) := by decide +kernel
theorem dX9_begin_5 : decode cX9_begin 5 = .ok (.ifCond .ne 10, 3) := by decide +kernel
theorem dX9_begin_8 : decode cX9_begin 8 = .ok (.aload_n 0, 1) := by decide +kernel
theorem dX9_begin_9 : decode cX9_begin 9 = .ok (.ldc 45, 2) := by decide +kernel
theorem dX9_begin_11 : decode cX9_begin 11 = .ok (.invokevirtual 46, 3) := by decide +kernel
theorem dX9_begin_14 : decode cX9_begin 14 = .ok (.ireturn, 1) := by decide +kernel
theorem dX9_begin_15 : decode cX9_begin 15 = .ok (.aload_n 0, 1) := by decide +kernel
theorem dX9_begin_16 : decode cX9_begin 16 = .ok (.iload_n 1, 1) := by decide +kernel
theorem dX9_begin_17 : decode cX9_begin 17 = .ok (.iconst 5, 1) := by decide +kernel
theorem dX9_begin_18 : decode cX9_begin 18 = .ok (.invokevirtual 80, 3) := by decide +kernel
theorem dX9_begin_21 : decode cX9_begin 21 = .ok (.ifCond .eq 10, 3) := by decide +kernel
theorem dX9_begin_24 : decode cX9_begin 24 = .ok (.aload_n 0, 1) := by decide +kernel
theorem dX9_begin_25 : decode cX9_begin 25 = .ok (.ldc 50, 2) := by decide +kernel
theorem dX9_begin_27 : decode cX9_begin 27 = .ok (.invokevirtual 46, 3) := by decide +kernel
theorem dX9_begin_30 : decode cX9_begin 30 = .ok (.ireturn, 1) := by decide +kernel
theorem dX9_begin_31 : decode cX9_begin 31 = .ok (.aload_n 0, 1) := by decide +kernel
theorem dX9_begin_32 : decode cX9_begin 32 = .ok (.aload_n 0, 1) := by decide +kernel
theorem dX9_begin_33 : decode cX9_begin 33 = .ok (.getfield 7, 3) := by decide +kernel
theorem dX9_begin_36 : decode cX9_begin 36 = .ok (.aload_n 0, 1) := by decide +kernel
theorem dX9_begin_37 : decode cX9_begin 37 = .ok (.getfield 16, 3) := by decide +kernel
theorem dX9_begin_40 : decode cX9_begin 40 = .ok (.invokevirtual 163, 3) := by decide +kernel
theorem dX9_begin_43 : decode cX9_begin 43 = .ok (.iconst 0, 1) := by decide +kernel
theorem dX9_begin_44 : decode cX9_begin 44 = .ok (.istore_n 2, 1) := by decide +kernel
theorem dX9_begin_45 : decode cX9_begin 45 = .ok (.iconst 0, 1) := by decide +kernel
theorem dX9_begin_46 : decode cX9_begin 46 = .ok (.istore_n 3, 1) := by decide +kernel
theorem dX9_begin_47 : decode cX9_begin 47 = .ok (.iload_n 2, 1) := by decide +kernel
theorem dX9_begin_48 : decode cX9_begin 48 = .ok (.aload_n 0, 1) := by decide +kernel
theorem dX9_begin_49 : decode cX9_begin 49 = .ok (.getfield 16, 3) := by decide +kernel
theorem dX9_begin_52 : decode cX9_begin 52 = .ok (.iconst 1, 1) := by decide +kernel
theorem dX9_begin_53 : decode cX9_begin 53 = .ok (.iaload, 1) := by decide +kernel
theorem dX9_begin_54 : decode cX9_begin 54 = .ok (.if_icmp .ge 92, 3) := by decide +kernel
theorem dX9_begin_57 : decode cX9_begin 57 = .ok (.iload_n 3, 1) := by decide +kernel
theorem dX9_begin_58 : decode cX9_begin 58 = .ok (.ifCond .ne 88, 3) := by decide +kernel
theorem dX9_begin_61 : decode cX9_begin 61 = .ok (.aload_n 0, 1) := by decide +kernel
theorem dX9_begin_62 : decode cX9_begin 62 = .ok (.getfield 7, 3) := by decide +kernel
theorem dX9_begin_65 : decode cX9_begin 65 = .ok (.bipush 12, 2) := by decide +kernel
theorem dX9_begin_67 : decode cX9_begin 67 = .ok (.dup2, 1) := by decide +kernel
theorem dX9_begin_68 : decode cX9_begin 68 = .ok (.iaload, 1) := by decide +kernel
theorem dX9_begin_69 : decode cX9_begin 69 = .ok (.iconst 1, 1) := by decide +kernel
theorem dX9_begin_70 : decode cX9_begin 70 = .ok (.iload_n 1, 1) := by decide +kernel
theorem dX9_begin_71 : decode cX9_begin 71 = .ok (.ishl, 1) := by decide +kernel
theorem dX9_begin_72 : decode cX9_begin 72 = .ok (.iconst (-1), 1) := by decide +kernel
theorem dX9_begin_73 : decode cX9_begin 73 = .ok (.ixor, 1) := by decide +kernel
theorem dX9_begin_74 : decode cX9_begin 74 = .ok (.iand, 1) := by decide +kernel
theorem dX9_begin_75 : decode cX9_begin 75 = .ok (.iastore, 1) := by decide +kernel
theorem dX9_begin_76 : decode cX9_begin 76 = .ok (.aload_n 0, 1) := by decide +kernel
theorem dX9_begin_77 : decode cX9_begin 77 = .ok (.iload_n 2, 1) := by decide +kernel
theorem dX9_begin_78 : decode cX9_begin 78 = .ok (.invokevirtual 186, 3) := by decide +kernel
theorem dX9_begin_81 : decode cX9_begin 81 = .ok (.aload_n 0, 1) := by decide +kernel
theorem dX9_begin_82 : decode cX9_begin 82 = .ok (.getfield 7, 3) := by decide +kernel
theorem dX9_begin_85 : decode cX9_begin 85 = .ok (.bipush 12, 2) := by decide +kernel
theorem dX9_begin_87 : decode cX9_begin 87 = .ok (.dup2, 1) := by decide +kernel
theorem dX9_begin_88 : decode cX9_begin 88 = .ok (.iaload, 1) := by decide +kernel
theorem dX9_begin_89 : decode cX9_begin 89 = .ok (.iconst 1, 1) := by decide +kernel
theorem dX9_begin_90 : decode cX9_begin 90 = .ok (.iload_n 1, 1) := by decide +kernel
theorem dX9_begin_91 : decode cX9_begin 91 = .ok (.ishl, 1) := by decide +kernel
theorem dX9_begin_92 : decode cX9_begin 92 = .ok (.ior, 1) := by decide +kernel
theorem dX9_begin_93 : decode cX9_begin 93 = .ok (.iastore, 1) := by decide +kernel
theorem dX9_begin_94 : decode cX9_begin 94 = .ok (.aload_n 0, 1) := by decide +kernel
theorem dX9_begin_95 : decode cX9_begin 95 = .ok (.sipush 200, 3) := by decide +kernel
theorem dX9_begin_98 : decode cX9_begin 98 = .ok (.iload_n 2, 1) := by decide +kernel
theorem dX9_begin_99 : decode cX9_begin 99 = .ok (.isub, 1) := by decide +kernel
theorem dX9_begin_100 : decode cX9_begin 100 = .ok (.invokevirtual 186, 3) := by decide +kernel
theorem dX9_begin_103 : decode cX9_begin 103 = .ok (.aload_n 0, 1) := by decide +kernel
theorem dX9_begin_104 : decode cX9_begin 104 = .ok (.iload_n 1, 1) := by decide +kernel
theorem dX9_begin_105 : decode cX9_begin 105 = .ok (.iconst 5, 1) := by decide +kernel
theorem dX9_begin_106 : decode cX9_begin 106 = .ok (.invokevirtual 80, 3) := by decide +kernel
theorem dX9_begin_109 : decode cX9_begin 109 = .ok (.iconst 2, 1) := by decide +kernel
theorem dX9_begin_110 : decode cX9_begin 110 = .ok (.if_icmp .ne 7, 3) := by decide +kernel
theorem dX9_begin_113 : decode cX9_begin 113 = .ok (.iconst 1, 1) := by decide +kernel
theorem dX9_begin_114 : decode cX9_begin 114 = .ok (.goto 4, 3) := by decide +kernel
theorem dX9_begin_117 : decode cX9_begin 117 = .ok (.iconst 0, 1) := by decide +kernel
theorem dX9_begin_118 : decode cX9_begin 118 = .ok (.istore_n 3, 1) := by decide +kernel
theorem dX9_begin_119 : decode cX9_begin 119 = .ok (.aload_n 0, 1) := by decide +kernel
theorem dX9_begin_120 : decode cX9_begin 120 = .ok (.aload_n 0, 1) := by decide +kernel
theorem dX9_begin_121 : decode cX9_begin 121 = .ok (.getfield 16, 3) := by decide +kernel
theorem dX9_begin_124 : decode cX9_begin 124 = .ok (.aload_n 0, 1) := by decide +kernel
theorem dX9_begin_125 : decode cX9_begin 125 = .ok (.getfield 7, 3) := by decide +kernel
theorem dX9_begin_128 : decode cX9_begin 128 = .ok (.invokevirtual 163, 3) := by decide +kernel
theorem dX9_begin_131 : decode cX9_begin 131 = .ok (.iload_n 2, 1) := by decide +kernel
theorem dX9_begin_132 : decode cX9_begin 132 = .ok (.iload_n 3, 1) := by decide +kernel
theorem dX9_begin_133 : decode cX9_begin 133 = .ok (.ifCond .eq 7, 3) := by decide +kernel
theorem dX9_begin_136 : decode cX9_begin 136 = .ok (.iconst 0, 1) := by decide +kernel
theorem dX9_begin_137 : decode cX9_begin 137 = .ok (.goto 4, 3) := by decide +kernel
theorem dX9_begin_140 : decode cX9_begin 140 = .ok (.iconst 1, 1) := by decide +kernel
theorem dX9_begin_141 : decode cX9_begin 141 = .ok (.iadd, 1) := by decide +kernel
theorem dX9_begin_142 : decode cX9_begin 142 = .ok (.istore_n 2, 1) := by decide +kernel
theorem dX9_begin_143 : decode cX9_begin 143 = .ok (.goto (-96), 3) := by decide +kernel
theorem dX9_begin_146 : decode cX9_begin 146 = .ok (.iload_n 3, 1) := by decide +kernel
theorem dX9_begin_147 : decode cX9_begin 147 = .ok (.ifCond .eq 7, 3) := by decide +kernel
theorem dX9_begin_150 : decode cX9_begin 150 = .ok (.iload_n 2, 1) := by decide +kernel
theorem dX9_begin_151 : decode cX9_begin 151 = .ok (.goto 9, 3) := by decide +kernel
theorem dX9_begin_154 : decode cX9_begin 154 = .ok (.aload_n 0, 1) := by decide +kernel
theorem dX9_begin_155 : decode cX9_begin 155 = .ok (.ldc 199, 2) := by decide +kernel
theorem dX9_begin_157 : decode cX9_begin 157 = .ok (.invokevirtual 46, 3) := by decide +kernel
theorem dX9_begin_160 : decode cX9_begin 160 = .ok (.ireturn, 1) := by decide +kernel
theorem dX9_northOf_0 : decode cX9_northOf 0 = .ok (.aload_n 0, 1) := by decide +kernel
theorem dX9_northOf_1 : decode cX9_northOf 1 = .ok (.aload_n 0, 1) := by decide +kernel
theorem dX9_northOf_2 : decode cX9_northOf 2 = .ok (.getfield 7, 3) := by decide +kernel
theorem dX9_northOf_5 : decode cX9_northOf 5 = .ok (.aload_n 0, 1) := by decide +kernel
theorem dX9_northOf_6 : decode cX9_northOf 6 = .ok (.getfield 16, 3) := by decide +kernel
theorem dX9_northOf_9 : decode cX9_northOf 9 = .ok (.invokevirtual 163, 3) := by decide +kernel
theorem dX9_northOf_12 : decode cX9_northOf 12 = .ok (.aload_n 0, 1) := by decide +kernel
theorem dX9_northOf_13 : decode cX9_northOf 13 = .ok (.getfield 7, 3) := by decide +kernel
theorem dX9_northOf_16 : decode cX9_northOf 16 = .ok (.bipush 12, 2) := by decide +kernel
theorem dX9_northOf_18 : decode cX9_northOf 18 = .ok (.iload_n 1, 1) := by decide +kernel
theorem dX9_northOf_19 : decode cX9_northOf 19 = .ok (.iastore, 1) := by decide +kernel
theorem dX9_northOf_20 : decode cX9_northOf 20 = .ok (.aload_n 0, 1) := by decide +kernel
theorem dX9_northOf_21 : decode cX9_northOf 21 = .ok (.iload_n 2, 1) := by decide +kernel
theorem dX9_northOf_22 : decode cX9_northOf 22 = .ok (.invokevirtual 186, 3) := by decide +kernel
theorem dX9_northOf_25 : decode cX9_northOf 25 = .ok (.aload_n 0, 1) := by decide +kernel
theorem dX9_northOf_26 : decode cX9_northOf 26 = .ok (.iconst 2, 1) := by decide +kernel
theorem dX9_northOf_27 : decode cX9_northOf 27 = .ok (.invokevirtual 189, 3) := by decide +kernel
theorem dX9_northOf_30 : decode cX9_northOf 30 = .ok (.istore_n 3, 1) := by decide +kernel
theorem dX9_northOf_31 : decode cX9_northOf 31 = .ok (.aload_n 0, 1) := by decide +kernel
theorem dX9_northOf_32 : decode cX9_northOf 32 = .ok (.aload_n 0, 1) := by decide +kernel
theorem dX9_northOf_33 : decode cX9_northOf 33 = .ok (.getfield 16, 3) := by decide +kernel
theorem dX9_northOf_36 : decode cX9_northOf 36 = .ok (.aload_n 0, 1) := by decide +kernel
theorem dX9_northOf_37 : decode cX9_northOf 37 = .ok (.getfield 7, 3) := by decide +kernel
theorem dX9_northOf_40 : decode cX9_northOf 40 = .ok (.invokevirtual 163, 3) := by decide +kernel
theorem dX9_northOf_43 : decode cX9_northOf 43 = .ok (.iload_n 3, 1) := by decide +kernel
theorem dX9_northOf_44 : decode cX9_northOf 44 = .ok (.ireturn, 1) := by decide +kernel
theorem dX9_rhymes_0 : decode cX9_rhymes 0 = .ok (.iload_n 1, 1) := by decide +kernel
theorem dX9_rhymes_1 : decode cX9_rhymes 1 = .ok (.iconst 0, 1) := by decide +kernel
theorem dX9_rhymes_2 : decode cX9_rhymes 2 = .ok (.bipush 60, 2) := by decide +kernel
theorem dX9_rhymes_4 : decode cX9_rhymes 4 = .ok (.invokestatic 41, 3) := by decide +kernel
theorem dX9_rhymes_7 : decode cX9_rhymes 7 = .ok (.ifCond .eq 35, 3) := by decide +kernel
theorem dX9_rhymes_10 : decode cX9_rhymes 10 = .ok (.aload_n 0, 1) := by decide +kernel
theorem dX9_rhymes_11 : decode cX9_rhymes 11 = .ok (.iload_n 2, 1) := by decide +kernel
theorem dX9_rhymes_12 : decode cX9_rhymes 12 = .ok (.invokevirtual 87, 3) := by decide +kernel
theorem dX9_rhymes_15 : decode cX9_rhymes 15 = .ok (.ifCond .eq 27, 3) := by decide +kernel
theorem dX9_rhymes_18 : decode cX9_rhymes 18 = .ok (.aload_n 0, 1) := by decide +kernel
theorem dX9_rhymes_19 : decode cX9_rhymes 19 = .ok (.iload_n 3, 1) := by decide +kernel
theorem dX9_rhymes_20 : decode cX9_rhymes 20 = .ok (.invokevirtual 87, 3) := by decide +kernel
theorem dX9_rhymes_23 : decode cX9_rhymes 23 = .ok (.ifCond .eq 19, 3) := by decide +kernel
theorem dX9_rhymes_26 : decode cX9_rhymes 26 = .ok (.iload_n 2, 1) := by decide +kernel
theorem dX9_rhymes_27 : decode cX9_rhymes 27 = .ok (.iload_n 3, 1) := by decide +kernel
theorem dX9_rhymes_28 : decode cX9_rhymes 28 = .ok (.iand, 1) := by decide +kernel
theorem dX9_rhymes_29 : decode cX9_rhymes 29 = .ok (.ifCond .ne 13, 3) := by decide +kernel
theorem dX9_rhymes_32 : decode cX9_rhymes 32 = .ok (.iload 4, 2) := by decide +kernel
theorem dX9_rhymes_34 : decode cX9_rhymes 34 = .ok (.iconst 0, 1) := by decide +kernel
theorem dX9_rhymes_35 : decode cX9_rhymes 35 = .ok (.iconst 1, 1) := by decide +kernel
theorem dX9_rhymes_36 : decode cX9_rhymes 36 = .ok (.invokestatic 41, 3) := by decide +kernel
theorem dX9_rhymes_39 : decode cX9_rhymes 39 = .ok (.ifCond .ne 10, 3) := by decide +kernel
theorem dX9_rhymes_42 : decode cX9_rhymes 42 = .ok (.aload_n 0, 1) := by decide +kernel
theorem dX9_rhymes_43 : decode cX9_rhymes 43 = .ok (.ldc 45, 2) := by decide +kernel
theorem dX9_rhymes_45 : decode cX9_rhymes 45 = .ok (.invokevirtual 46, 3) := by decide +kernel
theorem dX9_rhymes_48 : decode cX9_rhymes 48 = .ok (.ireturn, 1) := by decide +kernel
theorem dX9_rhymes_49 : decode cX9_rhymes 49 = .ok (.aload_n 0, 1) := by decide +kernel
theorem dX9_rhymes_50 : decode cX9_rhymes 50 = .ok (.getfield 7, 3) := by decide +kernel
theorem dX9_rhymes_53 : decode cX9_rhymes 53 = .ok (.iconst 1, 1) := by decide +kernel
theorem dX9_rhymes_54 : decode cX9_rhymes 54 = .ok (.iaload, 1) := by decide +kernel
theorem dX9_rhymes_55 : decode cX9_rhymes 55 = .ok (.bipush 8, 2) := by decide +kernel
theorem dX9_rhymes_57 : decode cX9_rhymes 57 = .ok (.if_icmp .le 10, 3) := by decide +kernel
theorem dX9_rhymes_60 : decode cX9_rhymes 60 = .ok (.aload_n 0, 1) := by decide +kernel
theorem dX9_rhymes_61 : decode cX9_rhymes 61 = .ok (.ldc 50, 2) := by decide +kernel
theorem dX9_rhymes_63 : decode cX9_rhymes 63 = .ok (.invokevirtual 46, 3) := by decide +kernel
theorem dX9_rhymes_66 : decode cX9_rhymes 66 = .ok (.ireturn, 1) := by decide +kernel
theorem dX9_rhymes_67 : decode cX9_rhymes 67 = .ok (.aload_n 0, 1) := by decide +kernel
theorem dX9_rhymes_68 : decode cX9_rhymes 68 = .ok (.getfield 7, 3) := by decide +kernel
theorem dX9_rhymes_71 : decode cX9_rhymes 71 = .ok (.bipush 10, 2) := by decide +kernel
theorem dX9_rhymes_73 : decode cX9_rhymes 73 = .ok (.iaload, 1) := by decide +kernel
theorem dX9_rhymes_74 : decode cX9_rhymes 74 = .ok (.istore 5, 2) := by decide +kernel
theorem dX9_rhymes_76 : decode cX9_rhymes 76 = .ok (.iconst 0, 1) := by decide +kernel
theorem dX9_rhymes_77 : decode cX9_rhymes 77 = .ok (.istore 6, 2) := by decide +kernel
theorem dX9_rhymes_79 : decode cX9_rhymes 79 = .ok (.iconst 0, 1) := by decide +kernel
theorem dX9_rhymes_80 : decode cX9_rhymes 80 = .ok (.istore 7, 2) := by decide +kernel
theorem dX9_rhymes_82 : decode cX9_rhymes 82 = .ok (.iconst 1, 1) := by decide +kernel
theorem dX9_rhymes_83 : decode cX9_rhymes 83 = .ok (.aload_n 0, 1) := by decide +kernel
theorem dX9_rhymes_84 : decode cX9_rhymes 84 = .ok (.getfield 7, 3) := by decide +kernel
theorem dX9_rhymes_87 : decode cX9_rhymes 87 = .ok (.iconst 1, 1) := by decide +kernel
theorem dX9_rhymes_88 : decode cX9_rhymes 88 = .ok (.iaload, 1) := by decide +kernel
theorem dX9_rhymes_89 : decode cX9_rhymes 89 = .ok (.ishl, 1) := by decide +kernel
theorem dX9_rhymes_90 : decode cX9_rhymes 90 = .ok (.iconst 1, 1) := by decide +kernel
theorem dX9_rhymes_91 : decode cX9_rhymes 91 = .ok (.isub, 1) := by decide +kernel
theorem dX9_rhymes_92 : decode cX9_rhymes 92 = .ok (.istore 8, 2) := by decide +kernel
theorem dX9_rhymes_94 : decode cX9_rhymes 94 = .ok (.iload 8, 2) := by decide +kernel
theorem dX9_rhymes_96 : decode cX9_rhymes 96 = .ok (.ifCond .lt 50, 3) := by decide +kernel
theorem dX9_rhymes_99 : decode cX9_rhymes 99 = .ok (.aload_n 0, 1) := by decide +kernel
theorem dX9_rhymes_100 : decode cX9_rhymes 100 = .ok (.getfield 7, 3) := by decide +kernel
theorem dX9_rhymes_103 : decode cX9_rhymes 103 = .ok (.bipush 10, 2) := by decide +kernel
theorem dX9_rhymes_105 : decode cX9_rhymes 105 = .ok (.iload 8, 2) := by decide +kernel
theorem dX9_rhymes_107 : decode cX9_rhymes 107 = .ok (.iastore, 1) := by decide +kernel
theorem dX9_rhymes_108 : decode cX9_rhymes 108 = .ok (.aload_n 0, 1) := by decide +kernel
theorem dX9_rhymes_109 : decode cX9_rhymes 109 = .ok (.iload_n 2, 1) := by decide +kernel
theorem dX9_rhymes_110 : decode cX9_rhymes 110 = .ok (.iload_n 3, 1) := by decide +kernel
theorem dX9_rhymes_111 : decode cX9_rhymes 111 = .ok (.ior, 1) := by decide +kernel
theorem dX9_rhymes_112 : decode cX9_rhymes 112 = .ok (.iload_n 1, 1) := by decide +kernel
theorem dX9_rhymes_113 : decode cX9_rhymes 113 = .ok (.invokevirtual 200, 3) := by decide +kernel
theorem dX9_rhymes_116 : decode cX9_rhymes 116 = .ok (.istore 9, 2) := by decide +kernel
theorem dX9_rhymes_118 : decode cX9_rhymes 118 = .ok (.iload 9, 2) := by decide +kernel
theorem dX9_rhymes_120 : decode cX9_rhymes 120 = .ok (.iload_n 2, 1) := by decide +kernel
theorem dX9_rhymes_121 : decode cX9_rhymes 121 = .ok (.iand, 1) := by decide +kernel
theorem dX9_rhymes_122 : decode cX9_rhymes 122 = .ok (.iload_n 2, 1) := by decide +kernel
theorem dX9_rhymes_123 : decode cX9_rhymes 123 = .ok (.if_icmp .ne 17, 3) := by decide +kernel
theorem dX9_rhymes_126 : decode cX9_rhymes 126 = .ok (.iload 9, 2) := by decide +kernel
theorem dX9_rhymes_128 : decode cX9_rhymes 128 = .ok (.iload_n 3, 1) := by decide +kernel
theorem dX9_rhymes_129 : decode cX9_rhymes 129 = .ok (.iand, 1) := by decide +kernel
theorem dX9_rhymes_130 : decode cX9_rhymes 130 = .ok (.ifCond .ne 10, 3) := by decide +kernel
theorem dX9_rhymes_133 : decode cX9_rhymes 133 = .ok (.iinc 6 1, 3) := by decide +kernel
theorem dX9_rhymes_136 : decode cX9_rhymes 136 = .ok (.iload 8, 2) := by decide +kernel
theorem dX9_rhymes_138 : decode cX9_rhymes 138 = .ok (.istore 7, 2) := by decide +kernel
theorem dX9_rhymes_140 : decode cX9_rhymes 140 = .ok (.iinc 8 (-1), 3) := by decide +kernel
theorem dX9_rhymes_143 : decode cX9_rhymes 143 = .ok (.goto (-49), 3) := by decide +kernel
theorem dX9_rhymes_146 : decode cX9_rhymes 146 = .ok (.aload_n 0, 1) := by decide +kernel
theorem dX9_rhymes_147 : decode cX9_rhymes 147 = .ok (.getfield 7, 3) := by decide +kernel
theorem dX9_rhymes_150 : decode cX9_rhymes 150 = .ok (.bipush 10, 2) := by decide +kernel
theorem dX9_rhymes_152 : decode cX9_rhymes 152 = .ok (.iload 5, 2) := by decide +kernel
theorem dX9_rhymes_154 : decode cX9_rhymes 154 = .ok (.iastore, 1) := by decide +kernel
theorem dX9_rhymes_155 : decode cX9_rhymes 155 = .ok (.iload 4, 2) := by decide +kernel
theorem dX9_rhymes_157 : decode cX9_rhymes 157 = .ok (.iconst 1, 1) := by decide +kernel
theorem dX9_rhymes_158 : decode cX9_rhymes 158 = .ok (.if_icmp .ne 15, 3) := by decide +kernel
theorem dX9_rhymes_161 : decode cX9_rhymes 161 = .ok (.iload 6, 2) := by decide +kernel
theorem dX9_rhymes_163 : decode cX9_rhymes 163 = .ok (.ifCond .ne 10, 3) := by decide +kernel
theorem dX9_rhymes_166 : decode cX9_rhymes 166 = .ok (.aload_n 0, 1) := by decide +kernel
theorem dX9_rhymes_167 : decode cX9_rhymes 167 = .ok (.ldc 199, 2) := by decide +kernel
theorem dX9_rhymes_169 : decode cX9_rhymes 169 = .ok (.invokevirtual 46, 3) := by decide +kernel
theorem dX9_rhymes_172 : decode cX9_rhymes 172 = .ok (.ireturn, 1) := by decide +kernel
theorem dX9_rhymes_173 : decode cX9_rhymes 173 = .ok (.iload 4, 2) := by decide +kernel
theorem dX9_rhymes_175 : decode cX9_rhymes 175 = .ok (.ifCond .ne 8, 3) := by decide +kernel
theorem dX9_rhymes_178 : decode cX9_rhymes 178 = .ok (.iload 6, 2) := by decide +kernel
theorem dX9_rhymes_180 : decode cX9_rhymes 180 = .ok (.goto 5, 3) := by decide +kernel
theorem dX9_rhymes_183 : decode cX9_rhymes 183 = .ok (.iload 7, 2) := by decide +kernel
theorem dX9_rhymes_185 : decode cX9_rhymes 185 = .ok (.ireturn, 1) := by decide +kernel
theorem dX9_most_0 : decode cX9_most 0 = .ok (.iload_n 1, 1) := by decide +kernel
theorem dX9_most_1 : decode cX9_most 1 = .ok (.iconst 0, 1) := by decide +kernel
theorem dX9_most_2 : decode cX9_most 2 = .ok (.bipush 60, 2) := by decide +kernel
theorem dX9_most_4 : decode cX9_most 4 = .ok (.invokestatic 41, 3) := by decide +kernel
theorem dX9_most_7 : decode cX9_most 7 = .ok (.ifCond .ne 10, 3) := by decide +kernel
theorem dX9_most_10 : decode cX9_most 10 = .ok (.aload_n 0, 1) := by decide +kernel
theorem dX9_most_11 : decode cX9_most 11 = .ok (.ldc 45, 2) := by decide +kernel
theorem dX9_most_13 : decode cX9_most 13 = .ok (.invokevirtual 46, 3) := by decide +kernel
theorem dX9_most_16 : decode cX9_most 16 = .ok (.ireturn, 1) := by decide +kernel
theorem dX9_most_17 : decode cX9_most 17 = .ok (.aload_n 0, 1) := by decide +kernel
theorem dX9_most_18 : decode cX9_most 18 = .ok (.iconst 0, 1) := by decide +kernel
theorem dX9_most_19 : decode cX9_most 19 = .ok (.invokevirtual 189, 3) := by decide +kernel
theorem dX9_most_22 : decode cX9_most 22 = .ok (.istore_n 2, 1) := by decide +kernel
theorem dX9_most_23 : decode cX9_most 23 = .ok (.iconst 0, 1) := by decide +kernel
theorem dX9_most_24 : decode cX9_most 24 = .ok (.istore_n 3, 1) := by decide +kernel
theorem dX9_most_25 : decode cX9_most 25 = .ok (.iconst 1, 1) := by decide +kernel
theorem dX9_most_26 : decode cX9_most 26 = .ok (.istore 4, 2) := by decide +kernel
theorem dX9_most_28 : decode cX9_most 28 = .ok (.iload 4, 2) := by decide +kernel
theorem dX9_most_30 : decode cX9_most 30 = .ok (.iconst 1, 1) := by decide +kernel
theorem dX9_most_31 : decode cX9_most 31 = .ok (.aload_n 0, 1) := by decide +kernel
theorem dX9_most_32 : decode cX9_most 32 = .ok (.getfield 7, 3) := by decide +kernel
theorem dX9_most_35 : decode cX9_most 35 = .ok (.bipush 9, 2) := by decide +kernel
theorem dX9_most_37 : decode cX9_most 37 = .ok (.iaload, 1) := by decide +kernel
theorem dX9_most_38 : decode cX9_most 38 = .ok (.ishl, 1) := by decide +kernel
theorem dX9_most_39 : decode cX9_most 39 = .ok (.if_icmp .ge 52, 3) := by decide +kernel
theorem dX9_most_42 : decode cX9_most 42 = .ok (.iload 4, 2) := by decide +kernel
theorem dX9_most_44 : decode cX9_most 44 = .ok (.iload_n 2, 1) := by decide +kernel
theorem dX9_most_45 : decode cX9_most 45 = .ok (.iconst (-1), 1) := by decide +kernel
theorem dX9_most_46 : decode cX9_most 46 = .ok (.ixor, 1) := by decide +kernel
theorem dX9_most_47 : decode cX9_most 47 = .ok (.iand, 1) := by decide +kernel
theorem dX9_most_48 : decode cX9_most 48 = .ok (.ifCond .ne 37, 3) := by decide +kernel
theorem dX9_most_51 : decode cX9_most 51 = .ok (.iload 4, 2) := by decide +kernel
theorem dX9_most_53 : decode cX9_most 53 = .ok (.invokestatic 192, 3) := by decide +kernel
theorem dX9_most_56 : decode cX9_most 56 = .ok (.iload_n 3, 1) := by decide +kernel
theorem dX9_most_57 : decode cX9_most 57 = .ok (.invokestatic 192, 3) := by decide +kernel
theorem dX9_most_60 : decode cX9_most 60 = .ok (.if_icmp .le 25, 3) := by decide +kernel
theorem dX9_most_63 : decode cX9_most 63 = .ok (.aload_n 0, 1) := by decide +kernel
theorem dX9_most_64 : decode cX9_most 64 = .ok (.iload 4, 2) := by decide +kernel
theorem dX9_most_66 : decode cX9_most 66 = .ok (.iload_n 1, 1) := by decide +kernel
theorem dX9_most_67 : decode cX9_most 67 = .ok (.invokevirtual 200, 3) := by decide +kernel
theorem dX9_most_70 : decode cX9_most 70 = .ok (.iload 4, 2) := by decide +kernel
theorem dX9_most_72 : decode cX9_most 72 = .ok (.iand, 1) := by decide +kernel
theorem dX9_most_73 : decode cX9_most 73 = .ok (.iload 4, 2) := by decide +kernel
theorem dX9_most_75 : decode cX9_most 75 = .ok (.if_icmp .ne 8, 3) := by decide +kernel
theorem dX9_most_78 : decode cX9_most 78 = .ok (.iload 4, 2) := by decide +kernel
theorem dX9_most_80 : decode cX9_most 80 = .ok (.goto 4, 3) := by decide +kernel
theorem dX9_most_83 : decode cX9_most 83 = .ok (.iload_n 3, 1) := by decide +kernel
theorem dX9_most_84 : decode cX9_most 84 = .ok (.istore_n 3, 1) := by decide +kernel
theorem dX9_most_85 : decode cX9_most 85 = .ok (.iinc 4 1, 3) := by decide +kernel
theorem dX9_most_88 : decode cX9_most 88 = .ok (.goto (-60), 3) := by decide +kernel
theorem dX9_most_91 : decode cX9_most 91 = .ok (.iload_n 3, 1) := by decide +kernel
theorem dX9_most_92 : decode cX9_most 92 = .ok (.ireturn, 1) := by decide +kernel
theorem dX9_relief_0 : decode cX9_relief 0 = .ok (.aload_n 0, 1) := by decide +kernel
theorem dX9_relief_1 : decode cX9_relief 1 = .ok (.getfield 7, 3) := by decide +kernel
theorem dX9_relief_4 : decode cX9_relief 4 = .ok (.bipush 8, 2) := by decide +kernel
theorem dX9_relief_6 : decode cX9_relief 6 = .ok (.iaload, 1) := by decide +kernel
theorem dX9_relief_7 : decode cX9_relief 7 = .ok (.ifCond .ne 10, 3) := by decide +kernel
theorem dX9_relief_10 : decode cX9_relief 10 = .ok (.aload_n 0, 1) := by decide +kernel
theorem dX9_relief_11 : decode cX9_relief 11 = .ok (.ldc 199, 2) := by decide +kernel
theorem dX9_relief_13 : decode cX9_relief 13 = .ok (.invokevirtual 46, 3) := by decide +kernel
theorem dX9_relief_16 : decode cX9_relief 16 = .ok (.ireturn, 1) := by decide +kernel
theorem dX9_relief_17 : decode cX9_relief 17 = .ok (.iconst 0, 1) := by decide +kernel
theorem dX9_relief_18 : decode cX9_relief 18 = .ok (.istore_n 1, 1) := by decide +kernel
theorem dX9_relief_19 : decode cX9_relief 19 = .ok (.sipush (-200), 3) := by decide +kernel
theorem dX9_relief_22 : decode cX9_relief 22 = .ok (.istore_n 2, 1) := by decide +kernel
theorem dX9_relief_23 : decode cX9_relief 23 = .ok (.iconst 0, 1) := by decide +kernel
theorem dX9_relief_24 : decode cX9_relief 24 = .ok (.istore_n 3, 1) := by decide +kernel
theorem dX9_relief_25 : decode cX9_relief 25 = .ok (.iload_n 3, 1) := by decide +kernel
theorem dX9_relief_26 : decode cX9_relief 26 = .ok (.aload_n 0, 1) := by decide +kernel
theorem dX9_relief_27 : decode cX9_relief 27 = .ok (.getfield 7, 3) := by decide +kernel
theorem dX9_relief_30 : decode cX9_relief 30 = .ok (.bipush 8, 2) := by decide +kernel
theorem dX9_relief_32 : decode cX9_relief 32 = .ok (.iaload, 1) := by decide +kernel
theorem dX9_relief_33 : decode cX9_relief 33 = .ok (.if_icmp .ge 61, 3) := by decide +kernel
theorem dX9_relief_36 : decode cX9_relief 36 = .ok (.aload_n 0, 1) := by decide +kernel
theorem dX9_relief_37 : decode cX9_relief 37 = .ok (.getfield 7, 3) := by decide +kernel
theorem dX9_relief_40 : decode cX9_relief 40 = .ok (.bipush 21, 2) := by decide +kernel
theorem dX9_relief_42 : decode cX9_relief 42 = .ok (.iconst 2, 1) := by decide +kernel
theorem dX9_relief_43 : decode cX9_relief 43 = .ok (.iload_n 3, 1) := by decide +kernel
theorem dX9_relief_44 : decode cX9_relief 44 = .ok (.imul, 1) := by decide +kernel
theorem dX9_relief_45 : decode cX9_relief 45 = .ok (.iadd, 1) := by decide +kernel
theorem dX9_relief_46 : decode cX9_relief 46 = .ok (.iaload, 1) := by decide +kernel
theorem dX9_relief_47 : decode cX9_relief 47 = .ok (.aload_n 0, 1) := by decide +kernel
theorem dX9_relief_48 : decode cX9_relief 48 = .ok (.getfield 7, 3) := by decide +kernel
theorem dX9_relief_51 : decode cX9_relief 51 = .ok (.bipush 21, 2) := by decide +kernel
theorem dX9_relief_53 : decode cX9_relief 53 = .ok (.iconst 2, 1) := by decide +kernel
theorem dX9_relief_54 : decode cX9_relief 54 = .ok (.iload_n 3, 1) := by decide +kernel
theorem dX9_relief_55 : decode cX9_relief 55 = .ok (.imul, 1) := by decide +kernel
theorem dX9_relief_56 : decode cX9_relief 56 = .ok (.iadd, 1) := by decide +kernel
theorem dX9_relief_57 : decode cX9_relief 57 = .ok (.iconst 1, 1) := by decide +kernel
theorem dX9_relief_58 : decode cX9_relief 58 = .ok (.iadd, 1) := by decide +kernel
theorem dX9_relief_59 : decode cX9_relief 59 = .ok (.iaload, 1) := by decide +kernel
theorem dX9_relief_60 : decode cX9_relief 60 = .ok (.isub, 1) := by decide +kernel
theorem dX9_relief_61 : decode cX9_relief 61 = .ok (.istore 4, 2) := by decide +kernel
theorem dX9_relief_63 : decode cX9_relief 63 = .ok (.iload 4, 2) := by decide +kernel
theorem dX9_relief_65 : decode cX9_relief 65 = .ok (.iload_n 2, 1) := by decide +kernel
theorem dX9_relief_66 : decode cX9_relief 66 = .ok (.if_icmp .le 7, 3) := by decide +kernel
theorem dX9_relief_69 : decode cX9_relief 69 = .ok (.iload_n 3, 1) := by decide +kernel
theorem dX9_relief_70 : decode cX9_relief 70 = .ok (.goto 4, 3) := by decide +kernel
theorem dX9_relief_73 : decode cX9_relief 73 = .ok (.iload_n 1, 1) := by decide +kernel
theorem dX9_relief_74 : decode cX9_relief 74 = .ok (.istore_n 1, 1) := by decide +kernel
theorem dX9_relief_75 : decode cX9_relief 75 = .ok (.iload 4, 2) := by decide +kernel
theorem dX9_relief_77 : decode cX9_relief 77 = .ok (.iload_n 2, 1) := by decide +kernel
theorem dX9_relief_78 : decode cX9_relief 78 = .ok (.if_icmp .le 8, 3) := by decide +kernel
theorem dX9_relief_81 : decode cX9_relief 81 = .ok (.iload 4, 2) := by decide +kernel
theorem dX9_relief_83 : decode cX9_relief 83 = .ok (.goto 4, 3) := by decide +kernel
theorem dX9_relief_86 : decode cX9_relief 86 = .ok (.iload_n 2, 1) := by decide +kernel
theorem dX9_relief_87 : decode cX9_relief 87 = .ok (.istore_n 2, 1) := by decide +kernel
theorem dX9_relief_88 : decode cX9_relief 88 = .ok (.iinc 3 1, 3) := by decide +kernel
theorem dX9_relief_91 : decode cX9_relief 91 = .ok (.goto (-66), 3) := by decide +kernel
theorem dX9_relief_94 : decode cX9_relief 94 = .ok (.iload_n 1, 1) := by decide +kernel
theorem dX9_relief_95 : decode cX9_relief 95 = .ok (.ireturn, 1) := by decide +kernel
theorem dX9_stands_0 : decode cX9_stands 0 = .ok (.aload_n 0, 1) := by decide +kernel
theorem dX9_stands_1 : decode cX9_stands 1 = .ok (.aload_n 0, 1) := by decide +kernel
theorem dX9_stands_2 : decode cX9_stands 2 = .ok (.getfield 7, 3) := by decide +kernel
theorem dX9_stands_5 : decode cX9_stands 5 = .ok (.aload_n 0, 1) := by decide +kernel
theorem dX9_stands_6 : decode cX9_stands 6 = .ok (.getfield 16, 3) := by decide +kernel
theorem dX9_stands_9 : decode cX9_stands 9 = .ok (.invokevirtual 163, 3) := by decide +kernel
theorem dX9_stands_12 : decode cX9_stands 12 = .ok (.iconst 0, 1) := by decide +kernel
theorem dX9_stands_13 : decode cX9_stands 13 = .ok (.istore_n 1, 1) := by decide +kernel
theorem dX9_stands_14 : decode cX9_stands 14 = .ok (.iload_n 1, 1) := by decide +kernel
theorem dX9_stands_15 : decode cX9_stands 15 = .ok (.sipush 200, 3) := by decide +kernel
theorem dX9_stands_18 : decode cX9_stands 18 = .ok (.if_icmp .gt 20, 3) := by decide +kernel
theorem dX9_stands_21 : decode cX9_stands 21 = .ok (.aload_n 0, 1) := by decide +kernel
theorem dX9_stands_22 : decode cX9_stands 22 = .ok (.invokevirtual 174, 3) := by decide +kernel
theorem dX9_stands_25 : decode cX9_stands 25 = .ok (.ifCond .ne 13, 3) := by decide +kernel
theorem dX9_stands_28 : decode cX9_stands 28 = .ok (.aload_n 0, 1) := by decide +kernel
theorem dX9_stands_29 : decode cX9_stands 29 = .ok (.invokevirtual 182, 3) := by decide +kernel
theorem dX9_stands_32 : decode cX9_stands 32 = .ok (.iinc 1 1, 3) := by decide +kernel
theorem dX9_stands_35 : decode cX9_stands 35 = .ok (.goto (-21), 3) := by decide +kernel
theorem dX9_stands_38 : decode cX9_stands 38 = .ok (.aload_n 0, 1) := by decide +kernel
theorem dX9_stands_39 : decode cX9_stands 39 = .ok (.aload_n 0, 1) := by decide +kernel
theorem dX9_stands_40 : decode cX9_stands 40 = .ok (.getfield 16, 3) := by decide +kernel
theorem dX9_stands_43 : decode cX9_stands 43 = .ok (.aload_n 0, 1) := by decide +kernel
theorem dX9_stands_44 : decode cX9_stands 44 = .ok (.getfield 7, 3) := by decide +kernel
theorem dX9_stands_47 : decode cX9_stands 47 = .ok (.invokevirtual 163, 3) := by decide +kernel
theorem dX9_stands_50 : decode cX9_stands 50 = .ok (.iload_n 1, 1) := by decide +kernel
theorem dX9_stands_51 : decode cX9_stands 51 = .ok (.sipush 200, 3) := by decide +kernel
theorem dX9_stands_54 : decode cX9_stands 54 = .ok (.if_icmp .le 12, 3) := by decide +kernel
theorem dX9_stands_57 : decode cX9_stands 57 = .ok (.aload_n 0, 1) := by decide +kernel
theorem dX9_stands_58 : decode cX9_stands 58 = .ok (.ldc 199, 2) := by decide +kernel
theorem dX9_stands_60 : decode cX9_stands 60 = .ok (.invokevirtual 46, 3) := by decide +kernel
theorem dX9_stands_63 : decode cX9_stands 63 = .ok (.goto 4, 3) := by decide +kernel
theorem dX9_stands_66 : decode cX9_stands 66 = .ok (.iload_n 1, 1) := by decide +kernel
theorem dX9_stands_67 : decode cX9_stands 67 = .ok (.ireturn, 1) := by decide +kernel
theorem dX9_mostWorn_0 : decode cX9_mostWorn 0 = .ok (.iconst 0, 1) := by decide +kernel
theorem dX9_mostWorn_1 : decode cX9_mostWorn 1 = .ok (.istore_n 1, 1) := by decide +kernel
theorem dX9_mostWorn_2 : decode cX9_mostWorn 2 = .ok (.iconst 0, 1) := by decide +kernel
theorem dX9_mostWorn_3 : decode cX9_mostWorn 3 = .ok (.istore_n 2, 1) := by decide +kernel
theorem dX9_mostWorn_4 : decode cX9_mostWorn 4 = .ok (.iload_n 2, 1) := by decide +kernel
theorem dX9_mostWorn_5 : decode cX9_mostWorn 5 = .ok (.aload_n 0, 1) := by decide +kernel
theorem dX9_mostWorn_6 : decode cX9_mostWorn 6 = .ok (.getfield 7, 3) := by decide +kernel
theorem dX9_mostWorn_9 : decode cX9_mostWorn 9 = .ok (.iconst 3, 1) := by decide +kernel
theorem dX9_mostWorn_10 : decode cX9_mostWorn 10 = .ok (.iaload, 1) := by decide +kernel
theorem dX9_mostWorn_11 : decode cX9_mostWorn 11 = .ok (.if_icmp .ge 36, 3) := by decide +kernel
theorem dX9_mostWorn_14 : decode cX9_mostWorn 14 = .ok (.aload_n 0, 1) := by decide +kernel
theorem dX9_mostWorn_15 : decode cX9_mostWorn 15 = .ok (.getfield 7, 3) := by decide +kernel
theorem dX9_mostWorn_18 : decode cX9_mostWorn 18 = .ok (.bipush 13, 2) := by decide +kernel
theorem dX9_mostWorn_20 : decode cX9_mostWorn 20 = .ok (.iload_n 2, 1) := by decide +kernel
theorem dX9_mostWorn_21 : decode cX9_mostWorn 21 = .ok (.iadd, 1) := by decide +kernel
theorem dX9_mostWorn_22 : decode cX9_mostWorn 22 = .ok (.iaload, 1) := by decide +kernel
theorem dX9_mostWorn_23 : decode cX9_mostWorn 23 = .ok (.iload_n 1, 1) := by decide +kernel
theorem dX9_mostWorn_24 : decode cX9_mostWorn 24 = .ok (.if_icmp .le 15, 3) := by decide +kernel
theorem dX9_mostWorn_27 : decode cX9_mostWorn 27 = .ok (.aload_n 0, 1) := by decide +kernel
theorem dX9_mostWorn_28 : decode cX9_mostWorn 28 = .ok (.getfield 7, 3) := by decide +kernel
theorem dX9_mostWorn_31 : decode cX9_mostWorn 31 = .ok (.bipush 13, 2) := by decide +kernel
theorem dX9_mostWorn_33 : decode cX9_mostWorn 33 = .ok (.iload_n 2, 1) := by decide +kernel
theorem dX9_mostWorn_34 : decode cX9_mostWorn 34 = .ok (.iadd, 1) := by decide +kernel
theorem dX9_mostWorn_35 : decode cX9_mostWorn 35 = .ok (.iaload, 1) := by decide +kernel
theorem dX9_mostWorn_36 : decode cX9_mostWorn 36 = .ok (.goto 4, 3) := by decide +kernel
theorem dX9_mostWorn_39 : decode cX9_mostWorn 39 = .ok (.iload_n 1, 1) := by decide +kernel
theorem dX9_mostWorn_40 : decode cX9_mostWorn 40 = .ok (.istore_n 1, 1) := by decide +kernel
theorem dX9_mostWorn_41 : decode cX9_mostWorn 41 = .ok (.iinc 2 1, 3) := by decide +kernel
theorem dX9_mostWorn_44 : decode cX9_mostWorn 44 = .ok (.goto (-40), 3) := by decide +kernel
theorem dX9_mostWorn_47 : decode cX9_mostWorn 47 = .ok (.iload_n 1, 1) := by decide +kernel
theorem dX9_mostWorn_48 : decode cX9_mostWorn 48 = .ok (.ireturn, 1) := by decide +kernel
theorem dX9_parts_0 : decode cX9_parts 0 = .ok (.iload_n 1, 1) := by decide +kernel
theorem dX9_parts_1 : decode cX9_parts 1 = .ok (.iconst 0, 1) := by decide +kernel
theorem dX9_parts_2 : decode cX9_parts 2 = .ok (.sipush 999, 3) := by decide +kernel
theorem dX9_parts_5 : decode cX9_parts 5 = .ok (.invokestatic 41, 3) := by decide +kernel
theorem dX9_parts_8 : decode cX9_parts 8 = .ok (.ifCond .ne 10, 3) := by decide +kernel
theorem dX9_parts_11 : decode cX9_parts 11 = .ok (.aload_n 0, 1) := by decide +kernel
theorem dX9_parts_12 : decode cX9_parts 12 = .ok (.ldc 45, 2) := by decide +kernel
theorem dX9_parts_14 : decode cX9_parts 14 = .ok (.invokevirtual 46, 3) := by decide +kernel
theorem dX9_parts_17 : decode cX9_parts 17 = .ok (.ireturn, 1) := by decide +kernel
theorem dX9_parts_18 : decode cX9_parts 18 = .ok (.aload_n 0, 1) := by decide +kernel
theorem dX9_parts_19 : decode cX9_parts 19 = .ok (.aload_n 0, 1) := by decide +kernel
theorem dX9_parts_20 : decode cX9_parts 20 = .ok (.getfield 7, 3) := by decide +kernel
theorem dX9_parts_23 : decode cX9_parts 23 = .ok (.aload_n 0, 1) := by decide +kernel
theorem dX9_parts_24 : decode cX9_parts 24 = .ok (.getfield 16, 3) := by decide +kernel
theorem dX9_parts_27 : decode cX9_parts 27 = .ok (.invokevirtual 163, 3) := by decide +kernel
theorem dX9_parts_30 : decode cX9_parts 30 = .ok (.iconst 0, 1) := by decide +kernel
theorem dX9_parts_31 : decode cX9_parts 31 = .ok (.istore_n 2, 1) := by decide +kernel
theorem dX9_parts_32 : decode cX9_parts 32 = .ok (.iload_n 2, 1) := by decide +kernel
theorem dX9_parts_33 : decode cX9_parts 33 = .ok (.sipush 200, 3) := by decide +kernel
theorem dX9_parts_36 : decode cX9_parts 36 = .ok (.if_icmp .gt 21, 3) := by decide +kernel
theorem dX9_parts_39 : decode cX9_parts 39 = .ok (.aload_n 0, 1) := by decide +kernel
theorem dX9_parts_40 : decode cX9_parts 40 = .ok (.invokevirtual 203, 3) := by decide +kernel
theorem dX9_parts_43 : decode cX9_parts 43 = .ok (.iload_n 1, 1) := by decide +kernel
theorem dX9_parts_44 : decode cX9_parts 44 = .ok (.if_icmp .ge 13, 3) := by decide +kernel
theorem dX9_parts_47 : decode cX9_parts 47 = .ok (.aload_n 0, 1) := by decide +kernel
theorem dX9_parts_48 : decode cX9_parts 48 = .ok (.invokevirtual 182, 3) := by decide +kernel
theorem dX9_parts_51 : decode cX9_parts 51 = .ok (.iinc 2 1, 3) := by decide +kernel
theorem dX9_parts_54 : decode cX9_parts 54 = .ok (.goto (-22), 3) := by decide +kernel
theorem dX9_parts_57 : decode cX9_parts 57 = .ok (.aload_n 0, 1) := by decide +kernel
theorem dX9_parts_58 : decode cX9_parts 58 = .ok (.aload_n 0, 1) := by decide +kernel
theorem dX9_parts_59 : decode cX9_parts 59 = .ok (.getfield 16, 3) := by decide +kernel
theorem dX9_parts_62 : decode cX9_parts 62 = .ok (.aload_n 0, 1) := by decide +kernel
theorem dX9_parts_63 : decode cX9_parts 63 = .ok (.getfield 7, 3) := by decide +kernel
theorem dX9_parts_66 : decode cX9_parts 66 = .ok (.invokevirtual 163, 3) := by decide +kernel
theorem dX9_parts_69 : decode cX9_parts 69 = .ok (.iload_n 2, 1) := by decide +kernel
theorem dX9_parts_70 : decode cX9_parts 70 = .ok (.sipush 200, 3) := by decide +kernel
theorem dX9_parts_73 : decode cX9_parts 73 = .ok (.if_icmp .le 12, 3) := by decide +kernel
theorem dX9_parts_76 : decode cX9_parts 76 = .ok (.aload_n 0, 1) := by decide +kernel
theorem dX9_parts_77 : decode cX9_parts 77 = .ok (.ldc 199, 2) := by decide +kernel
theorem dX9_parts_79 : decode cX9_parts 79 = .ok (.invokevirtual 46, 3) := by decide +kernel
theorem dX9_parts_82 : decode cX9_parts 82 = .ok (.goto 4, 3) := by decide +kernel
theorem dX9_parts_85 : decode cX9_parts 85 = .ok (.iload_n 2, 1) := by decide +kernel
theorem dX9_parts_86 : decode cX9_parts 86 = .ok (.ireturn, 1) := by decide +kernel
theorem dX9_isSheet_0 : decode cX9_isSheet 0 = .ok (.iload_n 0, 1) := by decide +kernel
theorem dX9_isSheet_1 : decode cX9_isSheet 1 = .ok (.iconst 0, 1) := by decide +kernel
theorem dX9_isSheet_2 : decode cX9_isSheet 2 = .ok (.iconst 3, 1) := by decide +kernel
theorem dX9_isSheet_3 : decode cX9_isSheet 3 = .ok (.invokestatic 41, 3) := by decide +kernel
theorem dX9_isSheet_6 : decode cX9_isSheet 6 = .ok (.ireturn, 1) := by decide +kernel
theorem dX9_who_0 : decode cX9_who 0 = .ok (.iload_n 1, 1) := by decide +kernel
theorem dX9_who_1 : decode cX9_who 1 = .ok (.invokestatic 206, 3) := by decide +kernel
theorem dX9_who_4 : decode cX9_who 4 = .ok (.ifCond .eq 14, 3) := by decide +kernel
theorem dX9_who_7 : decode cX9_who 7 = .ok (.iload_n 2, 1) := by decide +kernel
theorem dX9_who_8 : decode cX9_who 8 = .ok (.iconst 0, 1) := by decide +kernel
theorem dX9_who_9 : decode cX9_who 9 = .ok (.sipush 200, 3) := by decide +kernel
theorem dX9_who_12 : decode cX9_who 12 = .ok (.invokestatic 41, 3) := by decide +kernel
theorem dX9_who_15 : decode cX9_who 15 = .ok (.ifCond .ne 10, 3) := by decide +kernel
theorem dX9_who_18 : decode cX9_who 18 = .ok (.aload_n 0, 1) := by decide +kernel
theorem dX9_who_19 : decode cX9_who 19 = .ok (.ldc 45, 2) := by decide +kernel
theorem dX9_who_21 : decode cX9_who 21 = .ok (.invokevirtual 46, 3) := by decide +kernel
theorem dX9_who_24 : decode cX9_who 24 = .ok (.ireturn, 1) := by decide +kernel
theorem dX9_who_25 : decode cX9_who 25 = .ok (.aload_n 0, 1) := by decide +kernel
theorem dX9_who_26 : decode cX9_who 26 = .ok (.getfield 25, 3) := by decide +kernel
theorem dX9_who_29 : decode cX9_who 29 = .ok (.iload_n 1, 1) := by decide +kernel
theorem dX9_who_30 : decode cX9_who 30 = .ok (.iaload, 1) := by decide +kernel
theorem dX9_who_31 : decode cX9_who 31 = .ok (.ifCond .eq 18, 3) := by decide +kernel
theorem dX9_who_34 : decode cX9_who 34 = .ok (.aload_n 0, 1) := by decide +kernel
theorem dX9_who_35 : decode cX9_who 35 = .ok (.getfield 28, 3) := by decide +kernel
theorem dX9_who_38 : decode cX9_who 38 = .ok (.iload_n 1, 1) := by decide +kernel
theorem dX9_who_39 : decode cX9_who 39 = .ok (.iaload, 1) := by decide +kernel
theorem dX9_who_40 : decode cX9_who 40 = .ok (.aload_n 0, 1) := by decide +kernel
theorem dX9_who_41 : decode cX9_who 41 = .ok (.getfield 7, 3) := by decide +kernel
theorem dX9_who_44 : decode cX9_who 44 = .ok (.iconst 3, 1) := by decide +kernel
theorem dX9_who_45 : decode cX9_who 45 = .ok (.iaload, 1) := by decide +kernel
theorem dX9_who_46 : decode cX9_who 46 = .ok (.if_icmp .eq 10, 3) := by decide +kernel
theorem dX9_who_49 : decode cX9_who 49 = .ok (.aload_n 0, 1) := by decide +kernel
theorem dX9_who_50 : decode cX9_who 50 = .ok (.ldc 199, 2) := by decide +kernel
theorem dX9_who_52 : decode cX9_who 52 = .ok (.invokevirtual 46, 3) := by decide +kernel
theorem dX9_who_55 : decode cX9_who 55 = .ok (.ireturn, 1) := by decide +kernel
theorem dX9_who_56 : decode cX9_who 56 = .ok (.iconst 0, 1) := by decide +kernel
theorem dX9_who_57 : decode cX9_who 57 = .ok (.istore_n 3, 1) := by decide +kernel
theorem dX9_who_58 : decode cX9_who 58 = .ok (.aload_n 0, 1) := by decide +kernel
theorem dX9_who_59 : decode cX9_who 59 = .ok (.iconst 0, 1) := by decide +kernel
theorem dX9_who_60 : decode cX9_who 60 = .ok (.invokevirtual 189, 3) := by decide +kernel
theorem dX9_who_63 : decode cX9_who 63 = .ok (.istore 4, 2) := by decide +kernel
theorem dX9_who_65 : decode cX9_who 65 = .ok (.aload_n 0, 1) := by decide +kernel
theorem dX9_who_66 : decode cX9_who 66 = .ok (.aload_n 0, 1) := by decide +kernel
theorem dX9_who_67 : decode cX9_who 67 = .ok (.getfield 7, 3) := by decide +kernel
theorem dX9_who_70 : decode cX9_who 70 = .ok (.aload_n 0, 1) := by decide +kernel
theorem dX9_who_71 : decode cX9_who 71 = .ok (.getfield 16, 3) := by decide +kernel
theorem dX9_who_74 : decode cX9_who 74 = .ok (.invokevirtual 163, 3) := by decide +kernel
theorem dX9_who_77 : decode cX9_who 77 = .ok (.iconst 0, 1) := by decide +kernel
theorem dX9_who_78 : decode cX9_who 78 = .ok (.istore 5, 2) := by decide +kernel
theorem dX9_who_80 : decode cX9_who 80 = .ok (.iload 5, 2) := by decide +kernel
theorem dX9_who_82 : decode cX9_who 82 = .ok (.aload_n 0, 1) := by decide +kernel
theorem dX9_who_83 : decode cX9_who 83 = .ok (.getfield 7, 3) := by decide +kernel
theorem dX9_who_86 : decode cX9_who 86 = .ok (.bipush 9, 2) := by decide +kernel
theorem dX9_who_88 : decode cX9_who 88 = .ok (.iaload, 1) := by decide +kernel
theorem dX9_who_89 : decode cX9_who 89 = .ok (.if_icmp .ge 128, 3) := by decide +kernel
theorem dX9_who_92 : decode cX9_who 92 = .ok (.iload 4, 2) := by decide +kernel
theorem dX9_who_94 : decode cX9_who 94 = .ok (.iload 5, 2) := by decide +kernel
theorem dX9_who_96 : decode cX9_who 96 = .ok (.invokestatic 76, 3) := by decide +kernel
theorem dX9_who_99 : decode cX9_who 99 = .ok (.istore 6, 2) := by decide +kernel
theorem dX9_who_101 : decode cX9_who 101 = .ok (.aload_n 0, 1) := by decide +kernel
theorem dX9_who_102 : decode cX9_who 102 = .ok (.getfield 7, 3) := by decide +kernel
theorem dX9_who_105 : decode cX9_who 105 = .ok (.bipush 12, 2) := by decide +kernel
theorem dX9_who_107 : decode cX9_who 107 = .ok (.iconst 1, 1) := by decide +kernel
theorem dX9_who_108 : decode cX9_who 108 = .ok (.iload 5, 2) := by decide +kernel
theorem dX9_who_110 : decode cX9_who 110 = .ok (.ishl, 1) := by decide +kernel
theorem dX9_who_111 : decode cX9_who 111 = .ok (.iastore, 1) := by decide +kernel
theorem dX9_who_112 : decode cX9_who 112 = .ok (.aload_n 0, 1) := by decide +kernel
theorem dX9_who_113 : decode cX9_who 113 = .ok (.iload 6, 2) := by decide +kernel
theorem dX9_who_115 : decode cX9_who 115 = .ok (.ifCond .eq 7, 3) := by decide +kernel
theorem dX9_who_118 : decode cX9_who 118 = .ok (.iload_n 2, 1) := by decide +kernel
theorem dX9_who_119 : decode cX9_who 119 = .ok (.goto 4, 3) := by decide +kernel
theorem dX9_who_122 : decode cX9_who 122 = .ok (.iconst 0, 1) := by decide +kernel
theorem dX9_who_123 : decode cX9_who 123 = .ok (.invokevirtual 186, 3) := by decide +kernel
theorem dX9_who_126 : decode cX9_who 126 = .ok (.iconst 0, 1) := by decide +kernel
theorem dX9_who_127 : decode cX9_who 127 = .ok (.istore 7, 2) := by decide +kernel
theorem dX9_who_129 : decode cX9_who 129 = .ok (.iload 7, 2) := by decide +kernel
theorem dX9_who_131 : decode cX9_who 131 = .ok (.aload_n 0, 1) := by decide +kernel
theorem dX9_who_132 : decode cX9_who 132 = .ok (.getfield 7, 3) := by decide +kernel
theorem dX9_who_135 : decode cX9_who 135 = .ok (.iconst 3, 1) := by decide +kernel
theorem dX9_who_136 : decode cX9_who 136 = .ok (.iaload, 1) := by decide +kernel
theorem dX9_who_137 : decode cX9_who 137 = .ok (.if_icmp .ge 46, 3) := by decide +kernel
theorem dX9_who_140 : decode cX9_who 140 = .ok (.iload 6, 2) := by decide +kernel
theorem dX9_who_142 : decode cX9_who 142 = .ok (.ifCond .eq 32, 3) := by decide +kernel
theorem dX9_who_145 : decode cX9_who 145 = .ok (.aload_n 0, 1) := by decide +kernel
theorem dX9_who_146 : decode cX9_who 146 = .ok (.getfield 7, 3) := by decide +kernel
theorem dX9_who_149 : decode cX9_who 149 = .ok (.bipush 13, 2) := by decide +kernel
theorem dX9_who_151 : decode cX9_who 151 = .ok (.iload 7, 2) := by decide +kernel
theorem dX9_who_153 : decode cX9_who 153 = .ok (.iadd, 1) := by decide +kernel
theorem dX9_who_154 : decode cX9_who 154 = .ok (.iaload, 1) := by decide +kernel
theorem dX9_who_155 : decode cX9_who 155 = .ok (.aload_n 0, 1) := by decide +kernel
theorem dX9_who_156 : decode cX9_who 156 = .ok (.getfield 31, 3) := by decide +kernel
theorem dX9_who_159 : decode cX9_who 159 = .ok (.bipush 40, 2) := by decide +kernel
theorem dX9_who_161 : decode cX9_who 161 = .ok (.iload_n 1, 1) := by decide +kernel
theorem dX9_who_162 : decode cX9_who 162 = .ok (.imul, 1) := by decide +kernel
theorem dX9_who_163 : decode cX9_who 163 = .ok (.iload 7, 2) := by decide +kernel
theorem dX9_who_165 : decode cX9_who 165 = .ok (.iadd, 1) := by decide +kernel
theorem dX9_who_166 : decode cX9_who 166 = .ok (.iaload, 1) := by decide +kernel
theorem dX9_who_167 : decode cX9_who 167 = .ok (.if_icmp .ne 7, 3) := by decide +kernel
theorem dX9_who_170 : decode cX9_who 170 = .ok (.iconst 1, 1) := by decide +kernel
theorem dX9_who_171 : decode cX9_who 171 = .ok (.goto 4, 3) := by decide +kernel
theorem dX9_who_174 : decode cX9_who 174 = .ok (.iconst 0, 1) := by decide +kernel
theorem dX9_who_175 : decode cX9_who 175 = .ok (.istore 6, 2) := by decide +kernel
theorem dX9_who_177 : decode cX9_who 177 = .ok (.iinc 7 1, 3) := by decide +kernel
theorem dX9_who_180 : decode cX9_who 180 = .ok (.goto (-51), 3) := by decide +kernel
theorem dX9_who_183 : decode cX9_who 183 = .ok (.iload_n 3, 1) := by decide +kernel
theorem dX9_who_184 : decode cX9_who 184 = .ok (.iload 6, 2) := by decide +kernel
theorem dX9_who_186 : decode cX9_who 186 = .ok (.ifCond .eq 10, 3) := by decide +kernel
theorem dX9_who_189 : decode cX9_who 189 = .ok (.iconst 1, 1) := by decide +kernel
theorem dX9_who_190 : decode cX9_who 190 = .ok (.iload 5, 2) := by decide +kernel
theorem dX9_who_192 : decode cX9_who 192 = .ok (.ishl, 1) := by decide +kernel
theorem dX9_who_193 : decode cX9_who 193 = .ok (.goto 4, 3) := by decide +kernel
theorem dX9_who_196 : decode cX9_who 196 = .ok (.iconst 0, 1) := by decide +kernel
theorem dX9_who_197 : decode cX9_who 197 = .ok (.ior, 1) := by decide +kernel
theorem dX9_who_198 : decode cX9_who 198 = .ok (.istore_n 3, 1) := by decide +kernel
theorem dX9_who_199 : decode cX9_who 199 = .ok (.aload_n 0, 1) := by decide +kernel
theorem dX9_who_200 : decode cX9_who 200 = .ok (.aload_n 0, 1) := by decide +kernel
theorem dX9_who_201 : decode cX9_who 201 = .ok (.getfield 16, 3) := by decide +kernel
theorem dX9_who_204 : decode cX9_who 204 = .ok (.aload_n 0, 1) := by decide +kernel
theorem dX9_who_205 : decode cX9_who 205 = .ok (.getfield 7, 3) := by decide +kernel
theorem dX9_who_208 : decode cX9_who 208 = .ok (.invokevirtual 163, 3) := by decide +kernel
theorem dX9_who_211 : decode cX9_who 211 = .ok (.iinc 5 1, 3) := by decide +kernel
theorem dX9_who_214 : decode cX9_who 214 = .ok (.goto (-134), 3) := by decide +kernel
theorem dX9_who_217 : decode cX9_who 217 = .ok (.iload_n 3, 1) := by decide +kernel
theorem dX9_who_218 : decode cX9_who 218 = .ok (.ireturn, 1) := by decide +kernel
theorem dX9_divisor_0 : decode cX9_divisor 0 = .ok (.iload_n 0, 1) := by decide +kernel
theorem dX9_divisor_1 : decode cX9_divisor 1 = .ok (.istore_n 2, 1) := by decide +kernel
theorem dX9_divisor_2 : decode cX9_divisor 2 = .ok (.iload_n 1, 1) := by decide +kernel
theorem dX9_divisor_3 : decode cX9_divisor 3 = .ok (.istore_n 3, 1) := by decide +kernel
theorem dX9_divisor_4 : decode cX9_divisor 4 = .ok (.iload_n 3, 1) := by decide +kernel
theorem dX9_divisor_5 : decode cX9_divisor 5 = .ok (.ifCond .eq 16, 3) := by decide +kernel
theorem dX9_divisor_8 : decode cX9_divisor 8 = .ok (.iload_n 2, 1) := by decide +kernel
theorem dX9_divisor_9 : decode cX9_divisor 9 = .ok (.iload_n 3, 1) := by decide +kernel
theorem dX9_divisor_10 : decode cX9_divisor 10 = .ok (.irem, 1) := by decide +kernel
theorem dX9_divisor_11 : decode cX9_divisor 11 = .ok (.istore 4, 2) := by decide +kernel
theorem dX9_divisor_13 : decode cX9_divisor 13 = .ok (.iload_n 3, 1) := by decide +kernel
theorem dX9_divisor_14 : decode cX9_divisor 14 = .ok (.istore_n 2, 1) := by decide +kernel
theorem dX9_divisor_15 : decode cX9_divisor 15 = .ok (.iload 4, 2) := by decide +kernel
theorem dX9_divisor_17 : decode cX9_divisor 17 = .ok (.istore_n 3, 1) := by decide +kernel
theorem dX9_divisor_18 : decode cX9_divisor 18 = .ok (.goto (-14), 3) := by decide +kernel
theorem dX9_divisor_21 : decode cX9_divisor 21 = .ok (.iload_n 2, 1) := by decide +kernel
theorem dX9_divisor_22 : decode cX9_divisor 22 = .ok (.ireturn, 1) := by decide +kernel
theorem dX9_odds_0 : decode cX9_odds 0 = .ok (.aload_n 0, 1) := by decide +kernel
theorem dX9_odds_1 : decode cX9_odds 1 = .ok (.iload_n 1, 1) := by decide +kernel
theorem dX9_odds_2 : decode cX9_odds 2 = .ok (.invokevirtual 67, 3) := by decide +kernel
theorem dX9_odds_5 : decode cX9_odds 5 = .ok (.ifCond .eq 23, 3) := by decide +kernel
theorem dX9_odds_8 : decode cX9_odds 8 = .ok (.iload_n 2, 1) := by decide +kernel
theorem dX9_odds_9 : decode cX9_odds 9 = .ok (.iconst 0, 1) := by decide +kernel
theorem dX9_odds_10 : decode cX9_odds 10 = .ok (.sipush 200, 3) := by decide +kernel
theorem dX9_odds_13 : decode cX9_odds 13 = .ok (.invokestatic 41, 3) := by decide +kernel
theorem dX9_odds_16 : decode cX9_odds 16 = .ok (.ifCond .eq 12, 3) := by decide +kernel
theorem dX9_odds_19 : decode cX9_odds 19 = .ok (.iload_n 3, 1) := by decide +kernel
theorem dX9_odds_20 : decode cX9_odds 20 = .ok (.iconst 0, 1) := by decide +kernel
theorem dX9_odds_21 : decode cX9_odds 21 = .ok (.iconst 1, 1) := by decide +kernel
theorem dX9_odds_22 : decode cX9_odds 22 = .ok (.invokestatic 41, 3) := by decide +kernel
theorem dX9_odds_25 : decode cX9_odds 25 = .ok (.ifCond .ne 10, 3) := by decide +kernel
theorem dX9_odds_28 : decode cX9_odds 28 = .ok (.aload_n 0, 1) := by decide +kernel
theorem dX9_odds_29 : decode cX9_odds 29 = .ok (.ldc 45, 2) := by decide +kernel
theorem dX9_odds_31 : decode cX9_odds 31 = .ok (.invokevirtual 46, 3) := by decide +kernel
theorem dX9_odds_34 : decode cX9_odds 34 = .ok (.ireturn, 1) := by decide +kernel
theorem dX9_odds_35 : decode cX9_odds 35 = .ok (.aload_n 0, 1) := by decide +kernel
theorem dX9_odds_36 : decode cX9_odds 36 = .ok (.iload_n 1, 1) := by decide +kernel
theorem dX9_odds_37 : decode cX9_odds 37 = .ok (.iconst 5, 1) := by decide +kernel
theorem dX9_odds_38 : decode cX9_odds 38 = .ok (.invokevirtual 80, 3) := by decide +kernel
theorem dX9_odds_41 : decode cX9_odds 41 = .ok (.ifCond .eq 10, 3) := by decide +kernel
theorem dX9_odds_44 : decode cX9_odds 44 = .ok (.aload_n 0, 1) := by decide +kernel
theorem dX9_odds_45 : decode cX9_odds 45 = .ok (.ldc 50, 2) := by decide +kernel
theorem dX9_odds_47 : decode cX9_odds 47 = .ok (.invokevirtual 46, 3) := by decide +kernel
theorem dX9_odds_50 : decode cX9_odds 50 = .ok (.ireturn, 1) := by decide +kernel
theorem dX9_odds_51 : decode cX9_odds 51 = .ok (.iconst 0, 1) := by decide +kernel
theorem dX9_odds_52 : decode cX9_odds 52 = .ok (.istore 4, 2) := by decide +kernel
theorem dX9_odds_54 : decode cX9_odds 54 = .ok (.aload_n 0, 1) := by decide +kernel
theorem dX9_odds_55 : decode cX9_odds 55 = .ok (.getfield 7, 3) := by decide +kernel
theorem dX9_odds_58 : decode cX9_odds 58 = .ok (.iconst 1, 1) := by decide +kernel
theorem dX9_odds_59 : decode cX9_odds 59 = .ok (.iaload, 1) := by decide +kernel
theorem dX9_odds_60 : decode cX9_odds 60 = .ok (.istore 5, 2) := by decide +kernel
theorem dX9_odds_62 : decode cX9_odds 62 = .ok (.aload_n 0, 1) := by decide +kernel
theorem dX9_odds_63 : decode cX9_odds 63 = .ok (.aload_n 0, 1) := by decide +kernel
theorem dX9_odds_64 : decode cX9_odds 64 = .ok (.getfield 7, 3) := by decide +kernel
theorem dX9_odds_67 : decode cX9_odds 67 = .ok (.aload_n 0, 1) := by decide +kernel
theorem dX9_odds_68 : decode cX9_odds 68 = .ok (.getfield 16, 3) := by decide +kernel
theorem dX9_odds_71 : decode cX9_odds 71 = .ok (.invokevirtual 163, 3) := by decide +kernel
theorem dX9_odds_74 : decode cX9_odds 74 = .ok (.iconst 0, 1) := by decide +kernel
theorem dX9_odds_75 : decode cX9_odds 75 = .ok (.istore 6, 2) := by decide +kernel
theorem dX9_odds_77 : decode cX9_odds 77 = .ok (.iload 6, 2) := by decide +kernel
theorem dX9_odds_79 : decode cX9_odds 79 = .ok (.iload 5, 2) := by decide +kernel
theorem dX9_odds_81 : decode cX9_odds 81 = .ok (.if_icmp .ge 80, 3) := by decide +kernel
theorem dX9_odds_84 : decode cX9_odds 84 = .ok (.aload_n 0, 1) := by decide +kernel
theorem dX9_odds_85 : decode cX9_odds 85 = .ok (.getfield 7, 3) := by decide +kernel
theorem dX9_odds_88 : decode cX9_odds 88 = .ok (.iconst 0, 1) := by decide +kernel
theorem dX9_odds_89 : decode cX9_odds 89 = .ok (.dup2, 1) := by decide +kernel
theorem dX9_odds_90 : decode cX9_odds 90 = .ok (.iaload, 1) := by decide +kernel
theorem dX9_odds_91 : decode cX9_odds 91 = .ok (.iload 6, 2) := by decide +kernel
theorem dX9_odds_93 : decode cX9_odds 93 = .ok (.aload_n 0, 1) := by decide +kernel
theorem dX9_odds_94 : decode cX9_odds 94 = .ok (.getfield 7, 3) := by decide +kernel
theorem dX9_odds_97 : decode cX9_odds 97 = .ok (.iconst 0, 1) := by decide +kernel
theorem dX9_odds_98 : decode cX9_odds 98 = .ok (.iaload, 1) := by decide +kernel
theorem dX9_odds_99 : decode cX9_odds 99 = .ok (.iload 5, 2) := by decide +kernel
theorem dX9_odds_101 : decode cX9_odds 101 = .ok (.irem, 1) := by decide +kernel
theorem dX9_odds_102 : decode cX9_odds 102 = .ok (.isub, 1) := by decide +kernel
theorem dX9_odds_103 : decode cX9_odds 103 = .ok (.iadd, 1) := by decide +kernel
theorem dX9_odds_104 : decode cX9_odds 104 = .ok (.iastore, 1) := by decide +kernel
theorem dX9_odds_105 : decode cX9_odds 105 = .ok (.aload_n 0, 1) := by decide +kernel
theorem dX9_odds_106 : decode cX9_odds 106 = .ok (.getfield 7, 3) := by decide +kernel
theorem dX9_odds_109 : decode cX9_odds 109 = .ok (.bipush 12, 2) := by decide +kernel
theorem dX9_odds_111 : decode cX9_odds 111 = .ok (.dup2, 1) := by decide +kernel
theorem dX9_odds_112 : decode cX9_odds 112 = .ok (.iaload, 1) := by decide +kernel
theorem dX9_odds_113 : decode cX9_odds 113 = .ok (.iconst 1, 1) := by decide +kernel
theorem dX9_odds_114 : decode cX9_odds 114 = .ok (.iload_n 1, 1) := by decide +kernel
theorem dX9_odds_115 : decode cX9_odds 115 = .ok (.ishl, 1) := by decide +kernel
theorem dX9_odds_116 : decode cX9_odds 116 = .ok (.ior, 1) := by decide +kernel
theorem dX9_odds_117 : decode cX9_odds 117 = .ok (.iastore, 1) := by decide +kernel
theorem dX9_odds_118 : decode cX9_odds 118 = .ok (.aload_n 0, 1) := by decide +kernel
theorem dX9_odds_119 : decode cX9_odds 119 = .ok (.iload_n 2, 1) := by decide +kernel
theorem dX9_odds_120 : decode cX9_odds 120 = .ok (.invokevirtual 186, 3) := by decide +kernel
theorem dX9_odds_123 : decode cX9_odds 123 = .ok (.iload 4, 2) := by decide +kernel
theorem dX9_odds_125 : decode cX9_odds 125 = .ok (.aload_n 0, 1) := by decide +kernel
theorem dX9_odds_126 : decode cX9_odds 126 = .ok (.iload_n 1, 1) := by decide +kernel
theorem dX9_odds_127 : decode cX9_odds 127 = .ok (.iconst 5, 1) := by decide +kernel
theorem dX9_odds_128 : decode cX9_odds 128 = .ok (.invokevirtual 80, 3) := by decide +kernel
theorem dX9_odds_131 : decode cX9_odds 131 = .ok (.iconst 2, 1) := by decide +kernel
theorem dX9_odds_132 : decode cX9_odds 132 = .ok (.if_icmp .ne 7, 3) := by decide +kernel
theorem dX9_odds_135 : decode cX9_odds 135 = .ok (.iconst 1, 1) := by decide +kernel
theorem dX9_odds_136 : decode cX9_odds 136 = .ok (.goto 4, 3) := by decide +kernel
theorem dX9_odds_139 : decode cX9_odds 139 = .ok (.iconst 0, 1) := by decide +kernel
theorem dX9_odds_140 : decode cX9_odds 140 = .ok (.iadd, 1) := by decide +kernel
theorem dX9_odds_141 : decode cX9_odds 141 = .ok (.istore 4, 2) := by decide +kernel
theorem dX9_odds_143 : decode cX9_odds 143 = .ok (.aload_n 0, 1) := by decide +kernel
theorem dX9_odds_144 : decode cX9_odds 144 = .ok (.aload_n 0, 1) := by decide +kernel
theorem dX9_odds_145 : decode cX9_odds 145 = .ok (.getfield 16, 3) := by decide +kernel
theorem dX9_odds_148 : decode cX9_odds 148 = .ok (.aload_n 0, 1) := by decide +kernel
theorem dX9_odds_149 : decode cX9_odds 149 = .ok (.getfield 7, 3) := by decide +kernel
theorem dX9_odds_152 : decode cX9_odds 152 = .ok (.invokevirtual 163, 3) := by decide +kernel
theorem dX9_odds_155 : decode cX9_odds 155 = .ok (.iinc 6 1, 3) := by decide +kernel
theorem dX9_odds_158 : decode cX9_odds 158 = .ok (.goto (-81), 3) := by decide +kernel
theorem dX9_odds_161 : decode cX9_odds 161 = .ok (.iload 4, 2) := by decide +kernel
theorem dX9_odds_163 : decode cX9_odds 163 = .ok (.iload 5, 2) := by decide +kernel
theorem dX9_odds_165 : decode cX9_odds 165 = .ok (.invokestatic 209, 3) := by decide +kernel
theorem dX9_odds_168 : decode cX9_odds 168 = .ok (.istore 6, 2) := by decide +kernel
theorem dX9_odds_170 : decode cX9_odds 170 = .ok (.iload_n 3, 1) := by decide +kernel
theorem dX9_odds_171 : decode cX9_odds 171 = .ok (.ifCond .ne 11, 3) := by decide +kernel
theorem dX9_odds_174 : decode cX9_odds 174 = .ok (.iload 4, 2) := by decide +kernel
theorem dX9_odds_176 : decode cX9_odds 176 = .ok (.iload 6, 2) := by decide +kernel
theorem dX9_odds_178 : decode cX9_odds 178 = .ok (.idiv, 1) := by decide +kernel
theorem dX9_odds_179 : decode cX9_odds 179 = .ok (.goto 8, 3) := by decide +kernel
theorem dX9_odds_182 : decode cX9_odds 182 = .ok (.iload 5, 2) := by decide +kernel
theorem dX9_odds_184 : decode cX9_odds 184 = .ok (.iload 6, 2) := by decide +kernel
theorem dX9_odds_186 : decode cX9_odds 186 = .ok (.idiv, 1) := by decide +kernel
theorem dX9_odds_187 : decode cX9_odds 187 = .ok (.ireturn, 1) := by decide +kernel
theorem dX9_seed_0 : decode cX9_seed 0 = .ok (.aload_n 0, 1) := by decide +kernel
theorem dX9_seed_1 : decode cX9_seed 1 = .ok (.getfield 7, 3) := by decide +kernel
theorem dX9_seed_4 : decode cX9_seed 4 = .ok (.iconst 2, 1) := by decide +kernel
theorem dX9_seed_5 : decode cX9_seed 5 = .ok (.iaload, 1) := by decide +kernel
theorem dX9_seed_6 : decode cX9_seed 6 = .ok (.istore_n 2, 1) := by decide +kernel
theorem dX9_seed_7 : decode cX9_seed 7 = .ok (.aload_n 0, 1) := by decide +kernel
theorem dX9_seed_8 : decode cX9_seed 8 = .ok (.getfield 7, 3) := by decide +kernel
theorem dX9_seed_11 : decode cX9_seed 11 = .ok (.iconst 2, 1) := by decide +kernel
theorem dX9_seed_12 : decode cX9_seed 12 = .ok (.iload_n 1, 1) := by decide +kernel
theorem dX9_seed_13 : decode cX9_seed 13 = .ok (.iastore, 1) := by decide +kernel
theorem dX9_seed_14 : decode cX9_seed 14 = .ok (.iload_n 2, 1) := by decide +kernel
theorem dX9_seed_15 : decode cX9_seed 15 = .ok (.ireturn, 1) := by decide +kernel
theorem dX9_ran_0 : decode cX9_ran 0 = .ok (.aload_n 0, 1) := by decide +kernel
theorem dX9_ran_1 : decode cX9_ran 1 = .ok (.getfield 212, 3) := by decide +kernel
theorem dX9_ran_4 : decode cX9_ran 4 = .ok (.bipush 40, 2) := by decide +kernel
theorem dX9_ran_6 : decode cX9_ran 6 = .ok (.if_icmp .ge 23, 3) := by decide +kernel
theorem dX9_ran_9 : decode cX9_ran 9 = .ok (.aload_n 0, 1) := by decide +kernel
theorem dX9_ran_10 : decode cX9_ran 10 = .ok (.getfield 37, 3) := by decide +kernel
theorem dX9_ran_13 : decode cX9_ran 13 = .ok (.aload_n 0, 1) := by decide +kernel
theorem dX9_ran_14 : decode cX9_ran 14 = .ok (.getfield 212, 3) := by decide +kernel
theorem dX9_ran_17 : decode cX9_ran 17 = .ok (.iload_n 1, 1) := by decide +kernel
theorem dX9_ran_18 : decode cX9_ran 18 = .ok (.iastore, 1) := by decide +kernel
theorem dX9_ran_19 : decode cX9_ran 19 = .ok (.aload_n 0, 1) := by decide +kernel
theorem dX9_ran_20 : decode cX9_ran 20 = .ok (.dup, 1) := by decide +kernel
theorem dX9_ran_21 : decode cX9_ran 21 = .ok (.getfield 212, 3) := by decide +kernel
theorem dX9_ran_24 : decode cX9_ran 24 = .ok (.iconst 1, 1) := by decide +kernel
theorem dX9_ran_25 : decode cX9_ran 25 = .ok (.iadd, 1) := by decide +kernel
theorem dX9_ran_26 : decode cX9_ran 26 = .ok (.putfield 212, 3) := by decide +kernel
theorem dX9_ran_29 : decode cX9_ran 29 = .ok (.return_, 1) := by decide +kernel
theorem dX9_countsIn_0 : decode cX9_countsIn 0 = .ok (.iload_n 1, 1) := by decide +kernel
theorem dX9_countsIn_1 : decode cX9_countsIn 1 = .ok (.ifCond .ne 16, 3) := by decide +kernel
theorem dX9_countsIn_4 : decode cX9_countsIn 4 = .ok (.aload_n 0, 1) := by decide +kernel
theorem dX9_countsIn_5 : decode cX9_countsIn 5 = .ok (.bipush 10, 2) := by decide +kernel
theorem dX9_countsIn_7 : decode cX9_countsIn 7 = .ok (.invokevirtual 215, 3) := by decide +kernel
theorem dX9_countsIn_10 : decode cX9_countsIn 10 = .ok (.iload_n 2, 1) := by decide +kernel
theorem dX9_countsIn_11 : decode cX9_countsIn 11 = .ok (.aload_n 0, 1) := by decide +kernel
theorem dX9_countsIn_12 : decode cX9_countsIn 12 = .ok (.getfield 218, 3) := by decide +kernel
theorem dX9_countsIn_15 : decode cX9_countsIn 15 = .ok (.iadd, 1) := by decide +kernel
theorem dX9_countsIn_16 : decode cX9_countsIn 16 = .ok (.ireturn, 1) := by decide +kernel
theorem dX9_countsIn_17 : decode cX9_countsIn 17 = .ok (.iload_n 1, 1) := by decide +kernel
theorem dX9_countsIn_18 : decode cX9_countsIn 18 = .ok (.iconst 1, 1) := by decide +kernel
theorem dX9_countsIn_19 : decode cX9_countsIn 19 = .ok (.if_icmp .ne 18, 3) := by decide +kernel
theorem dX9_countsIn_22 : decode cX9_countsIn 22 = .ok (.aload_n 0, 1) := by decide +kernel
theorem dX9_countsIn_23 : decode cX9_countsIn 23 = .ok (.bipush 20, 2) := by decide +kernel
theorem dX9_countsIn_25 : decode cX9_countsIn 25 = .ok (.invokevirtual 215, 3) := by decide +kernel
theorem dX9_countsIn_28 : decode cX9_countsIn 28 = .ok (.aload_n 0, 1) := by decide +kernel
theorem dX9_countsIn_29 : decode cX9_countsIn 29 = .ok (.iconst 0, 1) := by decide +kernel
theorem dX9_countsIn_30 : decode cX9_countsIn 30 = .ok (.iload_n 2, 1) := by decide +kernel
theorem dX9_countsIn_31 : decode cX9_countsIn 31 = .ok (.invokevirtual 221, 3) := by decide +kernel
theorem dX9_countsIn_34 : decode cX9_countsIn 34 = .ok (.iconst 3, 1) := by decide +kernel
theorem dX9_countsIn_35 : decode cX9_countsIn 35 = .ok (.imul, 1) := by decide +kernel
theorem dX9_countsIn_36 : decode cX9_countsIn 36 = .ok (.ireturn, 1) := by decide +kernel
theorem dX9_countsIn_37 : decode cX9_countsIn 37 = .ok (.aload_n 0, 1) := by decide +kernel
theorem dX9_countsIn_38 : decode cX9_countsIn 38 = .ok (.iload_n 1, 1) := by decide +kernel
theorem dX9_countsIn_39 : decode cX9_countsIn 39 = .ok (.invokestatic 83, 3) := by decide +kernel
theorem dX9_countsIn_42 : decode cX9_countsIn 42 = .ok (.iload_n 2, 1) := by decide +kernel
theorem dX9_countsIn_43 : decode cX9_countsIn 43 = .ok (.invokevirtual 221, 3) := by decide +kernel
theorem dX9_countsIn_46 : decode cX9_countsIn 46 = .ok (.ireturn, 1) := by decide +kernel
theorem dX9_tripsIn_0 : decode cX9_tripsIn 0 = .ok (.iload_n 1, 1) := by decide +kernel
theorem dX9_tripsIn_1 : decode cX9_tripsIn 1 = .ok (.ifCond .ne 16, 3) := by decide +kernel
theorem dX9_tripsIn_4 : decode cX9_tripsIn 4 = .ok (.aload_n 0, 1) := by decide +kernel
theorem dX9_tripsIn_5 : decode cX9_tripsIn 5 = .ok (.bipush 12, 2) := by decide +kernel
theorem dX9_tripsIn_7 : decode cX9_tripsIn 7 = .ok (.invokevirtual 215, 3) := by decide +kernel
theorem dX9_tripsIn_10 : decode cX9_tripsIn 10 = .ok (.iload_n 2, 1) := by decide +kernel
theorem dX9_tripsIn_11 : decode cX9_tripsIn 11 = .ok (.aload_n 0, 1) := by decide +kernel
theorem dX9_tripsIn_12 : decode cX9_tripsIn 12 = .ok (.getfield 224, 3) := by decide +kernel
theorem dX9_tripsIn_15 : decode cX9_tripsIn 15 = .ok (.isub, 1) := by decide +kernel
theorem dX9_tripsIn_16 : decode cX9_tripsIn 16 = .ok (.ireturn, 1) := by decide +kernel
theorem dX9_tripsIn_17 : decode cX9_tripsIn 17 = .ok (.iload_n 1, 1) := by decide +kernel
theorem dX9_tripsIn_18 : decode cX9_tripsIn 18 = .ok (.iconst 3, 1) := by decide +kernel
theorem dX9_tripsIn_19 : decode cX9_tripsIn 19 = .ok (.if_icmp .ne 17, 3) := by decide +kernel
theorem dX9_tripsIn_22 : decode cX9_tripsIn 22 = .ok (.aload_n 0, 1) := by decide +kernel
theorem dX9_tripsIn_23 : decode cX9_tripsIn 23 = .ok (.bipush 40, 2) := by decide +kernel
theorem dX9_tripsIn_25 : decode cX9_tripsIn 25 = .ok (.invokevirtual 215, 3) := by decide +kernel
theorem dX9_tripsIn_28 : decode cX9_tripsIn 28 = .ok (.aload_n 0, 1) := by decide +kernel
theorem dX9_tripsIn_29 : decode cX9_tripsIn 29 = .ok (.iconst 0, 1) := by decide +kernel
theorem dX9_tripsIn_30 : decode cX9_tripsIn 30 = .ok (.iload_n 2, 1) := by decide +kernel
theorem dX9_tripsIn_31 : decode cX9_tripsIn 31 = .ok (.invokevirtual 227, 3) := by decide +kernel
theorem dX9_tripsIn_34 : decode cX9_tripsIn 34 = .ok (.ineg, 1) := by decide +kernel
theorem dX9_tripsIn_35 : decode cX9_tripsIn 35 = .ok (.ireturn, 1) := by decide +kernel
theorem dX9_tripsIn_36 : decode cX9_tripsIn 36 = .ok (.iload_n 1, 1) := by decide +kernel
theorem dX9_tripsIn_37 : decode cX9_tripsIn 37 = .ok (.bipush 6, 2) := by decide +kernel
theorem dX9_tripsIn_39 : decode cX9_tripsIn 39 = .ok (.if_icmp .ne 21, 3) := by decide +kernel
theorem dX9_tripsIn_42 : decode cX9_tripsIn 42 = .ok (.aload_n 0, 1) := by decide +kernel
theorem dX9_tripsIn_43 : decode cX9_tripsIn 43 = .ok (.bipush 70, 2) := by decide +kernel
theorem dX9_tripsIn_45 : decode cX9_tripsIn 45 = .ok (.invokevirtual 215, 3) := by decide +kernel
theorem dX9_tripsIn_48 : decode cX9_tripsIn 48 = .ok (.aload_n 0, 1) := by decide +kernel
theorem dX9_tripsIn_49 : decode cX9_tripsIn 49 = .ok (.iconst 3, 1) := by decide +kernel
theorem dX9_tripsIn_50 : decode cX9_tripsIn 50 = .ok (.iload_n 2, 1) := by decide +kernel
theorem dX9_tripsIn_51 : decode cX9_tripsIn 51 = .ok (.invokevirtual 227, 3) := by decide +kernel
theorem dX9_tripsIn_54 : decode cX9_tripsIn 54 = .ok (.aload_n 0, 1) := by decide +kernel
theorem dX9_tripsIn_55 : decode cX9_tripsIn 55 = .ok (.getfield 218, 3) := by decide +kernel
theorem dX9_tripsIn_58 : decode cX9_tripsIn 58 = .ok (.ixor, 1) := by decide +kernel
theorem dX9_tripsIn_59 : decode cX9_tripsIn 59 = .ok (.ireturn, 1) := by decide +kernel
theorem dX9_tripsIn_60 : decode cX9_tripsIn 60 = .ok (.aload_n 0, 1) := by decide +kernel
theorem dX9_tripsIn_61 : decode cX9_tripsIn 61 = .ok (.iload_n 1, 1) := by decide +kernel
theorem dX9_tripsIn_62 : decode cX9_tripsIn 62 = .ok (.invokestatic 83, 3) := by decide +kernel
theorem dX9_tripsIn_65 : decode cX9_tripsIn 65 = .ok (.iload_n 2, 1) := by decide +kernel
theorem dX9_tripsIn_66 : decode cX9_tripsIn 66 = .ok (.invokevirtual 227, 3) := by decide +kernel
theorem dX9_tripsIn_69 : decode cX9_tripsIn 69 = .ok (.ireturn, 1) := by decide +kernel
theorem dX9_jumpsIn_0 : decode cX9_jumpsIn 0 = .ok (.iload_n 1, 1) := by decide +kernel
theorem dX9_jumpsIn_1 : decode cX9_jumpsIn 1 = .ok (.ifCond .ne 21, 3) := by decide +kernel
theorem dX9_jumpsIn_4 : decode cX9_jumpsIn 4 = .ok (.aload_n 0, 1) := by decide +kernel
theorem dX9_jumpsIn_5 : decode cX9_jumpsIn 5 = .ok (.bipush 11, 2) := by decide +kernel
theorem dX9_jumpsIn_7 : decode cX9_jumpsIn 7 = .ok (.invokevirtual 215, 3) := by decide +kernel
theorem dX9_jumpsIn_10 : decode cX9_jumpsIn 10 = .ok (.aload_n 0, 1) := by decide +kernel
theorem dX9_jumpsIn_11 : decode cX9_jumpsIn 11 = .ok (.aload_n 0, 1) := by decide +kernel
theorem dX9_jumpsIn_12 : decode cX9_jumpsIn 12 = .ok (.getfield 230, 3) := by decide +kernel
theorem dX9_jumpsIn_15 : decode cX9_jumpsIn 15 = .ok (.iload_n 2, 1) := by decide +kernel
theorem dX9_jumpsIn_16 : decode cX9_jumpsIn 16 = .ok (.invokevirtual 221, 3) := by decide +kernel
theorem dX9_jumpsIn_19 : decode cX9_jumpsIn 19 = .ok (.iconst 2, 1) := by decide +kernel
theorem dX9_jumpsIn_20 : decode cX9_jumpsIn 20 = .ok (.imul, 1) := by decide +kernel
theorem dX9_jumpsIn_21 : decode cX9_jumpsIn 21 = .ok (.ireturn, 1) := by decide +kernel
theorem dX9_jumpsIn_22 : decode cX9_jumpsIn 22 = .ok (.iload_n 1, 1) := by decide +kernel
theorem dX9_jumpsIn_23 : decode cX9_jumpsIn 23 = .ok (.iconst 2, 1) := by decide +kernel
theorem dX9_jumpsIn_24 : decode cX9_jumpsIn 24 = .ok (.if_icmp .ne 28, 3) := by decide +kernel
theorem dX9_jumpsIn_27 : decode cX9_jumpsIn 27 = .ok (.aload_n 0, 1) := by decide +kernel
theorem dX9_jumpsIn_28 : decode cX9_jumpsIn 28 = .ok (.bipush 30, 2) := by decide +kernel
theorem dX9_jumpsIn_30 : decode cX9_jumpsIn 30 = .ok (.invokevirtual 215, 3) := by decide +kernel
theorem dX9_jumpsIn_33 : decode cX9_jumpsIn 33 = .ok (.aload_n 0, 1) := by decide +kernel
theorem dX9_jumpsIn_34 : decode cX9_jumpsIn 34 = .ok (.iconst 0, 1) := by decide +kernel
theorem dX9_jumpsIn_35 : decode cX9_jumpsIn 35 = .ok (.iload_n 2, 1) := by decide +kernel
theorem dX9_jumpsIn_36 : decode cX9_jumpsIn 36 = .ok (.invokevirtual 233, 3) := by decide +kernel
theorem dX9_jumpsIn_39 : decode cX9_jumpsIn 39 = .ok (.istore_n 3, 1) := by decide +kernel
theorem dX9_jumpsIn_40 : decode cX9_jumpsIn 40 = .ok (.iload_n 3, 1) := by decide +kernel
theorem dX9_jumpsIn_41 : decode cX9_jumpsIn 41 = .ok (.aload_n 0, 1) := by decide +kernel
theorem dX9_jumpsIn_42 : decode cX9_jumpsIn 42 = .ok (.aload_n 0, 1) := by decide +kernel
theorem dX9_jumpsIn_43 : decode cX9_jumpsIn 43 = .ok (.getfield 230, 3) := by decide +kernel
theorem dX9_jumpsIn_46 : decode cX9_jumpsIn 46 = .ok (.iconst 1, 1) := by decide +kernel
theorem dX9_jumpsIn_47 : decode cX9_jumpsIn 47 = .ok (.invokevirtual 227, 3) := by decide +kernel
theorem dX9_jumpsIn_50 : decode cX9_jumpsIn 50 = .ok (.isub, 1) := by decide +kernel
theorem dX9_jumpsIn_51 : decode cX9_jumpsIn 51 = .ok (.ireturn, 1) := by decide +kernel
theorem dX9_jumpsIn_52 : decode cX9_jumpsIn 52 = .ok (.iload_n 1, 1) := by decide +kernel
theorem dX9_jumpsIn_53 : decode cX9_jumpsIn 53 = .ok (.iconst 5, 1) := by decide +kernel
theorem dX9_jumpsIn_54 : decode cX9_jumpsIn 54 = .ok (.if_icmp .ne 18, 3) := by decide +kernel
theorem dX9_jumpsIn_57 : decode cX9_jumpsIn 57 = .ok (.aload_n 0, 1) := by decide +kernel
theorem dX9_jumpsIn_58 : decode cX9_jumpsIn 58 = .ok (.bipush 60, 2) := by decide +kernel
theorem dX9_jumpsIn_60 : decode cX9_jumpsIn 60 = .ok (.invokevirtual 215, 3) := by decide +kernel
theorem dX9_jumpsIn_63 : decode cX9_jumpsIn 63 = .ok (.aload_n 0, 1) := by decide +kernel
theorem dX9_jumpsIn_64 : decode cX9_jumpsIn 64 = .ok (.iconst 2, 1) := by decide +kernel
theorem dX9_jumpsIn_65 : decode cX9_jumpsIn 65 = .ok (.iload_n 2, 1) := by decide +kernel
theorem dX9_jumpsIn_66 : decode cX9_jumpsIn 66 = .ok (.iconst 1, 1) := by decide +kernel
theorem dX9_jumpsIn_67 : decode cX9_jumpsIn 67 = .ok (.iadd, 1) := by decide +kernel
theorem dX9_jumpsIn_68 : decode cX9_jumpsIn 68 = .ok (.invokevirtual 233, 3) := by decide +kernel
theorem dX9_jumpsIn_71 : decode cX9_jumpsIn 71 = .ok (.ireturn, 1) := by decide +kernel
theorem dX9_jumpsIn_72 : decode cX9_jumpsIn 72 = .ok (.aload_n 0, 1) := by decide +kernel
theorem dX9_jumpsIn_73 : decode cX9_jumpsIn 73 = .ok (.iload_n 1, 1) := by decide +kernel
theorem dX9_jumpsIn_74 : decode cX9_jumpsIn 74 = .ok (.invokestatic 83, 3) := by decide +kernel
theorem dX9_jumpsIn_77 : decode cX9_jumpsIn 77 = .ok (.iload_n 2, 1) := by decide +kernel
theorem dX9_jumpsIn_78 : decode cX9_jumpsIn 78 = .ok (.invokevirtual 233, 3) := by decide +kernel
theorem dX9_jumpsIn_81 : decode cX9_jumpsIn 81 = .ok (.ireturn, 1) := by decide +kernel
theorem dX9_runsIn_0 : decode cX9_runsIn 0 = .ok (.iload_n 1, 1) := by decide +kernel
theorem dX9_runsIn_1 : decode cX9_runsIn 1 = .ok (.ifCond .ne 31, 3) := by decide +kernel
theorem dX9_runsIn_4 : decode cX9_runsIn 4 = .ok (.aload_n 0, 1) := by decide +kernel
theorem dX9_runsIn_5 : decode cX9_runsIn 5 = .ok (.bipush 13, 2) := by decide +kernel
theorem dX9_runsIn_7 : decode cX9_runsIn 7 = .ok (.invokevirtual 215, 3) := by decide +kernel
theorem dX9_runsIn_10 : decode cX9_runsIn 10 = .ok (.aload_n 0, 1) := by decide +kernel
theorem dX9_runsIn_11 : decode cX9_runsIn 11 = .ok (.aload_n 0, 1) := by decide +kernel
theorem dX9_runsIn_12 : decode cX9_runsIn 12 = .ok (.getfield 230, 3) := by decide +kernel
theorem dX9_runsIn_15 : decode cX9_runsIn 15 = .ok (.iload_n 2, 1) := by decide +kernel
theorem dX9_runsIn_16 : decode cX9_runsIn 16 = .ok (.invokevirtual 233, 3) := by decide +kernel
theorem dX9_runsIn_19 : decode cX9_runsIn 19 = .ok (.istore_n 3, 1) := by decide +kernel
theorem dX9_runsIn_20 : decode cX9_runsIn 20 = .ok (.iload_n 3, 1) := by decide +kernel
theorem dX9_runsIn_21 : decode cX9_runsIn 21 = .ok (.aload_n 0, 1) := by decide +kernel
theorem dX9_runsIn_22 : decode cX9_runsIn 22 = .ok (.aload_n 0, 1) := by decide +kernel
theorem dX9_runsIn_23 : decode cX9_runsIn 23 = .ok (.getfield 230, 3) := by decide +kernel
theorem dX9_runsIn_26 : decode cX9_runsIn 26 = .ok (.iload_n 2, 1) := by decide +kernel
theorem dX9_runsIn_27 : decode cX9_runsIn 27 = .ok (.invokevirtual 227, 3) := by decide +kernel
theorem dX9_runsIn_30 : decode cX9_runsIn 30 = .ok (.ixor, 1) := by decide +kernel
theorem dX9_runsIn_31 : decode cX9_runsIn 31 = .ok (.ireturn, 1) := by decide +kernel
theorem dX9_runsIn_32 : decode cX9_runsIn 32 = .ok (.iload_n 1, 1) := by decide +kernel
theorem dX9_runsIn_33 : decode cX9_runsIn 33 = .ok (.iconst 4, 1) := by decide +kernel
theorem dX9_runsIn_34 : decode cX9_runsIn 34 = .ok (.if_icmp .ne 28, 3) := by decide +kernel
theorem dX9_runsIn_37 : decode cX9_runsIn 37 = .ok (.aload_n 0, 1) := by decide +kernel
theorem dX9_runsIn_38 : decode cX9_runsIn 38 = .ok (.bipush 50, 2) := by decide +kernel
theorem dX9_runsIn_40 : decode cX9_runsIn 40 = .ok (.invokevirtual 215, 3) := by decide +kernel
theorem dX9_runsIn_43 : decode cX9_runsIn 43 = .ok (.aload_n 0, 1) := by decide +kernel
theorem dX9_runsIn_44 : decode cX9_runsIn 44 = .ok (.iconst 1, 1) := by decide +kernel
theorem dX9_runsIn_45 : decode cX9_runsIn 45 = .ok (.iload_n 2, 1) := by decide +kernel
theorem dX9_runsIn_46 : decode cX9_runsIn 46 = .ok (.invokevirtual 236, 3) := by decide +kernel
theorem dX9_runsIn_49 : decode cX9_runsIn 49 = .ok (.istore_n 3, 1) := by decide +kernel
theorem dX9_runsIn_50 : decode cX9_runsIn 50 = .ok (.iload_n 3, 1) := by decide +kernel
theorem dX9_runsIn_51 : decode cX9_runsIn 51 = .ok (.aload_n 0, 1) := by decide +kernel
theorem dX9_runsIn_52 : decode cX9_runsIn 52 = .ok (.aload_n 0, 1) := by decide +kernel
theorem dX9_runsIn_53 : decode cX9_runsIn 53 = .ok (.getfield 230, 3) := by decide +kernel
theorem dX9_runsIn_56 : decode cX9_runsIn 56 = .ok (.iconst 2, 1) := by decide +kernel
theorem dX9_runsIn_57 : decode cX9_runsIn 57 = .ok (.invokevirtual 221, 3) := by decide +kernel
theorem dX9_runsIn_60 : decode cX9_runsIn 60 = .ok (.isub, 1) := by decide +kernel
theorem dX9_runsIn_61 : decode cX9_runsIn 61 = .ok (.ireturn, 1) := by decide +kernel
theorem dX9_runsIn_62 : decode cX9_runsIn 62 = .ok (.iload_n 1, 1) := by decide +kernel
theorem dX9_runsIn_63 : decode cX9_runsIn 63 = .ok (.bipush 6, 2) := by decide +kernel
theorem dX9_runsIn_65 : decode cX9_runsIn 65 = .ok (.if_icmp .ne 28, 3) := by decide +kernel
theorem dX9_runsIn_68 : decode cX9_runsIn 68 = .ok (.aload_n 0, 1) := by decide +kernel
theorem dX9_runsIn_69 : decode cX9_runsIn 69 = .ok (.bipush 71, 2) := by decide +kernel
theorem dX9_runsIn_71 : decode cX9_runsIn 71 = .ok (.invokevirtual 215, 3) := by decide +kernel
theorem dX9_runsIn_74 : decode cX9_runsIn 74 = .ok (.aload_n 0, 1) := by decide +kernel
theorem dX9_runsIn_75 : decode cX9_runsIn 75 = .ok (.aload_n 0, 1) := by decide +kernel
theorem dX9_runsIn_76 : decode cX9_runsIn 76 = .ok (.getfield 230, 3) := by decide +kernel
theorem dX9_runsIn_79 : decode cX9_runsIn 79 = .ok (.iload_n 2, 1) := by decide +kernel
theorem dX9_runsIn_80 : decode cX9_runsIn 80 = .ok (.invokevirtual 233, 3) := by decide +kernel
theorem dX9_runsIn_83 : decode cX9_runsIn 83 = .ok (.istore_n 3, 1) := by decide +kernel
theorem dX9_runsIn_84 : decode cX9_runsIn 84 = .ok (.iload_n 3, 1) := by decide +kernel
theorem dX9_runsIn_85 : decode cX9_runsIn 85 = .ok (.aload_n 0, 1) := by decide +kernel
theorem dX9_runsIn_86 : decode cX9_runsIn 86 = .ok (.iconst 3, 1) := by decide +kernel
theorem dX9_runsIn_87 : decode cX9_runsIn 87 = .ok (.iload_n 2, 1) := by decide +kernel
theorem dX9_runsIn_88 : decode cX9_runsIn 88 = .ok (.invokevirtual 236, 3) := by decide +kernel
theorem dX9_runsIn_91 : decode cX9_runsIn 91 = .ok (.isub, 1) := by decide +kernel
theorem dX9_runsIn_92 : decode cX9_runsIn 92 = .ok (.ireturn, 1) := by decide +kernel
theorem dX9_runsIn_93 : decode cX9_runsIn 93 = .ok (.aload_n 0, 1) := by decide +kernel
theorem dX9_runsIn_94 : decode cX9_runsIn 94 = .ok (.iload_n 1, 1) := by decide +kernel
theorem dX9_runsIn_95 : decode cX9_runsIn 95 = .ok (.invokestatic 83, 3) := by decide +kernel
theorem dX9_runsIn_98 : decode cX9_runsIn 98 = .ok (.iload_n 2, 1) := by decide +kernel
theorem dX9_runsIn_99 : decode cX9_runsIn 99 = .ok (.invokevirtual 236, 3) := by decide +kernel
theorem dX9_runsIn_102 : decode cX9_runsIn 102 = .ok (.ireturn, 1) := by decide +kernel
theorem dX9_voice_0 : decode cX9_voice 0 = .ok (.aload_n 0, 1) := by decide +kernel
theorem dX9_voice_1 : decode cX9_voice 1 = .ok (.iload_n 1, 1) := by decide +kernel
theorem dX9_voice_2 : decode cX9_voice 2 = .ok (.invokevirtual 67, 3) := by decide +kernel
theorem dX9_voice_5 : decode cX9_voice 5 = .ok (.ifCond .eq 12, 3) := by decide +kernel
theorem dX9_voice_8 : decode cX9_voice 8 = .ok (.iload_n 2, 1) := by decide +kernel
theorem dX9_voice_9 : decode cX9_voice 9 = .ok (.iconst 0, 1) := by decide +kernel
theorem dX9_voice_10 : decode cX9_voice 10 = .ok (.iconst 3, 1) := by decide +kernel
theorem dX9_voice_11 : decode cX9_voice 11 = .ok (.invokestatic 41, 3) := by decide +kernel
theorem dX9_voice_14 : decode cX9_voice 14 = .ok (.ifCond .ne 10, 3) := by decide +kernel
theorem dX9_voice_17 : decode cX9_voice 17 = .ok (.aload_n 0, 1) := by decide +kernel
theorem dX9_voice_18 : decode cX9_voice 18 = .ok (.ldc 45, 2) := by decide +kernel
theorem dX9_voice_20 : decode cX9_voice 20 = .ok (.invokevirtual 46, 3) := by decide +kernel
theorem dX9_voice_23 : decode cX9_voice 23 = .ok (.ireturn, 1) := by decide +kernel
theorem dX9_voice_24 : decode cX9_voice 24 = .ok (.aload_n 0, 1) := by decide +kernel
theorem dX9_voice_25 : decode cX9_voice 25 = .ok (.iconst 0, 1) := by decide +kernel
theorem dX9_voice_26 : decode cX9_voice 26 = .ok (.putfield 212, 3) := by decide +kernel
theorem dX9_voice_29 : decode cX9_voice 29 = .ok (.aload_n 0, 1) := by decide +kernel
theorem dX9_voice_30 : decode cX9_voice 30 = .ok (.aload_n 0, 1) := by decide +kernel
theorem dX9_voice_31 : decode cX9_voice 31 = .ok (.iload_n 1, 1) := by decide +kernel
theorem dX9_voice_32 : decode cX9_voice 32 = .ok (.iconst 0, 1) := by decide +kernel
theorem dX9_voice_33 : decode cX9_voice 33 = .ok (.invokevirtual 80, 3) := by decide +kernel
theorem dX9_voice_36 : decode cX9_voice 36 = .ok (.putfield 230, 3) := by decide +kernel
theorem dX9_voice_39 : decode cX9_voice 39 = .ok (.aload_n 0, 1) := by decide +kernel
theorem dX9_voice_40 : decode cX9_voice 40 = .ok (.iload_n 1, 1) := by decide +kernel
theorem dX9_voice_41 : decode cX9_voice 41 = .ok (.putfield 218, 3) := by decide +kernel
theorem dX9_voice_44 : decode cX9_voice 44 = .ok (.aload_n 0, 1) := by decide +kernel
theorem dX9_voice_45 : decode cX9_voice 45 = .ok (.aload_n 0, 1) := by decide +kernel
theorem dX9_voice_46 : decode cX9_voice 46 = .ok (.iload_n 1, 1) := by decide +kernel
theorem dX9_voice_47 : decode cX9_voice 47 = .ok (.iconst 1, 1) := by decide +kernel
theorem dX9_voice_48 : decode cX9_voice 48 = .ok (.invokevirtual 80, 3) := by decide +kernel
theorem dX9_voice_51 : decode cX9_voice 51 = .ok (.putfield 224, 3) := by decide +kernel
theorem dX9_voice_54 : decode cX9_voice 54 = .ok (.iload_n 2, 1) := by decide +kernel
theorem dX9_voice_55 : decode cX9_voice 55 = .ok (.tableswitch 55 0 2 #[25, 35, 45], 25) := by decide +kernel
theorem dX9_voice_80 : decode cX9_voice 80 = .ok (.aload_n 0, 1) := by decide +kernel
theorem dX9_voice_81 : decode cX9_voice 81 = .ok (.aload_n 0, 1) := by decide +kernel
theorem dX9_voice_82 : decode cX9_voice 82 = .ok (.getfield 230, 3) := by decide +kernel
theorem dX9_voice_85 : decode cX9_voice 85 = .ok (.iload_n 3, 1) := by decide +kernel
theorem dX9_voice_86 : decode cX9_voice 86 = .ok (.invokevirtual 221, 3) := by decide +kernel
theorem dX9_voice_89 : decode cX9_voice 89 = .ok (.ireturn, 1) := by decide +kernel
theorem dX9_voice_90 : decode cX9_voice 90 = .ok (.aload_n 0, 1) := by decide +kernel
theorem dX9_voice_91 : decode cX9_voice 91 = .ok (.aload_n 0, 1) := by decide +kernel
theorem dX9_voice_92 : decode cX9_voice 92 = .ok (.getfield 230, 3) := by decide +kernel
theorem dX9_voice_95 : decode cX9_voice 95 = .ok (.iload_n 3, 1) := by decide +kernel
theorem dX9_voice_96 : decode cX9_voice 96 = .ok (.invokevirtual 233, 3) := by decide +kernel
theorem dX9_voice_99 : decode cX9_voice 99 = .ok (.ireturn, 1) := by decide +kernel
theorem dX9_voice_100 : decode cX9_voice 100 = .ok (.aload_n 0, 1) := by decide +kernel
theorem dX9_voice_101 : decode cX9_voice 101 = .ok (.aload_n 0, 1) := by decide +kernel
theorem dX9_voice_102 : decode cX9_voice 102 = .ok (.getfield 230, 3) := by decide +kernel
theorem dX9_voice_105 : decode cX9_voice 105 = .ok (.iload_n 3, 1) := by decide +kernel
theorem dX9_voice_106 : decode cX9_voice 106 = .ok (.invokevirtual 227, 3) := by decide +kernel
theorem dX9_voice_109 : decode cX9_voice 109 = .ok (.ireturn, 1) := by decide +kernel
theorem dX9_voice_110 : decode cX9_voice 110 = .ok (.aload_n 0, 1) := by decide +kernel
theorem dX9_voice_111 : decode cX9_voice 111 = .ok (.aload_n 0, 1) := by decide +kernel
theorem dX9_voice_112 : decode cX9_voice 112 = .ok (.getfield 230, 3) := by decide +kernel
theorem dX9_voice_115 : decode cX9_voice 115 = .ok (.iload_n 3, 1) := by decide +kernel
theorem dX9_voice_116 : decode cX9_voice 116 = .ok (.invokevirtual 236, 3) := by decide +kernel
theorem dX9_voice_119 : decode cX9_voice 119 = .ok (.ireturn, 1) := by decide +kernel
theorem dX9_trace_0 : decode cX9_trace 0 = .ok (.iload_n 1, 1) := by decide +kernel
theorem dX9_trace_1 : decode cX9_trace 1 = .ok (.iconst 0, 1) := by decide +kernel
theorem dX9_trace_2 : decode cX9_trace 2 = .ok (.aload_n 0, 1) := by decide +kernel
theorem dX9_trace_3 : decode cX9_trace 3 = .ok (.getfield 212, 3) := by decide +kernel
theorem dX9_trace_6 : decode cX9_trace 6 = .ok (.iconst 1, 1) := by decide +kernel
theorem dX9_trace_7 : decode cX9_trace 7 = .ok (.isub, 1) := by decide +kernel
theorem dX9_trace_8 : decode cX9_trace 8 = .ok (.invokestatic 41, 3) := by decide +kernel
theorem dX9_trace_11 : decode cX9_trace 11 = .ok (.ifCond .eq 12, 3) := by decide +kernel
theorem dX9_trace_14 : decode cX9_trace 14 = .ok (.aload_n 0, 1) := by decide +kernel
theorem dX9_trace_15 : decode cX9_trace 15 = .ok (.getfield 37, 3) := by decide +kernel
theorem dX9_trace_18 : decode cX9_trace 18 = .ok (.iload_n 1, 1) := by decide +kernel
theorem dX9_trace_19 : decode cX9_trace 19 = .ok (.iaload, 1) := by decide +kernel
theorem dX9_trace_20 : decode cX9_trace 20 = .ok (.goto 9, 3) := by decide +kernel
theorem dX9_trace_23 : decode cX9_trace 23 = .ok (.aload_n 0, 1) := by decide +kernel
theorem dX9_trace_24 : decode cX9_trace 24 = .ok (.ldc 199, 2) := by decide +kernel
theorem dX9_trace_26 : decode cX9_trace 26 = .ok (.invokevirtual 46, 3) := by decide +kernel
theorem dX9_trace_29 : decode cX9_trace 29 = .ok (.ireturn, 1) := by decide +kernel
theorem dX9_narrow_0 : decode cX9_narrow 0 = .ok (.iload_n 0, 1) := by decide +kernel
theorem dX9_narrow_1 : decode cX9_narrow 1 = .ok (.bipush 8, 2) := by decide +kernel
theorem dX9_narrow_3 : decode cX9_narrow 3 = .ok (.if_icmp .ne 8, 3) := by decide +kernel
theorem dX9_narrow_6 : decode cX9_narrow 6 = .ok (.iload_n 1, 1) := by decide +kernel
theorem dX9_narrow_7 : decode cX9_narrow 7 = .ok (.i2b, 1) := by decide +kernel
theorem dX9_narrow_8 : decode cX9_narrow 8 = .ok (.goto 15, 3) := by decide +kernel
theorem dX9_narrow_11 : decode cX9_narrow 11 = .ok (.iload_n 0, 1) := by decide +kernel
theorem dX9_narrow_12 : decode cX9_narrow 12 = .ok (.bipush 16, 2) := by decide +kernel
theorem dX9_narrow_14 : decode cX9_narrow 14 = .ok (.if_icmp .ne 8, 3) := by decide +kernel
theorem dX9_narrow_17 : decode cX9_narrow 17 = .ok (.iload_n 1, 1) := by decide +kernel
theorem dX9_narrow_18 : decode cX9_narrow 18 = .ok (.i2s, 1) := by decide +kernel
theorem dX9_narrow_19 : decode cX9_narrow 19 = .ok (.goto 4, 3) := by decide +kernel
theorem dX9_narrow_22 : decode cX9_narrow 22 = .ok (.iload_n 1, 1) := by decide +kernel
theorem dX9_narrow_23 : decode cX9_narrow 23 = .ok (.ireturn, 1) := by decide +kernel
theorem dX9_sheet_0 : decode cX9_sheet 0 = .ok (.iload_n 1, 1) := by decide +kernel
theorem dX9_sheet_1 : decode cX9_sheet 1 = .ok (.invokestatic 206, 3) := by decide +kernel
theorem dX9_sheet_4 : decode cX9_sheet 4 = .ok (.ifCond .eq 25, 3) := by decide +kernel
theorem dX9_sheet_7 : decode cX9_sheet 7 = .ok (.iload_n 2, 1) := by decide +kernel
theorem dX9_sheet_8 : decode cX9_sheet 8 = .ok (.ifCond .eq 28, 3) := by decide +kernel
theorem dX9_sheet_11 : decode cX9_sheet 11 = .ok (.iload_n 2, 1) := by decide +kernel
theorem dX9_sheet_12 : decode cX9_sheet 12 = .ok (.bipush 8, 2) := by decide +kernel
theorem dX9_sheet_14 : decode cX9_sheet 14 = .ok (.if_icmp .eq 22, 3) := by decide +kernel
theorem dX9_sheet_17 : decode cX9_sheet 17 = .ok (.iload_n 2, 1) := by decide +kernel
theorem dX9_sheet_18 : decode cX9_sheet 18 = .ok (.bipush 16, 2) := by decide +kernel
theorem dX9_sheet_20 : decode cX9_sheet 20 = .ok (.if_icmp .eq 16, 3) := by decide +kernel
theorem dX9_sheet_23 : decode cX9_sheet 23 = .ok (.iload_n 2, 1) := by decide +kernel
theorem dX9_sheet_24 : decode cX9_sheet 24 = .ok (.bipush 32, 2) := by decide +kernel
theorem dX9_sheet_26 : decode cX9_sheet 26 = .ok (.if_icmp .eq 10, 3) := by decide +kernel
theorem dX9_sheet_29 : decode cX9_sheet 29 = .ok (.aload_n 0, 1) := by decide +kernel
theorem dX9_sheet_30 : decode cX9_sheet 30 = .ok (.ldc 45, 2) := by decide +kernel
theorem dX9_sheet_32 : decode cX9_sheet 32 = .ok (.invokevirtual 46, 3) := by decide +kernel
theorem dX9_sheet_35 : decode cX9_sheet 35 = .ok (.ireturn, 1) := by decide +kernel
theorem dX9_sheet_36 : decode cX9_sheet 36 = .ok (.iload_n 2, 1) := by decide +kernel
theorem dX9_sheet_37 : decode cX9_sheet 37 = .ok (.ifCond .eq 14, 3) := by decide +kernel
theorem dX9_sheet_40 : decode cX9_sheet 40 = .ok (.iload_n 3, 1) := by decide +kernel
theorem dX9_sheet_41 : decode cX9_sheet 41 = .ok (.ifCond .ge 10, 3) := by decide +kernel
theorem dX9_sheet_44 : decode cX9_sheet 44 = .ok (.aload_n 0, 1) := by decide +kernel
theorem dX9_sheet_45 : decode cX9_sheet 45 = .ok (.ldc 50, 2) := by decide +kernel
theorem dX9_sheet_47 : decode cX9_sheet 47 = .ok (.invokevirtual 46, 3) := by decide +kernel
theorem dX9_sheet_50 : decode cX9_sheet 50 = .ok (.ireturn, 1) := by decide +kernel
theorem dX9_sheet_51 : decode cX9_sheet 51 = .ok (.iload_n 2, 1) := by decide +kernel
theorem dX9_sheet_52 : decode cX9_sheet 52 = .ok (.ifCond .eq 16, 3) := by decide +kernel
theorem dX9_sheet_55 : decode cX9_sheet 55 = .ok (.iload_n 3, 1) := by decide +kernel
theorem dX9_sheet_56 : decode cX9_sheet 56 = .ok (.bipush 40, 2) := by decide +kernel
theorem dX9_sheet_58 : decode cX9_sheet 58 = .ok (.if_icmp .le 10, 3) := by decide +kernel
theorem dX9_sheet_61 : decode cX9_sheet 61 = .ok (.aload_n 0, 1) := by decide +kernel
theorem dX9_sheet_62 : decode cX9_sheet 62 = .ok (.ldc 45, 2) := by decide +kernel
theorem dX9_sheet_64 : decode cX9_sheet 64 = .ok (.invokevirtual 46, 3) := by decide +kernel
theorem dX9_sheet_67 : decode cX9_sheet 67 = .ok (.ireturn, 1) := by decide +kernel
theorem dX9_sheet_68 : decode cX9_sheet 68 = .ok (.aload_n 0, 1) := by decide +kernel
theorem dX9_sheet_69 : decode cX9_sheet 69 = .ok (.getfield 25, 3) := by decide +kernel
theorem dX9_sheet_72 : decode cX9_sheet 72 = .ok (.iload_n 1, 1) := by decide +kernel
theorem dX9_sheet_73 : decode cX9_sheet 73 = .ok (.iload_n 2, 1) := by decide +kernel
theorem dX9_sheet_74 : decode cX9_sheet 74 = .ok (.iastore, 1) := by decide +kernel
theorem dX9_sheet_75 : decode cX9_sheet 75 = .ok (.aload_n 0, 1) := by decide +kernel
theorem dX9_sheet_76 : decode cX9_sheet 76 = .ok (.getfield 28, 3) := by decide +kernel
theorem dX9_sheet_79 : decode cX9_sheet 79 = .ok (.iload_n 1, 1) := by decide +kernel
theorem dX9_sheet_80 : decode cX9_sheet 80 = .ok (.iload_n 2, 1) := by decide +kernel
theorem dX9_sheet_81 : decode cX9_sheet 81 = .ok (.ifCond .ne 7, 3) := by decide +kernel
theorem dX9_sheet_84 : decode cX9_sheet 84 = .ok (.iconst 0, 1) := by decide +kernel
theorem dX9_sheet_85 : decode cX9_sheet 85 = .ok (.goto 4, 3) := by decide +kernel
theorem dX9_sheet_88 : decode cX9_sheet 88 = .ok (.iload_n 3, 1) := by decide +kernel
theorem dX9_sheet_89 : decode cX9_sheet 89 = .ok (.iastore, 1) := by decide +kernel
theorem dX9_sheet_90 : decode cX9_sheet 90 = .ok (.iconst 0, 1) := by decide +kernel
theorem dX9_sheet_91 : decode cX9_sheet 91 = .ok (.istore 4, 2) := by decide +kernel
theorem dX9_sheet_93 : decode cX9_sheet 93 = .ok (.iload 4, 2) := by decide +kernel
theorem dX9_sheet_95 : decode cX9_sheet 95 = .ok (.bipush 40, 2) := by decide +kernel
theorem dX9_sheet_97 : decode cX9_sheet 97 = .ok (.if_icmp .ge 22, 3) := by decide +kernel
theorem dX9_sheet_100 : decode cX9_sheet 100 = .ok (.aload_n 0, 1) := by decide +kernel
theorem dX9_sheet_101 : decode cX9_sheet 101 = .ok (.getfield 31, 3) := by decide +kernel
theorem dX9_sheet_104 : decode cX9_sheet 104 = .ok (.bipush 40, 2) := by decide +kernel
theorem dX9_sheet_106 : decode cX9_sheet 106 = .ok (.iload_n 1, 1) := by decide +kernel
theorem dX9_sheet_107 : decode cX9_sheet 107 = .ok (.imul, 1) := by decide +kernel
theorem dX9_sheet_108 : decode cX9_sheet 108 = .ok (.iload 4, 2) := by decide +kernel
theorem dX9_sheet_110 : decode cX9_sheet 110 = .ok (.iadd, 1) := by decide +kernel
theorem dX9_sheet_111 : decode cX9_sheet 111 = .ok (.iconst 0, 1) := by decide +kernel
theorem dX9_sheet_112 : decode cX9_sheet 112 = .ok (.iastore, 1) := by decide +kernel
theorem dX9_sheet_113 : decode cX9_sheet 113 = .ok (.iinc 4 1, 3) := by decide +kernel
theorem dX9_sheet_116 : decode cX9_sheet 116 = .ok (.goto (-23), 3) := by decide +kernel
theorem dX9_sheet_119 : decode cX9_sheet 119 = .ok (.iconst 1, 1) := by decide +kernel
theorem dX9_sheet_120 : decode cX9_sheet 120 = .ok (.ireturn, 1) := by decide +kernel
theorem dX9_put_0 : decode cX9_put 0 = .ok (.iload_n 1, 1) := by decide +kernel
theorem dX9_put_1 : decode cX9_put 1 = .ok (.invokestatic 206, 3) := by decide +kernel
theorem dX9_put_4 : decode cX9_put 4 = .ok (.ifCond .ne 10, 3) := by decide +kernel
theorem dX9_put_7 : decode cX9_put 7 = .ok (.aload_n 0, 1) := by decide +kernel
theorem dX9_put_8 : decode cX9_put 8 = .ok (.ldc 45, 2) := by decide +kernel
theorem dX9_put_10 : decode cX9_put 10 = .ok (.invokevirtual 46, 3) := by decide +kernel
theorem dX9_put_13 : decode cX9_put 13 = .ok (.ireturn, 1) := by decide +kernel
theorem dX9_put_14 : decode cX9_put 14 = .ok (.aload_n 0, 1) := by decide +kernel
theorem dX9_put_15 : decode cX9_put 15 = .ok (.getfield 25, 3) := by decide +kernel
theorem dX9_put_18 : decode cX9_put 18 = .ok (.iload_n 1, 1) := by decide +kernel
theorem dX9_put_19 : decode cX9_put 19 = .ok (.iaload, 1) := by decide +kernel
theorem dX9_put_20 : decode cX9_put 20 = .ok (.ifCond .ne 10, 3) := by decide +kernel
theorem dX9_put_23 : decode cX9_put 23 = .ok (.aload_n 0, 1) := by decide +kernel
theorem dX9_put_24 : decode cX9_put 24 = .ok (.ldc 199, 2) := by decide +kernel
theorem dX9_put_26 : decode cX9_put 26 = .ok (.invokevirtual 46, 3) := by decide +kernel
theorem dX9_put_29 : decode cX9_put 29 = .ok (.ireturn, 1) := by decide +kernel
theorem dX9_put_30 : decode cX9_put 30 = .ok (.iload_n 2, 1) := by decide +kernel
theorem dX9_put_31 : decode cX9_put 31 = .ok (.iconst 0, 1) := by decide +kernel
theorem dX9_put_32 : decode cX9_put 32 = .ok (.aload_n 0, 1) := by decide +kernel
theorem dX9_put_33 : decode cX9_put 33 = .ok (.getfield 28, 3) := by decide +kernel
theorem dX9_put_36 : decode cX9_put 36 = .ok (.iload_n 1, 1) := by decide +kernel
theorem dX9_put_37 : decode cX9_put 37 = .ok (.iaload, 1) := by decide +kernel
theorem dX9_put_38 : decode cX9_put 38 = .ok (.iconst 1, 1) := by decide +kernel
theorem dX9_put_39 : decode cX9_put 39 = .ok (.isub, 1) := by decide +kernel
theorem dX9_put_40 : decode cX9_put 40 = .ok (.invokestatic 41, 3) := by decide +kernel
theorem dX9_put_43 : decode cX9_put 43 = .ok (.ifCond .ne 10, 3) := by decide +kernel
theorem dX9_put_46 : decode cX9_put 46 = .ok (.aload_n 0, 1) := by decide +kernel
theorem dX9_put_47 : decode cX9_put 47 = .ok (.ldc 45, 2) := by decide +kernel
theorem dX9_put_49 : decode cX9_put 49 = .ok (.invokevirtual 46, 3) := by decide +kernel
theorem dX9_put_52 : decode cX9_put 52 = .ok (.ireturn, 1) := by decide +kernel
theorem dX9_put_53 : decode cX9_put 53 = .ok (.aload_n 0, 1) := by decide +kernel
theorem dX9_put_54 : decode cX9_put 54 = .ok (.getfield 31, 3) := by decide +kernel
theorem dX9_put_57 : decode cX9_put 57 = .ok (.bipush 40, 2) := by decide +kernel
theorem dX9_put_59 : decode cX9_put 59 = .ok (.iload_n 1, 1) := by decide +kernel
theorem dX9_put_60 : decode cX9_put 60 = .ok (.imul, 1) := by decide +kernel
theorem dX9_put_61 : decode cX9_put 61 = .ok (.iload_n 2, 1) := by decide +kernel
theorem dX9_put_62 : decode cX9_put 62 = .ok (.iadd, 1) := by decide +kernel
theorem dX9_put_63 : decode cX9_put 63 = .ok (.aload_n 0, 1) := by decide +kernel
theorem dX9_put_64 : decode cX9_put 64 = .ok (.getfield 25, 3) := by decide +kernel
theorem dX9_put_67 : decode cX9_put 67 = .ok (.iload_n 1, 1) := by decide +kernel
theorem dX9_put_68 : decode cX9_put 68 = .ok (.iaload, 1) := by decide +kernel
theorem dX9_put_69 : decode cX9_put 69 = .ok (.iload_n 3, 1) := by decide +kernel
theorem dX9_put_70 : decode cX9_put 70 = .ok (.invokestatic 239, 3) := by decide +kernel
theorem dX9_put_73 : decode cX9_put 73 = .ok (.iastore, 1) := by decide +kernel
theorem dX9_put_74 : decode cX9_put 74 = .ok (.iconst 1, 1) := by decide +kernel
theorem dX9_put_75 : decode cX9_put 75 = .ok (.ireturn, 1) := by decide +kernel
theorem dX9_move_0 : decode cX9_move 0 = .ok (.iload_n 1, 1) := by decide +kernel
theorem dX9_move_1 : decode cX9_move 1 = .ok (.invokestatic 206, 3) := by decide +kernel
theorem dX9_move_4 : decode cX9_move 4 = .ok (.ifCond .eq 10, 3) := by decide +kernel
theorem dX9_move_7 : decode cX9_move 7 = .ok (.iload_n 3, 1) := by decide +kernel
theorem dX9_move_8 : decode cX9_move 8 = .ok (.invokestatic 206, 3) := by decide +kernel
theorem dX9_move_11 : decode cX9_move 11 = .ok (.ifCond .ne 10, 3) := by decide +kernel
theorem dX9_move_14 : decode cX9_move 14 = .ok (.aload_n 0, 1) := by decide +kernel
theorem dX9_move_15 : decode cX9_move 15 = .ok (.ldc 45, 2) := by decide +kernel
theorem dX9_move_17 : decode cX9_move 17 = .ok (.invokevirtual 46, 3) := by decide +kernel
theorem dX9_move_20 : decode cX9_move 20 = .ok (.ireturn, 1) := by decide +kernel
theorem dX9_move_21 : decode cX9_move 21 = .ok (.aload_n 0, 1) := by decide +kernel
theorem dX9_move_22 : decode cX9_move 22 = .ok (.getfield 25, 3) := by decide +kernel
theorem dX9_move_25 : decode cX9_move 25 = .ok (.iload_n 1, 1) := by decide +kernel
theorem dX9_move_26 : decode cX9_move 26 = .ok (.iaload, 1) := by decide +kernel
theorem dX9_move_27 : decode cX9_move 27 = .ok (.ifCond .eq 12, 3) := by decide +kernel
theorem dX9_move_30 : decode cX9_move 30 = .ok (.aload_n 0, 1) := by decide +kernel
theorem dX9_move_31 : decode cX9_move 31 = .ok (.getfield 25, 3) := by decide +kernel
theorem dX9_move_34 : decode cX9_move 34 = .ok (.iload_n 3, 1) := by decide +kernel
theorem dX9_move_35 : decode cX9_move 35 = .ok (.iaload, 1) := by decide +kernel
theorem dX9_move_36 : decode cX9_move 36 = .ok (.ifCond .ne 10, 3) := by decide +kernel
theorem dX9_move_39 : decode cX9_move 39 = .ok (.aload_n 0, 1) := by decide +kernel
theorem dX9_move_40 : decode cX9_move 40 = .ok (.ldc 199, 2) := by decide +kernel
theorem dX9_move_42 : decode cX9_move 42 = .ok (.invokevirtual 46, 3) := by decide +kernel
theorem dX9_move_45 : decode cX9_move 45 = .ok (.ireturn, 1) := by decide +kernel
theorem dX9_move_46 : decode cX9_move 46 = .ok (.aload_n 0, 1) := by decide +kernel
theorem dX9_move_47 : decode cX9_move 47 = .ok (.getfield 25, 3) := by decide +kernel
theorem dX9_move_50 : decode cX9_move 50 = .ok (.iload_n 1, 1) := by decide +kernel
theorem dX9_move_51 : decode cX9_move 51 = .ok (.iaload, 1) := by decide +kernel
theorem dX9_move_52 : decode cX9_move 52 = .ok (.aload_n 0, 1) := by decide +kernel
theorem dX9_move_53 : decode cX9_move 53 = .ok (.getfield 25, 3) := by decide +kernel
theorem dX9_move_56 : decode cX9_move 56 = .ok (.iload_n 3, 1) := by decide +kernel
theorem dX9_move_57 : decode cX9_move 57 = .ok (.iaload, 1) := by decide +kernel
theorem dX9_move_58 : decode cX9_move 58 = .ok (.if_icmp .eq 10, 3) := by decide +kernel
theorem dX9_move_61 : decode cX9_move 61 = .ok (.aload_n 0, 1) := by decide +kernel
theorem dX9_move_62 : decode cX9_move 62 = .ok (.ldc 86, 2) := by decide +kernel
theorem dX9_move_64 : decode cX9_move 64 = .ok (.invokevirtual 46, 3) := by decide +kernel
theorem dX9_move_67 : decode cX9_move 67 = .ok (.ireturn, 1) := by decide +kernel
theorem dX9_move_68 : decode cX9_move 68 = .ok (.iload 5, 2) := by decide +kernel
theorem dX9_move_70 : decode cX9_move 70 = .ok (.ifCond .lt 39, 3) := by decide +kernel
theorem dX9_move_73 : decode cX9_move 73 = .ok (.iload_n 2, 1) := by decide +kernel
theorem dX9_move_74 : decode cX9_move 74 = .ok (.ifCond .lt 35, 3) := by decide +kernel
theorem dX9_move_77 : decode cX9_move 77 = .ok (.iload 4, 2) := by decide +kernel
theorem dX9_move_79 : decode cX9_move 79 = .ok (.ifCond .lt 30, 3) := by decide +kernel
theorem dX9_move_82 : decode cX9_move 82 = .ok (.iload_n 2, 1) := by decide +kernel
theorem dX9_move_83 : decode cX9_move 83 = .ok (.aload_n 0, 1) := by decide +kernel
theorem dX9_move_84 : decode cX9_move 84 = .ok (.getfield 28, 3) := by decide +kernel
theorem dX9_move_87 : decode cX9_move 87 = .ok (.iload_n 1, 1) := by decide +kernel
theorem dX9_move_88 : decode cX9_move 88 = .ok (.iaload, 1) := by decide +kernel
theorem dX9_move_89 : decode cX9_move 89 = .ok (.iload 5, 2) := by decide +kernel
theorem dX9_move_91 : decode cX9_move 91 = .ok (.isub, 1) := by decide +kernel
theorem dX9_move_92 : decode cX9_move 92 = .ok (.if_icmp .gt 17, 3) := by decide +kernel
theorem dX9_move_95 : decode cX9_move 95 = .ok (.iload 4, 2) := by decide +kernel
theorem dX9_move_97 : decode cX9_move 97 = .ok (.aload_n 0, 1) := by decide +kernel
theorem dX9_move_98 : decode cX9_move 98 = .ok (.getfield 28, 3) := by decide +kernel
theorem dX9_move_101 : decode cX9_move 101 = .ok (.iload_n 3, 1) := by decide +kernel
theorem dX9_move_102 : decode cX9_move 102 = .ok (.iaload, 1) := by decide +kernel
theorem dX9_move_103 : decode cX9_move 103 = .ok (.iload 5, 2) := by decide +kernel
theorem dX9_move_105 : decode cX9_move 105 = .ok (.isub, 1) := by decide +kernel
theorem dX9_move_106 : decode cX9_move 106 = .ok (.if_icmp .le 10, 3) := by decide +kernel
theorem dX9_move_109 : decode cX9_move 109 = .ok (.aload_n 0, 1) := by decide +kernel
theorem dX9_move_110 : decode cX9_move 110 = .ok (.ldc 45, 2) := by decide +kernel
theorem dX9_move_112 : decode cX9_move 112 = .ok (.invokevirtual 46, 3) := by decide +kernel
theorem dX9_move_115 : decode cX9_move 115 = .ok (.ireturn, 1) := by decide +kernel
theorem dX9_move_116 : decode cX9_move 116 = .ok (.iconst 0, 1) := by decide +kernel
theorem dX9_move_117 : decode cX9_move 117 = .ok (.istore 6, 2) := by decide +kernel
theorem dX9_move_119 : decode cX9_move 119 = .ok (.iload 6, 2) := by decide +kernel
theorem dX9_move_121 : decode cX9_move 121 = .ok (.iload 5, 2) := by decide +kernel
theorem dX9_move_123 : decode cX9_move 123 = .ok (.if_icmp .ge 30, 3) := by decide +kernel
theorem dX9_move_126 : decode cX9_move 126 = .ok (.aload_n 0, 1) := by decide +kernel
theorem dX9_move_127 : decode cX9_move 127 = .ok (.getfield 34, 3) := by decide +kernel
theorem dX9_move_130 : decode cX9_move 130 = .ok (.iload 6, 2) := by decide +kernel
theorem dX9_move_132 : decode cX9_move 132 = .ok (.aload_n 0, 1) := by decide +kernel
theorem dX9_move_133 : decode cX9_move 133 = .ok (.getfield 31, 3) := by decide +kernel
theorem dX9_move_136 : decode cX9_move 136 = .ok (.bipush 40, 2) := by decide +kernel
theorem dX9_move_138 : decode cX9_move 138 = .ok (.iload_n 1, 1) := by decide +kernel
theorem dX9_move_139 : decode cX9_move 139 = .ok (.imul, 1) := by decide +kernel
theorem dX9_move_140 : decode cX9_move 140 = .ok (.iload_n 2, 1) := by decide +kernel
theorem dX9_move_141 : decode cX9_move 141 = .ok (.iadd, 1) := by decide +kernel
theorem dX9_move_142 : decode cX9_move 142 = .ok (.iload 6, 2) := by decide +kernel
theorem dX9_move_144 : decode cX9_move 144 = .ok (.iadd, 1) := by decide +kernel
theorem dX9_move_145 : decode cX9_move 145 = .ok (.iaload, 1) := by decide +kernel
theorem dX9_move_146 : decode cX9_move 146 = .ok (.iastore, 1) := by decide +kernel
theorem dX9_move_147 : decode cX9_move 147 = .ok (.iinc 6 1, 3) := by decide +kernel
theorem dX9_move_150 : decode cX9_move 150 = .ok (.goto (-31), 3) := by decide +kernel
theorem dX9_move_153 : decode cX9_move 153 = .ok (.iconst 0, 1) := by decide +kernel
theorem dX9_move_154 : decode cX9_move 154 = .ok (.istore 6, 2) := by decide +kernel
theorem dX9_move_156 : decode cX9_move 156 = .ok (.iload 6, 2) := by decide +kernel
theorem dX9_move_158 : decode cX9_move 158 = .ok (.iload 5, 2) := by decide +kernel
theorem dX9_move_160 : decode cX9_move 160 = .ok (.if_icmp .ge 31, 3) := by decide +kernel
theorem dX9_move_163 : decode cX9_move 163 = .ok (.aload_n 0, 1) := by decide +kernel
theorem dX9_move_164 : decode cX9_move 164 = .ok (.getfield 31, 3) := by decide +kernel
theorem dX9_move_167 : decode cX9_move 167 = .ok (.bipush 40, 2) := by decide +kernel
theorem dX9_move_169 : decode cX9_move 169 = .ok (.iload_n 3, 1) := by decide +kernel
theorem dX9_move_170 : decode cX9_move 170 = .ok (.imul, 1) := by decide +kernel
theorem dX9_move_171 : decode cX9_move 171 = .ok (.iload 4, 2) := by decide +kernel
theorem dX9_move_173 : decode cX9_move 173 = .ok (.iadd, 1) := by decide +kernel
theorem dX9_move_174 : decode cX9_move 174 = .ok (.iload 6, 2) := by decide +kernel
theorem dX9_move_176 : decode cX9_move 176 = .ok (.iadd, 1) := by decide +kernel
theorem dX9_move_177 : decode cX9_move 177 = .ok (.aload_n 0, 1) := by decide +kernel
theorem dX9_move_178 : decode cX9_move 178 = .ok (.getfield 34, 3) := by decide +kernel
theorem dX9_move_181 : decode cX9_move 181 = .ok (.iload 6, 2) := by decide +kernel
theorem dX9_move_183 : decode cX9_move 183 = .ok (.iaload, 1) := by decide +kernel
theorem dX9_move_184 : decode cX9_move 184 = .ok (.iastore, 1) := by decide +kernel
theorem dX9_move_185 : decode cX9_move 185 = .ok (.iinc 6 1, 3) := by decide +kernel
theorem dX9_move_188 : decode cX9_move 188 = .ok (.goto (-32), 3) := by decide +kernel
theorem dX9_move_191 : decode cX9_move 191 = .ok (.iload 5, 2) := by decide +kernel
theorem dX9_move_193 : decode cX9_move 193 = .ok (.ireturn, 1) := by decide +kernel
theorem dX9_loads_0 : decode cX9_loads 0 = .ok (.iload_n 1, 1) := by decide +kernel
theorem dX9_loads_1 : decode cX9_loads 1 = .ok (.invokestatic 206, 3) := by decide +kernel
theorem dX9_loads_4 : decode cX9_loads 4 = .ok (.ifCond .ne 10, 3) := by decide +kernel
theorem dX9_loads_7 : decode cX9_loads 7 = .ok (.aload_n 0, 1) := by decide +kernel
theorem dX9_loads_8 : decode cX9_loads 8 = .ok (.ldc 45, 2) := by decide +kernel
theorem dX9_loads_10 : decode cX9_loads 10 = .ok (.invokevirtual 46, 3) := by decide +kernel
theorem dX9_loads_13 : decode cX9_loads 13 = .ok (.ireturn, 1) := by decide +kernel
theorem dX9_loads_14 : decode cX9_loads 14 = .ok (.aload_n 0, 1) := by decide +kernel
theorem dX9_loads_15 : decode cX9_loads 15 = .ok (.getfield 25, 3) := by decide +kernel
theorem dX9_loads_18 : decode cX9_loads 18 = .ok (.iload_n 1, 1) := by decide +kernel
theorem dX9_loads_19 : decode cX9_loads 19 = .ok (.iaload, 1) := by decide +kernel
theorem dX9_loads_20 : decode cX9_loads 20 = .ok (.ifCond .ne 10, 3) := by decide +kernel
theorem dX9_loads_23 : decode cX9_loads 23 = .ok (.aload_n 0, 1) := by decide +kernel
theorem dX9_loads_24 : decode cX9_loads 24 = .ok (.ldc 199, 2) := by decide +kernel
theorem dX9_loads_26 : decode cX9_loads 26 = .ok (.invokevirtual 46, 3) := by decide +kernel
theorem dX9_loads_29 : decode cX9_loads 29 = .ok (.ireturn, 1) := by decide +kernel
theorem dX9_loads_30 : decode cX9_loads 30 = .ok (.iconst 0, 1) := by decide +kernel
theorem dX9_loads_31 : decode cX9_loads 31 = .ok (.istore_n 2, 1) := by decide +kernel
theorem dX9_loads_32 : decode cX9_loads 32 = .ok (.iload_n 2, 1) := by decide +kernel
theorem dX9_loads_33 : decode cX9_loads 33 = .ok (.aload_n 0, 1) := by decide +kernel
theorem dX9_loads_34 : decode cX9_loads 34 = .ok (.getfield 28, 3) := by decide +kernel
theorem dX9_loads_37 : decode cX9_loads 37 = .ok (.iload_n 1, 1) := by decide +kernel
theorem dX9_loads_38 : decode cX9_loads 38 = .ok (.iaload, 1) := by decide +kernel
theorem dX9_loads_39 : decode cX9_loads 39 = .ok (.if_icmp .ge 57, 3) := by decide +kernel
theorem dX9_loads_42 : decode cX9_loads 42 = .ok (.iload_n 2, 1) := by decide +kernel
theorem dX9_loads_43 : decode cX9_loads 43 = .ok (.aload_n 0, 1) := by decide +kernel
theorem dX9_loads_44 : decode cX9_loads 44 = .ok (.getfield 7, 3) := by decide +kernel
theorem dX9_loads_47 : decode cX9_loads 47 = .ok (.bipush 9, 2) := by decide +kernel
theorem dX9_loads_49 : decode cX9_loads 49 = .ok (.iaload, 1) := by decide +kernel
theorem dX9_loads_50 : decode cX9_loads 50 = .ok (.if_icmp .ge 46, 3) := by decide +kernel
theorem dX9_loads_53 : decode cX9_loads 53 = .ok (.aload_n 0, 1) := by decide +kernel
theorem dX9_loads_54 : decode cX9_loads 54 = .ok (.getfield 31, 3) := by decide +kernel
theorem dX9_loads_57 : decode cX9_loads 57 = .ok (.bipush 40, 2) := by decide +kernel
theorem dX9_loads_59 : decode cX9_loads 59 = .ok (.iload_n 1, 1) := by decide +kernel
theorem dX9_loads_60 : decode cX9_loads 60 = .ok (.imul, 1) := by decide +kernel
theorem dX9_loads_61 : decode cX9_loads 61 = .ok (.iload_n 2, 1) := by decide +kernel
theorem dX9_loads_62 : decode cX9_loads 62 = .ok (.iadd, 1) := by decide +kernel
theorem dX9_loads_63 : decode cX9_loads 63 = .ok (.iaload, 1) := by decide +kernel
theorem dX9_loads_64 : decode cX9_loads 64 = .ok (.iconst 0, 1) := by decide +kernel
theorem dX9_loads_65 : decode cX9_loads 65 = .ok (.bipush 99, 2) := by decide +kernel
theorem dX9_loads_67 : decode cX9_loads 67 = .ok (.invokestatic 41, 3) := by decide +kernel
theorem dX9_loads_70 : decode cX9_loads 70 = .ok (.ifCond .eq 26, 3) := by decide +kernel
theorem dX9_loads_73 : decode cX9_loads 73 = .ok (.aload_n 0, 1) := by decide +kernel
theorem dX9_loads_74 : decode cX9_loads 74 = .ok (.iload_n 2, 1) := by decide +kernel
theorem dX9_loads_75 : decode cX9_loads 75 = .ok (.iconst 3, 1) := by decide +kernel
theorem dX9_loads_76 : decode cX9_loads 76 = .ok (.aload_n 0, 1) := by decide +kernel
theorem dX9_loads_77 : decode cX9_loads 77 = .ok (.getfield 31, 3) := by decide +kernel
theorem dX9_loads_80 : decode cX9_loads 80 = .ok (.bipush 40, 2) := by decide +kernel
theorem dX9_loads_82 : decode cX9_loads 82 = .ok (.iload_n 1, 1) := by decide +kernel
theorem dX9_loads_83 : decode cX9_loads 83 = .ok (.imul, 1) := by decide +kernel
theorem dX9_loads_84 : decode cX9_loads 84 = .ok (.iload_n 2, 1) := by decide +kernel
theorem dX9_loads_85 : decode cX9_loads 85 = .ok (.iadd, 1) := by decide +kernel
theorem dX9_loads_86 : decode cX9_loads 86 = .ok (.iaload, 1) := by decide +kernel
theorem dX9_loads_87 : decode cX9_loads 87 = .ok (.invokevirtual 63, 3) := by decide +kernel
theorem dX9_loads_90 : decode cX9_loads 90 = .ok (.iinc 2 1, 3) := by decide +kernel
theorem dX9_loads_93 : decode cX9_loads 93 = .ok (.goto (-61), 3) := by decide +kernel
theorem dX9_loads_96 : decode cX9_loads 96 = .ok (.iload_n 2, 1) := by decide +kernel
theorem dX9_loads_97 : decode cX9_loads 97 = .ok (.ireturn, 1) := by decide +kernel
theorem dX9_judge_0 : decode cX9_judge 0 = .ok (.iload_n 1, 1) := by decide +kernel
theorem dX9_judge_1 : decode cX9_judge 1 = .ok (.invokestatic 206, 3) := by decide +kernel
theorem dX9_judge_4 : decode cX9_judge 4 = .ok (.ifCond .ne 10, 3) := by decide +kernel
theorem dX9_judge_7 : decode cX9_judge 7 = .ok (.aload_n 0, 1) := by decide +kernel
theorem dX9_judge_8 : decode cX9_judge 8 = .ok (.ldc 45, 2) := by decide +kernel
theorem dX9_judge_10 : decode cX9_judge 10 = .ok (.invokevirtual 46, 3) := by decide +kernel
theorem dX9_judge_13 : decode cX9_judge 13 = .ok (.ireturn, 1) := by decide +kernel
theorem dX9_judge_14 : decode cX9_judge 14 = .ok (.aload_n 0, 1) := by decide +kernel
theorem dX9_judge_15 : decode cX9_judge 15 = .ok (.getfield 25, 3) := by decide +kernel
theorem dX9_judge_18 : decode cX9_judge 18 = .ok (.iload_n 1, 1) := by decide +kernel
theorem dX9_judge_19 : decode cX9_judge 19 = .ok (.iaload, 1) := by decide +kernel
theorem dX9_judge_20 : decode cX9_judge 20 = .ok (.ifCond .ne 10, 3) := by decide +kernel
theorem dX9_judge_23 : decode cX9_judge 23 = .ok (.aload_n 0, 1) := by decide +kernel
theorem dX9_judge_24 : decode cX9_judge 24 = .ok (.ldc 199, 2) := by decide +kernel
theorem dX9_judge_26 : decode cX9_judge 26 = .ok (.invokevirtual 46, 3) := by decide +kernel
theorem dX9_judge_29 : decode cX9_judge 29 = .ok (.ireturn, 1) := by decide +kernel
theorem dX9_judge_30 : decode cX9_judge 30 = .ok (.iconst 0, 1) := by decide +kernel
theorem dX9_judge_31 : decode cX9_judge 31 = .ok (.istore_n 2, 1) := by decide +kernel
theorem dX9_judge_32 : decode cX9_judge 32 = .ok (.iload_n 2, 1) := by decide +kernel
theorem dX9_judge_33 : decode cX9_judge 33 = .ok (.aload_n 0, 1) := by decide +kernel
theorem dX9_judge_34 : decode cX9_judge 34 = .ok (.getfield 7, 3) := by decide +kernel
theorem dX9_judge_37 : decode cX9_judge 37 = .ok (.bipush 9, 2) := by decide +kernel
theorem dX9_judge_39 : decode cX9_judge 39 = .ok (.iaload, 1) := by decide +kernel
theorem dX9_judge_40 : decode cX9_judge 40 = .ok (.if_icmp .ge 39, 3) := by decide +kernel
theorem dX9_judge_43 : decode cX9_judge 43 = .ok (.iload_n 2, 1) := by decide +kernel
theorem dX9_judge_44 : decode cX9_judge 44 = .ok (.aload_n 0, 1) := by decide +kernel
theorem dX9_judge_45 : decode cX9_judge 45 = .ok (.getfield 28, 3) := by decide +kernel
theorem dX9_judge_48 : decode cX9_judge 48 = .ok (.iload_n 1, 1) := by decide +kernel
theorem dX9_judge_49 : decode cX9_judge 49 = .ok (.iaload, 1) := by decide +kernel
theorem dX9_judge_50 : decode cX9_judge 50 = .ok (.if_icmp .ge 29, 3) := by decide +kernel
theorem dX9_judge_53 : decode cX9_judge 53 = .ok (.aload_n 0, 1) := by decide +kernel
theorem dX9_judge_54 : decode cX9_judge 54 = .ok (.getfield 31, 3) := by decide +kernel
theorem dX9_judge_57 : decode cX9_judge 57 = .ok (.bipush 40, 2) := by decide +kernel
theorem dX9_judge_59 : decode cX9_judge 59 = .ok (.iload_n 1, 1) := by decide +kernel
theorem dX9_judge_60 : decode cX9_judge 60 = .ok (.imul, 1) := by decide +kernel
theorem dX9_judge_61 : decode cX9_judge 61 = .ok (.iload_n 2, 1) := by decide +kernel
theorem dX9_judge_62 : decode cX9_judge 62 = .ok (.iadd, 1) := by decide +kernel
theorem dX9_judge_63 : decode cX9_judge 63 = .ok (.iaload, 1) := by decide +kernel
theorem dX9_judge_64 : decode cX9_judge 64 = .ok (.aload_n 0, 1) := by decide +kernel
theorem dX9_judge_65 : decode cX9_judge 65 = .ok (.iload_n 2, 1) := by decide +kernel
theorem dX9_judge_66 : decode cX9_judge 66 = .ok (.iconst 5, 1) := by decide +kernel
theorem dX9_judge_67 : decode cX9_judge 67 = .ok (.invokevirtual 80, 3) := by decide +kernel
theorem dX9_judge_70 : decode cX9_judge 70 = .ok (.if_icmp .ne 9, 3) := by decide +kernel
theorem dX9_judge_73 : decode cX9_judge 73 = .ok (.iinc 2 1, 3) := by decide +kernel
theorem dX9_judge_76 : decode cX9_judge 76 = .ok (.goto (-44), 3) := by decide +kernel
theorem dX9_judge_79 : decode cX9_judge 79 = .ok (.iload_n 2, 1) := by decide +kernel
theorem dX9_judge_80 : decode cX9_judge 80 = .ok (.aload_n 0, 1) := by decide +kernel
theorem dX9_judge_81 : decode cX9_judge 81 = .ok (.getfield 7, 3) := by decide +kernel
theorem dX9_judge_84 : decode cX9_judge 84 = .ok (.bipush 9, 2) := by decide +kernel
theorem dX9_judge_86 : decode cX9_judge 86 = .ok (.iaload, 1) := by decide +kernel
theorem dX9_judge_87 : decode cX9_judge 87 = .ok (.if_icmp .ne 17, 3) := by decide +kernel
theorem dX9_judge_90 : decode cX9_judge 90 = .ok (.iload_n 2, 1) := by decide +kernel
theorem dX9_judge_91 : decode cX9_judge 91 = .ok (.aload_n 0, 1) := by decide +kernel
theorem dX9_judge_92 : decode cX9_judge 92 = .ok (.getfield 28, 3) := by decide +kernel
theorem dX9_judge_95 : decode cX9_judge 95 = .ok (.iload_n 1, 1) := by decide +kernel
theorem dX9_judge_96 : decode cX9_judge 96 = .ok (.iaload, 1) := by decide +kernel
theorem dX9_judge_97 : decode cX9_judge 97 = .ok (.if_icmp .ne 7, 3) := by decide +kernel
theorem dX9_judge_100 : decode cX9_judge 100 = .ok (.iconst (-1), 1) := by decide +kernel
theorem dX9_judge_101 : decode cX9_judge 101 = .ok (.goto 4, 3) := by decide +kernel
theorem dX9_judge_104 : decode cX9_judge 104 = .ok (.iload_n 2, 1) := by decide +kernel
theorem dX9_judge_105 : decode cX9_judge 105 = .ok (.ireturn, 1) := by decide +kernel
theorem dX9_image_0 : decode cX9_image 0 = .ok (.aload_n 0, 1) := by decide +kernel
theorem dX9_image_1 : decode cX9_image 1 = .ok (.aload_n 0, 1) := by decide +kernel
theorem dX9_image_2 : decode cX9_image 2 = .ok (.getfield 7, 3) := by decide +kernel
theorem dX9_image_5 : decode cX9_image 5 = .ok (.aload_n 0, 1) := by decide +kernel
theorem dX9_image_6 : decode cX9_image 6 = .ok (.getfield 13, 3) := by decide +kernel
theorem dX9_image_9 : decode cX9_image 9 = .ok (.invokevirtual 163, 3) := by decide +kernel
theorem dX9_image_12 : decode cX9_image 12 = .ok (.aload_n 0, 1) := by decide +kernel
theorem dX9_image_13 : decode cX9_image 13 = .ok (.iconst 1, 1) := by decide +kernel
theorem dX9_image_14 : decode cX9_image 14 = .ok (.putfield 242, 3) := by decide +kernel
theorem dX9_image_17 : decode cX9_image 17 = .ok (.aload_n 0, 1) := by decide +kernel
theorem dX9_image_18 : decode cX9_image 18 = .ok (.dup, 1) := by decide +kernel
theorem dX9_image_19 : decode cX9_image 19 = .ok (.getfield 245, 3) := by decide +kernel
theorem dX9_image_22 : decode cX9_image 22 = .ok (.iconst 1, 1) := by decide +kernel
theorem dX9_image_23 : decode cX9_image 23 = .ok (.iadd, 1) := by decide +kernel
theorem dX9_image_24 : decode cX9_image 24 = .ok (.putfield 245, 3) := by decide +kernel
theorem dX9_image_27 : decode cX9_image 27 = .ok (.aload_n 0, 1) := by decide +kernel
theorem dX9_image_28 : decode cX9_image 28 = .ok (.getfield 245, 3) := by decide +kernel
theorem dX9_image_31 : decode cX9_image 31 = .ok (.ireturn, 1) := by decide +kernel
theorem dX9_restore_0 : decode cX9_restore 0 = .ok (.aload_n 0, 1) := by decide +kernel
theorem dX9_restore_1 : decode cX9_restore 1 = .ok (.getfield 242, 3) := by decide +kernel
theorem dX9_restore_4 : decode cX9_restore 4 = .ok (.ifCond .ne 10, 3) := by decide +kernel
theorem dX9_restore_7 : decode cX9_restore 7 = .ok (.aload_n 0, 1) := by decide +kernel
theorem dX9_restore_8 : decode cX9_restore 8 = .ok (.ldc 199, 2) := by decide +kernel
theorem dX9_restore_10 : decode cX9_restore 10 = .ok (.invokevirtual 46, 3) := by decide +kernel
theorem dX9_restore_13 : decode cX9_restore 13 = .ok (.ireturn, 1) := by decide +kernel
theorem dX9_restore_14 : decode cX9_restore 14 = .ok (.aload_n 0, 1) := by decide +kernel
theorem dX9_restore_15 : decode cX9_restore 15 = .ok (.aload_n 0, 1) := by decide +kernel
theorem dX9_restore_16 : decode cX9_restore 16 = .ok (.getfield 13, 3) := by decide +kernel
theorem dX9_restore_19 : decode cX9_restore 19 = .ok (.aload_n 0, 1) := by decide +kernel
theorem dX9_restore_20 : decode cX9_restore 20 = .ok (.getfield 7, 3) := by decide +kernel
theorem dX9_restore_23 : decode cX9_restore 23 = .ok (.invokevirtual 163, 3) := by decide +kernel
theorem dX9_restore_26 : decode cX9_restore 26 = .ok (.aload_n 0, 1) := by decide +kernel
theorem dX9_restore_27 : decode cX9_restore 27 = .ok (.getfield 7, 3) := by decide +kernel
theorem dX9_restore_30 : decode cX9_restore 30 = .ok (.iconst 0, 1) := by decide +kernel
theorem dX9_restore_31 : decode cX9_restore 31 = .ok (.iaload, 1) := by decide +kernel
theorem dX9_restore_32 : decode cX9_restore 32 = .ok (.ireturn, 1) := by decide +kernel
theorem dX9_tell_0 : decode cX9_tell 0 = .ok (.aload_n 0, 1) := by decide +kernel
theorem dX9_tell_1 : decode cX9_tell 1 = .ok (.getfield 7, 3) := by decide +kernel
theorem dX9_tell_4 : decode cX9_tell 4 = .ok (.iconst 5, 1) := by decide +kernel
theorem dX9_tell_5 : decode cX9_tell 5 = .ok (.iaload, 1) := by decide +kernel
theorem dX9_tell_6 : decode cX9_tell 6 = .ok (.bipush 20, 2) := by decide +kernel
theorem dX9_tell_8 : decode cX9_tell 8 = .ok (.if_icmp .ne 10, 3) := by decide +kernel
theorem dX9_tell_11 : decode cX9_tell 11 = .ok (.aload_n 0, 1) := by decide +kernel
theorem dX9_tell_12 : decode cX9_tell 12 = .ok (.ldc 55, 2) := by decide +kernel
theorem dX9_tell_14 : decode cX9_tell 14 = .ok (.invokevirtual 46, 3) := by decide +kernel
theorem dX9_tell_17 : decode cX9_tell 17 = .ok (.ireturn, 1) := by decide +kernel
theorem dX9_tell_18 : decode cX9_tell 18 = .ok (.aload_n 0, 1) := by decide +kernel
theorem dX9_tell_19 : decode cX9_tell 19 = .ok (.getfield 7, 3) := by decide +kernel
theorem dX9_tell_22 : decode cX9_tell 22 = .ok (.sipush 135, 3) := by decide +kernel
theorem dX9_tell_25 : decode cX9_tell 25 = .ok (.aload_n 0, 1) := by decide +kernel
theorem dX9_tell_26 : decode cX9_tell 26 = .ok (.getfield 7, 3) := by decide +kernel
theorem dX9_tell_29 : decode cX9_tell 29 = .ok (.iconst 5, 1) := by decide +kernel
theorem dX9_tell_30 : decode cX9_tell 30 = .ok (.iaload, 1) := by decide +kernel
theorem dX9_tell_31 : decode cX9_tell 31 = .ok (.iadd, 1) := by decide +kernel
theorem dX9_tell_32 : decode cX9_tell 32 = .ok (.iload_n 1, 1) := by decide +kernel
theorem dX9_tell_33 : decode cX9_tell 33 = .ok (.iastore, 1) := by decide +kernel
theorem dX9_tell_34 : decode cX9_tell 34 = .ok (.aload_n 0, 1) := by decide +kernel
theorem dX9_tell_35 : decode cX9_tell 35 = .ok (.getfield 7, 3) := by decide +kernel
theorem dX9_tell_38 : decode cX9_tell 38 = .ok (.iconst 5, 1) := by decide +kernel
theorem dX9_tell_39 : decode cX9_tell 39 = .ok (.dup2, 1) := by decide +kernel
theorem dX9_tell_40 : decode cX9_tell 40 = .ok (.iaload, 1) := by decide +kernel
theorem dX9_tell_41 : decode cX9_tell 41 = .ok (.iconst 1, 1) := by decide +kernel
theorem dX9_tell_42 : decode cX9_tell 42 = .ok (.iadd, 1) := by decide +kernel
theorem dX9_tell_43 : decode cX9_tell 43 = .ok (.iastore, 1) := by decide +kernel
theorem dX9_tell_44 : decode cX9_tell 44 = .ok (.aload_n 0, 1) := by decide +kernel
theorem dX9_tell_45 : decode cX9_tell 45 = .ok (.getfield 7, 3) := by decide +kernel
theorem dX9_tell_48 : decode cX9_tell 48 = .ok (.iconst 5, 1) := by decide +kernel
theorem dX9_tell_49 : decode cX9_tell 49 = .ok (.iaload, 1) := by decide +kernel
theorem dX9_tell_50 : decode cX9_tell 50 = .ok (.ireturn, 1) := by decide +kernel
theorem dX9_check_0 : decode cX9_check 0 = .ok (.aload_n 0, 1) := by decide +kernel
theorem dX9_check_1 : decode cX9_check 1 = .ok (.getfield 7, 3) := by decide +kernel
theorem dX9_check_4 : decode cX9_check 4 = .ok (.iconst 5, 1) := by decide +kernel
theorem dX9_check_5 : decode cX9_check 5 = .ok (.iaload, 1) := by decide +kernel
theorem dX9_check_6 : decode cX9_check 6 = .ok (.istore_n 1, 1) := by decide +kernel
theorem dX9_check_7 : decode cX9_check 7 = .ok (.aload_n 0, 1) := by decide +kernel
theorem dX9_check_8 : decode cX9_check 8 = .ok (.getfield 7, 3) := by decide +kernel
theorem dX9_check_11 : decode cX9_check 11 = .ok (.iconst 5, 1) := by decide +kernel
theorem dX9_check_12 : decode cX9_check 12 = .ok (.iconst 0, 1) := by decide +kernel
theorem dX9_check_13 : decode cX9_check 13 = .ok (.iastore, 1) := by decide +kernel
theorem dX9_check_14 : decode cX9_check 14 = .ok (.aload_n 0, 1) := by decide +kernel
theorem dX9_check_15 : decode cX9_check 15 = .ok (.aload_n 0, 1) := by decide +kernel
theorem dX9_check_16 : decode cX9_check 16 = .ok (.getfield 7, 3) := by decide +kernel
theorem dX9_check_19 : decode cX9_check 19 = .ok (.aload_n 0, 1) := by decide +kernel
theorem dX9_check_20 : decode cX9_check 20 = .ok (.getfield 16, 3) := by decide +kernel
theorem dX9_check_23 : decode cX9_check 23 = .ok (.invokevirtual 163, 3) := by decide +kernel
theorem dX9_check_26 : decode cX9_check 26 = .ok (.iconst 0, 1) := by decide +kernel
theorem dX9_check_27 : decode cX9_check 27 = .ok (.istore_n 2, 1) := by decide +kernel
theorem dX9_check_28 : decode cX9_check 28 = .ok (.iconst 1, 1) := by decide +kernel
theorem dX9_check_29 : decode cX9_check 29 = .ok (.istore_n 3, 1) := by decide +kernel
theorem dX9_check_30 : decode cX9_check 30 = .ok (.iload_n 2, 1) := by decide +kernel
theorem dX9_check_31 : decode cX9_check 31 = .ok (.iload_n 1, 1) := by decide +kernel
theorem dX9_check_32 : decode cX9_check 32 = .ok (.if_icmp .ge 53, 3) := by decide +kernel
theorem dX9_check_35 : decode cX9_check 35 = .ok (.iload_n 3, 1) := by decide +kernel
theorem dX9_check_36 : decode cX9_check 36 = .ok (.ifCond .eq 49, 3) := by decide +kernel
theorem dX9_check_39 : decode cX9_check 39 = .ok (.aload_n 0, 1) := by decide +kernel
theorem dX9_check_40 : decode cX9_check 40 = .ok (.invokevirtual 182, 3) := by decide +kernel
theorem dX9_check_43 : decode cX9_check 43 = .ok (.aload_n 0, 1) := by decide +kernel
theorem dX9_check_44 : decode cX9_check 44 = .ok (.iconst 2, 1) := by decide +kernel
theorem dX9_check_45 : decode cX9_check 45 = .ok (.invokevirtual 189, 3) := by decide +kernel
theorem dX9_check_48 : decode cX9_check 48 = .ok (.invokestatic 192, 3) := by decide +kernel
theorem dX9_check_51 : decode cX9_check 51 = .ok (.aload_n 0, 1) := by decide +kernel
theorem dX9_check_52 : decode cX9_check 52 = .ok (.getfield 7, 3) := by decide +kernel
theorem dX9_check_55 : decode cX9_check 55 = .ok (.sipush 135, 3) := by decide +kernel
theorem dX9_check_58 : decode cX9_check 58 = .ok (.iload_n 2, 1) := by decide +kernel
theorem dX9_check_59 : decode cX9_check 59 = .ok (.iadd, 1) := by decide +kernel
theorem dX9_check_60 : decode cX9_check 60 = .ok (.iaload, 1) := by decide +kernel
theorem dX9_check_61 : decode cX9_check 61 = .ok (.if_icmp .ne 7, 3) := by decide +kernel
theorem dX9_check_64 : decode cX9_check 64 = .ok (.iconst 1, 1) := by decide +kernel
theorem dX9_check_65 : decode cX9_check 65 = .ok (.goto 4, 3) := by decide +kernel
theorem dX9_check_68 : decode cX9_check 68 = .ok (.iconst 0, 1) := by decide +kernel
theorem dX9_check_69 : decode cX9_check 69 = .ok (.istore_n 3, 1) := by decide +kernel
theorem dX9_check_70 : decode cX9_check 70 = .ok (.iload_n 2, 1) := by decide +kernel
theorem dX9_check_71 : decode cX9_check 71 = .ok (.iload_n 3, 1) := by decide +kernel
theorem dX9_check_72 : decode cX9_check 72 = .ok (.ifCond .eq 7, 3) := by decide +kernel
theorem dX9_check_75 : decode cX9_check 75 = .ok (.iconst 1, 1) := by decide +kernel
theorem dX9_check_76 : decode cX9_check 76 = .ok (.goto 4, 3) := by decide +kernel
theorem dX9_check_79 : decode cX9_check 79 = .ok (.iconst 0, 1) := by decide +kernel
theorem dX9_check_80 : decode cX9_check 80 = .ok (.iadd, 1) := by decide +kernel
theorem dX9_check_81 : decode cX9_check 81 = .ok (.istore_n 2, 1) := by decide +kernel
theorem dX9_check_82 : decode cX9_check 82 = .ok (.goto (-52), 3) := by decide +kernel
theorem dX9_check_85 : decode cX9_check 85 = .ok (.aload_n 0, 1) := by decide +kernel
theorem dX9_check_86 : decode cX9_check 86 = .ok (.aload_n 0, 1) := by decide +kernel
theorem dX9_check_87 : decode cX9_check 87 = .ok (.getfield 16, 3) := by decide +kernel
theorem dX9_check_90 : decode cX9_check 90 = .ok (.aload_n 0, 1) := by decide +kernel
theorem dX9_check_91 : decode cX9_check 91 = .ok (.getfield 7, 3) := by decide +kernel
theorem dX9_check_94 : decode cX9_check 94 = .ok (.invokevirtual 163, 3) := by decide +kernel
theorem dX9_check_97 : decode cX9_check 97 = .ok (.iload_n 3, 1) := by decide +kernel
theorem dX9_check_98 : decode cX9_check 98 = .ok (.ifCond .eq 7, 3) := by decide +kernel
theorem dX9_check_101 : decode cX9_check 101 = .ok (.iconst 0, 1) := by decide +kernel
theorem dX9_check_102 : decode cX9_check 102 = .ok (.goto 6, 3) := by decide +kernel
theorem dX9_check_105 : decode cX9_check 105 = .ok (.iconst 1, 1) := by decide +kernel
theorem dX9_check_106 : decode cX9_check 106 = .ok (.iload_n 2, 1) := by decide +kernel
theorem dX9_check_107 : decode cX9_check 107 = .ok (.iadd, 1) := by decide +kernel
theorem dX9_check_108 : decode cX9_check 108 = .ok (.ireturn, 1) := by decide +kernel
theorem dX9_count_0 : decode cX9_count 0 = .ok (.iload_n 1, 1) := by decide +kernel
theorem dX9_count_1 : decode cX9_count 1 = .ok (.tableswitch 170 0 13 #[71, 78, 85, 93, 100, 108, 116, 124, 132, 138, 144, 151, 158, 163], 71) := by decide +kernel
theorem dX9_count_72 : decode cX9_count 72 = .ok (.aload_n 0, 1) := by decide +kernel
theorem dX9_count_73 : decode cX9_count 73 = .ok (.getfield 7, 3) := by decide +kernel
theorem dX9_count_76 : decode cX9_count 76 = .ok (.iconst 3, 1) := by decide +kernel
theorem dX9_count_77 : decode cX9_count 77 = .ok (.iaload, 1) := by decide +kernel
theorem dX9_count_78 : decode cX9_count 78 = .ok (.ireturn, 1) := by decide +kernel
theorem dX9_count_79 : decode cX9_count 79 = .ok (.aload_n 0, 1) := by decide +kernel
theorem dX9_count_80 : decode cX9_count 80 = .ok (.getfield 7, 3) := by decide +kernel
theorem dX9_count_83 : decode cX9_count 83 = .ok (.iconst 1, 1) := by decide +kernel
theorem dX9_count_84 : decode cX9_count 84 = .ok (.iaload, 1) := by decide +kernel
theorem dX9_count_85 : decode cX9_count 85 = .ok (.ireturn, 1) := by decide +kernel
theorem dX9_count_86 : decode cX9_count 86 = .ok (.aload_n 0, 1) := by decide +kernel
theorem dX9_count_87 : decode cX9_count 87 = .ok (.getfield 7, 3) := by decide +kernel
theorem dX9_count_90 : decode cX9_count 90 = .ok (.bipush 10, 2) := by decide +kernel
theorem dX9_count_92 : decode cX9_count 92 = .ok (.iaload, 1) := by decide +kernel
theorem dX9_count_93 : decode cX9_count 93 = .ok (.ireturn, 1) := by decide +kernel
theorem dX9_count_94 : decode cX9_count 94 = .ok (.aload_n 0, 1) := by decide +kernel
theorem dX9_count_95 : decode cX9_count 95 = .ok (.getfield 7, 3) := by decide +kernel
theorem dX9_count_98 : decode cX9_count 98 = .ok (.iconst 0, 1) := by decide +kernel
theorem dX9_count_99 : decode cX9_count 99 = .ok (.iaload, 1) := by decide +kernel
theorem dX9_count_100 : decode cX9_count 100 = .ok (.ireturn, 1) := by decide +kernel
theorem dX9_count_101 : decode cX9_count 101 = .ok (.aload_n 0, 1) := by decide +kernel
theorem dX9_count_102 : decode cX9_count 102 = .ok (.getfield 7, 3) := by decide +kernel
theorem dX9_count_105 : decode cX9_count 105 = .ok (.bipush 8, 2) := by decide +kernel
theorem dX9_count_107 : decode cX9_count 107 = .ok (.iaload, 1) := by decide +kernel
theorem dX9_count_108 : decode cX9_count 108 = .ok (.ireturn, 1) := by decide +kernel
theorem dX9_count_109 : decode cX9_count 109 = .ok (.aload_n 0, 1) := by decide +kernel
theorem dX9_count_110 : decode cX9_count 110 = .ok (.getfield 7, 3) := by decide +kernel
theorem dX9_count_113 : decode cX9_count 113 = .ok (.bipush 11, 2) := by decide +kernel
theorem dX9_count_115 : decode cX9_count 115 = .ok (.iaload, 1) := by decide +kernel
theorem dX9_count_116 : decode cX9_count 116 = .ok (.ireturn, 1) := by decide +kernel
theorem dX9_count_117 : decode cX9_count 117 = .ok (.aload_n 0, 1) := by decide +kernel
theorem dX9_count_118 : decode cX9_count 118 = .ok (.getfield 7, 3) := by decide +kernel
theorem dX9_count_121 : decode cX9_count 121 = .ok (.bipush 9, 2) := by decide +kernel
theorem dX9_count_123 : decode cX9_count 123 = .ok (.iaload, 1) := by decide +kernel
theorem dX9_count_124 : decode cX9_count 124 = .ok (.ireturn, 1) := by decide +kernel
theorem dX9_count_125 : decode cX9_count 125 = .ok (.aload_n 0, 1) := by decide +kernel
theorem dX9_count_126 : decode cX9_count 126 = .ok (.getfield 7, 3) := by decide +kernel
theorem dX9_count_129 : decode cX9_count 129 = .ok (.bipush 12, 2) := by decide +kernel
theorem dX9_count_131 : decode cX9_count 131 = .ok (.iaload, 1) := by decide +kernel
theorem dX9_count_132 : decode cX9_count 132 = .ok (.ireturn, 1) := by decide +kernel
theorem dX9_count_133 : decode cX9_count 133 = .ok (.aload_n 0, 1) := by decide +kernel
theorem dX9_count_134 : decode cX9_count 134 = .ok (.iconst 2, 1) := by decide +kernel
theorem dX9_count_135 : decode cX9_count 135 = .ok (.invokevirtual 189, 3) := by decide +kernel
theorem dX9_count_138 : decode cX9_count 138 = .ok (.ireturn, 1) := by decide +kernel
theorem dX9_count_139 : decode cX9_count 139 = .ok (.aload_n 0, 1) := by decide +kernel
theorem dX9_count_140 : decode cX9_count 140 = .ok (.iconst 3, 1) := by decide +kernel
theorem dX9_count_141 : decode cX9_count 141 = .ok (.invokevirtual 189, 3) := by decide +kernel
theorem dX9_count_144 : decode cX9_count 144 = .ok (.ireturn, 1) := by decide +kernel
theorem dX9_count_145 : decode cX9_count 145 = .ok (.aload_n 0, 1) := by decide +kernel
theorem dX9_count_146 : decode cX9_count 146 = .ok (.getfield 7, 3) := by decide +kernel
theorem dX9_count_149 : decode cX9_count 149 = .ok (.iconst 4, 1) := by decide +kernel
theorem dX9_count_150 : decode cX9_count 150 = .ok (.iaload, 1) := by decide +kernel
theorem dX9_count_151 : decode cX9_count 151 = .ok (.ireturn, 1) := by decide +kernel
theorem dX9_count_152 : decode cX9_count 152 = .ok (.aload_n 0, 1) := by decide +kernel
theorem dX9_count_153 : decode cX9_count 153 = .ok (.getfield 7, 3) := by decide +kernel
theorem dX9_count_156 : decode cX9_count 156 = .ok (.iconst 5, 1) := by decide +kernel
theorem dX9_count_157 : decode cX9_count 157 = .ok (.iaload, 1) := by decide +kernel
theorem dX9_count_158 : decode cX9_count 158 = .ok (.ireturn, 1) := by decide +kernel
theorem dX9_count_159 : decode cX9_count 159 = .ok (.aload_n 0, 1) := by decide +kernel
theorem dX9_count_160 : decode cX9_count 160 = .ok (.getfield 212, 3) := by decide +kernel
theorem dX9_count_163 : decode cX9_count 163 = .ok (.ireturn, 1) := by decide +kernel
theorem dX9_count_164 : decode cX9_count 164 = .ok (.aload_n 0, 1) := by decide +kernel
theorem dX9_count_165 : decode cX9_count 165 = .ok (.getfield 7, 3) := by decide +kernel
theorem dX9_count_168 : decode cX9_count 168 = .ok (.iconst 2, 1) := by decide +kernel
theorem dX9_count_169 : decode cX9_count 169 = .ok (.iaload, 1) := by decide +kernel
theorem dX9_count_170 : decode cX9_count 170 = .ok (.ireturn, 1) := by decide +kernel
theorem dX9_count_171 : decode cX9_count 171 = .ok (.aload_n 0, 1) := by decide +kernel
theorem dX9_count_172 : decode cX9_count 172 = .ok (.ldc 45, 2) := by decide +kernel
theorem dX9_count_174 : decode cX9_count 174 = .ok (.invokevirtual 46, 3) := by decide +kernel
theorem dX9_count_177 : decode cX9_count 177 = .ok (.ireturn, 1) := by decide +kernel
theorem dX9_told_0 : decode cX9_told 0 = .ok (.iload_n 1, 1) := by decide +kernel
theorem dX9_told_1 : decode cX9_told 1 = .ok (.iconst 1, 1) := by decide +kernel
theorem dX9_told_2 : decode cX9_told 2 = .ok (.iconst 5, 1) := by decide +kernel
theorem dX9_told_3 : decode cX9_told 3 = .ok (.invokestatic 41, 3) := by decide +kernel
theorem dX9_told_6 : decode cX9_told 6 = .ok (.ifCond .eq 12, 3) := by decide +kernel
theorem dX9_told_9 : decode cX9_told 9 = .ok (.aload_n 0, 1) := by decide +kernel
theorem dX9_told_10 : decode cX9_told 10 = .ok (.getfield 22, 3) := by decide +kernel
theorem dX9_told_13 : decode cX9_told 13 = .ok (.iload_n 1, 1) := by decide +kernel
theorem dX9_told_14 : decode cX9_told 14 = .ok (.iaload, 1) := by decide +kernel
theorem dX9_told_15 : decode cX9_told 15 = .ok (.goto 9, 3) := by decide +kernel
theorem dX9_told_18 : decode cX9_told 18 = .ok (.aload_n 0, 1) := by decide +kernel
theorem dX9_told_19 : decode cX9_told 19 = .ok (.ldc 45, 2) := by decide +kernel
theorem dX9_told_21 : decode cX9_told 21 = .ok (.invokevirtual 46, 3) := by decide +kernel
theorem dX9_told_24 : decode cX9_told 24 = .ok (.ireturn, 1) := by decide +kernel
